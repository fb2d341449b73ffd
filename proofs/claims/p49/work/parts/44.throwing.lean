theorem tp_o0 : ∀ x ∈ tp_tw RX8 297 301 0, vx_ot x = true := by decide +kernel
theorem tp_n0 : ∀ x ∈ (vx_atS RX8 301 (tp_exn 0) tp_sup).filter (fun x => !goodWord x), x ∈ Cond.castable (tp_exn 0) (tp_exn 0) :: tp_decl := by decide +kernel
theorem tp_f0 : Bundle.fit (tp_exn 0) = true := by decide +kernel
theorem tp_o1 : ∀ x ∈ tp_tw RX8 52 56 1, vx_ot x = true := by decide +kernel
theorem tp_n1 : ∀ x ∈ (vx_atS RX8 56 (tp_exn 1) tp_sup).filter (fun x => !goodWord x), x ∈ Cond.castable (tp_exn 1) (tp_exn 1) :: tp_decl := by decide +kernel
theorem tp_f1 : Bundle.fit (tp_exn 1) = true := by decide +kernel
theorem tp_o2 : ∀ x ∈ tp_tw RX8 37 41 2, vx_ot x = true := by decide +kernel
theorem tp_n2 : ∀ x ∈ (vx_atS RX8 41 (tp_exn 2) tp_sup).filter (fun x => !goodWord x), x ∈ Cond.castable (tp_exn 2) (tp_exn 2) :: tp_decl := by decide +kernel
theorem tp_f2 : Bundle.fit (tp_exn 2) = true := by decide +kernel
def wpx_X8_checkNode (τ : TS) (i0 : Nat) (x1 : Int32) (K : TS → Prop) (X : TS → Nat → Prop) : Prop :=
  ((x1 < 0) → (X τ 0)) ∧ ((¬ x1 < 0) → (((x1 < (τ 1 0)) → (K τ)) ∧ ((¬ x1 < (τ 1 0)) → (X τ 0))))
theorem mw_X8_checkNode_0 : Cond.classLink RX8 297 "java/lang/IndexOutOfBoundsException" ∈ wsX8_checkNode := List.mem_of_getElem? (i := 1) rfl
theorem mw_X8_checkNode_1 : Cond.initialized "java/lang/IndexOutOfBoundsException" ∈ wsX8_checkNode := List.mem_of_getElem? (i := 2) rfl
theorem ix_X8_checkNode_0 : ∀ x ∈ (vx_atS RX8 301 (tp_exn 0) tp_sup).filter goodWord, x ∈ wsX8_checkNode := fun _ h => List.mem_cons_of_mem _ (List.mem_append_right _ h)
set_option maxHeartbeats 4000000 in
set_option maxRecDepth 100000 in
theorem cx_X8_checkNode (w : WPar) (τ : TS) (i0 : Nat) (x1 : Int32) (K : TS → Prop) (X : TS → Nat → Prop) (hl : w.2.1.stackTraces = false) (h0 : tp_is w i0 7) (hw : wpx_X8_checkNode τ i0 x1 K X) : XV w yX8_checkNode wsX8_checkNode 6 82 1 6 [.ref (w.1 i0), .int x1] τ K X := by
  refine tp_enterXV (cc := cX8_checkNode) (maxL := 2) hl (by decide) rfl rfl (Nat.le_of_ble_eq_true rfl) (fun g C D hR hRX hT => ?_)
  show Zt w g τ (0, 0) 0 [(0, .ref (w.1 i0)), (1, .int x1)] []
  unfold wpx_X8_checkNode at hw
  refine z_iload_n C 1 (by rfl) dX8_checkNode_0 ?_
  refine z_if_lt (tgt := 15) C dX8_checkNode_1 (by decide) (fun c21 => ?_) (fun c21 => ?_)
  · have hw := hw.1 c21
    exact hT _ _ _ _ _ 297 299 301 0 "no such node" mw_X8_checkNode_0 mw_X8_checkNode_1 ix_X8_checkNode_0 (by simp [tp_strs]) tp_o0 tp_n0 tp_f0 ⟨dX8_checkNode_15, dX8_checkNode_18⟩ (Or.inl ⟨dX8_checkNode_19, dX8_checkNode_22, dX8_checkNode_25⟩) (Nat.le_of_ble_eq_true rfl) (Nat.le_of_ble_eq_true rfl) (Nat.le_of_ble_eq_true rfl) (Nat.le_of_ble_eq_true rfl) hw
  · have hw := hw.2 c21
    refine z_iload_n C 1 (by rfl) dX8_checkNode_4 ?_
    refine z_aload_n C 0 (by rfl) dX8_checkNode_5 ?_
    refine z_get C (Cn := RX8) (T := TX8) (N := 4) (ci := 7) h0.2 0 (tE7 h0.1) in_X8_checkNode_X8 rfl (by decide) mw_X8_checkNode_2 rfl rfl dX8_checkNode_6 ?_
    refine z_get C (Cn := RX3) (T := TX3) (N := 9) (ci := 3) (tR7_0 h0).2 0 (tE3 (tR7_0 h0).1) in_X8_checkNode_X3 rfl (by decide) mw_X8_checkNode_3 rfl rfl dX8_checkNode_9 ?_
    refine z_icmp_lt (tgt := 26) C dX8_checkNode_12 (by decide) (fun c22 => ?_) (fun c22 => ?_)
    · have hw := hw.1 c22
      refine z_widen (1, 6) (Nat.le_of_ble_eq_true rfl) (Nat.le_of_ble_eq_true rfl) ?_
      exact hR _ _ _ dX8_checkNode_26 hw
    · have hw := hw.2 c22
      exact hT _ _ _ _ _ 297 299 301 0 "no such node" mw_X8_checkNode_0 mw_X8_checkNode_1 ix_X8_checkNode_0 (by simp [tp_strs]) tp_o0 tp_n0 tp_f0 ⟨dX8_checkNode_15, dX8_checkNode_18⟩ (Or.inl ⟨dX8_checkNode_19, dX8_checkNode_22, dX8_checkNode_25⟩) (Nat.le_of_ble_eq_true rfl) (Nat.le_of_ble_eq_true rfl) (Nat.le_of_ble_eq_true rfl) (Nat.le_of_ble_eq_true rfl) hw
def wpx_X8_checkLink (τ : TS) (i0 : Nat) (x1 : Int32) (K : TS → Prop) (X : TS → Nat → Prop) : Prop :=
  ((x1 < 0) → (X τ 0)) ∧ ((¬ x1 < 0) → (((x1 < (τ 1 1)) → (K τ)) ∧ ((¬ x1 < (τ 1 1)) → (X τ 0))))
theorem mw_X8_checkLink_0 : Cond.classLink RX8 297 "java/lang/IndexOutOfBoundsException" ∈ wsX8_checkLink := List.mem_of_getElem? (i := 1) rfl
theorem mw_X8_checkLink_1 : Cond.initialized "java/lang/IndexOutOfBoundsException" ∈ wsX8_checkLink := List.mem_of_getElem? (i := 2) rfl
theorem ix_X8_checkLink_0 : ∀ x ∈ (vx_atS RX8 301 (tp_exn 0) tp_sup).filter goodWord, x ∈ wsX8_checkLink := fun _ h => List.mem_cons_of_mem _ (List.mem_append_right _ h)
set_option maxHeartbeats 4000000 in
set_option maxRecDepth 100000 in
theorem cx_X8_checkLink (w : WPar) (τ : TS) (i0 : Nat) (x1 : Int32) (K : TS → Prop) (X : TS → Nat → Prop) (hl : w.2.1.stackTraces = false) (h0 : tp_is w i0 7) (hw : wpx_X8_checkLink τ i0 x1 K X) : XV w yX8_checkLink wsX8_checkLink 6 82 1 6 [.ref (w.1 i0), .int x1] τ K X := by
  refine tp_enterXV (cc := cX8_checkLink) (maxL := 2) hl (by decide) rfl rfl (Nat.le_of_ble_eq_true rfl) (fun g C D hR hRX hT => ?_)
  show Zt w g τ (0, 0) 0 [(0, .ref (w.1 i0)), (1, .int x1)] []
  unfold wpx_X8_checkLink at hw
  refine z_iload_n C 1 (by rfl) dX8_checkLink_0 ?_
  refine z_if_lt (tgt := 15) C dX8_checkLink_1 (by decide) (fun c21 => ?_) (fun c21 => ?_)
  · have hw := hw.1 c21
    exact hT _ _ _ _ _ 297 302 301 0 "no such link" mw_X8_checkLink_0 mw_X8_checkLink_1 ix_X8_checkLink_0 (by simp [tp_strs]) tp_o0 tp_n0 tp_f0 ⟨dX8_checkLink_15, dX8_checkLink_18⟩ (Or.inl ⟨dX8_checkLink_19, dX8_checkLink_22, dX8_checkLink_25⟩) (Nat.le_of_ble_eq_true rfl) (Nat.le_of_ble_eq_true rfl) (Nat.le_of_ble_eq_true rfl) (Nat.le_of_ble_eq_true rfl) hw
  · have hw := hw.2 c21
    refine z_iload_n C 1 (by rfl) dX8_checkLink_4 ?_
    refine z_aload_n C 0 (by rfl) dX8_checkLink_5 ?_
    refine z_get C (Cn := RX8) (T := TX8) (N := 4) (ci := 7) h0.2 0 (tE7 h0.1) in_X8_checkLink_X8 rfl (by decide) mw_X8_checkLink_2 rfl rfl dX8_checkLink_6 ?_
    refine z_get C (Cn := RX3) (T := TX3) (N := 9) (ci := 3) (tR7_0 h0).2 1 (tE3 (tR7_0 h0).1) in_X8_checkLink_X3 rfl (by decide) mw_X8_checkLink_3 rfl rfl dX8_checkLink_9 ?_
    refine z_icmp_lt (tgt := 26) C dX8_checkLink_12 (by decide) (fun c22 => ?_) (fun c22 => ?_)
    · have hw := hw.1 c22
      refine z_widen (1, 6) (Nat.le_of_ble_eq_true rfl) (Nat.le_of_ble_eq_true rfl) ?_
      exact hR _ _ _ dX8_checkLink_26 hw
    · have hw := hw.2 c22
      exact hT _ _ _ _ _ 297 302 301 0 "no such link" mw_X8_checkLink_0 mw_X8_checkLink_1 ix_X8_checkLink_0 (by simp [tp_strs]) tp_o0 tp_n0 tp_f0 ⟨dX8_checkLink_15, dX8_checkLink_18⟩ (Or.inl ⟨dX8_checkLink_19, dX8_checkLink_22, dX8_checkLink_25⟩) (Nat.le_of_ble_eq_true rfl) (Nat.le_of_ble_eq_true rfl) (Nat.le_of_ble_eq_true rfl) (Nat.le_of_ble_eq_true rfl) hw
def wpx_X8_checkRange (τ : TS) (x0 : Int32) (x1 : Int32) (x2 : Int32) (K : TS → Prop) (X : TS → Nat → Prop) : Prop :=
  ((x0 < x1) → (X τ 1)) ∧ ((¬ x0 < x1) → (((x0 ≤ x2) → (K τ)) ∧ ((¬ x0 ≤ x2) → (X τ 1))))
theorem mw_X8_checkRange_0 : Cond.classLink RX8 52 "java/lang/IllegalArgumentException" ∈ wsX8_checkRange := List.mem_of_getElem? (i := 1) rfl
theorem mw_X8_checkRange_1 : Cond.initialized "java/lang/IllegalArgumentException" ∈ wsX8_checkRange := List.mem_of_getElem? (i := 2) rfl
theorem ix_X8_checkRange_1 : ∀ x ∈ (vx_atS RX8 56 (tp_exn 1) tp_sup).filter goodWord, x ∈ wsX8_checkRange := fun _ h => List.mem_cons_of_mem _ (List.mem_append_right _ h)
set_option maxHeartbeats 4000000 in
set_option maxRecDepth 100000 in
theorem cx_X8_checkRange (w : WPar) (τ : TS) (x0 : Int32) (x1 : Int32) (x2 : Int32) (K : TS → Prop) (X : TS → Nat → Prop) (hl : w.2.1.stackTraces = false)  (hw : wpx_X8_checkRange τ x0 x1 x2 K X) : XV w yX8_checkRange wsX8_checkRange 6 82 1 6 [.int x0, .int x1, .int x2] τ K X := by
  refine tp_enterXV (cc := cX8_checkRange) (maxL := 3) hl (by decide) rfl rfl (Nat.le_of_ble_eq_true rfl) (fun g C D hR hRX hT => ?_)
  show Zt w g τ (0, 0) 0 [(0, .int x0), (1, .int x1), (2, .int x2)] []
  unfold wpx_X8_checkRange at hw
  refine z_iload_n C 0 (by rfl) dX8_checkRange_0 ?_
  refine z_iload_n C 1 (by rfl) dX8_checkRange_1 ?_
  refine z_icmp_lt (tgt := 10) C dX8_checkRange_2 (by decide) (fun c21 => ?_) (fun c21 => ?_)
  · have hw := hw.1 c21
    exact hT _ _ _ _ _ 52 304 56 1 "a number out of its range" mw_X8_checkRange_0 mw_X8_checkRange_1 ix_X8_checkRange_1 (by simp [tp_strs]) tp_o1 tp_n1 tp_f1 ⟨dX8_checkRange_10, dX8_checkRange_13⟩ (Or.inl ⟨dX8_checkRange_14, dX8_checkRange_17, dX8_checkRange_20⟩) (Nat.le_of_ble_eq_true rfl) (Nat.le_of_ble_eq_true rfl) (Nat.le_of_ble_eq_true rfl) (Nat.le_of_ble_eq_true rfl) hw
  · have hw := hw.2 c21
    refine z_iload_n C 0 (by rfl) dX8_checkRange_5 ?_
    refine z_iload_n C 2 (by rfl) dX8_checkRange_6 ?_
    refine z_icmp_le (tgt := 21) C dX8_checkRange_7 (by decide) (fun c22 => ?_) (fun c22 => ?_)
    · have hw := hw.1 c22
      refine z_widen (1, 6) (Nat.le_of_ble_eq_true rfl) (Nat.le_of_ble_eq_true rfl) ?_
      exact hR _ _ _ dX8_checkRange_21 hw
    · have hw := hw.2 c22
      exact hT _ _ _ _ _ 52 304 56 1 "a number out of its range" mw_X8_checkRange_0 mw_X8_checkRange_1 ix_X8_checkRange_1 (by simp [tp_strs]) tp_o1 tp_n1 tp_f1 ⟨dX8_checkRange_10, dX8_checkRange_13⟩ (Or.inl ⟨dX8_checkRange_14, dX8_checkRange_17, dX8_checkRange_20⟩) (Nat.le_of_ble_eq_true rfl) (Nat.le_of_ble_eq_true rfl) (Nat.le_of_ble_eq_true rfl) (Nat.le_of_ble_eq_true rfl) hw
def wpx_X8_checkTakesThings (τ : TS) (j0 : Nat) (K : TS → Prop) (X : TS → Nat → Prop) : Prop :=
  (((τ j0 0) = 2) → (X τ 2)) ∧ ((¬ (τ j0 0) = 2) → ((((τ j0 0) = 3) → (X τ 2)) ∧ ((¬ (τ j0 0) = 3) → ((((τ j0 2) = 0) → (K τ)) ∧ ((¬ (τ j0 2) = 0) → (X τ 2))))))
theorem mw_X8_checkTakesThings_0 : Cond.classLink RX8 37 "java/lang/IllegalStateException" ∈ wsX8_checkTakesThings := List.mem_of_getElem? (i := 1) rfl
theorem mw_X8_checkTakesThings_1 : Cond.initialized "java/lang/IllegalStateException" ∈ wsX8_checkTakesThings := List.mem_of_getElem? (i := 2) rfl
theorem ix_X8_checkTakesThings_2 : ∀ x ∈ (vx_atS RX8 41 (tp_exn 2) tp_sup).filter goodWord, x ∈ wsX8_checkTakesThings := fun _ h => List.mem_cons_of_mem _ (List.mem_append_right _ h)
set_option maxHeartbeats 4000000 in
set_option maxRecDepth 100000 in
theorem cx_X8_checkTakesThings (w : WPar) (τ : TS) (j0 : Nat) (K : TS → Prop) (X : TS → Nat → Prop) (hl : w.2.1.stackTraces = false) (h0 : tp_is w j0 1) (hw : wpx_X8_checkTakesThings τ j0 K X) : XV w yX8_checkTakesThings wsX8_checkTakesThings 6 82 1 6 [.ref (w.1 j0)] τ K X := by
  refine tp_enterXV (cc := cX8_checkTakesThings) (maxL := 1) hl (by decide) rfl rfl (Nat.le_of_ble_eq_true rfl) (fun g C D hR hRX hT => ?_)
  show Zt w g τ (0, 0) 0 [(0, .ref (w.1 j0))] []
  unfold wpx_X8_checkTakesThings at hw
  refine z_aload_n C 0 (by rfl) dX8_checkTakesThings_0 ?_
  refine z_get C (Cn := RX1) (T := TX1) (N := 14) (ci := 1) h0.2 0 (tE1 h0.1) in_X8_checkTakesThings_X1 rfl (by decide) mw_X8_checkTakesThings_2 rfl rfl dX8_checkTakesThings_1 ?_
  refine z_iconst C 2 (by decide) dX8_checkTakesThings_4 ?_
  refine z_icmp_eq (tgt := 23) C dX8_checkTakesThings_5 (by decide) (fun c21 => ?_) (fun c21 => ?_)
  · have hw := hw.1 c21
    exact hT _ _ _ _ _ 37 306 41 2 "it is closed, broken, or was told to close" mw_X8_checkTakesThings_0 mw_X8_checkTakesThings_1 ix_X8_checkTakesThings_2 (by simp [tp_strs]) tp_o2 tp_n2 tp_f2 ⟨dX8_checkTakesThings_23, dX8_checkTakesThings_26⟩ (Or.inl ⟨dX8_checkTakesThings_27, dX8_checkTakesThings_30, dX8_checkTakesThings_33⟩) (Nat.le_of_ble_eq_true rfl) (Nat.le_of_ble_eq_true rfl) (Nat.le_of_ble_eq_true rfl) (Nat.le_of_ble_eq_true rfl) hw
  · have hw := hw.2 c21
    refine z_aload_n C 0 (by rfl) dX8_checkTakesThings_8 ?_
    refine z_get C (Cn := RX1) (T := TX1) (N := 14) (ci := 1) h0.2 0 (tE1 h0.1) in_X8_checkTakesThings_X1 rfl (by decide) mw_X8_checkTakesThings_2 rfl rfl dX8_checkTakesThings_9 ?_
    refine z_iconst C 3 (by decide) dX8_checkTakesThings_12 ?_
    refine z_icmp_eq (tgt := 23) C dX8_checkTakesThings_13 (by decide) (fun c22 => ?_) (fun c22 => ?_)
    · have hw := hw.1 c22
      exact hT _ _ _ _ _ 37 306 41 2 "it is closed, broken, or was told to close" mw_X8_checkTakesThings_0 mw_X8_checkTakesThings_1 ix_X8_checkTakesThings_2 (by simp [tp_strs]) tp_o2 tp_n2 tp_f2 ⟨dX8_checkTakesThings_23, dX8_checkTakesThings_26⟩ (Or.inl ⟨dX8_checkTakesThings_27, dX8_checkTakesThings_30, dX8_checkTakesThings_33⟩) (Nat.le_of_ble_eq_true rfl) (Nat.le_of_ble_eq_true rfl) (Nat.le_of_ble_eq_true rfl) (Nat.le_of_ble_eq_true rfl) hw
    · have hw := hw.2 c22
      refine z_aload_n C 0 (by rfl) dX8_checkTakesThings_16 ?_
      refine z_get C (Cn := RX1) (T := TX1) (N := 14) (ci := 1) h0.2 2 (tE1 h0.1) in_X8_checkTakesThings_X1 rfl (by decide) mw_X8_checkTakesThings_3 rfl rfl dX8_checkTakesThings_17 ?_
      refine z_if_eq (tgt := 34) C dX8_checkTakesThings_20 (by decide) (fun c23 => ?_) (fun c23 => ?_)
      · have hw := hw.1 c23
        refine z_widen (1, 6) (Nat.le_of_ble_eq_true rfl) (Nat.le_of_ble_eq_true rfl) ?_
        exact hR _ _ _ dX8_checkTakesThings_34 hw
      · have hw := hw.2 c23
        exact hT _ _ _ _ _ 37 306 41 2 "it is closed, broken, or was told to close" mw_X8_checkTakesThings_0 mw_X8_checkTakesThings_1 ix_X8_checkTakesThings_2 (by simp [tp_strs]) tp_o2 tp_n2 tp_f2 ⟨dX8_checkTakesThings_23, dX8_checkTakesThings_26⟩ (Or.inl ⟨dX8_checkTakesThings_27, dX8_checkTakesThings_30, dX8_checkTakesThings_33⟩) (Nat.le_of_ble_eq_true rfl) (Nat.le_of_ble_eq_true rfl) (Nat.le_of_ble_eq_true rfl) (Nat.le_of_ble_eq_true rfl) hw
def wpx_X8_connectionOf (τ : TS) (i0 : Nat) (x1 : Int32) (K : TS → Nat → Prop) (X : TS → Nat → Prop) : Prop :=
  ((x1 < 0) → (X τ 0)) ∧ ((¬ x1 < 0) → (((x1 < (τ 17 3)) → (vp_in x1 6 ∧ (K τ ((17 + 2) + 73 + 5 * (Int32.toNatClampNeg x1))))) ∧ ((¬ x1 < (τ 17 3)) → (X τ 0))))
theorem mw_X8_connectionOf_0 : Cond.classLink RX8 297 "java/lang/IndexOutOfBoundsException" ∈ wsX8_connectionOf := List.mem_of_getElem? (i := 1) rfl
theorem mw_X8_connectionOf_1 : Cond.initialized "java/lang/IndexOutOfBoundsException" ∈ wsX8_connectionOf := List.mem_of_getElem? (i := 2) rfl
theorem ix_X8_connectionOf_0 : ∀ x ∈ (vx_atS RX8 301 (tp_exn 0) tp_sup).filter goodWord, x ∈ wsX8_connectionOf := fun _ h => List.mem_cons_of_mem _ (List.mem_append_right _ h)
set_option maxHeartbeats 4000000 in
set_option maxRecDepth 100000 in
theorem cx_X8_connectionOf (w : WPar) (τ : TS) (i0 : Nat) (x1 : Int32) (K : TS → Nat → Prop) (X : TS → Nat → Prop) (hl : w.2.1.stackTraces = false) (h0 : tp_is w i0 7) (hw : wpx_X8_connectionOf τ i0 x1 K X) : XR w yX8_connectionOf wsX8_connectionOf 6 82 1 6 [.ref (w.1 i0), .int x1] τ K X 2 := by
  refine tp_enterXR (cc := cX8_connectionOf) (maxL := 2) hl (by decide) rfl rfl (Nat.le_of_ble_eq_true rfl) (fun g C D hR hRX hT => ?_)
  show Zt w g τ (0, 0) 0 [(0, .ref (w.1 i0)), (1, .int x1)] []
  unfold wpx_X8_connectionOf at hw
  refine z_iload_n C 1 (by rfl) dX8_connectionOf_0 ?_
  refine z_if_lt (tgt := 15) C dX8_connectionOf_1 (by decide) (fun c21 => ?_) (fun c21 => ?_)
  · have hw := hw.1 c21
    exact hT _ _ _ _ _ 297 310 301 0 "no such connection" mw_X8_connectionOf_0 mw_X8_connectionOf_1 ix_X8_connectionOf_0 (by simp [tp_strs]) tp_o0 tp_n0 tp_f0 ⟨dX8_connectionOf_15, dX8_connectionOf_18⟩ (Or.inl ⟨dX8_connectionOf_19, dX8_connectionOf_22, dX8_connectionOf_25⟩) (Nat.le_of_ble_eq_true rfl) (Nat.le_of_ble_eq_true rfl) (Nat.le_of_ble_eq_true rfl) (Nat.le_of_ble_eq_true rfl) hw
  · have hw := hw.2 c21
    refine z_iload_n C 1 (by rfl) dX8_connectionOf_4 ?_
    refine z_aload_n C 0 (by rfl) dX8_connectionOf_5 ?_
    refine z_get C (Cn := RX8) (T := TX8) (N := 4) (ci := 7) h0.2 1 (tE7 h0.1) in_X8_connectionOf_X8 rfl (by decide) mw_X8_connectionOf_2 rfl rfl dX8_connectionOf_6 ?_
    refine z_get C (Cn := RX6) (T := TX6) (N := 6) (ci := 5) (tR7_1 h0).2 3 (tE5 (tR7_1 h0).1) in_X8_connectionOf_X6 rfl (by decide) mw_X8_connectionOf_3 rfl rfl dX8_connectionOf_9 ?_
    refine z_icmp_lt (tgt := 26) C dX8_connectionOf_12 (by decide) (fun c22 => ?_) (fun c22 => ?_)
    · have hw := hw.1 c22
      refine z_aload_n C 0 (by rfl) dX8_connectionOf_26 ?_
      refine z_get C (Cn := RX8) (T := TX8) (N := 4) (ci := 7) h0.2 1 (tE7 h0.1) in_X8_connectionOf_X8 rfl (by decide) mw_X8_connectionOf_2 rfl rfl dX8_connectionOf_27 ?_
      refine z_get C (Cn := RX6) (T := TX6) (N := 6) (ci := 5) (tR7_1 h0).2 2 (tE5 (tR7_1 h0).1) in_X8_connectionOf_X6 rfl (by decide) mw_X8_connectionOf_4 rfl rfl dX8_connectionOf_30 ?_
      refine z_iload_n C 1 (by rfl) dX8_connectionOf_33 ?_
      obtain ⟨s23, hw⟩ := hw
      refine z_aald_q3 C (tR5_2 (tR7_1 h0)).2 (tE16 (tR5_2 (tR7_1 h0)).1) s23 (if_pos (tp_lt s23)) dX8_connectionOf_34 ?_
      refine z_widen (1, 6) (Nat.le_of_ble_eq_true rfl) (Nat.le_of_ble_eq_true rfl) ?_
      exact hR _ _ _ _ dX8_connectionOf_35 (tR16 (tR5_2 (tR7_1 h0)) (tp_lt s23)) hw
    · have hw := hw.2 c22
      exact hT _ _ _ _ _ 297 310 301 0 "no such connection" mw_X8_connectionOf_0 mw_X8_connectionOf_1 ix_X8_connectionOf_0 (by simp [tp_strs]) tp_o0 tp_n0 tp_f0 ⟨dX8_connectionOf_15, dX8_connectionOf_18⟩ (Or.inl ⟨dX8_connectionOf_19, dX8_connectionOf_22, dX8_connectionOf_25⟩) (Nat.le_of_ble_eq_true rfl) (Nat.le_of_ble_eq_true rfl) (Nat.le_of_ble_eq_true rfl) (Nat.le_of_ble_eq_true rfl) hw
def wpx_X8_callerOf (τ : TS) (i0 : Nat) (x1 : Int32) (K : TS → Nat → Prop) (X : TS → Nat → Prop) : Prop :=
  wpx_X8_connectionOf τ i0 x1 (fun τ21 j22 => K τ21 (j22 + 1)) X
set_option maxHeartbeats 4000000 in
set_option maxRecDepth 100000 in
theorem cx_X8_callerOf (w : WPar) (τ : TS) (i0 : Nat) (x1 : Int32) (K : TS → Nat → Prop) (X : TS → Nat → Prop) (hl : w.2.1.stackTraces = false) (h0 : tp_is w i0 7) (hw : wpx_X8_callerOf τ i0 x1 K X) : XR w yX8_callerOf wsX8_callerOf 7 103 1 6 [.ref (w.1 i0), .int x1] τ K X 1 := by
  refine tp_enterXR (cc := cX8_callerOf) (maxL := 2) hl (by decide) rfl rfl (Nat.le_of_ble_eq_true rfl) (fun g C D hR hRX hT => ?_)
  show Zt w g τ (0, 0) 0 [(0, .ref (w.1 i0)), (1, .int x1)] []
  unfold wpx_X8_callerOf at hw
  refine z_aload_n C 0 (by rfl) dX8_callerOf_0 ?_
  refine z_iload_n C 1 (by rfl) dX8_callerOf_1 ?_
  refine xv_r C D (As := [.int x1]) (bytes := cX8_connectionOf) (maxL := 2) (F1 := 6) (L1 := 82) (mc := 1) (ms := 6) (cx_X8_connectionOf w _ i0 x1 _ _ hl h0 hw) h0.2 (tE7 h0.1) rfl 1 gX8_callerOf_X8_connectionOf rfl (by decide +kernel) ⟨Nat.le_of_ble_eq_true rfl, Nat.le_of_ble_eq_true rfl⟩ rfl (Nat.le_of_ble_eq_true rfl) (k2 := (1, 6)) rfl ⟨Nat.le_of_ble_eq_true rfl, Nat.le_of_ble_eq_true rfl⟩ rfl dX8_callerOf_2 (fun _ _ hx => hRX _ _ _ _ _ (Nat.le_of_ble_eq_true rfl) (Nat.le_of_ble_eq_true rfl) hx) (fun τ21 j22 hw hj22 => ?_)
  refine z_get C (Cn := RX2) (T := TX2) (N := 4) (ci := 2) hj22.2 2 (tE2 hj22.1) in_X8_callerOf_X2 rfl (by decide) mw_X8_callerOf_0 rfl rfl dX8_callerOf_5 ?_
  exact hR _ _ _ _ dX8_callerOf_8 (tR2_2 hj22) hw
def wpx_X8_wayOf (τ : TS) (i0 : Nat) (x1 : Int32) (x2 : Int32) (K : TS → Nat → Prop) (X : TS → Nat → Prop) : Prop :=
  wpx_X8_checkLink τ i0 x1 (fun τ21 => ((x2 < 0) → (X τ21 0)) ∧ ((¬ x2 < 0) → (((x2 ≤ 1) → (vp_in ((2 * x1) + x2) 24 ∧ (K τ21 ((17 + 1) + 2 + 3 * (Int32.toNatClampNeg ((2 * x1) + x2)))))) ∧ ((¬ x2 ≤ 1) → (X τ21 0))))) X
theorem mw_X8_wayOf_0 : Cond.classLink RX8 297 "java/lang/IndexOutOfBoundsException" ∈ wsX8_wayOf := List.mem_of_getElem? (i := 1) rfl
theorem mw_X8_wayOf_1 : Cond.initialized "java/lang/IndexOutOfBoundsException" ∈ wsX8_wayOf := List.mem_of_getElem? (i := 2) rfl
theorem ix_X8_wayOf_0 : ∀ x ∈ (vx_atS RX8 301 (tp_exn 0) tp_sup).filter goodWord, x ∈ wsX8_wayOf := fun _ h => List.mem_cons_of_mem _ (List.mem_append_right _ h)
set_option maxHeartbeats 4000000 in
set_option maxRecDepth 100000 in
theorem cx_X8_wayOf (w : WPar) (τ : TS) (i0 : Nat) (x1 : Int32) (x2 : Int32) (K : TS → Nat → Prop) (X : TS → Nat → Prop) (hl : w.2.1.stackTraces = false) (h0 : tp_is w i0 7) (hw : wpx_X8_wayOf τ i0 x1 x2 K X) : XR w yX8_wayOf wsX8_wayOf 7 103 2 12 [.ref (w.1 i0), .int x1, .int x2] τ K X 6 := by
  refine tp_enterXR (cc := cX8_wayOf) (maxL := 3) hl (by decide) rfl rfl (Nat.le_of_ble_eq_true rfl) (fun g C D hR hRX hT => ?_)
  show Zt w g τ (0, 0) 0 [(0, .ref (w.1 i0)), (1, .int x1), (2, .int x2)] []
  unfold wpx_X8_wayOf at hw
  refine z_aload_n C 0 (by rfl) dX8_wayOf_0 ?_
  refine z_iload_n C 1 (by rfl) dX8_wayOf_1 ?_
  refine xv_v C D (As := [.int x1]) (bytes := cX8_checkLink) (maxL := 2) (F1 := 6) (L1 := 82) (mc := 1) (ms := 6) (cx_X8_checkLink w _ i0 x1 _ _ hl h0 hw) h0.2 (tE7 h0.1) rfl 1 gX8_wayOf_X8_checkLink rfl (by decide +kernel) ⟨Nat.le_of_ble_eq_true rfl, Nat.le_of_ble_eq_true rfl⟩ rfl (Nat.le_of_ble_eq_true rfl) (k2 := (1, 6)) rfl ⟨Nat.le_of_ble_eq_true rfl, Nat.le_of_ble_eq_true rfl⟩ rfl dX8_wayOf_2 (fun _ _ hx => hRX _ _ _ _ _ (Nat.le_of_ble_eq_true rfl) (Nat.le_of_ble_eq_true rfl) hx) (fun τ21 hw => ?_)
  refine z_iload_n C 2 (by rfl) dX8_wayOf_5 ?_
  refine z_if_lt (tgt := 14) C dX8_wayOf_6 (by decide) (fun c22 => ?_) (fun c22 => ?_)
  · have hw := hw.1 c22
    exact hT _ _ _ _ _ 297 308 301 0 "no such way" mw_X8_wayOf_0 mw_X8_wayOf_1 ix_X8_wayOf_0 (by simp [tp_strs]) tp_o0 tp_n0 tp_f0 ⟨dX8_wayOf_14, dX8_wayOf_17⟩ (Or.inl ⟨dX8_wayOf_18, dX8_wayOf_21, dX8_wayOf_24⟩) (Nat.le_of_ble_eq_true rfl) (Nat.le_of_ble_eq_true rfl) (Nat.le_of_ble_eq_true rfl) (Nat.le_of_ble_eq_true rfl) hw
  · have hw := hw.2 c22
    refine z_iload_n C 2 (by rfl) dX8_wayOf_9 ?_
    refine z_iconst C 1 (by decide) dX8_wayOf_10 ?_
    refine z_icmp_le (tgt := 25) C dX8_wayOf_11 (by decide) (fun c23 => ?_) (fun c23 => ?_)
    · have hw := hw.1 c23
      refine z_aload_n C 0 (by rfl) dX8_wayOf_25 ?_
      refine z_get C (Cn := RX8) (T := TX8) (N := 4) (ci := 7) h0.2 1 (tE7 h0.1) in_X8_wayOf_X8 rfl (by decide) mw_X8_wayOf_2 rfl rfl dX8_wayOf_26 ?_
      refine z_get C (Cn := RX6) (T := TX6) (N := 6) (ci := 5) (tR7_1 h0).2 1 (tE5 (tR7_1 h0).1) in_X8_wayOf_X6 rfl (by decide) mw_X8_wayOf_3 rfl rfl dX8_wayOf_29 ?_
      refine z_iconst C 2 (by decide) dX8_wayOf_32 ?_
      refine z_iload_n C 1 (by rfl) dX8_wayOf_33 ?_
      refine z_imul C dX8_wayOf_34 ?_
      refine z_iload_n C 2 (by rfl) dX8_wayOf_35 ?_
      refine z_iadd C dX8_wayOf_36 ?_
      obtain ⟨s24, hw⟩ := hw
      refine z_aald_q2 C (tR5_1 (tR7_1 h0)).2 (tE15 (tR5_1 (tR7_1 h0)).1) s24 (if_pos (tp_lt s24)) dX8_wayOf_37 ?_
      refine z_widen (2, 12) (Nat.le_of_ble_eq_true rfl) (Nat.le_of_ble_eq_true rfl) ?_
      exact hR _ _ _ _ dX8_wayOf_38 (tR15 (tR5_1 (tR7_1 h0)) (tp_lt s24)) hw
    · have hw := hw.2 c23
      exact hT _ _ _ _ _ 297 308 301 0 "no such way" mw_X8_wayOf_0 mw_X8_wayOf_1 ix_X8_wayOf_0 (by simp [tp_strs]) tp_o0 tp_n0 tp_f0 ⟨dX8_wayOf_14, dX8_wayOf_17⟩ (Or.inl ⟨dX8_wayOf_18, dX8_wayOf_21, dX8_wayOf_24⟩) (Nat.le_of_ble_eq_true rfl) (Nat.le_of_ble_eq_true rfl) (Nat.le_of_ble_eq_true rfl) (Nat.le_of_ble_eq_true rfl) hw
def wpx_X8_turn (τ : TS) (i0 : Nat) (x1 : Int32) (K : TS → Int32 → Prop) (X : TS → Nat → Prop) : Prop :=
  wpx_X8_checkLink τ i0 x1 (fun τ21 => wp_X3_flip τ21 1 x1 (fun τ22 => vp_in x1 12 ∧ ((((τ22 6 (Int32.toNatClampNeg x1)) = 0) → (wp_X6_dropAll τ22 17 x1 (fun τ25 x26 => K τ25 x26))) ∧ ((¬ (τ22 6 (Int32.toNatClampNeg x1)) = 0) → (K τ22 0))))) X
set_option maxHeartbeats 4000000 in
set_option maxRecDepth 100000 in
theorem cx_X8_turn (w : WPar) (τ : TS) (i0 : Nat) (x1 : Int32) (K : TS → Int32 → Prop) (X : TS → Nat → Prop) (hl : w.2.1.stackTraces = false) (h0 : tp_is w i0 7) (hw : wpx_X8_turn τ i0 x1 K X) : XI w yX8_turn wsX8_turn 7 103 1 6 [.ref (w.1 i0), .int x1] τ K X := by
  refine tp_enterXI (cc := cX8_turn) (maxL := 2) hl (by decide) rfl rfl (Nat.le_of_ble_eq_true rfl) (fun g C D hR hRX hT => ?_)
  show Zt w g τ (0, 0) 0 [(0, .ref (w.1 i0)), (1, .int x1)] []
  unfold wpx_X8_turn at hw
  refine z_aload_n C 0 (by rfl) dX8_turn_0 ?_
  refine z_iload_n C 1 (by rfl) dX8_turn_1 ?_
  refine xv_v C D (As := [.int x1]) (bytes := cX8_checkLink) (maxL := 2) (F1 := 6) (L1 := 82) (mc := 1) (ms := 6) (cx_X8_checkLink w _ i0 x1 _ _ hl h0 hw) h0.2 (tE7 h0.1) rfl 1 gX8_turn_X8_checkLink rfl (by decide +kernel) ⟨Nat.le_of_ble_eq_true rfl, Nat.le_of_ble_eq_true rfl⟩ rfl (Nat.le_of_ble_eq_true rfl) (k2 := (1, 6)) rfl ⟨Nat.le_of_ble_eq_true rfl, Nat.le_of_ble_eq_true rfl⟩ rfl dX8_turn_2 (fun _ _ hx => hRX _ _ _ _ _ (Nat.le_of_ble_eq_true rfl) (Nat.le_of_ble_eq_true rfl) hx) (fun τ21 hw => ?_)
  refine z_aload_n C 0 (by rfl) dX8_turn_5 ?_
  refine z_get C (Cn := RX8) (T := TX8) (N := 4) (ci := 7) h0.2 0 (tE7 h0.1) in_X8_turn_X8 rfl (by decide) mw_X8_turn_0 rfl rfl dX8_turn_6 ?_
  refine z_iload_n C 1 (by rfl) dX8_turn_9 ?_
  refine zv_v C (As := [.int x1]) (bytes := cX3_flip) (maxL := 2) (F1 := 3) (L1 := 72) (c_X3_flip w _ 1 x1 _ (tR7_0 h0) hw) (tR7_0 h0).2 (tE3 (tR7_0 h0).1) rfl 1 gX8_turn_X3_flip rfl (by decide +kernel) ⟨Nat.le_of_ble_eq_true rfl, Nat.le_of_ble_eq_true rfl⟩ rfl (Nat.le_of_ble_eq_true rfl) ⟨Nat.le_of_ble_eq_true rfl, Nat.le_of_ble_eq_true rfl⟩ rfl dX8_turn_10 (fun τ22 hw => ?_)
  refine z_aload_n C 0 (by rfl) dX8_turn_13 ?_
  refine z_get C (Cn := RX8) (T := TX8) (N := 4) (ci := 7) h0.2 0 (tE7 h0.1) in_X8_turn_X8 rfl (by decide) mw_X8_turn_0 rfl rfl dX8_turn_14 ?_
  refine z_get C (Cn := RX3) (T := TX3) (N := 9) (ci := 3) (tR7_0 h0).2 6 (tE3 (tR7_0 h0).1) in_X8_turn_X3 rfl (by decide) mw_X8_turn_1 rfl rfl dX8_turn_17 ?_
  refine z_iload_n C 1 (by rfl) dX8_turn_20 ?_
  obtain ⟨s23, hw⟩ := hw
  refine z_zald C (tR3_6 (tR7_0 h0)).2 (tE12 (tR3_6 (tR7_0 h0)).1) s23 dX8_turn_21 ?_
  refine z_if_eq (tgt := 29) C dX8_turn_22 (by decide) (fun c24 => ?_) (fun c24 => ?_)
  · have hw := hw.1 c24
    refine z_aload_n C 0 (by rfl) dX8_turn_29 ?_
    refine z_get C (Cn := RX8) (T := TX8) (N := 4) (ci := 7) h0.2 1 (tE7 h0.1) in_X8_turn_X8 rfl (by decide) mw_X8_turn_2 rfl rfl dX8_turn_30 ?_
    refine z_iload_n C 1 (by rfl) dX8_turn_33 ?_
    refine zv_i C (As := [.int x1]) (bytes := cX6_dropAll) (maxL := 3) (F1 := 1) (L1 := 22) (c_X6_dropAll w _ 17 x1 _ (tR7_1 h0) hw) (tR7_1 h0).2 (tE5 (tR7_1 h0).1) rfl 1 gX8_turn_X6_dropAll rfl (by decide +kernel) ⟨Nat.le_of_ble_eq_true rfl, Nat.le_of_ble_eq_true rfl⟩ rfl (Nat.le_of_ble_eq_true rfl) ⟨Nat.le_of_ble_eq_true rfl, Nat.le_of_ble_eq_true rfl⟩ rfl dX8_turn_34 (fun x26 τ25 hw => ?_)
    exact hR _ _ _ _ dX8_turn_37 hw
  · have hw := hw.2 c24
    refine z_iconst C 0 (by decide) dX8_turn_25 ?_
    refine z_goto (tgt := 37) C dX8_turn_26 (by decide) ?_
    exact hR _ _ _ _ dX8_turn_37 hw
def wpx_X8_lose (τ : TS) (i0 : Nat) (x1 : Int32) (x2 : Int32) (x3 : Int32) (K : TS → Int32 → Prop) (X : TS → Nat → Prop) : Prop :=
  wpx_X8_wayOf τ i0 x1 x2 (fun τ21 j22 => wpx_X8_checkRange τ21 x3 0 9 (fun τ23 => ∀ x24 : Int32, x24 = (τ23 j22 6) → ∀ τ25 : TS, τ25 = tp_up τ23 j22 6 x3 → K τ25 x24) X) X
set_option maxHeartbeats 4000000 in
set_option maxRecDepth 100000 in
theorem cx_X8_lose (w : WPar) (τ : TS) (i0 : Nat) (x1 : Int32) (x2 : Int32) (x3 : Int32) (K : TS → Int32 → Prop) (X : TS → Nat → Prop) (hl : w.2.1.stackTraces = false) (h0 : tp_is w i0 7) (hw : wpx_X8_lose τ i0 x1 x2 x3 K X) : XI w yX8_lose wsX8_lose 8 125 3 18 [.ref (w.1 i0), .int x1, .int x2, .int x3] τ K X := by
  refine tp_enterXI (cc := cX8_lose) (maxL := 6) hl (by decide) rfl rfl (Nat.le_of_ble_eq_true rfl) (fun g C D hR hRX hT => ?_)
  show Zt w g τ (0, 0) 0 [(0, .ref (w.1 i0)), (1, .int x1), (2, .int x2), (3, .int x3)] []
  unfold wpx_X8_lose at hw
  refine z_aload_n C 0 (by rfl) dX8_lose_0 ?_
  refine z_iload_n C 1 (by rfl) dX8_lose_1 ?_
  refine z_iload_n C 2 (by rfl) dX8_lose_2 ?_
  refine xv_r C D (As := [.int x1, .int x2]) (bytes := cX8_wayOf) (maxL := 3) (F1 := 7) (L1 := 103) (mc := 2) (ms := 12) (cx_X8_wayOf w _ i0 x1 x2 _ _ hl h0 hw) h0.2 (tE7 h0.1) rfl 2 gX8_lose_X8_wayOf rfl (by decide +kernel) ⟨Nat.le_of_ble_eq_true rfl, Nat.le_of_ble_eq_true rfl⟩ rfl (Nat.le_of_ble_eq_true rfl) (k2 := (2, 12)) rfl ⟨Nat.le_of_ble_eq_true rfl, Nat.le_of_ble_eq_true rfl⟩ rfl dX8_lose_3 (fun _ _ hx => hRX _ _ _ _ _ (Nat.le_of_ble_eq_true rfl) (Nat.le_of_ble_eq_true rfl) hx) (fun τ21 j22 hw hj22 => ?_)
  refine z_astore C [(4, .ref (w.1 j22)), (0, .ref (w.1 i0)), (1, .int x1), (2, .int x2), (3, .int x3)] dX8_lose_6 (by decide) rfl ?_
  refine z_iload_n C 4 (by rfl) dX8_lose_8 ?_
  refine z_iconst C 0 (by decide) dX8_lose_9 ?_
  refine z_bipush C 9 (by decide) dX8_lose_10 ?_
  refine xs_v C D (As := [.int x3, .int 0, .int 9]) (bytes := cX8_checkRange) (maxL := 3) (F1 := 6) (L1 := 82) (mc := 1) (ms := 6) (cx_X8_checkRange w _ x3 0 9 _ _ hl  hw) 3 gX8_lose_X8_checkRange rfl (by decide +kernel) ⟨Nat.le_of_ble_eq_true rfl, Nat.le_of_ble_eq_true rfl⟩ rfl (Nat.le_of_ble_eq_true rfl) (k2 := (3, 18)) rfl ⟨Nat.le_of_ble_eq_true rfl, Nat.le_of_ble_eq_true rfl⟩ rfl dX8_lose_12 (fun _ _ hx => hRX _ _ _ _ _ (Nat.le_of_ble_eq_true rfl) (Nat.le_of_ble_eq_true rfl) hx) (fun τ23 hw => ?_)
  refine z_aload C 0 (by rfl) dX8_lose_15 ?_
  refine z_get C (Cn := RX7) (T := TX7) (N := 7) (ci := 6) hj22.2 6 (tE6 hj22.1) in_X8_lose_X7 rfl (by decide) mw_X8_lose_0 rfl rfl dX8_lose_17 ?_
  refine z_top (fun x24 ex24 => ?_)
  have hw := hw x24 ex24
  refine z_istore C [(5, .int x24), (4, .ref (w.1 j22)), (0, .ref (w.1 i0)), (1, .int x1), (2, .int x2), (3, .int x3)] dX8_lose_20 (by decide) rfl ?_
  refine z_aload C 1 (by rfl) dX8_lose_22 ?_
  refine z_iload_n C 5 (by rfl) dX8_lose_24 ?_
  refine z_put C (Cn := RX7) (T := TX7) (N := 7) (ci := 6) hj22.2 6 (tE6 hj22.1) (tS6_6 hj22.1 _) in_X8_lose_X7 tyX7 tyX7_ok nmX7 rfl (by decide) mw_X8_lose_0 rfl rfl (tyX7_ok 6 (by decide)) rfl rfl (Nat.le_of_ble_eq_true rfl) dX8_lose_25 (fun τ25 eτ25 => ?_)
  have hw := hw τ25 eτ25
  refine z_iload C 0 (by rfl) dX8_lose_28 ?_
  exact hR _ _ _ _ dX8_lose_30 hw
def wpx_X8_addLink (τ : TS) (i0 : Nat) (x1 : Int32) (x2 : Int32) (x3 : Int32) (x4 : Int32) (K : TS → Int32 → Prop) (X : TS → Nat → Prop) : Prop :=
  wpx_X8_checkNode τ i0 x1 (fun τ21 => wpx_X8_checkNode τ21 i0 x2 (fun τ22 => ((¬ x1 = x2) → (wpx_X8_checkRange τ22 x3 1 9 (fun τ24 => wpx_X8_checkRange τ24 x4 1 20 (fun τ25 => ((12 ≤ (τ25 1 1)) → (X τ25 2)) ∧ ((¬ 12 ≤ (τ25 1 1)) → (wp_X3_joins τ25 1 x1 x2 (fun τ27 x28 => ((x28 = 0) → (wp_X3_layLink τ27 1 x1 x2 x3 x4 (fun τ30 x31 => K τ30 x31))) ∧ ((¬ x28 = 0) → (X τ27 2)))))) X) X)) ∧ ((x1 = x2) → (X τ22 1))) X) X
theorem mw_X8_addLink_2 : Cond.classLink RX8 37 "java/lang/IllegalStateException" ∈ wsX8_addLink := List.mem_of_getElem? (i := 3) rfl
theorem mw_X8_addLink_3 : Cond.initialized "java/lang/IllegalStateException" ∈ wsX8_addLink := List.mem_of_getElem? (i := 4) rfl
theorem mw_X8_addLink_0 : Cond.classLink RX8 52 "java/lang/IllegalArgumentException" ∈ wsX8_addLink := List.mem_of_getElem? (i := 1) rfl
theorem mw_X8_addLink_1 : Cond.initialized "java/lang/IllegalArgumentException" ∈ wsX8_addLink := List.mem_of_getElem? (i := 2) rfl
theorem ix_X8_addLink_2 : ∀ x ∈ (vx_atS RX8 41 (tp_exn 2) tp_sup).filter goodWord, x ∈ wsX8_addLink := fun _ h => List.mem_cons_of_mem _ (List.mem_append_left _ (List.mem_append_right _ h))
theorem ix_X8_addLink_1 : ∀ x ∈ (vx_atS RX8 56 (tp_exn 1) tp_sup).filter goodWord, x ∈ wsX8_addLink := fun _ h => List.mem_cons_of_mem _ (List.mem_append_left _ (List.mem_append_left _ (List.mem_append_right _ h)))
set_option maxHeartbeats 4000000 in
set_option maxRecDepth 100000 in
theorem cx_X8_addLink (w : WPar) (τ : TS) (i0 : Nat) (x1 : Int32) (x2 : Int32) (x3 : Int32) (x4 : Int32) (K : TS → Int32 → Prop) (X : TS → Nat → Prop) (hl : w.2.1.stackTraces = false) (h0 : tp_is w i0 7) (hw : wpx_X8_addLink τ i0 x1 x2 x3 x4 K X) : XI w yX8_addLink wsX8_addLink 7 104 5 30 [.ref (w.1 i0), .int x1, .int x2, .int x3, .int x4] τ K X := by
  refine tp_enterXI (cc := cX8_addLink) (maxL := 5) hl (by decide) rfl rfl (Nat.le_of_ble_eq_true rfl) (fun g C D hR hRX hT => ?_)
  show Zt w g τ (0, 0) 0 [(0, .ref (w.1 i0)), (1, .int x1), (2, .int x2), (3, .int x3), (4, .int x4)] []
  unfold wpx_X8_addLink at hw
  refine z_aload_n C 0 (by rfl) dX8_addLink_0 ?_
  refine z_iload_n C 1 (by rfl) dX8_addLink_1 ?_
  refine xv_v C D (As := [.int x1]) (bytes := cX8_checkNode) (maxL := 2) (F1 := 6) (L1 := 82) (mc := 1) (ms := 6) (cx_X8_checkNode w _ i0 x1 _ _ hl h0 hw) h0.2 (tE7 h0.1) rfl 1 gX8_addLink_X8_checkNode rfl (by decide +kernel) ⟨Nat.le_of_ble_eq_true rfl, Nat.le_of_ble_eq_true rfl⟩ rfl (Nat.le_of_ble_eq_true rfl) (k2 := (1, 6)) rfl ⟨Nat.le_of_ble_eq_true rfl, Nat.le_of_ble_eq_true rfl⟩ rfl dX8_addLink_2 (fun _ _ hx => hRX _ _ _ _ _ (Nat.le_of_ble_eq_true rfl) (Nat.le_of_ble_eq_true rfl) hx) (fun τ21 hw => ?_)
  refine z_aload_n C 0 (by rfl) dX8_addLink_5 ?_
  refine z_iload_n C 2 (by rfl) dX8_addLink_6 ?_
  refine xv_v C D (As := [.int x2]) (bytes := cX8_checkNode) (maxL := 2) (F1 := 6) (L1 := 82) (mc := 1) (ms := 6) (cx_X8_checkNode w _ i0 x2 _ _ hl h0 hw) h0.2 (tE7 h0.1) rfl 1 gX8_addLink_X8_checkNode rfl (by decide +kernel) ⟨Nat.le_of_ble_eq_true rfl, Nat.le_of_ble_eq_true rfl⟩ rfl (Nat.le_of_ble_eq_true rfl) (k2 := (2, 12)) rfl ⟨Nat.le_of_ble_eq_true rfl, Nat.le_of_ble_eq_true rfl⟩ rfl dX8_addLink_7 (fun _ _ hx => hRX _ _ _ _ _ (Nat.le_of_ble_eq_true rfl) (Nat.le_of_ble_eq_true rfl) hx) (fun τ22 hw => ?_)
  refine z_iload_n C 1 (by rfl) dX8_addLink_10 ?_
  refine z_iload_n C 2 (by rfl) dX8_addLink_11 ?_
  refine z_icmp_ne (tgt := 25) C dX8_addLink_12 (by decide) (fun c23 => ?_) (fun c23 => ?_)
  · have hw := hw.1 c23
    refine z_iload_n C 3 (by rfl) dX8_addLink_25 ?_
    refine z_iconst C 1 (by decide) dX8_addLink_26 ?_
    refine z_bipush C 9 (by decide) dX8_addLink_27 ?_
    refine xs_v C D (As := [.int x3, .int 1, .int 9]) (bytes := cX8_checkRange) (maxL := 3) (F1 := 6) (L1 := 82) (mc := 1) (ms := 6) (cx_X8_checkRange w _ x3 1 9 _ _ hl  hw) 3 gX8_addLink_X8_checkRange rfl (by decide +kernel) ⟨Nat.le_of_ble_eq_true rfl, Nat.le_of_ble_eq_true rfl⟩ rfl (Nat.le_of_ble_eq_true rfl) (k2 := (3, 18)) rfl ⟨Nat.le_of_ble_eq_true rfl, Nat.le_of_ble_eq_true rfl⟩ rfl dX8_addLink_29 (fun _ _ hx => hRX _ _ _ _ _ (Nat.le_of_ble_eq_true rfl) (Nat.le_of_ble_eq_true rfl) hx) (fun τ24 hw => ?_)
    refine z_iload C 4 (by rfl) dX8_addLink_32 ?_
    refine z_iconst C 1 (by decide) dX8_addLink_34 ?_
    refine z_bipush C 20 (by decide) dX8_addLink_35 ?_
    refine xs_v C D (As := [.int x4, .int 1, .int 20]) (bytes := cX8_checkRange) (maxL := 3) (F1 := 6) (L1 := 82) (mc := 1) (ms := 6) (cx_X8_checkRange w _ x4 1 20 _ _ hl  hw) 3 gX8_addLink_X8_checkRange rfl (by decide +kernel) ⟨Nat.le_of_ble_eq_true rfl, Nat.le_of_ble_eq_true rfl⟩ rfl (Nat.le_of_ble_eq_true rfl) (k2 := (4, 24)) rfl ⟨Nat.le_of_ble_eq_true rfl, Nat.le_of_ble_eq_true rfl⟩ rfl dX8_addLink_37 (fun _ _ hx => hRX _ _ _ _ _ (Nat.le_of_ble_eq_true rfl) (Nat.le_of_ble_eq_true rfl) hx) (fun τ25 hw => ?_)
    refine z_aload_n C 0 (by rfl) dX8_addLink_40 ?_
    refine z_get C (Cn := RX8) (T := TX8) (N := 4) (ci := 7) h0.2 0 (tE7 h0.1) in_X8_addLink_X8 rfl (by decide) mw_X8_addLink_4 rfl rfl dX8_addLink_41 ?_
    refine z_get C (Cn := RX3) (T := TX3) (N := 9) (ci := 3) (tR7_0 h0).2 1 (tE3 (tR7_0 h0).1) in_X8_addLink_X3 rfl (by decide) mw_X8_addLink_5 rfl rfl dX8_addLink_44 ?_
    refine z_bipush C 12 (by decide) dX8_addLink_47 ?_
    refine z_icmp_ge (tgt := 64) C dX8_addLink_49 (by decide) (fun c26 => ?_) (fun c26 => ?_)
    · have hw := hw.1 c26
      exact hT _ _ _ _ _ 37 68 41 2 "there are 12 links, or one is between these nodes" mw_X8_addLink_2 mw_X8_addLink_3 ix_X8_addLink_2 (by simp [tp_strs]) tp_o2 tp_n2 tp_f2 ⟨dX8_addLink_64, dX8_addLink_67⟩ (Or.inr ⟨dX8_addLink_68, dX8_addLink_70, dX8_addLink_73⟩) (Nat.le_of_ble_eq_true rfl) (Nat.le_of_ble_eq_true rfl) (Nat.le_of_ble_eq_true rfl) (Nat.le_of_ble_eq_true rfl) hw
    · have hw := hw.2 c26
      refine z_aload_n C 0 (by rfl) dX8_addLink_52 ?_
      refine z_get C (Cn := RX8) (T := TX8) (N := 4) (ci := 7) h0.2 0 (tE7 h0.1) in_X8_addLink_X8 rfl (by decide) mw_X8_addLink_4 rfl rfl dX8_addLink_53 ?_
      refine z_iload_n C 1 (by rfl) dX8_addLink_56 ?_
      refine z_iload_n C 2 (by rfl) dX8_addLink_57 ?_
      refine zv_i C (As := [.int x1, .int x2]) (bytes := cX3_joins) (maxL := 4) (F1 := 1) (L1 := 22) (c_X3_joins w _ 1 x1 x2 _ (tR7_0 h0) hw) (tR7_0 h0).2 (tE3 (tR7_0 h0).1) rfl 2 gX8_addLink_X3_joins rfl (by decide +kernel) ⟨Nat.le_of_ble_eq_true rfl, Nat.le_of_ble_eq_true rfl⟩ rfl (Nat.le_of_ble_eq_true rfl) ⟨Nat.le_of_ble_eq_true rfl, Nat.le_of_ble_eq_true rfl⟩ rfl dX8_addLink_58 (fun x28 τ27 hw => ?_)
      refine z_if_eq (tgt := 74) C dX8_addLink_61 (by decide) (fun c29 => ?_) (fun c29 => ?_)
      · have hw := hw.1 c29
        refine z_aload_n C 0 (by rfl) dX8_addLink_74 ?_
        refine z_get C (Cn := RX8) (T := TX8) (N := 4) (ci := 7) h0.2 0 (tE7 h0.1) in_X8_addLink_X8 rfl (by decide) mw_X8_addLink_4 rfl rfl dX8_addLink_75 ?_
        refine z_iload_n C 1 (by rfl) dX8_addLink_78 ?_
        refine z_iload_n C 2 (by rfl) dX8_addLink_79 ?_
        refine z_iload_n C 3 (by rfl) dX8_addLink_80 ?_
        refine z_iload C 4 (by rfl) dX8_addLink_81 ?_
        refine zv_i C (As := [.int x1, .int x2, .int x3, .int x4]) (bytes := cX3_layLink) (maxL := 6) (F1 := 3) (L1 := 72) (c_X3_layLink w _ 1 x1 x2 x3 x4 _ (tR7_0 h0) hw) (tR7_0 h0).2 (tE3 (tR7_0 h0).1) rfl 4 gX8_addLink_X3_layLink rfl (by decide +kernel) ⟨Nat.le_of_ble_eq_true rfl, Nat.le_of_ble_eq_true rfl⟩ rfl (Nat.le_of_ble_eq_true rfl) ⟨Nat.le_of_ble_eq_true rfl, Nat.le_of_ble_eq_true rfl⟩ rfl dX8_addLink_83 (fun x31 τ30 hw => ?_)
        refine z_widen (5, 30) (Nat.le_of_ble_eq_true rfl) (Nat.le_of_ble_eq_true rfl) ?_
        exact hR _ _ _ _ dX8_addLink_86 hw
      · have hw := hw.2 c29
        exact hT _ _ _ _ _ 37 68 41 2 "there are 12 links, or one is between these nodes" mw_X8_addLink_2 mw_X8_addLink_3 ix_X8_addLink_2 (by simp [tp_strs]) tp_o2 tp_n2 tp_f2 ⟨dX8_addLink_64, dX8_addLink_67⟩ (Or.inr ⟨dX8_addLink_68, dX8_addLink_70, dX8_addLink_73⟩) (Nat.le_of_ble_eq_true rfl) (Nat.le_of_ble_eq_true rfl) (Nat.le_of_ble_eq_true rfl) (Nat.le_of_ble_eq_true rfl) hw
  · have hw := hw.2 c23
    exact hT _ _ _ _ _ 52 54 56 1 "both ends are the same" mw_X8_addLink_0 mw_X8_addLink_1 ix_X8_addLink_1 (by simp [tp_strs]) tp_o1 tp_n1 tp_f1 ⟨dX8_addLink_15, dX8_addLink_18⟩ (Or.inr ⟨dX8_addLink_19, dX8_addLink_21, dX8_addLink_24⟩) (Nat.le_of_ble_eq_true rfl) (Nat.le_of_ble_eq_true rfl) (Nat.le_of_ble_eq_true rfl) (Nat.le_of_ble_eq_true rfl) hw
def wpx_X8_call (τ : TS) (i0 : Nat) (x1 : Int32) (x2 : Int32) (x3 : Int32) (K : TS → Int32 → Prop) (X : TS → Nat → Prop) : Prop :=
  wpx_X8_checkNode τ i0 x1 (fun τ21 => wpx_X8_checkNode τ21 i0 x2 (fun τ22 => ((¬ x1 = x2) → (wpx_X8_checkRange τ22 x3 1 16 (fun τ24 => (((τ24 17 3) < 6) → (wp_X6_connect τ24 17 x1 x2 x3 (fun τ26 x27 => K τ26 x27))) ∧ ((¬ (τ24 17 3) < 6) → (X τ24 2))) X)) ∧ ((x1 = x2) → (X τ22 1))) X) X
theorem mw_X8_call_2 : Cond.classLink RX8 37 "java/lang/IllegalStateException" ∈ wsX8_call := List.mem_of_getElem? (i := 3) rfl
theorem mw_X8_call_3 : Cond.initialized "java/lang/IllegalStateException" ∈ wsX8_call := List.mem_of_getElem? (i := 4) rfl
theorem mw_X8_call_0 : Cond.classLink RX8 52 "java/lang/IllegalArgumentException" ∈ wsX8_call := List.mem_of_getElem? (i := 1) rfl
theorem mw_X8_call_1 : Cond.initialized "java/lang/IllegalArgumentException" ∈ wsX8_call := List.mem_of_getElem? (i := 2) rfl
theorem ix_X8_call_2 : ∀ x ∈ (vx_atS RX8 41 (tp_exn 2) tp_sup).filter goodWord, x ∈ wsX8_call := fun _ h => List.mem_cons_of_mem _ (List.mem_append_left _ (List.mem_append_right _ h))
theorem ix_X8_call_1 : ∀ x ∈ (vx_atS RX8 56 (tp_exn 1) tp_sup).filter goodWord, x ∈ wsX8_call := fun _ h => List.mem_cons_of_mem _ (List.mem_append_left _ (List.mem_append_left _ (List.mem_append_right _ h)))
set_option maxHeartbeats 4000000 in
set_option maxRecDepth 100000 in
theorem cx_X8_call (w : WPar) (τ : TS) (i0 : Nat) (x1 : Int32) (x2 : Int32) (x3 : Int32) (K : TS → Int32 → Prop) (X : TS → Nat → Prop) (hl : w.2.1.stackTraces = false) (h0 : tp_is w i0 7) (hw : wpx_X8_call τ i0 x1 x2 x3 K X) : XI w yX8_call wsX8_call 7 120 4 24 [.ref (w.1 i0), .int x1, .int x2, .int x3] τ K X := by
  refine tp_enterXI (cc := cX8_call) (maxL := 4) hl (by decide) rfl rfl (Nat.le_of_ble_eq_true rfl) (fun g C D hR hRX hT => ?_)
  show Zt w g τ (0, 0) 0 [(0, .ref (w.1 i0)), (1, .int x1), (2, .int x2), (3, .int x3)] []
  unfold wpx_X8_call at hw
  refine z_aload_n C 0 (by rfl) dX8_call_0 ?_
  refine z_iload_n C 1 (by rfl) dX8_call_1 ?_
  refine xv_v C D (As := [.int x1]) (bytes := cX8_checkNode) (maxL := 2) (F1 := 6) (L1 := 82) (mc := 1) (ms := 6) (cx_X8_checkNode w _ i0 x1 _ _ hl h0 hw) h0.2 (tE7 h0.1) rfl 1 gX8_call_X8_checkNode rfl (by decide +kernel) ⟨Nat.le_of_ble_eq_true rfl, Nat.le_of_ble_eq_true rfl⟩ rfl (Nat.le_of_ble_eq_true rfl) (k2 := (1, 6)) rfl ⟨Nat.le_of_ble_eq_true rfl, Nat.le_of_ble_eq_true rfl⟩ rfl dX8_call_2 (fun _ _ hx => hRX _ _ _ _ _ (Nat.le_of_ble_eq_true rfl) (Nat.le_of_ble_eq_true rfl) hx) (fun τ21 hw => ?_)
  refine z_aload_n C 0 (by rfl) dX8_call_5 ?_
  refine z_iload_n C 2 (by rfl) dX8_call_6 ?_
  refine xv_v C D (As := [.int x2]) (bytes := cX8_checkNode) (maxL := 2) (F1 := 6) (L1 := 82) (mc := 1) (ms := 6) (cx_X8_checkNode w _ i0 x2 _ _ hl h0 hw) h0.2 (tE7 h0.1) rfl 1 gX8_call_X8_checkNode rfl (by decide +kernel) ⟨Nat.le_of_ble_eq_true rfl, Nat.le_of_ble_eq_true rfl⟩ rfl (Nat.le_of_ble_eq_true rfl) (k2 := (2, 12)) rfl ⟨Nat.le_of_ble_eq_true rfl, Nat.le_of_ble_eq_true rfl⟩ rfl dX8_call_7 (fun _ _ hx => hRX _ _ _ _ _ (Nat.le_of_ble_eq_true rfl) (Nat.le_of_ble_eq_true rfl) hx) (fun τ22 hw => ?_)
  refine z_iload_n C 1 (by rfl) dX8_call_10 ?_
  refine z_iload_n C 2 (by rfl) dX8_call_11 ?_
  refine z_icmp_ne (tgt := 25) C dX8_call_12 (by decide) (fun c23 => ?_) (fun c23 => ?_)
  · have hw := hw.1 c23
    refine z_iload_n C 3 (by rfl) dX8_call_25 ?_
    refine z_iconst C 1 (by decide) dX8_call_26 ?_
    refine z_bipush C 16 (by decide) dX8_call_27 ?_
    refine xs_v C D (As := [.int x3, .int 1, .int 16]) (bytes := cX8_checkRange) (maxL := 3) (F1 := 6) (L1 := 82) (mc := 1) (ms := 6) (cx_X8_checkRange w _ x3 1 16 _ _ hl  hw) 3 gX8_call_X8_checkRange rfl (by decide +kernel) ⟨Nat.le_of_ble_eq_true rfl, Nat.le_of_ble_eq_true rfl⟩ rfl (Nat.le_of_ble_eq_true rfl) (k2 := (3, 18)) rfl ⟨Nat.le_of_ble_eq_true rfl, Nat.le_of_ble_eq_true rfl⟩ rfl dX8_call_29 (fun _ _ hx => hRX _ _ _ _ _ (Nat.le_of_ble_eq_true rfl) (Nat.le_of_ble_eq_true rfl) hx) (fun τ24 hw => ?_)
    refine z_aload_n C 0 (by rfl) dX8_call_32 ?_
    refine z_get C (Cn := RX8) (T := TX8) (N := 4) (ci := 7) h0.2 1 (tE7 h0.1) in_X8_call_X8 rfl (by decide) mw_X8_call_4 rfl rfl dX8_call_33 ?_
    refine z_get C (Cn := RX6) (T := TX6) (N := 6) (ci := 5) (tR7_1 h0).2 3 (tE5 (tR7_1 h0).1) in_X8_call_X6 rfl (by decide) mw_X8_call_5 rfl rfl dX8_call_36 ?_
    refine z_bipush C 6 (by decide) dX8_call_39 ?_
    refine z_icmp_lt (tgt := 54) C dX8_call_41 (by decide) (fun c25 => ?_) (fun c25 => ?_)
    · have hw := hw.1 c25
      refine z_aload_n C 0 (by rfl) dX8_call_54 ?_
      refine z_get C (Cn := RX8) (T := TX8) (N := 4) (ci := 7) h0.2 1 (tE7 h0.1) in_X8_call_X8 rfl (by decide) mw_X8_call_4 rfl rfl dX8_call_55 ?_
      refine z_iload_n C 1 (by rfl) dX8_call_58 ?_
      refine z_iload_n C 2 (by rfl) dX8_call_59 ?_
      refine z_iload_n C 3 (by rfl) dX8_call_60 ?_
      refine zv_i C (As := [.int x1, .int x2, .int x3]) (bytes := cX6_connect) (maxL := 6) (F1 := 4) (L1 := 95) (c_X6_connect w _ 17 x1 x2 x3 _ (tR7_1 h0) hw) (tR7_1 h0).2 (tE5 (tR7_1 h0).1) rfl 3 gX8_call_X6_connect rfl (by decide +kernel) ⟨Nat.le_of_ble_eq_true rfl, Nat.le_of_ble_eq_true rfl⟩ rfl (Nat.le_of_ble_eq_true rfl) ⟨Nat.le_of_ble_eq_true rfl, Nat.le_of_ble_eq_true rfl⟩ rfl dX8_call_61 (fun x27 τ26 hw => ?_)
      refine z_widen (4, 24) (Nat.le_of_ble_eq_true rfl) (Nat.le_of_ble_eq_true rfl) ?_
      exact hR _ _ _ _ dX8_call_64 hw
    · have hw := hw.2 c25
      exact hT _ _ _ _ _ 37 102 41 2 "there are 6 connections" mw_X8_call_2 mw_X8_call_3 ix_X8_call_2 (by simp [tp_strs]) tp_o2 tp_n2 tp_f2 ⟨dX8_call_44, dX8_call_47⟩ (Or.inr ⟨dX8_call_48, dX8_call_50, dX8_call_53⟩) (Nat.le_of_ble_eq_true rfl) (Nat.le_of_ble_eq_true rfl) (Nat.le_of_ble_eq_true rfl) (Nat.le_of_ble_eq_true rfl) hw
  · have hw := hw.2 c23
    exact hT _ _ _ _ _ 52 97 56 1 "caller and callee are the same" mw_X8_call_0 mw_X8_call_1 ix_X8_call_1 (by simp [tp_strs]) tp_o1 tp_n1 tp_f1 ⟨dX8_call_15, dX8_call_18⟩ (Or.inr ⟨dX8_call_19, dX8_call_21, dX8_call_24⟩) (Nat.le_of_ble_eq_true rfl) (Nat.le_of_ble_eq_true rfl) (Nat.le_of_ble_eq_true rfl) (Nat.le_of_ble_eq_true rfl) hw
def wpx_X8_give (τ : TS) (i0 : Nat) (x1 : Int32) (x2 : Int32) (x3 : Int32) (K : TS → Int32 → Prop) (X : TS → Nat → Prop) : Prop :=
  wpx_X8_callerOf τ i0 x1 (fun τ21 j22 => wpx_X8_checkRange τ21 x3 1 50 (fun τ23 => wpx_X8_checkTakesThings τ23 j22 (fun τ24 => ((((τ24 j22 1) + x3) ≤ 200) → (∃ (I28 : TS → Int32 → Prop) (u28 : TS → Int32 → Nat), I28 τ24 0 ∧ ∀ (τ26 : TS) (x27 : Int32), I28 τ26 x27 → (((x3 ≤ x27) → (K τ26 (τ26 j22 1))) ∧ ((¬ x3 ≤ x27) → (vp_in x1 6 ∧ (vp_in (τ26 j22 1) 200 ∧ (∀ τ32 : TS, τ32 = tp_up τ26 (228 + (Int32.toNatClampNeg x1)) (Int32.toNatClampNeg (τ26 j22 1)) (x2 + x27) → ∀ τ33 : TS, τ33 = tp_up τ32 j22 1 ((τ32 j22 1) + 1) → ∀ x34 : Int32, x34 = x27 + 1 → I28 τ33 x34 ∧ u28 τ33 x34 < u28 τ26 x27))))))) ∧ ((¬ ((τ24 j22 1) + x3) ≤ 200) → (X τ24 2))) X) X) X
theorem mw_X8_give_0 : Cond.classLink RX8 37 "java/lang/IllegalStateException" ∈ wsX8_give := List.mem_of_getElem? (i := 1) rfl
theorem mw_X8_give_1 : Cond.initialized "java/lang/IllegalStateException" ∈ wsX8_give := List.mem_of_getElem? (i := 2) rfl
theorem ix_X8_give_2 : ∀ x ∈ (vx_atS RX8 41 (tp_exn 2) tp_sup).filter goodWord, x ∈ wsX8_give := fun _ h => List.mem_cons_of_mem _ (List.mem_append_left _ (List.mem_append_left _ (List.mem_append_right _ h)))
set_option maxHeartbeats 4000000 in
set_option maxRecDepth 100000 in
theorem cx_X8_give (w : WPar) (τ : TS) (i0 : Nat) (x1 : Int32) (x2 : Int32) (x3 : Int32) (K : TS → Int32 → Prop) (X : TS → Nat → Prop) (hl : w.2.1.stackTraces = false) (h0 : tp_is w i0 7) (hw : wpx_X8_give τ i0 x1 x2 x3 K X) : XI w yX8_give wsX8_give 8 124 4 24 [.ref (w.1 i0), .int x1, .int x2, .int x3] τ K X := by
  refine tp_enterXI (cc := cX8_give) (maxL := 6) hl (by decide) rfl rfl (Nat.le_of_ble_eq_true rfl) (fun g C D hR hRX hT => ?_)
  show Zt w g τ (0, 0) 0 [(0, .ref (w.1 i0)), (1, .int x1), (2, .int x2), (3, .int x3)] []
  unfold wpx_X8_give at hw
  refine z_aload_n C 0 (by rfl) dX8_give_0 ?_
  refine z_iload_n C 1 (by rfl) dX8_give_1 ?_
  refine xv_r C D (As := [.int x1]) (bytes := cX8_callerOf) (maxL := 2) (F1 := 7) (L1 := 103) (mc := 1) (ms := 6) (cx_X8_callerOf w _ i0 x1 _ _ hl h0 hw) h0.2 (tE7 h0.1) rfl 1 gX8_give_X8_callerOf rfl (by decide +kernel) ⟨Nat.le_of_ble_eq_true rfl, Nat.le_of_ble_eq_true rfl⟩ rfl (Nat.le_of_ble_eq_true rfl) (k2 := (1, 6)) rfl ⟨Nat.le_of_ble_eq_true rfl, Nat.le_of_ble_eq_true rfl⟩ rfl dX8_give_2 (fun _ _ hx => hRX _ _ _ _ _ (Nat.le_of_ble_eq_true rfl) (Nat.le_of_ble_eq_true rfl) hx) (fun τ21 j22 hw hj22 => ?_)
  refine z_astore C [(4, .ref (w.1 j22)), (0, .ref (w.1 i0)), (1, .int x1), (2, .int x2), (3, .int x3)] dX8_give_5 (by decide) rfl ?_
  refine z_iload_n C 4 (by rfl) dX8_give_7 ?_
  refine z_iconst C 1 (by decide) dX8_give_8 ?_
  refine z_bipush C 50 (by decide) dX8_give_9 ?_
  refine xs_v C D (As := [.int x3, .int 1, .int 50]) (bytes := cX8_checkRange) (maxL := 3) (F1 := 6) (L1 := 82) (mc := 1) (ms := 6) (cx_X8_checkRange w _ x3 1 50 _ _ hl  hw) 3 gX8_give_X8_checkRange rfl (by decide +kernel) ⟨Nat.le_of_ble_eq_true rfl, Nat.le_of_ble_eq_true rfl⟩ rfl (Nat.le_of_ble_eq_true rfl) (k2 := (2, 12)) rfl ⟨Nat.le_of_ble_eq_true rfl, Nat.le_of_ble_eq_true rfl⟩ rfl dX8_give_11 (fun _ _ hx => hRX _ _ _ _ _ (Nat.le_of_ble_eq_true rfl) (Nat.le_of_ble_eq_true rfl) hx) (fun τ23 hw => ?_)
  refine z_aload C 0 (by rfl) dX8_give_14 ?_
  refine xs_v C D (As := [.ref (w.1 j22)]) (bytes := cX8_checkTakesThings) (maxL := 1) (F1 := 6) (L1 := 82) (mc := 1) (ms := 6) (cx_X8_checkTakesThings w _ j22 _ _ hl hj22 hw) 1 gX8_give_X8_checkTakesThings rfl (by decide +kernel) ⟨Nat.le_of_ble_eq_true rfl, Nat.le_of_ble_eq_true rfl⟩ rfl (Nat.le_of_ble_eq_true rfl) (k2 := (3, 18)) rfl ⟨Nat.le_of_ble_eq_true rfl, Nat.le_of_ble_eq_true rfl⟩ rfl dX8_give_16 (fun _ _ hx => hRX _ _ _ _ _ (Nat.le_of_ble_eq_true rfl) (Nat.le_of_ble_eq_true rfl) hx) (fun τ24 hw => ?_)
  refine z_aload C 0 (by rfl) dX8_give_19 ?_
  refine z_get C (Cn := RX1) (T := TX1) (N := 14) (ci := 1) hj22.2 1 (tE1 hj22.1) in_X8_give_X1 rfl (by decide) mw_X8_give_2 rfl rfl dX8_give_21 ?_
  refine z_iload_n C 4 (by rfl) dX8_give_24 ?_
  refine z_iadd C dX8_give_25 ?_
  refine z_sipush C 200 (by decide) dX8_give_26 ?_
  refine z_icmp_le (tgt := 42) C dX8_give_29 (by decide) (fun c25 => ?_) (fun c25 => ?_)
  · have hw := hw.1 c25
    refine z_iconst C 0 (by decide) dX8_give_42 ?_
    refine z_istore C [(5, .int 0), (4, .ref (w.1 j22)), (0, .ref (w.1 i0)), (1, .int x1), (2, .int x2), (3, .int x3)] dX8_give_43 (by decide) rfl ?_
    obtain ⟨I28, u28, hI28, hs28⟩ := hw
    have lp28 : ∀ (n28 : Nat) (τ26 : TS) (x27 : Int32), u28 τ26 x27 < n28 → I28 τ26 x27 → Zt w g τ26 (3, 18) 45 [(0, .ref (w.1 i0)), (1, .int x1), (2, .int x2), (3, .int x3), (4, .ref (w.1 j22)), (5, .int x27)] [] := by
      intro n28
      induction n28 with
      | zero => intro τ26 x27 hlt28; exact absurd hlt28 (Nat.not_lt_zero _)
      | succ n28 ih28 =>
        intro τ26 x27 hlt28 hh28
        have hw := hs28 τ26 x27 hh28
        refine z_iload C 5 (by rfl) dX8_give_45 ?_
        refine z_iload_n C 3 (by rfl) dX8_give_47 ?_
        refine z_icmp_ge (tgt := 84) C dX8_give_48 (by decide) (fun c29 => ?_) (fun c29 => ?_)
        · have hw := hw.1 c29
          refine z_aload C 4 (by rfl) dX8_give_84 ?_
          refine z_get C (Cn := RX1) (T := TX1) (N := 14) (ci := 1) hj22.2 1 (tE1 hj22.1) in_X8_give_X1 rfl (by decide) mw_X8_give_2 rfl rfl dX8_give_86 ?_
          refine z_widen (4, 24) (Nat.le_of_ble_eq_true rfl) (Nat.le_of_ble_eq_true rfl) ?_
          exact hR _ _ _ _ dX8_give_89 hw
        · have hw := hw.2 c29
          refine z_aload_n C 0 (by rfl) dX8_give_51 ?_
          refine z_get C (Cn := RX8) (T := TX8) (N := 4) (ci := 7) h0.2 3 (tE7 h0.1) in_X8_give_X8 rfl (by decide) mw_X8_give_3 rfl rfl dX8_give_52 ?_
          refine z_iload_n C 1 (by rfl) dX8_give_55 ?_
          obtain ⟨s30, hw⟩ := hw
          refine z_aald_q4 C (tR7_3 h0).2 (tE17 (tR7_3 h0).1) s30 (if_pos (tp_lt s30)) dX8_give_56 ?_
          refine z_aload C 4 (by rfl) dX8_give_57 ?_
          refine z_get C (Cn := RX1) (T := TX1) (N := 14) (ci := 1) hj22.2 1 (tE1 hj22.1) in_X8_give_X1 rfl (by decide) mw_X8_give_2 rfl rfl dX8_give_59 ?_
          refine z_iload_n C 2 (by rfl) dX8_give_62 ?_
          refine z_iload C 5 (by rfl) dX8_give_63 ?_
          refine z_iadd C dX8_give_65 ?_
          obtain ⟨s31, hw⟩ := hw
          refine z_iast C (tR17 (tR7_3 h0) (tp_lt s30)).2 (fun _ => tE18 (tR17 (tR7_3 h0) (tp_lt s30)).1) s31 dX8_give_66 (fun τ32 eτ32 => ?_)
          have hw := hw τ32 eτ32
          refine z_aload C 4 (by rfl) dX8_give_67 ?_
          refine z_dup C rfl dX8_give_69 ?_
          refine z_get C (Cn := RX1) (T := TX1) (N := 14) (ci := 1) hj22.2 1 (tE1 hj22.1) in_X8_give_X1 rfl (by decide) mw_X8_give_2 rfl rfl dX8_give_70 ?_
          refine z_iconst C 1 (by decide) dX8_give_73 ?_
          refine z_iadd C dX8_give_74 ?_
          refine z_put C (Cn := RX1) (T := TX1) (N := 14) (ci := 1) hj22.2 1 (tE1 hj22.1) (tS1_1 hj22.1 _) in_X8_give_X1 tyX1 tyX1_ok nmX1 rfl (by decide) mw_X8_give_2 rfl rfl (tyX1_ok 1 (by decide)) rfl rfl (Nat.le_of_ble_eq_true rfl) dX8_give_75 (fun τ33 eτ33 => ?_)
          have hw := hw τ33 eτ33
          obtain ⟨x34, ex34⟩ : ∃ z : Int32, z = x27 + 1 := ⟨_, rfl⟩
          have hw := hw x34 ex34
          refine z_iinc C 5 x34 [(5, .int x34), (0, .ref (w.1 i0)), (1, .int x1), (2, .int x2), (3, .int x3), (4, .ref (w.1 j22))] dX8_give_78 (by rfl) (by rw [ex34]; rfl) (by decide) rfl ?_
          refine z_goto (tgt := 45) C dX8_give_81 (by decide) ?_
          refine z_sub [1, 2, 3, 4, 5, 0] [(0, .ref (w.1 i0)), (1, .int x1), (2, .int x2), (3, .int x3), (4, .ref (w.1 j22)), (5, .int x34)] rfl ?_
          exact ih28 τ33 x34 (Nat.lt_of_lt_of_le hw.2 (Nat.le_of_lt_succ hlt28)) hw.1
    refine z_sub [2, 3, 4, 5, 1, 0] [(0, .ref (w.1 i0)), (1, .int x1), (2, .int x2), (3, .int x3), (4, .ref (w.1 j22)), (5, .int 0)] rfl ?_
    exact lp28 _ τ24 0 (Nat.lt_succ_self _) hI28
  · have hw := hw.2 c25
    exact hT _ _ _ _ _ 37 121 41 2 "more than 200 pieces" mw_X8_give_0 mw_X8_give_1 ix_X8_give_2 (by simp [tp_strs]) tp_o2 tp_n2 tp_f2 ⟨dX8_give_32, dX8_give_35⟩ (Or.inr ⟨dX8_give_36, dX8_give_38, dX8_give_41⟩) (Nat.le_of_ble_eq_true rfl) (Nat.le_of_ble_eq_true rfl) (Nat.le_of_ble_eq_true rfl) (Nat.le_of_ble_eq_true rfl) hw
def wpx_X8_close (τ : TS) (i0 : Nat) (x1 : Int32) (K : TS → Int32 → Prop) (X : TS → Nat → Prop) : Prop :=
  wpx_X8_callerOf τ i0 x1 (fun τ21 j22 => wpx_X8_checkTakesThings τ21 j22 (fun τ23 => ∀ τ24 : TS, τ24 = tp_up τ23 j22 2 1 → wp_X1_things τ24 j22 (fun τ25 x26 => K τ25 (x26 - (τ25 j22 3)))) X) X
set_option maxHeartbeats 4000000 in
set_option maxRecDepth 100000 in
theorem cx_X8_close (w : WPar) (τ : TS) (i0 : Nat) (x1 : Int32) (K : TS → Int32 → Prop) (X : TS → Nat → Prop) (hl : w.2.1.stackTraces = false) (h0 : tp_is w i0 7) (hw : wpx_X8_close τ i0 x1 K X) : XI w yX8_close wsX8_close 8 124 2 12 [.ref (w.1 i0), .int x1] τ K X := by
  refine tp_enterXI (cc := cX8_close) (maxL := 3) hl (by decide) rfl rfl (Nat.le_of_ble_eq_true rfl) (fun g C D hR hRX hT => ?_)
  show Zt w g τ (0, 0) 0 [(0, .ref (w.1 i0)), (1, .int x1)] []
  unfold wpx_X8_close at hw
  refine z_aload_n C 0 (by rfl) dX8_close_0 ?_
  refine z_iload_n C 1 (by rfl) dX8_close_1 ?_
  refine xv_r C D (As := [.int x1]) (bytes := cX8_callerOf) (maxL := 2) (F1 := 7) (L1 := 103) (mc := 1) (ms := 6) (cx_X8_callerOf w _ i0 x1 _ _ hl h0 hw) h0.2 (tE7 h0.1) rfl 1 gX8_close_X8_callerOf rfl (by decide +kernel) ⟨Nat.le_of_ble_eq_true rfl, Nat.le_of_ble_eq_true rfl⟩ rfl (Nat.le_of_ble_eq_true rfl) (k2 := (1, 6)) rfl ⟨Nat.le_of_ble_eq_true rfl, Nat.le_of_ble_eq_true rfl⟩ rfl dX8_close_2 (fun _ _ hx => hRX _ _ _ _ _ (Nat.le_of_ble_eq_true rfl) (Nat.le_of_ble_eq_true rfl) hx) (fun τ21 j22 hw hj22 => ?_)
  refine z_astore_n C [(2, .ref (w.1 j22)), (0, .ref (w.1 i0)), (1, .int x1)] dX8_close_5 (by decide) rfl ?_
  refine z_aload_n C 0 (by rfl) dX8_close_6 ?_
  refine xs_v C D (As := [.ref (w.1 j22)]) (bytes := cX8_checkTakesThings) (maxL := 1) (F1 := 6) (L1 := 82) (mc := 1) (ms := 6) (cx_X8_checkTakesThings w _ j22 _ _ hl hj22 hw) 1 gX8_close_X8_checkTakesThings rfl (by decide +kernel) ⟨Nat.le_of_ble_eq_true rfl, Nat.le_of_ble_eq_true rfl⟩ rfl (Nat.le_of_ble_eq_true rfl) (k2 := (2, 12)) rfl ⟨Nat.le_of_ble_eq_true rfl, Nat.le_of_ble_eq_true rfl⟩ rfl dX8_close_7 (fun _ _ hx => hRX _ _ _ _ _ (Nat.le_of_ble_eq_true rfl) (Nat.le_of_ble_eq_true rfl) hx) (fun τ23 hw => ?_)
  refine z_aload_n C 0 (by rfl) dX8_close_10 ?_
  refine z_iconst C 1 (by decide) dX8_close_11 ?_
  refine z_put C (Cn := RX1) (T := TX1) (N := 14) (ci := 1) hj22.2 2 (tE1 hj22.1) (tS1_2 hj22.1 _) in_X8_close_X1 tyX1 tyX1_ok nmX1 rfl (by decide) mw_X8_close_0 rfl rfl (tyX1_ok 2 (by decide)) tp_z1.1 tp_z1.2.1 (Nat.le_of_ble_eq_true rfl) dX8_close_12 (fun τ24 eτ24 => ?_)
  have hw := hw τ24 eτ24
  refine z_aload_n C 0 (by rfl) dX8_close_15 ?_
  refine zv_i C (As := []) (bytes := cX1_things) (maxL := 1) (F1 := 0) (L1 := 0) (c_X1_things w _ j22 _ hj22 hw) hj22.2 (tE1 hj22.1) rfl 0 gX8_close_X1_things rfl (by decide +kernel) ⟨Nat.le_of_ble_eq_true rfl, Nat.le_of_ble_eq_true rfl⟩ rfl (Nat.le_of_ble_eq_true rfl) ⟨Nat.le_of_ble_eq_true rfl, Nat.le_of_ble_eq_true rfl⟩ rfl dX8_close_16 (fun x26 τ25 hw => ?_)
  refine z_aload_n C 0 (by rfl) dX8_close_19 ?_
  refine z_get C (Cn := RX1) (T := TX1) (N := 14) (ci := 1) hj22.2 3 (tE1 hj22.1) in_X8_close_X1 rfl (by decide) mw_X8_close_1 rfl rfl dX8_close_20 ?_
  refine z_isub C dX8_close_23 ?_
  exact hR _ _ _ _ dX8_close_24 hw
def wpx_X8_read (τ : TS) (i0 : Nat) (x1 : Int32) (x2 : Int32) (K : TS → Int32 → Prop) (X : TS → Nat → Prop) : Prop :=
  wpx_X8_connectionOf τ i0 x1 (fun τ21 j22 => wpx_X8_checkRange τ21 x2 1 50 (fun τ23 => wp_X2_unread τ23 j22 (fun τ24 x25 => ∀ x26 : Int32, x26 = (if x25 < x2 then x25 else x2) → ((0 < x26) → (wp_X0_spare τ24 (j22 + 3) (fun τ28 x29 => ∃ J30 : Int32 → Prop, (∀ (x31 : Int32), J30 x31 → (∃ (I35 : TS → Int32 → Int32 → Prop) (u35 : TS → Int32 → Int32 → Nat), I35 τ28 0 0 ∧ ∀ (τ32 : TS) (x33 : Int32) (x34 : Int32), I35 τ32 x33 x34 → (((x26 ≤ x34) → (((x31 = 0) → (K τ32 x33)) ∧ ((¬ x31 = 0) → (wp_X0_spare τ32 (j22 + 3) (fun τ38 x39 => ((x39 = 0) → (K τ38 x33)) ∧ ((¬ x39 = 0) → (wp_X6_sendAnswer τ38 17 x1 (fun τ41 => K τ41 x33)))))))) ∧ ((¬ x26 ≤ x34) → (((200 ≤ (τ32 (j22 + 3) 2)) → (((x31 = 0) → (K τ32 x33)) ∧ ((¬ x31 = 0) → (wp_X0_spare τ32 (j22 + 3) (fun τ44 x45 => ((x45 = 0) → (K τ44 x33)) ∧ ((¬ x45 = 0) → (wp_X6_sendAnswer τ44 17 x1 (fun τ47 => K τ47 x33)))))))) ∧ ((¬ 200 ≤ (τ32 (j22 + 3) 2)) → (vp_in x1 6 ∧ (vp_in (τ32 (j22 + 3) 2) 200 ∧ (∀ x50 : Int32, x50 = (x33 + (τ32 (228 + (Int32.toNatClampNeg x1)) (Int32.toNatClampNeg (τ32 (j22 + 3) 2)))) → ∀ τ51 : TS, τ51 = tp_up τ32 (j22 + 3) 2 ((τ32 (j22 + 3) 2) + 1) → ∀ x52 : Int32, x52 = x34 + 1 → I35 τ51 x50 x52 ∧ u35 τ51 x50 x52 < u35 τ32 x33 x34))))))))) ∧ (((¬ x29 = 0) → (J30 0)) ∧ ((x29 = 0) → (J30 1)))))) ∧ ((¬ 0 < x26) → (X τ24 2)))) X) X
theorem mw_X8_read_0 : Cond.classLink RX8 37 "java/lang/IllegalStateException" ∈ wsX8_read := List.mem_of_getElem? (i := 1) rfl
theorem mw_X8_read_1 : Cond.initialized "java/lang/IllegalStateException" ∈ wsX8_read := List.mem_of_getElem? (i := 2) rfl
theorem ix_X8_read_2 : ∀ x ∈ (vx_atS RX8 41 (tp_exn 2) tp_sup).filter goodWord, x ∈ wsX8_read := fun _ h => List.mem_cons_of_mem _ (List.mem_append_left _ (List.mem_append_left _ (List.mem_append_right _ h)))
set_option maxHeartbeats 4000000 in
set_option maxRecDepth 100000 in
theorem cx_X8_read (w : WPar) (τ : TS) (i0 : Nat) (x1 : Int32) (x2 : Int32) (K : TS → Int32 → Prop) (X : TS → Nat → Prop) (hl : w.2.1.stackTraces = false) (h0 : tp_is w i0 7) (hw : wpx_X8_read τ i0 x1 x2 K X) : XI w yX8_read wsX8_read 7 104 3 18 [.ref (w.1 i0), .int x1, .int x2] τ K X := by
  refine tp_enterXI (cc := cX8_read) (maxL := 9) hl (by decide) rfl rfl (Nat.le_of_ble_eq_true rfl) (fun g C D hR hRX hT => ?_)
  show Zt w g τ (0, 0) 0 [(0, .ref (w.1 i0)), (1, .int x1), (2, .int x2)] []
  unfold wpx_X8_read at hw
  refine z_aload_n C 0 (by rfl) dX8_read_0 ?_
  refine z_iload_n C 1 (by rfl) dX8_read_1 ?_
  refine xv_r C D (As := [.int x1]) (bytes := cX8_connectionOf) (maxL := 2) (F1 := 6) (L1 := 82) (mc := 1) (ms := 6) (cx_X8_connectionOf w _ i0 x1 _ _ hl h0 hw) h0.2 (tE7 h0.1) rfl 1 gX8_read_X8_connectionOf rfl (by decide +kernel) ⟨Nat.le_of_ble_eq_true rfl, Nat.le_of_ble_eq_true rfl⟩ rfl (Nat.le_of_ble_eq_true rfl) (k2 := (1, 6)) rfl ⟨Nat.le_of_ble_eq_true rfl, Nat.le_of_ble_eq_true rfl⟩ rfl dX8_read_2 (fun _ _ hx => hRX _ _ _ _ _ (Nat.le_of_ble_eq_true rfl) (Nat.le_of_ble_eq_true rfl) hx) (fun τ21 j22 hw hj22 => ?_)
  refine z_astore_n C [(3, .ref (w.1 j22)), (0, .ref (w.1 i0)), (1, .int x1), (2, .int x2)] dX8_read_5 (by decide) rfl ?_
  refine z_iload_n C 3 (by rfl) dX8_read_6 ?_
  refine z_iconst C 1 (by decide) dX8_read_7 ?_
  refine z_bipush C 50 (by decide) dX8_read_8 ?_
  refine xs_v C D (As := [.int x2, .int 1, .int 50]) (bytes := cX8_checkRange) (maxL := 3) (F1 := 6) (L1 := 82) (mc := 1) (ms := 6) (cx_X8_checkRange w _ x2 1 50 _ _ hl  hw) 3 gX8_read_X8_checkRange rfl (by decide +kernel) ⟨Nat.le_of_ble_eq_true rfl, Nat.le_of_ble_eq_true rfl⟩ rfl (Nat.le_of_ble_eq_true rfl) (k2 := (2, 12)) rfl ⟨Nat.le_of_ble_eq_true rfl, Nat.le_of_ble_eq_true rfl⟩ rfl dX8_read_10 (fun _ _ hx => hRX _ _ _ _ _ (Nat.le_of_ble_eq_true rfl) (Nat.le_of_ble_eq_true rfl) hx) (fun τ23 hw => ?_)
  refine z_iload_n C 3 (by rfl) dX8_read_13 ?_
  refine z_aload_n C 0 (by rfl) dX8_read_14 ?_
  refine zv_i C (As := []) (bytes := cX2_unread) (maxL := 1) (F1 := 1) (L1 := 13) (c_X2_unread w _ j22 _ hj22 hw) hj22.2 (tE2 hj22.1) rfl 0 gX8_read_X2_unread rfl (by decide +kernel) ⟨Nat.le_of_ble_eq_true rfl, Nat.le_of_ble_eq_true rfl⟩ rfl (Nat.le_of_ble_eq_true rfl) ⟨Nat.le_of_ble_eq_true rfl, Nat.le_of_ble_eq_true rfl⟩ rfl dX8_read_15 (fun x25 τ24 hw => ?_)
  refine z_min C mw_X8_read_2 mw_X8_read_3 mw_X8_read_4 mw_X8_read_5 (Nat.le_of_ble_eq_true rfl) (Nat.le_of_ble_eq_true rfl) (Nat.le_of_ble_eq_true rfl) (Nat.le_of_ble_eq_true rfl) dX8_read_18 ?_
  refine z_top (fun x26 ex26 => ?_)
  have hw := hw x26 ex26
  refine z_istore C [(4, .int x26), (3, .ref (w.1 j22)), (0, .ref (w.1 i0)), (1, .int x1), (2, .int x2)] dX8_read_21 (by decide) rfl ?_
  refine z_iload C 0 (by rfl) dX8_read_23 ?_
  refine z_if_gt (tgt := 38) C dX8_read_25 (by decide) (fun c27 => ?_) (fun c27 => ?_)
  · have hw := hw.1 c27
    refine z_aload_n C 1 (by rfl) dX8_read_38 ?_
    refine z_get C (Cn := RX2) (T := TX2) (N := 4) (ci := 2) hj22.2 3 (tE2 hj22.1) in_X8_read_X2 rfl (by decide) mw_X8_read_6 rfl rfl dX8_read_39 ?_
    refine z_astore C [(5, .ref (w.1 (j22 + 3))), (4, .int x26), (3, .ref (w.1 j22)), (0, .ref (w.1 i0)), (1, .int x1), (2, .int x2)] dX8_read_42 (by decide) rfl ?_
    refine z_aload C 0 (by rfl) dX8_read_44 ?_
    refine zv_i C (As := []) (bytes := cX0_spare) (maxL := 1) (F1 := 1) (L1 := 13) (c_X0_spare w _ (j22 + 3) _ (tR2_3 hj22) hw) (tR2_3 hj22).2 (tE0 (tR2_3 hj22).1) rfl 0 gX8_read_X0_spare rfl (by decide +kernel) ⟨Nat.le_of_ble_eq_true rfl, Nat.le_of_ble_eq_true rfl⟩ rfl (Nat.le_of_ble_eq_true rfl) ⟨Nat.le_of_ble_eq_true rfl, Nat.le_of_ble_eq_true rfl⟩ rfl dX8_read_46 (fun x29 τ28 hw => ?_)
    obtain ⟨J30, hJ30, hw⟩ := hw
    have jn30 : ∀ (x31 : Int32), J30 x31 → Zt w g τ28 (2, 12) 57 [(0, .ref (w.1 i0)), (1, .int x1), (4, .int x26), (5, .ref (w.1 (j22 + 3)))] [.int x31] := by
      intro x31 hj30
      have hw := hJ30 x31 hj30
      refine z_istore C [(6, .int x31), (0, .ref (w.1 i0)), (1, .int x1), (4, .int x26), (5, .ref (w.1 (j22 + 3)))] dX8_read_57 (by decide) rfl ?_
      refine z_iconst C 0 (by decide) dX8_read_59 ?_
      refine z_istore C [(7, .int 0), (6, .int x31), (0, .ref (w.1 i0)), (1, .int x1), (4, .int x26), (5, .ref (w.1 (j22 + 3)))] dX8_read_60 (by decide) rfl ?_
      refine z_iconst C 0 (by decide) dX8_read_62 ?_
      refine z_istore C [(8, .int 0), (7, .int 0), (6, .int x31), (0, .ref (w.1 i0)), (1, .int x1), (4, .int x26), (5, .ref (w.1 (j22 + 3)))] dX8_read_63 (by decide) rfl ?_
      obtain ⟨I35, u35, hI35, hs35⟩ := hw
      have lp35 : ∀ (n35 : Nat) (τ32 : TS) (x33 : Int32) (x34 : Int32), u35 τ32 x33 x34 < n35 → I35 τ32 x33 x34 → Zt w g τ32 (2, 12) 65 [(0, .ref (w.1 i0)), (1, .int x1), (4, .int x26), (5, .ref (w.1 (j22 + 3))), (6, .int x31), (7, .int x33), (8, .int x34)] [] := by
        intro n35
        induction n35 with
        | zero => intro τ32 x33 x34 hlt35; exact absurd hlt35 (Nat.not_lt_zero _)
        | succ n35 ih35 =>
          intro τ32 x33 x34 hlt35 hh35
          have hw := hs35 τ32 x33 x34 hh35
          refine z_iload C 6 (by rfl) dX8_read_65 ?_
          refine z_iload C 2 (by rfl) dX8_read_67 ?_
          refine z_icmp_ge (tgt := 117) C dX8_read_69 (by decide) (fun c36 => ?_) (fun c36 => ?_)
          · have hw := hw.1 c36
            refine z_iload C 4 (by rfl) dX8_read_117 ?_
            refine z_if_eq (tgt := 138) C dX8_read_119 (by decide) (fun c37 => ?_) (fun c37 => ?_)
            · have hw := hw.1 c37
              refine z_iload C 5 (by rfl) dX8_read_138 ?_
              refine z_widen (3, 18) (Nat.le_of_ble_eq_true rfl) (Nat.le_of_ble_eq_true rfl) ?_
              exact hR _ _ _ _ dX8_read_140 hw
            · have hw := hw.2 c37
              refine z_aload C 3 (by rfl) dX8_read_122 ?_
              refine zv_i C (As := []) (bytes := cX0_spare) (maxL := 1) (F1 := 1) (L1 := 13) (c_X0_spare w _ (j22 + 3) _ (tR2_3 hj22) hw) (tR2_3 hj22).2 (tE0 (tR2_3 hj22).1) rfl 0 gX8_read_X0_spare rfl (by decide +kernel) ⟨Nat.le_of_ble_eq_true rfl, Nat.le_of_ble_eq_true rfl⟩ rfl (Nat.le_of_ble_eq_true rfl) ⟨Nat.le_of_ble_eq_true rfl, Nat.le_of_ble_eq_true rfl⟩ rfl dX8_read_124 (fun x39 τ38 hw => ?_)
              refine z_if_eq (tgt := 138) C dX8_read_127 (by decide) (fun c40 => ?_) (fun c40 => ?_)
              · have hw := hw.1 c40
                refine z_iload C 5 (by rfl) dX8_read_138 ?_
                refine z_widen (3, 18) (Nat.le_of_ble_eq_true rfl) (Nat.le_of_ble_eq_true rfl) ?_
                exact hR _ _ _ _ dX8_read_140 hw
              · have hw := hw.2 c40
                refine z_aload_n C 0 (by rfl) dX8_read_130 ?_
                refine z_get C (Cn := RX8) (T := TX8) (N := 4) (ci := 7) h0.2 1 (tE7 h0.1) in_X8_read_X8 rfl (by decide) mw_X8_read_9 rfl rfl dX8_read_131 ?_
                refine z_iload_n C 1 (by rfl) dX8_read_134 ?_
                refine zv_v C (As := [.int x1]) (bytes := cX6_sendAnswer) (maxL := 5) (F1 := 3) (L1 := 72) (c_X6_sendAnswer w _ 17 x1 _ (tR7_1 h0) hw) (tR7_1 h0).2 (tE5 (tR7_1 h0).1) rfl 1 gX8_read_X6_sendAnswer rfl (by decide +kernel) ⟨Nat.le_of_ble_eq_true rfl, Nat.le_of_ble_eq_true rfl⟩ rfl (Nat.le_of_ble_eq_true rfl) ⟨Nat.le_of_ble_eq_true rfl, Nat.le_of_ble_eq_true rfl⟩ rfl dX8_read_135 (fun τ41 hw => ?_)
                refine z_iload C 5 (by rfl) dX8_read_138 ?_
                refine z_widen (3, 18) (Nat.le_of_ble_eq_true rfl) (Nat.le_of_ble_eq_true rfl) ?_
                exact hR _ _ _ _ dX8_read_140 hw
          · have hw := hw.2 c36
            refine z_aload C 3 (by rfl) dX8_read_72 ?_
            refine z_get C (Cn := RX0) (T := TX0) (N := 4) (ci := 0) (tR2_3 hj22).2 2 (tE0 (tR2_3 hj22).1) in_X8_read_X0 rfl (by decide) mw_X8_read_7 rfl rfl dX8_read_74 ?_
            refine z_sipush C 200 (by decide) dX8_read_77 ?_
            refine z_icmp_ge (tgt := 117) C dX8_read_80 (by decide) (fun c42 => ?_) (fun c42 => ?_)
            · have hw := hw.1 c42
              refine z_iload C 4 (by rfl) dX8_read_117 ?_
              refine z_if_eq (tgt := 138) C dX8_read_119 (by decide) (fun c43 => ?_) (fun c43 => ?_)
              · have hw := hw.1 c43
                refine z_iload C 5 (by rfl) dX8_read_138 ?_
                refine z_widen (3, 18) (Nat.le_of_ble_eq_true rfl) (Nat.le_of_ble_eq_true rfl) ?_
                exact hR _ _ _ _ dX8_read_140 hw
              · have hw := hw.2 c43
                refine z_aload C 3 (by rfl) dX8_read_122 ?_
                refine zv_i C (As := []) (bytes := cX0_spare) (maxL := 1) (F1 := 1) (L1 := 13) (c_X0_spare w _ (j22 + 3) _ (tR2_3 hj22) hw) (tR2_3 hj22).2 (tE0 (tR2_3 hj22).1) rfl 0 gX8_read_X0_spare rfl (by decide +kernel) ⟨Nat.le_of_ble_eq_true rfl, Nat.le_of_ble_eq_true rfl⟩ rfl (Nat.le_of_ble_eq_true rfl) ⟨Nat.le_of_ble_eq_true rfl, Nat.le_of_ble_eq_true rfl⟩ rfl dX8_read_124 (fun x45 τ44 hw => ?_)
                refine z_if_eq (tgt := 138) C dX8_read_127 (by decide) (fun c46 => ?_) (fun c46 => ?_)
                · have hw := hw.1 c46
                  refine z_iload C 5 (by rfl) dX8_read_138 ?_
                  refine z_widen (3, 18) (Nat.le_of_ble_eq_true rfl) (Nat.le_of_ble_eq_true rfl) ?_
                  exact hR _ _ _ _ dX8_read_140 hw
                · have hw := hw.2 c46
                  refine z_aload_n C 0 (by rfl) dX8_read_130 ?_
                  refine z_get C (Cn := RX8) (T := TX8) (N := 4) (ci := 7) h0.2 1 (tE7 h0.1) in_X8_read_X8 rfl (by decide) mw_X8_read_9 rfl rfl dX8_read_131 ?_
                  refine z_iload_n C 1 (by rfl) dX8_read_134 ?_
                  refine zv_v C (As := [.int x1]) (bytes := cX6_sendAnswer) (maxL := 5) (F1 := 3) (L1 := 72) (c_X6_sendAnswer w _ 17 x1 _ (tR7_1 h0) hw) (tR7_1 h0).2 (tE5 (tR7_1 h0).1) rfl 1 gX8_read_X6_sendAnswer rfl (by decide +kernel) ⟨Nat.le_of_ble_eq_true rfl, Nat.le_of_ble_eq_true rfl⟩ rfl (Nat.le_of_ble_eq_true rfl) ⟨Nat.le_of_ble_eq_true rfl, Nat.le_of_ble_eq_true rfl⟩ rfl dX8_read_135 (fun τ47 hw => ?_)
                  refine z_iload C 5 (by rfl) dX8_read_138 ?_
                  refine z_widen (3, 18) (Nat.le_of_ble_eq_true rfl) (Nat.le_of_ble_eq_true rfl) ?_
                  exact hR _ _ _ _ dX8_read_140 hw
            · have hw := hw.2 c42
              refine z_iload C 5 (by rfl) dX8_read_83 ?_
              refine z_aload_n C 0 (by rfl) dX8_read_85 ?_
              refine z_get C (Cn := RX8) (T := TX8) (N := 4) (ci := 7) h0.2 3 (tE7 h0.1) in_X8_read_X8 rfl (by decide) mw_X8_read_8 rfl rfl dX8_read_86 ?_
              refine z_iload_n C 1 (by rfl) dX8_read_89 ?_
              obtain ⟨s48, hw⟩ := hw
              refine z_aald_q4 C (tR7_3 h0).2 (tE17 (tR7_3 h0).1) s48 (if_pos (tp_lt s48)) dX8_read_90 ?_
              refine z_aload C 3 (by rfl) dX8_read_91 ?_
              refine z_get C (Cn := RX0) (T := TX0) (N := 4) (ci := 0) (tR2_3 hj22).2 2 (tE0 (tR2_3 hj22).1) in_X8_read_X0 rfl (by decide) mw_X8_read_7 rfl rfl dX8_read_93 ?_
              obtain ⟨s49, hw⟩ := hw
              refine z_iald C (tR17 (tR7_3 h0) (tp_lt s48)).2 (tE18 (tR17 (tR7_3 h0) (tp_lt s48)).1) s49 dX8_read_96 ?_
              refine z_iadd C dX8_read_97 ?_
              refine z_top (fun x50 ex50 => ?_)
              have hw := hw x50 ex50
              refine z_istore C [(7, .int x50), (0, .ref (w.1 i0)), (1, .int x1), (4, .int x26), (5, .ref (w.1 (j22 + 3))), (6, .int x31), (8, .int x34)] dX8_read_98 (by decide) rfl ?_
              refine z_aload C 4 (by rfl) dX8_read_100 ?_
              refine z_dup C rfl dX8_read_102 ?_
              refine z_get C (Cn := RX0) (T := TX0) (N := 4) (ci := 0) (tR2_3 hj22).2 2 (tE0 (tR2_3 hj22).1) in_X8_read_X0 rfl (by decide) mw_X8_read_7 rfl rfl dX8_read_103 ?_
              refine z_iconst C 1 (by decide) dX8_read_106 ?_
              refine z_iadd C dX8_read_107 ?_
              refine z_put C (Cn := RX0) (T := TX0) (N := 4) (ci := 0) (tR2_3 hj22).2 2 (tE0 (tR2_3 hj22).1) (tS0_2 (tR2_3 hj22).1 _) in_X8_read_X0 tyX0 tyX0_ok nmX0 rfl (by decide) mw_X8_read_7 rfl rfl (tyX0_ok 2 (by decide)) rfl rfl (Nat.le_of_ble_eq_true rfl) dX8_read_108 (fun τ51 eτ51 => ?_)
              have hw := hw τ51 eτ51
              obtain ⟨x52, ex52⟩ : ∃ z : Int32, z = x34 + 1 := ⟨_, rfl⟩
              have hw := hw x52 ex52
              refine z_iinc C 6 x52 [(8, .int x52), (7, .int x50), (0, .ref (w.1 i0)), (1, .int x1), (4, .int x26), (5, .ref (w.1 (j22 + 3))), (6, .int x31)] dX8_read_111 (by rfl) (by rw [ex52]; rfl) (by decide) rfl ?_
              refine z_goto (tgt := 65) C dX8_read_114 (by decide) ?_
              refine z_sub [2, 3, 4, 5, 6, 1, 0] [(0, .ref (w.1 i0)), (1, .int x1), (4, .int x26), (5, .ref (w.1 (j22 + 3))), (6, .int x31), (7, .int x50), (8, .int x52)] rfl ?_
              exact ih35 τ51 x50 x52 (Nat.lt_of_lt_of_le hw.2 (Nat.le_of_lt_succ hlt35)) hw.1
      refine z_sub [3, 4, 5, 6, 2, 1, 0] [(0, .ref (w.1 i0)), (1, .int x1), (4, .int x26), (5, .ref (w.1 (j22 + 3))), (6, .int x31), (7, .int 0), (8, .int 0)] rfl ?_
      exact lp35 _ τ28 0 0 (Nat.lt_succ_self _) hI35
    refine z_if_ne (tgt := 56) C dX8_read_49 (by decide) (fun c53 => ?_) (fun c53 => ?_)
    · have hw := hw.1 c53
      refine z_iconst C 0 (by decide) dX8_read_56 ?_
      refine z_sub [3, 4, 1, 0] [(0, .ref (w.1 i0)), (1, .int x1), (4, .int x26), (5, .ref (w.1 (j22 + 3)))] rfl ?_
      exact jn30 0 hw
    · have hw := hw.2 c53
      refine z_iconst C 1 (by decide) dX8_read_52 ?_
      refine z_goto (tgt := 57) C dX8_read_53 (by decide) ?_
      refine z_sub [3, 4, 1, 0] [(0, .ref (w.1 i0)), (1, .int x1), (4, .int x26), (5, .ref (w.1 (j22 + 3)))] rfl ?_
      exact jn30 1 hw
  · have hw := hw.2 c27
    exact hT _ _ _ _ _ 37 148 41 2 "there is none to be read" mw_X8_read_0 mw_X8_read_1 ix_X8_read_2 (by simp [tp_strs]) tp_o2 tp_n2 tp_f2 ⟨dX8_read_28, dX8_read_31⟩ (Or.inr ⟨dX8_read_32, dX8_read_34, dX8_read_37⟩) (Nat.le_of_ble_eq_true rfl) (Nat.le_of_ble_eq_true rfl) (Nat.le_of_ble_eq_true rfl) (Nat.le_of_ble_eq_true rfl) hw
def wpx_X8_given (τ : TS) (i0 : Nat) (x1 : Int32) (K : TS → Int32 → Prop) (X : TS → Nat → Prop) : Prop :=
  wpx_X8_callerOf τ i0 x1 (fun τ21 j22 => K τ21 (τ21 j22 1)) X
set_option maxHeartbeats 4000000 in
set_option maxRecDepth 100000 in
theorem cx_X8_given (w : WPar) (τ : TS) (i0 : Nat) (x1 : Int32) (K : TS → Int32 → Prop) (X : TS → Nat → Prop) (hl : w.2.1.stackTraces = false) (h0 : tp_is w i0 7) (hw : wpx_X8_given τ i0 x1 K X) : XI w yX8_given wsX8_given 8 124 1 6 [.ref (w.1 i0), .int x1] τ K X := by
  refine tp_enterXI (cc := cX8_given) (maxL := 2) hl (by decide) rfl rfl (Nat.le_of_ble_eq_true rfl) (fun g C D hR hRX hT => ?_)
  show Zt w g τ (0, 0) 0 [(0, .ref (w.1 i0)), (1, .int x1)] []
  unfold wpx_X8_given at hw
  refine z_aload_n C 0 (by rfl) dX8_given_0 ?_
  refine z_iload_n C 1 (by rfl) dX8_given_1 ?_
  refine xv_r C D (As := [.int x1]) (bytes := cX8_callerOf) (maxL := 2) (F1 := 7) (L1 := 103) (mc := 1) (ms := 6) (cx_X8_callerOf w _ i0 x1 _ _ hl h0 hw) h0.2 (tE7 h0.1) rfl 1 gX8_given_X8_callerOf rfl (by decide +kernel) ⟨Nat.le_of_ble_eq_true rfl, Nat.le_of_ble_eq_true rfl⟩ rfl (Nat.le_of_ble_eq_true rfl) (k2 := (1, 6)) rfl ⟨Nat.le_of_ble_eq_true rfl, Nat.le_of_ble_eq_true rfl⟩ rfl dX8_given_2 (fun _ _ hx => hRX _ _ _ _ _ (Nat.le_of_ble_eq_true rfl) (Nat.le_of_ble_eq_true rfl) hx) (fun τ21 j22 hw hj22 => ?_)
  refine z_get C (Cn := RX1) (T := TX1) (N := 14) (ci := 1) hj22.2 1 (tE1 hj22.1) in_X8_given_X1 rfl (by decide) mw_X8_given_0 rfl rfl dX8_given_5 ?_
  exact hR _ _ _ _ dX8_given_8 hw
def wpx_X8_readable (τ : TS) (i0 : Nat) (x1 : Int32) (K : TS → Int32 → Prop) (X : TS → Nat → Prop) : Prop :=
  wpx_X8_connectionOf τ i0 x1 (fun τ21 j22 => wp_X2_unread τ21 j22 (fun τ23 x24 => K τ23 x24)) X
set_option maxHeartbeats 4000000 in
set_option maxRecDepth 100000 in
theorem cx_X8_readable (w : WPar) (τ : TS) (i0 : Nat) (x1 : Int32) (K : TS → Int32 → Prop) (X : TS → Nat → Prop) (hl : w.2.1.stackTraces = false) (h0 : tp_is w i0 7) (hw : wpx_X8_readable τ i0 x1 K X) : XI w yX8_readable wsX8_readable 7 103 1 6 [.ref (w.1 i0), .int x1] τ K X := by
  refine tp_enterXI (cc := cX8_readable) (maxL := 2) hl (by decide) rfl rfl (Nat.le_of_ble_eq_true rfl) (fun g C D hR hRX hT => ?_)
  show Zt w g τ (0, 0) 0 [(0, .ref (w.1 i0)), (1, .int x1)] []
  unfold wpx_X8_readable at hw
  refine z_aload_n C 0 (by rfl) dX8_readable_0 ?_
  refine z_iload_n C 1 (by rfl) dX8_readable_1 ?_
  refine xv_r C D (As := [.int x1]) (bytes := cX8_connectionOf) (maxL := 2) (F1 := 6) (L1 := 82) (mc := 1) (ms := 6) (cx_X8_connectionOf w _ i0 x1 _ _ hl h0 hw) h0.2 (tE7 h0.1) rfl 1 gX8_readable_X8_connectionOf rfl (by decide +kernel) ⟨Nat.le_of_ble_eq_true rfl, Nat.le_of_ble_eq_true rfl⟩ rfl (Nat.le_of_ble_eq_true rfl) (k2 := (1, 6)) rfl ⟨Nat.le_of_ble_eq_true rfl, Nat.le_of_ble_eq_true rfl⟩ rfl dX8_readable_2 (fun _ _ hx => hRX _ _ _ _ _ (Nat.le_of_ble_eq_true rfl) (Nat.le_of_ble_eq_true rfl) hx) (fun τ21 j22 hw hj22 => ?_)
  refine zv_i C (As := []) (bytes := cX2_unread) (maxL := 1) (F1 := 1) (L1 := 13) (c_X2_unread w _ j22 _ hj22 hw) hj22.2 (tE2 hj22.1) rfl 0 gX8_readable_X2_unread rfl (by decide +kernel) ⟨Nat.le_of_ble_eq_true rfl, Nat.le_of_ble_eq_true rfl⟩ rfl (Nat.le_of_ble_eq_true rfl) ⟨Nat.le_of_ble_eq_true rfl, Nat.le_of_ble_eq_true rfl⟩ rfl dX8_readable_5 (fun x24 τ23 hw => ?_)
  exact hR _ _ _ _ dX8_readable_8 hw
