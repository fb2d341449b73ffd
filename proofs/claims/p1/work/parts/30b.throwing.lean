theorem tp_o0 : ∀ x ∈ tp_tw RX8 297 301 0, vx_ot x = true := by decide +kernel
theorem tp_n0 : ∀ x ∈ (vx_atS RX8 301 (tp_exn 0) tp_sup).filter (fun x => !goodWord x), x ∈ Cond.castable (tp_exn 0) (tp_exn 0) :: tp_decl := by decide +kernel
theorem tp_f0 : Bundle.fit (tp_exn 0) = true := by decide +kernel
theorem tp_o1 : ∀ x ∈ tp_tw RX8 52 56 1, vx_ot x = true := by decide +kernel
theorem tp_n1 : ∀ x ∈ (vx_atS RX8 56 (tp_exn 1) tp_sup).filter (fun x => !goodWord x), x ∈ Cond.castable (tp_exn 1) (tp_exn 1) :: tp_decl := by decide +kernel
theorem tp_f1 : Bundle.fit (tp_exn 1) = true := by decide +kernel
theorem tp_o2 : ∀ x ∈ tp_tw RX8 37 41 2, vx_ot x = true := by decide +kernel
theorem tp_n2 : ∀ x ∈ (vx_atS RX8 41 (tp_exn 2) tp_sup).filter (fun x => !goodWord x), x ∈ Cond.castable (tp_exn 2) (tp_exn 2) :: tp_decl := by decide +kernel
theorem tp_f2 : Bundle.fit (tp_exn 2) = true := by decide +kernel
def wpx_X8_checkNode (τ : TS) (i0 : Nat) (x1 : Int32) (K : TS → Prop) (X : TS → Nat → Prop) : Prop :=
  ((x1 < 0) → (X τ 0)) ∧ ((¬ x1 < 0) → (((x1 < (τ 1 0)) → (K τ)) ∧ ((¬ x1 < (τ 1 0)) → (X τ 0))))
theorem mw_X8_checkNode_0 : Cond.classLink RX8 297 "java/lang/IndexOutOfBoundsException" ∈ wsX8_checkNode := List.mem_of_getElem? (i := 1) rfl
theorem mw_X8_checkNode_1 : Cond.initialized "java/lang/IndexOutOfBoundsException" ∈ wsX8_checkNode := List.mem_of_getElem? (i := 2) rfl
theorem mw_X8_checkNode_2 : Cond.fieldLink RX8 12 "TidePost" "net" "LTidePost$Net;" ∈ wsX8_checkNode := List.mem_of_getElem? (i := 3) rfl
theorem mw_X8_checkNode_3 : Cond.fieldLink RX8 33 "TidePost$Net" "nodes" "I" ∈ wsX8_checkNode := List.mem_of_getElem? (i := 4) rfl
theorem ix_X8_checkNode_0 : ∀ x ∈ (vx_atS RX8 301 (tp_exn 0) tp_sup).filter goodWord, x ∈ wsX8_checkNode := fun _ h => List.mem_cons_of_mem _ (List.mem_append_right _ h)
theorem in_X8_checkNode_X8 : ∀ x ∈ wsX80, x ∈ wsX8_checkNode := fun _ h => List.mem_cons_of_mem _ (List.mem_append_left _ (List.mem_append_left _ (List.mem_append_right _ h)))
theorem in_X8_checkNode_X3 : ∀ x ∈ wsX30, x ∈ wsX8_checkNode := fun _ h => List.mem_cons_of_mem _ (List.mem_append_left _ (List.mem_append_right _ h))
set_option maxHeartbeats 4000000 in
set_option maxRecDepth 100000 in
theorem cx_X8_checkNode (w : WPar) (τ : TS) (i0 : Nat) (x1 : Int32) (K : TS → Prop) (X : TS → Nat → Prop) (hl : w.2.1.stackTraces = false) (h0 : tp_is w i0 7) (hw : wpx_X8_checkNode τ i0 x1 K X) : XV w yX8_checkNode wsX8_checkNode 6 82 1 6 [.ref (w.1 i0), .int x1] τ K X := by
  refine tp_enterXV (cc := cX8_checkNode) (maxL := 2) hl (by decide) rfl rfl (Nat.le_of_ble_eq_true rfl) (fun g C D hR hRX hT => ?_)
  show Zt w g τ (0, 0) 0 [(0, .ref (w.1 i0)), (1, .int x1)] []
  unfold wpx_X8_checkNode at hw
  refine z_iload_n C 1 (by rfl) dX8_checkNode_0 ?_
  refine z_if_lt (tgt := 15) C dX8_checkNode_1 (by decide) (fun c21 => ?_) (fun c21 => ?_)
  · have hw := hw.1 c21
    exact hT _ _ _ _ _ 297 299 301 0 "no such node" mw_X8_checkNode_0 mw_X8_checkNode_1 ix_X8_checkNode_0 (by simp [tp_strs]) tp_o0 tp_n0 tp_f0 ⟨dX8_checkNode_15, dX8_checkNode_18⟩ (Or.inl ⟨dX8_checkNode_19, dX8_checkNode_22, dX8_checkNode_25⟩) (Nat.le_of_ble_eq_true rfl) (Nat.le_of_ble_eq_true rfl) (Nat.le_of_ble_eq_true rfl) (Nat.le_of_ble_eq_true rfl) hw
  · have hw := hw.2 c21
    refine z_iload_n C 1 (by rfl) dX8_checkNode_4 ?_
    refine z_aload_n C 0 (by rfl) dX8_checkNode_5 ?_
    refine z_get C (Cn := RX8) (T := TX8) (N := 4) (ci := 7) h0.2 0 (tE7 h0.1) in_X8_checkNode_X8 rfl (by decide) mw_X8_checkNode_2 rfl rfl dX8_checkNode_6 ?_
    refine z_get C (Cn := RX3) (T := TX3) (N := 9) (ci := 3) (tR7_0 h0).2 0 (tE3 (tR7_0 h0).1) in_X8_checkNode_X3 rfl (by decide) mw_X8_checkNode_3 rfl rfl dX8_checkNode_9 ?_
    refine z_icmp_lt (tgt := 26) C dX8_checkNode_12 (by decide) (fun c22 => ?_) (fun c22 => ?_)
    · have hw := hw.1 c22
      refine z_widen (1, 6) (Nat.le_of_ble_eq_true rfl) (Nat.le_of_ble_eq_true rfl) ?_
      exact hR _ _ _ dX8_checkNode_26 hw
    · have hw := hw.2 c22
      exact hT _ _ _ _ _ 297 299 301 0 "no such node" mw_X8_checkNode_0 mw_X8_checkNode_1 ix_X8_checkNode_0 (by simp [tp_strs]) tp_o0 tp_n0 tp_f0 ⟨dX8_checkNode_15, dX8_checkNode_18⟩ (Or.inl ⟨dX8_checkNode_19, dX8_checkNode_22, dX8_checkNode_25⟩) (Nat.le_of_ble_eq_true rfl) (Nat.le_of_ble_eq_true rfl) (Nat.le_of_ble_eq_true rfl) (Nat.le_of_ble_eq_true rfl) hw
def wpx_X8_checkLink (τ : TS) (i0 : Nat) (x1 : Int32) (K : TS → Prop) (X : TS → Nat → Prop) : Prop :=
  ((x1 < 0) → (X τ 0)) ∧ ((¬ x1 < 0) → (((x1 < (τ 1 1)) → (K τ)) ∧ ((¬ x1 < (τ 1 1)) → (X τ 0))))
theorem mw_X8_checkLink_0 : Cond.classLink RX8 297 "java/lang/IndexOutOfBoundsException" ∈ wsX8_checkLink := List.mem_of_getElem? (i := 1) rfl
theorem mw_X8_checkLink_1 : Cond.initialized "java/lang/IndexOutOfBoundsException" ∈ wsX8_checkLink := List.mem_of_getElem? (i := 2) rfl
theorem mw_X8_checkLink_2 : Cond.fieldLink RX8 12 "TidePost" "net" "LTidePost$Net;" ∈ wsX8_checkLink := List.mem_of_getElem? (i := 3) rfl
theorem mw_X8_checkLink_3 : Cond.fieldLink RX8 61 "TidePost$Net" "links" "I" ∈ wsX8_checkLink := List.mem_of_getElem? (i := 4) rfl
theorem ix_X8_checkLink_0 : ∀ x ∈ (vx_atS RX8 301 (tp_exn 0) tp_sup).filter goodWord, x ∈ wsX8_checkLink := fun _ h => List.mem_cons_of_mem _ (List.mem_append_right _ h)
theorem in_X8_checkLink_X8 : ∀ x ∈ wsX80, x ∈ wsX8_checkLink := fun _ h => List.mem_cons_of_mem _ (List.mem_append_left _ (List.mem_append_left _ (List.mem_append_right _ h)))
theorem in_X8_checkLink_X3 : ∀ x ∈ wsX30, x ∈ wsX8_checkLink := fun _ h => List.mem_cons_of_mem _ (List.mem_append_left _ (List.mem_append_right _ h))
set_option maxHeartbeats 4000000 in
set_option maxRecDepth 100000 in
theorem cx_X8_checkLink (w : WPar) (τ : TS) (i0 : Nat) (x1 : Int32) (K : TS → Prop) (X : TS → Nat → Prop) (hl : w.2.1.stackTraces = false) (h0 : tp_is w i0 7) (hw : wpx_X8_checkLink τ i0 x1 K X) : XV w yX8_checkLink wsX8_checkLink 6 82 1 6 [.ref (w.1 i0), .int x1] τ K X := by
  refine tp_enterXV (cc := cX8_checkLink) (maxL := 2) hl (by decide) rfl rfl (Nat.le_of_ble_eq_true rfl) (fun g C D hR hRX hT => ?_)
  show Zt w g τ (0, 0) 0 [(0, .ref (w.1 i0)), (1, .int x1)] []
  unfold wpx_X8_checkLink at hw
  refine z_iload_n C 1 (by rfl) dX8_checkLink_0 ?_
  refine z_if_lt (tgt := 15) C dX8_checkLink_1 (by decide) (fun c21 => ?_) (fun c21 => ?_)
  · have hw := hw.1 c21
    exact hT _ _ _ _ _ 297 302 301 0 "no such link" mw_X8_checkLink_0 mw_X8_checkLink_1 ix_X8_checkLink_0 (by simp [tp_strs]) tp_o0 tp_n0 tp_f0 ⟨dX8_checkLink_15, dX8_checkLink_18⟩ (Or.inl ⟨dX8_checkLink_19, dX8_checkLink_22, dX8_checkLink_25⟩) (Nat.le_of_ble_eq_true rfl) (Nat.le_of_ble_eq_true rfl) (Nat.le_of_ble_eq_true rfl) (Nat.le_of_ble_eq_true rfl) hw
  · have hw := hw.2 c21
    refine z_iload_n C 1 (by rfl) dX8_checkLink_4 ?_
    refine z_aload_n C 0 (by rfl) dX8_checkLink_5 ?_
    refine z_get C (Cn := RX8) (T := TX8) (N := 4) (ci := 7) h0.2 0 (tE7 h0.1) in_X8_checkLink_X8 rfl (by decide) mw_X8_checkLink_2 rfl rfl dX8_checkLink_6 ?_
    refine z_get C (Cn := RX3) (T := TX3) (N := 9) (ci := 3) (tR7_0 h0).2 1 (tE3 (tR7_0 h0).1) in_X8_checkLink_X3 rfl (by decide) mw_X8_checkLink_3 rfl rfl dX8_checkLink_9 ?_
    refine z_icmp_lt (tgt := 26) C dX8_checkLink_12 (by decide) (fun c22 => ?_) (fun c22 => ?_)
    · have hw := hw.1 c22
      refine z_widen (1, 6) (Nat.le_of_ble_eq_true rfl) (Nat.le_of_ble_eq_true rfl) ?_
      exact hR _ _ _ dX8_checkLink_26 hw
    · have hw := hw.2 c22
      exact hT _ _ _ _ _ 297 302 301 0 "no such link" mw_X8_checkLink_0 mw_X8_checkLink_1 ix_X8_checkLink_0 (by simp [tp_strs]) tp_o0 tp_n0 tp_f0 ⟨dX8_checkLink_15, dX8_checkLink_18⟩ (Or.inl ⟨dX8_checkLink_19, dX8_checkLink_22, dX8_checkLink_25⟩) (Nat.le_of_ble_eq_true rfl) (Nat.le_of_ble_eq_true rfl) (Nat.le_of_ble_eq_true rfl) (Nat.le_of_ble_eq_true rfl) hw
def wpx_X8_checkRange (τ : TS) (x0 : Int32) (x1 : Int32) (x2 : Int32) (K : TS → Prop) (X : TS → Nat → Prop) : Prop :=
  ((x0 < x1) → (X τ 1)) ∧ ((¬ x0 < x1) → (((x0 ≤ x2) → (K τ)) ∧ ((¬ x0 ≤ x2) → (X τ 1))))
theorem mw_X8_checkRange_0 : Cond.classLink RX8 52 "java/lang/IllegalArgumentException" ∈ wsX8_checkRange := List.mem_of_getElem? (i := 1) rfl
theorem mw_X8_checkRange_1 : Cond.initialized "java/lang/IllegalArgumentException" ∈ wsX8_checkRange := List.mem_of_getElem? (i := 2) rfl
theorem ix_X8_checkRange_1 : ∀ x ∈ (vx_atS RX8 56 (tp_exn 1) tp_sup).filter goodWord, x ∈ wsX8_checkRange := fun _ h => List.mem_cons_of_mem _ (List.mem_append_right _ h)
set_option maxHeartbeats 4000000 in
set_option maxRecDepth 100000 in
theorem cx_X8_checkRange (w : WPar) (τ : TS) (x0 : Int32) (x1 : Int32) (x2 : Int32) (K : TS → Prop) (X : TS → Nat → Prop) (hl : w.2.1.stackTraces = false)  (hw : wpx_X8_checkRange τ x0 x1 x2 K X) : XV w yX8_checkRange wsX8_checkRange 6 82 1 6 [.int x0, .int x1, .int x2] τ K X := by
  refine tp_enterXV (cc := cX8_checkRange) (maxL := 3) hl (by decide) rfl rfl (Nat.le_of_ble_eq_true rfl) (fun g C D hR hRX hT => ?_)
  show Zt w g τ (0, 0) 0 [(0, .int x0), (1, .int x1), (2, .int x2)] []
  unfold wpx_X8_checkRange at hw
  refine z_iload_n C 0 (by rfl) dX8_checkRange_0 ?_
  refine z_iload_n C 1 (by rfl) dX8_checkRange_1 ?_
  refine z_icmp_lt (tgt := 10) C dX8_checkRange_2 (by decide) (fun c21 => ?_) (fun c21 => ?_)
  · have hw := hw.1 c21
    exact hT _ _ _ _ _ 52 304 56 1 "a number out of its range" mw_X8_checkRange_0 mw_X8_checkRange_1 ix_X8_checkRange_1 (by simp [tp_strs]) tp_o1 tp_n1 tp_f1 ⟨dX8_checkRange_10, dX8_checkRange_13⟩ (Or.inl ⟨dX8_checkRange_14, dX8_checkRange_17, dX8_checkRange_20⟩) (Nat.le_of_ble_eq_true rfl) (Nat.le_of_ble_eq_true rfl) (Nat.le_of_ble_eq_true rfl) (Nat.le_of_ble_eq_true rfl) hw
  · have hw := hw.2 c21
    refine z_iload_n C 0 (by rfl) dX8_checkRange_5 ?_
    refine z_iload_n C 2 (by rfl) dX8_checkRange_6 ?_
    refine z_icmp_le (tgt := 21) C dX8_checkRange_7 (by decide) (fun c22 => ?_) (fun c22 => ?_)
    · have hw := hw.1 c22
      refine z_widen (1, 6) (Nat.le_of_ble_eq_true rfl) (Nat.le_of_ble_eq_true rfl) ?_
      exact hR _ _ _ dX8_checkRange_21 hw
    · have hw := hw.2 c22
      exact hT _ _ _ _ _ 52 304 56 1 "a number out of its range" mw_X8_checkRange_0 mw_X8_checkRange_1 ix_X8_checkRange_1 (by simp [tp_strs]) tp_o1 tp_n1 tp_f1 ⟨dX8_checkRange_10, dX8_checkRange_13⟩ (Or.inl ⟨dX8_checkRange_14, dX8_checkRange_17, dX8_checkRange_20⟩) (Nat.le_of_ble_eq_true rfl) (Nat.le_of_ble_eq_true rfl) (Nat.le_of_ble_eq_true rfl) (Nat.le_of_ble_eq_true rfl) hw
def wpx_X8_connectionOf (τ : TS) (i0 : Nat) (x1 : Int32) (K : TS → Nat → Prop) (X : TS → Nat → Prop) : Prop :=
  ((x1 < 0) → (X τ 0)) ∧ ((¬ x1 < 0) → (((x1 < (τ 17 3)) → (vp_in x1 6 ∧ (K τ ((17 + 2) + 73 + 5 * (Int32.toNatClampNeg x1))))) ∧ ((¬ x1 < (τ 17 3)) → (X τ 0))))
theorem mw_X8_connectionOf_0 : Cond.classLink RX8 297 "java/lang/IndexOutOfBoundsException" ∈ wsX8_connectionOf := List.mem_of_getElem? (i := 1) rfl
theorem mw_X8_connectionOf_1 : Cond.initialized "java/lang/IndexOutOfBoundsException" ∈ wsX8_connectionOf := List.mem_of_getElem? (i := 2) rfl
theorem mw_X8_connectionOf_2 : Cond.fieldLink RX8 21 "TidePost" "traffic" "LTidePost$Traffic;" ∈ wsX8_connectionOf := List.mem_of_getElem? (i := 3) rfl
theorem mw_X8_connectionOf_3 : Cond.fieldLink RX8 99 "TidePost$Traffic" "made" "I" ∈ wsX8_connectionOf := List.mem_of_getElem? (i := 4) rfl
theorem mw_X8_connectionOf_4 : Cond.fieldLink RX8 247 "TidePost$Traffic" "all" "[LTidePost$Connection;" ∈ wsX8_connectionOf := List.mem_of_getElem? (i := 5) rfl
theorem ix_X8_connectionOf_0 : ∀ x ∈ (vx_atS RX8 301 (tp_exn 0) tp_sup).filter goodWord, x ∈ wsX8_connectionOf := fun _ h => List.mem_cons_of_mem _ (List.mem_append_right _ h)
theorem in_X8_connectionOf_X8 : ∀ x ∈ wsX80, x ∈ wsX8_connectionOf := fun _ h => List.mem_cons_of_mem _ (List.mem_append_left _ (List.mem_append_left _ (List.mem_append_right _ h)))
theorem in_X8_connectionOf_X6 : ∀ x ∈ wsX60, x ∈ wsX8_connectionOf := fun _ h => List.mem_cons_of_mem _ (List.mem_append_left _ (List.mem_append_right _ h))
set_option maxHeartbeats 4000000 in
set_option maxRecDepth 100000 in
theorem cx_X8_connectionOf (w : WPar) (τ : TS) (i0 : Nat) (x1 : Int32) (K : TS → Nat → Prop) (X : TS → Nat → Prop) (hl : w.2.1.stackTraces = false) (h0 : tp_is w i0 7) (hw : wpx_X8_connectionOf τ i0 x1 K X) : XR w yX8_connectionOf wsX8_connectionOf 6 82 1 6 [.ref (w.1 i0), .int x1] τ K X 2 := by
  refine tp_enterXR (cc := cX8_connectionOf) (maxL := 2) hl (by decide) rfl rfl (Nat.le_of_ble_eq_true rfl) (fun g C D hR hRX hT => ?_)
  show Zt w g τ (0, 0) 0 [(0, .ref (w.1 i0)), (1, .int x1)] []
  unfold wpx_X8_connectionOf at hw
  refine z_iload_n C 1 (by rfl) dX8_connectionOf_0 ?_
  refine z_if_lt (tgt := 15) C dX8_connectionOf_1 (by decide) (fun c21 => ?_) (fun c21 => ?_)
  · have hw := hw.1 c21
    exact hT _ _ _ _ _ 297 310 301 0 "no such connection" mw_X8_connectionOf_0 mw_X8_connectionOf_1 ix_X8_connectionOf_0 (by simp [tp_strs]) tp_o0 tp_n0 tp_f0 ⟨dX8_connectionOf_15, dX8_connectionOf_18⟩ (Or.inl ⟨dX8_connectionOf_19, dX8_connectionOf_22, dX8_connectionOf_25⟩) (Nat.le_of_ble_eq_true rfl) (Nat.le_of_ble_eq_true rfl) (Nat.le_of_ble_eq_true rfl) (Nat.le_of_ble_eq_true rfl) hw
  · have hw := hw.2 c21
    refine z_iload_n C 1 (by rfl) dX8_connectionOf_4 ?_
    refine z_aload_n C 0 (by rfl) dX8_connectionOf_5 ?_
    refine z_get C (Cn := RX8) (T := TX8) (N := 4) (ci := 7) h0.2 1 (tE7 h0.1) in_X8_connectionOf_X8 rfl (by decide) mw_X8_connectionOf_2 rfl rfl dX8_connectionOf_6 ?_
    refine z_get C (Cn := RX6) (T := TX6) (N := 6) (ci := 5) (tR7_1 h0).2 3 (tE5 (tR7_1 h0).1) in_X8_connectionOf_X6 rfl (by decide) mw_X8_connectionOf_3 rfl rfl dX8_connectionOf_9 ?_
    refine z_icmp_lt (tgt := 26) C dX8_connectionOf_12 (by decide) (fun c22 => ?_) (fun c22 => ?_)
    · have hw := hw.1 c22
      refine z_aload_n C 0 (by rfl) dX8_connectionOf_26 ?_
      refine z_get C (Cn := RX8) (T := TX8) (N := 4) (ci := 7) h0.2 1 (tE7 h0.1) in_X8_connectionOf_X8 rfl (by decide) mw_X8_connectionOf_2 rfl rfl dX8_connectionOf_27 ?_
      refine z_get C (Cn := RX6) (T := TX6) (N := 6) (ci := 5) (tR7_1 h0).2 2 (tE5 (tR7_1 h0).1) in_X8_connectionOf_X6 rfl (by decide) mw_X8_connectionOf_4 rfl rfl dX8_connectionOf_30 ?_
      refine z_iload_n C 1 (by rfl) dX8_connectionOf_33 ?_
      obtain ⟨s23, hw⟩ := hw
      refine z_aald_q3 C (tR5_2 (tR7_1 h0)).2 (tE16 (tR5_2 (tR7_1 h0)).1) s23 (if_pos (tp_lt s23)) dX8_connectionOf_34 ?_
      refine z_widen (1, 6) (Nat.le_of_ble_eq_true rfl) (Nat.le_of_ble_eq_true rfl) ?_
      exact hR _ _ _ _ dX8_connectionOf_35 (tR16 (tR5_2 (tR7_1 h0)) (tp_lt s23)) hw
    · have hw := hw.2 c22
      exact hT _ _ _ _ _ 297 310 301 0 "no such connection" mw_X8_connectionOf_0 mw_X8_connectionOf_1 ix_X8_connectionOf_0 (by simp [tp_strs]) tp_o0 tp_n0 tp_f0 ⟨dX8_connectionOf_15, dX8_connectionOf_18⟩ (Or.inl ⟨dX8_connectionOf_19, dX8_connectionOf_22, dX8_connectionOf_25⟩) (Nat.le_of_ble_eq_true rfl) (Nat.le_of_ble_eq_true rfl) (Nat.le_of_ble_eq_true rfl) (Nat.le_of_ble_eq_true rfl) hw
def wpx_X8_callerOf (τ : TS) (i0 : Nat) (x1 : Int32) (K : TS → Nat → Prop) (X : TS → Nat → Prop) : Prop :=
  wpx_X8_connectionOf τ i0 x1 (fun τ21 j22 => K τ21 (j22 + 1)) X
theorem mw_X8_callerOf_0 : Cond.fieldLink RX8 251 "TidePost$Connection" "caller" "LTidePost$Caller;" ∈ wsX8_callerOf := List.mem_of_getElem? (i := 1) rfl
theorem in_X8_callerOf_X2 : ∀ x ∈ wsX20, x ∈ wsX8_callerOf := fun _ h => List.mem_cons_of_mem _ (List.mem_append_left _ (List.mem_append_left _ (List.mem_append_left _ (List.mem_append_right _ h))))
set_option maxHeartbeats 4000000 in
set_option maxRecDepth 100000 in
theorem cx_X8_callerOf (w : WPar) (τ : TS) (i0 : Nat) (x1 : Int32) (K : TS → Nat → Prop) (X : TS → Nat → Prop) (hl : w.2.1.stackTraces = false) (h0 : tp_is w i0 7) (hw : wpx_X8_callerOf τ i0 x1 K X) : XR w yX8_callerOf wsX8_callerOf 7 103 1 6 [.ref (w.1 i0), .int x1] τ K X 1 := by
  refine tp_enterXR (cc := cX8_callerOf) (maxL := 2) hl (by decide) rfl rfl (Nat.le_of_ble_eq_true rfl) (fun g C D hR hRX hT => ?_)
  show Zt w g τ (0, 0) 0 [(0, .ref (w.1 i0)), (1, .int x1)] []
  unfold wpx_X8_callerOf at hw
  refine z_aload_n C 0 (by rfl) dX8_callerOf_0 ?_
  refine z_iload_n C 1 (by rfl) dX8_callerOf_1 ?_
  refine xv_r C D (As := [.int x1]) (bytes := cX8_connectionOf) (maxL := 2) (F1 := 6) (L1 := 82) (mc := 1) (ms := 6) (cx_X8_connectionOf w _ i0 x1 _ _ hl h0 hw) h0.2 (tE7 h0.1) rfl 1 gX8_callerOf_X8_connectionOf rfl (by decide +kernel) ⟨Nat.le_of_ble_eq_true rfl, Nat.le_of_ble_eq_true rfl⟩ rfl (Nat.le_of_ble_eq_true rfl) (k2 := (1, 6)) rfl ⟨Nat.le_of_ble_eq_true rfl, Nat.le_of_ble_eq_true rfl⟩ rfl dX8_callerOf_2 (fun _ _ hx => hRX _ _ _ _ _ (Nat.le_of_ble_eq_true rfl) (Nat.le_of_ble_eq_true rfl) hx) (fun τ21 j22 hw hj22 => ?_)
  refine z_get C (Cn := RX2) (T := TX2) (N := 4) (ci := 2) hj22.2 2 (tE2 hj22.1) in_X8_callerOf_X2 rfl (by decide) mw_X8_callerOf_0 rfl rfl dX8_callerOf_5 ?_
  exact hR _ _ _ _ dX8_callerOf_8 (tR2_2 hj22) hw
def wpx_X8_wayOf (τ : TS) (i0 : Nat) (x1 : Int32) (x2 : Int32) (K : TS → Nat → Prop) (X : TS → Nat → Prop) : Prop :=
  wpx_X8_checkLink τ i0 x1 (fun τ21 => ((x2 < 0) → (X τ21 0)) ∧ ((¬ x2 < 0) → (((x2 ≤ 1) → (vp_in ((2 * x1) + x2) 24 ∧ (K τ21 ((17 + 1) + 2 + 3 * (Int32.toNatClampNeg ((2 * x1) + x2)))))) ∧ ((¬ x2 ≤ 1) → (X τ21 0))))) X
theorem mw_X8_wayOf_0 : Cond.classLink RX8 297 "java/lang/IndexOutOfBoundsException" ∈ wsX8_wayOf := List.mem_of_getElem? (i := 1) rfl
theorem mw_X8_wayOf_1 : Cond.initialized "java/lang/IndexOutOfBoundsException" ∈ wsX8_wayOf := List.mem_of_getElem? (i := 2) rfl
theorem mw_X8_wayOf_2 : Cond.fieldLink RX8 21 "TidePost" "traffic" "LTidePost$Traffic;" ∈ wsX8_wayOf := List.mem_of_getElem? (i := 3) rfl
theorem mw_X8_wayOf_3 : Cond.fieldLink RX8 189 "TidePost$Traffic" "ways" "[LTidePost$Way;" ∈ wsX8_wayOf := List.mem_of_getElem? (i := 4) rfl
theorem ix_X8_wayOf_0 : ∀ x ∈ (vx_atS RX8 301 (tp_exn 0) tp_sup).filter goodWord, x ∈ wsX8_wayOf := fun _ h => List.mem_cons_of_mem _ (List.mem_append_right _ h)
theorem in_X8_wayOf_X8 : ∀ x ∈ wsX80, x ∈ wsX8_wayOf := fun _ h => List.mem_cons_of_mem _ (List.mem_append_left _ (List.mem_append_left _ (List.mem_append_left _ (List.mem_append_right _ h))))
theorem in_X8_wayOf_X6 : ∀ x ∈ wsX60, x ∈ wsX8_wayOf := fun _ h => List.mem_cons_of_mem _ (List.mem_append_left _ (List.mem_append_left _ (List.mem_append_right _ h)))
set_option maxHeartbeats 4000000 in
set_option maxRecDepth 100000 in
theorem cx_X8_wayOf (w : WPar) (τ : TS) (i0 : Nat) (x1 : Int32) (x2 : Int32) (K : TS → Nat → Prop) (X : TS → Nat → Prop) (hl : w.2.1.stackTraces = false) (h0 : tp_is w i0 7) (hw : wpx_X8_wayOf τ i0 x1 x2 K X) : XR w yX8_wayOf wsX8_wayOf 7 103 2 12 [.ref (w.1 i0), .int x1, .int x2] τ K X 6 := by
  refine tp_enterXR (cc := cX8_wayOf) (maxL := 3) hl (by decide) rfl rfl (Nat.le_of_ble_eq_true rfl) (fun g C D hR hRX hT => ?_)
  show Zt w g τ (0, 0) 0 [(0, .ref (w.1 i0)), (1, .int x1), (2, .int x2)] []
  unfold wpx_X8_wayOf at hw
  refine z_aload_n C 0 (by rfl) dX8_wayOf_0 ?_
  refine z_iload_n C 1 (by rfl) dX8_wayOf_1 ?_
  refine xv_v C D (As := [.int x1]) (bytes := cX8_checkLink) (maxL := 2) (F1 := 6) (L1 := 82) (mc := 1) (ms := 6) (cx_X8_checkLink w _ i0 x1 _ _ hl h0 hw) h0.2 (tE7 h0.1) rfl 1 gX8_wayOf_X8_checkLink rfl (by decide +kernel) ⟨Nat.le_of_ble_eq_true rfl, Nat.le_of_ble_eq_true rfl⟩ rfl (Nat.le_of_ble_eq_true rfl) (k2 := (1, 6)) rfl ⟨Nat.le_of_ble_eq_true rfl, Nat.le_of_ble_eq_true rfl⟩ rfl dX8_wayOf_2 (fun _ _ hx => hRX _ _ _ _ _ (Nat.le_of_ble_eq_true rfl) (Nat.le_of_ble_eq_true rfl) hx) (fun τ21 hw => ?_)
  refine z_iload_n C 2 (by rfl) dX8_wayOf_5 ?_
  refine z_if_lt (tgt := 14) C dX8_wayOf_6 (by decide) (fun c22 => ?_) (fun c22 => ?_)
  · have hw := hw.1 c22
    exact hT _ _ _ _ _ 297 308 301 0 "no such way" mw_X8_wayOf_0 mw_X8_wayOf_1 ix_X8_wayOf_0 (by simp [tp_strs]) tp_o0 tp_n0 tp_f0 ⟨dX8_wayOf_14, dX8_wayOf_17⟩ (Or.inl ⟨dX8_wayOf_18, dX8_wayOf_21, dX8_wayOf_24⟩) (Nat.le_of_ble_eq_true rfl) (Nat.le_of_ble_eq_true rfl) (Nat.le_of_ble_eq_true rfl) (Nat.le_of_ble_eq_true rfl) hw
  · have hw := hw.2 c22
    refine z_iload_n C 2 (by rfl) dX8_wayOf_9 ?_
    refine z_iconst C 1 (by decide) dX8_wayOf_10 ?_
    refine z_icmp_le (tgt := 25) C dX8_wayOf_11 (by decide) (fun c23 => ?_) (fun c23 => ?_)
    · have hw := hw.1 c23
      refine z_aload_n C 0 (by rfl) dX8_wayOf_25 ?_
      refine z_get C (Cn := RX8) (T := TX8) (N := 4) (ci := 7) h0.2 1 (tE7 h0.1) in_X8_wayOf_X8 rfl (by decide) mw_X8_wayOf_2 rfl rfl dX8_wayOf_26 ?_
      refine z_get C (Cn := RX6) (T := TX6) (N := 6) (ci := 5) (tR7_1 h0).2 1 (tE5 (tR7_1 h0).1) in_X8_wayOf_X6 rfl (by decide) mw_X8_wayOf_3 rfl rfl dX8_wayOf_29 ?_
      refine z_iconst C 2 (by decide) dX8_wayOf_32 ?_
      refine z_iload_n C 1 (by rfl) dX8_wayOf_33 ?_
      refine z_imul C dX8_wayOf_34 ?_
      refine z_iload_n C 2 (by rfl) dX8_wayOf_35 ?_
      refine z_iadd C dX8_wayOf_36 ?_
      obtain ⟨s24, hw⟩ := hw
      refine z_aald_q2 C (tR5_1 (tR7_1 h0)).2 (tE15 (tR5_1 (tR7_1 h0)).1) s24 (if_pos (tp_lt s24)) dX8_wayOf_37 ?_
      refine z_widen (2, 12) (Nat.le_of_ble_eq_true rfl) (Nat.le_of_ble_eq_true rfl) ?_
      exact hR _ _ _ _ dX8_wayOf_38 (tR15 (tR5_1 (tR7_1 h0)) (tp_lt s24)) hw
    · have hw := hw.2 c23
      exact hT _ _ _ _ _ 297 308 301 0 "no such way" mw_X8_wayOf_0 mw_X8_wayOf_1 ix_X8_wayOf_0 (by simp [tp_strs]) tp_o0 tp_n0 tp_f0 ⟨dX8_wayOf_14, dX8_wayOf_17⟩ (Or.inl ⟨dX8_wayOf_18, dX8_wayOf_21, dX8_wayOf_24⟩) (Nat.le_of_ble_eq_true rfl) (Nat.le_of_ble_eq_true rfl) (Nat.le_of_ble_eq_true rfl) (Nat.le_of_ble_eq_true rfl) hw
def wpx_X8_addLink (τ : TS) (i0 : Nat) (x1 : Int32) (x2 : Int32) (x3 : Int32) (x4 : Int32) (K : TS → Int32 → Prop) (X : TS → Nat → Prop) : Prop :=
  wpx_X8_checkNode τ i0 x1 (fun τ21 => wpx_X8_checkNode τ21 i0 x2 (fun τ22 => ((¬ x1 = x2) → (wpx_X8_checkRange τ22 x3 1 9 (fun τ24 => wpx_X8_checkRange τ24 x4 1 20 (fun τ25 => ((12 ≤ (τ25 1 1)) → (X τ25 2)) ∧ ((¬ 12 ≤ (τ25 1 1)) → False)) X) X)) ∧ ((x1 = x2) → (X τ22 1))) X) X
theorem mw_X8_addLink_4 : Cond.fieldLink RX8 12 "TidePost" "net" "LTidePost$Net;" ∈ wsX8_addLink := List.mem_of_getElem? (i := 5) rfl
theorem mw_X8_addLink_5 : Cond.fieldLink RX8 61 "TidePost$Net" "links" "I" ∈ wsX8_addLink := List.mem_of_getElem? (i := 6) rfl
theorem mw_X8_addLink_2 : Cond.classLink RX8 37 "java/lang/IllegalStateException" ∈ wsX8_addLink := List.mem_of_getElem? (i := 3) rfl
theorem mw_X8_addLink_3 : Cond.initialized "java/lang/IllegalStateException" ∈ wsX8_addLink := List.mem_of_getElem? (i := 4) rfl
theorem mw_X8_addLink_0 : Cond.classLink RX8 52 "java/lang/IllegalArgumentException" ∈ wsX8_addLink := List.mem_of_getElem? (i := 1) rfl
theorem mw_X8_addLink_1 : Cond.initialized "java/lang/IllegalArgumentException" ∈ wsX8_addLink := List.mem_of_getElem? (i := 2) rfl
theorem in_X8_addLink_X8 : ∀ x ∈ wsX80, x ∈ wsX8_addLink := fun _ h => List.mem_cons_of_mem _ (List.mem_append_left _ (List.mem_append_left _ (List.mem_append_left _ (List.mem_append_left _ (List.mem_append_right _ h)))))
theorem in_X8_addLink_X3 : ∀ x ∈ wsX30, x ∈ wsX8_addLink := fun _ h => List.mem_cons_of_mem _ (List.mem_append_left _ (List.mem_append_left _ (List.mem_append_left _ (List.mem_append_right _ h))))
theorem ix_X8_addLink_2 : ∀ x ∈ (vx_atS RX8 41 (tp_exn 2) tp_sup).filter goodWord, x ∈ wsX8_addLink := fun _ h => List.mem_cons_of_mem _ (List.mem_append_left _ (List.mem_append_right _ h))
theorem ix_X8_addLink_1 : ∀ x ∈ (vx_atS RX8 56 (tp_exn 1) tp_sup).filter goodWord, x ∈ wsX8_addLink := fun _ h => List.mem_cons_of_mem _ (List.mem_append_left _ (List.mem_append_left _ (List.mem_append_right _ h)))
set_option maxHeartbeats 4000000 in
set_option maxRecDepth 100000 in
theorem cx_X8_addLink (w : WPar) (τ : TS) (i0 : Nat) (x1 : Int32) (x2 : Int32) (x3 : Int32) (x4 : Int32) (K : TS → Int32 → Prop) (X : TS → Nat → Prop) (hl : w.2.1.stackTraces = false) (h0 : tp_is w i0 7) (hw : wpx_X8_addLink τ i0 x1 x2 x3 x4 K X) : XI w yX8_addLink wsX8_addLink 7 104 5 30 [.ref (w.1 i0), .int x1, .int x2, .int x3, .int x4] τ K X := by
  refine tp_enterXI (cc := cX8_addLink) (maxL := 5) hl (by decide) rfl rfl (Nat.le_of_ble_eq_true rfl) (fun g C D hR hRX hT => ?_)
  show Zt w g τ (0, 0) 0 [(0, .ref (w.1 i0)), (1, .int x1), (2, .int x2), (3, .int x3), (4, .int x4)] []
  unfold wpx_X8_addLink at hw
  refine z_aload_n C 0 (by rfl) dX8_addLink_0 ?_
  refine z_iload_n C 1 (by rfl) dX8_addLink_1 ?_
  refine xv_v C D (As := [.int x1]) (bytes := cX8_checkNode) (maxL := 2) (F1 := 6) (L1 := 82) (mc := 1) (ms := 6) (cx_X8_checkNode w _ i0 x1 _ _ hl h0 hw) h0.2 (tE7 h0.1) rfl 1 gX8_addLink_X8_checkNode rfl (by decide +kernel) ⟨Nat.le_of_ble_eq_true rfl, Nat.le_of_ble_eq_true rfl⟩ rfl (Nat.le_of_ble_eq_true rfl) (k2 := (1, 6)) rfl ⟨Nat.le_of_ble_eq_true rfl, Nat.le_of_ble_eq_true rfl⟩ rfl dX8_addLink_2 (fun _ _ hx => hRX _ _ _ _ _ (Nat.le_of_ble_eq_true rfl) (Nat.le_of_ble_eq_true rfl) hx) (fun τ21 hw => ?_)
  refine z_aload_n C 0 (by rfl) dX8_addLink_5 ?_
  refine z_iload_n C 2 (by rfl) dX8_addLink_6 ?_
  refine xv_v C D (As := [.int x2]) (bytes := cX8_checkNode) (maxL := 2) (F1 := 6) (L1 := 82) (mc := 1) (ms := 6) (cx_X8_checkNode w _ i0 x2 _ _ hl h0 hw) h0.2 (tE7 h0.1) rfl 1 gX8_addLink_X8_checkNode rfl (by decide +kernel) ⟨Nat.le_of_ble_eq_true rfl, Nat.le_of_ble_eq_true rfl⟩ rfl (Nat.le_of_ble_eq_true rfl) (k2 := (2, 12)) rfl ⟨Nat.le_of_ble_eq_true rfl, Nat.le_of_ble_eq_true rfl⟩ rfl dX8_addLink_7 (fun _ _ hx => hRX _ _ _ _ _ (Nat.le_of_ble_eq_true rfl) (Nat.le_of_ble_eq_true rfl) hx) (fun τ22 hw => ?_)
  refine z_iload_n C 1 (by rfl) dX8_addLink_10 ?_
  refine z_iload_n C 2 (by rfl) dX8_addLink_11 ?_
  refine z_icmp_ne (tgt := 25) C dX8_addLink_12 (by decide) (fun c23 => ?_) (fun c23 => ?_)
  · have hw := hw.1 c23
    refine z_iload_n C 3 (by rfl) dX8_addLink_25 ?_
    refine z_iconst C 1 (by decide) dX8_addLink_26 ?_
    refine z_bipush C 9 (by decide) dX8_addLink_27 ?_
    refine xs_v C D (As := [.int x3, .int 1, .int 9]) (bytes := cX8_checkRange) (maxL := 3) (F1 := 6) (L1 := 82) (mc := 1) (ms := 6) (cx_X8_checkRange w _ x3 1 9 _ _ hl  hw) 3 gX8_addLink_X8_checkRange rfl (by decide +kernel) ⟨Nat.le_of_ble_eq_true rfl, Nat.le_of_ble_eq_true rfl⟩ rfl (Nat.le_of_ble_eq_true rfl) (k2 := (3, 18)) rfl ⟨Nat.le_of_ble_eq_true rfl, Nat.le_of_ble_eq_true rfl⟩ rfl dX8_addLink_29 (fun _ _ hx => hRX _ _ _ _ _ (Nat.le_of_ble_eq_true rfl) (Nat.le_of_ble_eq_true rfl) hx) (fun τ24 hw => ?_)
    refine z_iload C 4 (by rfl) dX8_addLink_32 ?_
    refine z_iconst C 1 (by decide) dX8_addLink_34 ?_
    refine z_bipush C 20 (by decide) dX8_addLink_35 ?_
    refine xs_v C D (As := [.int x4, .int 1, .int 20]) (bytes := cX8_checkRange) (maxL := 3) (F1 := 6) (L1 := 82) (mc := 1) (ms := 6) (cx_X8_checkRange w _ x4 1 20 _ _ hl  hw) 3 gX8_addLink_X8_checkRange rfl (by decide +kernel) ⟨Nat.le_of_ble_eq_true rfl, Nat.le_of_ble_eq_true rfl⟩ rfl (Nat.le_of_ble_eq_true rfl) (k2 := (4, 24)) rfl ⟨Nat.le_of_ble_eq_true rfl, Nat.le_of_ble_eq_true rfl⟩ rfl dX8_addLink_37 (fun _ _ hx => hRX _ _ _ _ _ (Nat.le_of_ble_eq_true rfl) (Nat.le_of_ble_eq_true rfl) hx) (fun τ25 hw => ?_)
    refine z_aload_n C 0 (by rfl) dX8_addLink_40 ?_
    refine z_get C (Cn := RX8) (T := TX8) (N := 4) (ci := 7) h0.2 0 (tE7 h0.1) in_X8_addLink_X8 rfl (by decide) mw_X8_addLink_4 rfl rfl dX8_addLink_41 ?_
    refine z_get C (Cn := RX3) (T := TX3) (N := 9) (ci := 3) (tR7_0 h0).2 1 (tE3 (tR7_0 h0).1) in_X8_addLink_X3 rfl (by decide) mw_X8_addLink_5 rfl rfl dX8_addLink_44 ?_
    refine z_bipush C 12 (by decide) dX8_addLink_47 ?_
    refine z_icmp_ge (tgt := 64) C dX8_addLink_49 (by decide) (fun c26 => ?_) (fun c26 => ?_)
    · have hw := hw.1 c26
      exact hT _ _ _ _ _ 37 68 41 2 "there are 12 links, or one is between these nodes" mw_X8_addLink_2 mw_X8_addLink_3 ix_X8_addLink_2 (by simp [tp_strs]) tp_o2 tp_n2 tp_f2 ⟨dX8_addLink_64, dX8_addLink_67⟩ (Or.inr ⟨dX8_addLink_68, dX8_addLink_70, dX8_addLink_73⟩) (Nat.le_of_ble_eq_true rfl) (Nat.le_of_ble_eq_true rfl) (Nat.le_of_ble_eq_true rfl) (Nat.le_of_ble_eq_true rfl) hw
    · have hw := hw.2 c26
      refine z_aload_n C 0 (by rfl) dX8_addLink_52 ?_
      refine z_get C (Cn := RX8) (T := TX8) (N := 4) (ci := 7) h0.2 0 (tE7 h0.1) in_X8_addLink_X8 rfl (by decide) mw_X8_addLink_4 rfl rfl dX8_addLink_53 ?_
      refine z_iload_n C 1 (by rfl) dX8_addLink_56 ?_
      refine z_iload_n C 2 (by rfl) dX8_addLink_57 ?_
      exact hw.elim
  · have hw := hw.2 c23
    exact hT _ _ _ _ _ 52 54 56 1 "both ends are the same" mw_X8_addLink_0 mw_X8_addLink_1 ix_X8_addLink_1 (by simp [tp_strs]) tp_o1 tp_n1 tp_f1 ⟨dX8_addLink_15, dX8_addLink_18⟩ (Or.inr ⟨dX8_addLink_19, dX8_addLink_21, dX8_addLink_24⟩) (Nat.le_of_ble_eq_true rfl) (Nat.le_of_ble_eq_true rfl) (Nat.le_of_ble_eq_true rfl) (Nat.le_of_ble_eq_true rfl) hw
def wpx_X8_turn (τ : TS) (i0 : Nat) (x1 : Int32) (K : TS → Int32 → Prop) (X : TS → Nat → Prop) : Prop :=
  wpx_X8_checkLink τ i0 x1 (fun τ21 => False) X
theorem mw_X8_turn_0 : Cond.fieldLink RX8 12 "TidePost" "net" "LTidePost$Net;" ∈ wsX8_turn := List.mem_of_getElem? (i := 1) rfl
theorem in_X8_turn_X8 : ∀ x ∈ wsX80, x ∈ wsX8_turn := fun _ h => List.mem_cons_of_mem _ (List.mem_append_left _ (List.mem_append_left _ (List.mem_append_left _ (List.mem_append_left _ (List.mem_append_right _ h)))))
set_option maxHeartbeats 4000000 in
set_option maxRecDepth 100000 in
theorem cx_X8_turn (w : WPar) (τ : TS) (i0 : Nat) (x1 : Int32) (K : TS → Int32 → Prop) (X : TS → Nat → Prop) (hl : w.2.1.stackTraces = false) (h0 : tp_is w i0 7) (hw : wpx_X8_turn τ i0 x1 K X) : XI w yX8_turn wsX8_turn 7 103 1 6 [.ref (w.1 i0), .int x1] τ K X := by
  refine tp_enterXI (cc := cX8_turn) (maxL := 2) hl (by decide) rfl rfl (Nat.le_of_ble_eq_true rfl) (fun g C D hR hRX hT => ?_)
  show Zt w g τ (0, 0) 0 [(0, .ref (w.1 i0)), (1, .int x1)] []
  unfold wpx_X8_turn at hw
  refine z_aload_n C 0 (by rfl) dX8_turn_0 ?_
  refine z_iload_n C 1 (by rfl) dX8_turn_1 ?_
  refine xv_v C D (As := [.int x1]) (bytes := cX8_checkLink) (maxL := 2) (F1 := 6) (L1 := 82) (mc := 1) (ms := 6) (cx_X8_checkLink w _ i0 x1 _ _ hl h0 hw) h0.2 (tE7 h0.1) rfl 1 gX8_turn_X8_checkLink rfl (by decide +kernel) ⟨Nat.le_of_ble_eq_true rfl, Nat.le_of_ble_eq_true rfl⟩ rfl (Nat.le_of_ble_eq_true rfl) (k2 := (1, 6)) rfl ⟨Nat.le_of_ble_eq_true rfl, Nat.le_of_ble_eq_true rfl⟩ rfl dX8_turn_2 (fun _ _ hx => hRX _ _ _ _ _ (Nat.le_of_ble_eq_true rfl) (Nat.le_of_ble_eq_true rfl) hx) (fun τ21 hw => ?_)
  refine z_aload_n C 0 (by rfl) dX8_turn_5 ?_
  refine z_get C (Cn := RX8) (T := TX8) (N := 4) (ci := 7) h0.2 0 (tE7 h0.1) in_X8_turn_X8 rfl (by decide) mw_X8_turn_0 rfl rfl dX8_turn_6 ?_
  refine z_iload_n C 1 (by rfl) dX8_turn_9 ?_
  exact hw.elim
def wpx_X8_lose (τ : TS) (i0 : Nat) (x1 : Int32) (x2 : Int32) (x3 : Int32) (K : TS → Int32 → Prop) (X : TS → Nat → Prop) : Prop :=
  wpx_X8_wayOf τ i0 x1 x2 (fun τ21 j22 => wpx_X8_checkRange τ21 x3 0 9 (fun τ23 => ∀ x24 : Int32, x24 = (τ23 j22 6) → ∀ τ25 : TS, τ25 = tp_up τ23 j22 6 x3 → K τ25 x24) X) X
theorem mw_X8_lose_0 : Cond.fieldLink RX8 92 "TidePost$Way" "toLose" "I" ∈ wsX8_lose := List.mem_of_getElem? (i := 1) rfl
theorem in_X8_lose_X7 : ∀ x ∈ wsX70, x ∈ wsX8_lose := fun _ h => List.mem_cons_of_mem _ (List.mem_append_left _ (List.mem_append_left _ (List.mem_append_left _ (List.mem_append_left _ (List.mem_append_left _ (List.mem_append_right _ h))))))
set_option maxHeartbeats 4000000 in
set_option maxRecDepth 100000 in
theorem cx_X8_lose (w : WPar) (τ : TS) (i0 : Nat) (x1 : Int32) (x2 : Int32) (x3 : Int32) (K : TS → Int32 → Prop) (X : TS → Nat → Prop) (hl : w.2.1.stackTraces = false) (h0 : tp_is w i0 7) (hw : wpx_X8_lose τ i0 x1 x2 x3 K X) : XI w yX8_lose wsX8_lose 8 125 3 18 [.ref (w.1 i0), .int x1, .int x2, .int x3] τ K X := by
  refine tp_enterXI (cc := cX8_lose) (maxL := 6) hl (by decide) rfl rfl (Nat.le_of_ble_eq_true rfl) (fun g C D hR hRX hT => ?_)
  show Zt w g τ (0, 0) 0 [(0, .ref (w.1 i0)), (1, .int x1), (2, .int x2), (3, .int x3)] []
  unfold wpx_X8_lose at hw
  refine z_aload_n C 0 (by rfl) dX8_lose_0 ?_
  refine z_iload_n C 1 (by rfl) dX8_lose_1 ?_
  refine z_iload_n C 2 (by rfl) dX8_lose_2 ?_
  refine xv_r C D (As := [.int x1, .int x2]) (bytes := cX8_wayOf) (maxL := 3) (F1 := 7) (L1 := 103) (mc := 2) (ms := 12) (cx_X8_wayOf w _ i0 x1 x2 _ _ hl h0 hw) h0.2 (tE7 h0.1) rfl 2 gX8_lose_X8_wayOf rfl (by decide +kernel) ⟨Nat.le_of_ble_eq_true rfl, Nat.le_of_ble_eq_true rfl⟩ rfl (Nat.le_of_ble_eq_true rfl) (k2 := (2, 12)) rfl ⟨Nat.le_of_ble_eq_true rfl, Nat.le_of_ble_eq_true rfl⟩ rfl dX8_lose_3 (fun _ _ hx => hRX _ _ _ _ _ (Nat.le_of_ble_eq_true rfl) (Nat.le_of_ble_eq_true rfl) hx) (fun τ21 j22 hw hj22 => ?_)
  refine z_astore C [(4, .ref (w.1 j22)), (0, .ref (w.1 i0)), (1, .int x1), (2, .int x2), (3, .int x3)] dX8_lose_6 (by decide) rfl ?_
  refine z_iload_n C 4 (by rfl) dX8_lose_8 ?_
  refine z_iconst C 0 (by decide) dX8_lose_9 ?_
  refine z_bipush C 9 (by decide) dX8_lose_10 ?_
  refine xs_v C D (As := [.int x3, .int 0, .int 9]) (bytes := cX8_checkRange) (maxL := 3) (F1 := 6) (L1 := 82) (mc := 1) (ms := 6) (cx_X8_checkRange w _ x3 0 9 _ _ hl  hw) 3 gX8_lose_X8_checkRange rfl (by decide +kernel) ⟨Nat.le_of_ble_eq_true rfl, Nat.le_of_ble_eq_true rfl⟩ rfl (Nat.le_of_ble_eq_true rfl) (k2 := (3, 18)) rfl ⟨Nat.le_of_ble_eq_true rfl, Nat.le_of_ble_eq_true rfl⟩ rfl dX8_lose_12 (fun _ _ hx => hRX _ _ _ _ _ (Nat.le_of_ble_eq_true rfl) (Nat.le_of_ble_eq_true rfl) hx) (fun τ23 hw => ?_)
  refine z_aload C 0 (by rfl) dX8_lose_15 ?_
  refine z_get C (Cn := RX7) (T := TX7) (N := 7) (ci := 6) hj22.2 6 (tE6 hj22.1) in_X8_lose_X7 rfl (by decide) mw_X8_lose_0 rfl rfl dX8_lose_17 ?_
  refine z_top (fun x24 ex24 => ?_)
  have hw := hw x24 ex24
  refine z_istore C [(5, .int x24), (4, .ref (w.1 j22)), (0, .ref (w.1 i0)), (1, .int x1), (2, .int x2), (3, .int x3)] dX8_lose_20 (by decide) rfl ?_
  refine z_aload C 1 (by rfl) dX8_lose_22 ?_
  refine z_iload_n C 5 (by rfl) dX8_lose_24 ?_
  refine z_put C (Cn := RX7) (T := TX7) (N := 7) (ci := 6) hj22.2 6 (tE6 hj22.1) (tS6_6 hj22.1 _) in_X8_lose_X7 tyX7 tyX7_ok nmX7 rfl (by decide) mw_X8_lose_0 rfl rfl (tyX7_ok 6 (by decide)) rfl rfl (Nat.le_of_ble_eq_true rfl) dX8_lose_25 (fun τ25 eτ25 => ?_)
  have hw := hw τ25 eτ25
  refine z_iload C 0 (by rfl) dX8_lose_28 ?_
  exact hR _ _ _ _ dX8_lose_30 hw
def wpx_X8_call (τ : TS) (i0 : Nat) (x1 : Int32) (x2 : Int32) (x3 : Int32) (K : TS → Int32 → Prop) (X : TS → Nat → Prop) : Prop :=
  wpx_X8_checkNode τ i0 x1 (fun τ21 => wpx_X8_checkNode τ21 i0 x2 (fun τ22 => ((¬ x1 = x2) → (wpx_X8_checkRange τ22 x3 1 16 (fun τ24 => (((τ24 17 3) < 6) → False) ∧ ((¬ (τ24 17 3) < 6) → (X τ24 2))) X)) ∧ ((x1 = x2) → (X τ22 1))) X) X
theorem mw_X8_call_4 : Cond.fieldLink RX8 21 "TidePost" "traffic" "LTidePost$Traffic;" ∈ wsX8_call := List.mem_of_getElem? (i := 5) rfl
theorem mw_X8_call_5 : Cond.fieldLink RX8 99 "TidePost$Traffic" "made" "I" ∈ wsX8_call := List.mem_of_getElem? (i := 6) rfl
theorem mw_X8_call_2 : Cond.classLink RX8 37 "java/lang/IllegalStateException" ∈ wsX8_call := List.mem_of_getElem? (i := 3) rfl
theorem mw_X8_call_3 : Cond.initialized "java/lang/IllegalStateException" ∈ wsX8_call := List.mem_of_getElem? (i := 4) rfl
theorem mw_X8_call_0 : Cond.classLink RX8 52 "java/lang/IllegalArgumentException" ∈ wsX8_call := List.mem_of_getElem? (i := 1) rfl
theorem mw_X8_call_1 : Cond.initialized "java/lang/IllegalArgumentException" ∈ wsX8_call := List.mem_of_getElem? (i := 2) rfl
theorem in_X8_call_X8 : ∀ x ∈ wsX80, x ∈ wsX8_call := fun _ h => List.mem_cons_of_mem _ (List.mem_append_left _ (List.mem_append_left _ (List.mem_append_left _ (List.mem_append_left _ (List.mem_append_left _ (List.mem_append_left _ (List.mem_append_left _ (List.mem_append_left _ (List.mem_append_left _ (List.mem_append_left _ (List.mem_append_right _ h)))))))))))
theorem in_X8_call_X6 : ∀ x ∈ wsX60, x ∈ wsX8_call := fun _ h => List.mem_cons_of_mem _ (List.mem_append_left _ (List.mem_append_left _ (List.mem_append_left _ (List.mem_append_left _ (List.mem_append_left _ (List.mem_append_left _ (List.mem_append_left _ (List.mem_append_left _ (List.mem_append_left _ (List.mem_append_right _ h))))))))))
theorem ix_X8_call_2 : ∀ x ∈ (vx_atS RX8 41 (tp_exn 2) tp_sup).filter goodWord, x ∈ wsX8_call := fun _ h => List.mem_cons_of_mem _ (List.mem_append_left _ (List.mem_append_right _ h))
theorem ix_X8_call_1 : ∀ x ∈ (vx_atS RX8 56 (tp_exn 1) tp_sup).filter goodWord, x ∈ wsX8_call := fun _ h => List.mem_cons_of_mem _ (List.mem_append_left _ (List.mem_append_left _ (List.mem_append_right _ h)))
set_option maxHeartbeats 4000000 in
set_option maxRecDepth 100000 in
theorem cx_X8_call (w : WPar) (τ : TS) (i0 : Nat) (x1 : Int32) (x2 : Int32) (x3 : Int32) (K : TS → Int32 → Prop) (X : TS → Nat → Prop) (hl : w.2.1.stackTraces = false) (h0 : tp_is w i0 7) (hw : wpx_X8_call τ i0 x1 x2 x3 K X) : XI w yX8_call wsX8_call 7 104 4 24 [.ref (w.1 i0), .int x1, .int x2, .int x3] τ K X := by
  refine tp_enterXI (cc := cX8_call) (maxL := 4) hl (by decide) rfl rfl (Nat.le_of_ble_eq_true rfl) (fun g C D hR hRX hT => ?_)
  show Zt w g τ (0, 0) 0 [(0, .ref (w.1 i0)), (1, .int x1), (2, .int x2), (3, .int x3)] []
  unfold wpx_X8_call at hw
  refine z_aload_n C 0 (by rfl) dX8_call_0 ?_
  refine z_iload_n C 1 (by rfl) dX8_call_1 ?_
  refine xv_v C D (As := [.int x1]) (bytes := cX8_checkNode) (maxL := 2) (F1 := 6) (L1 := 82) (mc := 1) (ms := 6) (cx_X8_checkNode w _ i0 x1 _ _ hl h0 hw) h0.2 (tE7 h0.1) rfl 1 gX8_call_X8_checkNode rfl (by decide +kernel) ⟨Nat.le_of_ble_eq_true rfl, Nat.le_of_ble_eq_true rfl⟩ rfl (Nat.le_of_ble_eq_true rfl) (k2 := (1, 6)) rfl ⟨Nat.le_of_ble_eq_true rfl, Nat.le_of_ble_eq_true rfl⟩ rfl dX8_call_2 (fun _ _ hx => hRX _ _ _ _ _ (Nat.le_of_ble_eq_true rfl) (Nat.le_of_ble_eq_true rfl) hx) (fun τ21 hw => ?_)
  refine z_aload_n C 0 (by rfl) dX8_call_5 ?_
  refine z_iload_n C 2 (by rfl) dX8_call_6 ?_
  refine xv_v C D (As := [.int x2]) (bytes := cX8_checkNode) (maxL := 2) (F1 := 6) (L1 := 82) (mc := 1) (ms := 6) (cx_X8_checkNode w _ i0 x2 _ _ hl h0 hw) h0.2 (tE7 h0.1) rfl 1 gX8_call_X8_checkNode rfl (by decide +kernel) ⟨Nat.le_of_ble_eq_true rfl, Nat.le_of_ble_eq_true rfl⟩ rfl (Nat.le_of_ble_eq_true rfl) (k2 := (2, 12)) rfl ⟨Nat.le_of_ble_eq_true rfl, Nat.le_of_ble_eq_true rfl⟩ rfl dX8_call_7 (fun _ _ hx => hRX _ _ _ _ _ (Nat.le_of_ble_eq_true rfl) (Nat.le_of_ble_eq_true rfl) hx) (fun τ22 hw => ?_)
  refine z_iload_n C 1 (by rfl) dX8_call_10 ?_
  refine z_iload_n C 2 (by rfl) dX8_call_11 ?_
  refine z_icmp_ne (tgt := 25) C dX8_call_12 (by decide) (fun c23 => ?_) (fun c23 => ?_)
  · have hw := hw.1 c23
    refine z_iload_n C 3 (by rfl) dX8_call_25 ?_
    refine z_iconst C 1 (by decide) dX8_call_26 ?_
    refine z_bipush C 16 (by decide) dX8_call_27 ?_
    refine xs_v C D (As := [.int x3, .int 1, .int 16]) (bytes := cX8_checkRange) (maxL := 3) (F1 := 6) (L1 := 82) (mc := 1) (ms := 6) (cx_X8_checkRange w _ x3 1 16 _ _ hl  hw) 3 gX8_call_X8_checkRange rfl (by decide +kernel) ⟨Nat.le_of_ble_eq_true rfl, Nat.le_of_ble_eq_true rfl⟩ rfl (Nat.le_of_ble_eq_true rfl) (k2 := (3, 18)) rfl ⟨Nat.le_of_ble_eq_true rfl, Nat.le_of_ble_eq_true rfl⟩ rfl dX8_call_29 (fun _ _ hx => hRX _ _ _ _ _ (Nat.le_of_ble_eq_true rfl) (Nat.le_of_ble_eq_true rfl) hx) (fun τ24 hw => ?_)
    refine z_aload_n C 0 (by rfl) dX8_call_32 ?_
    refine z_get C (Cn := RX8) (T := TX8) (N := 4) (ci := 7) h0.2 1 (tE7 h0.1) in_X8_call_X8 rfl (by decide) mw_X8_call_4 rfl rfl dX8_call_33 ?_
    refine z_get C (Cn := RX6) (T := TX6) (N := 6) (ci := 5) (tR7_1 h0).2 3 (tE5 (tR7_1 h0).1) in_X8_call_X6 rfl (by decide) mw_X8_call_5 rfl rfl dX8_call_36 ?_
    refine z_bipush C 6 (by decide) dX8_call_39 ?_
    refine z_icmp_lt (tgt := 54) C dX8_call_41 (by decide) (fun c25 => ?_) (fun c25 => ?_)
    · have hw := hw.1 c25
      refine z_aload_n C 0 (by rfl) dX8_call_54 ?_
      refine z_get C (Cn := RX8) (T := TX8) (N := 4) (ci := 7) h0.2 1 (tE7 h0.1) in_X8_call_X8 rfl (by decide) mw_X8_call_4 rfl rfl dX8_call_55 ?_
      refine z_iload_n C 1 (by rfl) dX8_call_58 ?_
      refine z_iload_n C 2 (by rfl) dX8_call_59 ?_
      refine z_iload_n C 3 (by rfl) dX8_call_60 ?_
      exact hw.elim
    · have hw := hw.2 c25
      exact hT _ _ _ _ _ 37 102 41 2 "there are 6 connections" mw_X8_call_2 mw_X8_call_3 ix_X8_call_2 (by simp [tp_strs]) tp_o2 tp_n2 tp_f2 ⟨dX8_call_44, dX8_call_47⟩ (Or.inr ⟨dX8_call_48, dX8_call_50, dX8_call_53⟩) (Nat.le_of_ble_eq_true rfl) (Nat.le_of_ble_eq_true rfl) (Nat.le_of_ble_eq_true rfl) (Nat.le_of_ble_eq_true rfl) hw
  · have hw := hw.2 c23
    exact hT _ _ _ _ _ 52 97 56 1 "caller and callee are the same" mw_X8_call_0 mw_X8_call_1 ix_X8_call_1 (by simp [tp_strs]) tp_o1 tp_n1 tp_f1 ⟨dX8_call_15, dX8_call_18⟩ (Or.inr ⟨dX8_call_19, dX8_call_21, dX8_call_24⟩) (Nat.le_of_ble_eq_true rfl) (Nat.le_of_ble_eq_true rfl) (Nat.le_of_ble_eq_true rfl) (Nat.le_of_ble_eq_true rfl) hw
def wpx_X8_give (τ : TS) (i0 : Nat) (x1 : Int32) (x2 : Int32) (x3 : Int32) (K : TS → Int32 → Prop) (X : TS → Nat → Prop) : Prop :=
  wpx_X8_callerOf τ i0 x1 (fun τ21 j22 => wpx_X8_checkRange τ21 x3 1 50 (fun τ23 => False) X) X
set_option maxHeartbeats 4000000 in
set_option maxRecDepth 100000 in
theorem cx_X8_give (w : WPar) (τ : TS) (i0 : Nat) (x1 : Int32) (x2 : Int32) (x3 : Int32) (K : TS → Int32 → Prop) (X : TS → Nat → Prop) (hl : w.2.1.stackTraces = false) (h0 : tp_is w i0 7) (hw : wpx_X8_give τ i0 x1 x2 x3 K X) : XI w yX8_give wsX8_give 8 124 2 12 [.ref (w.1 i0), .int x1, .int x2, .int x3] τ K X := by
  refine tp_enterXI (cc := cX8_give) (maxL := 6) hl (by decide) rfl rfl (Nat.le_of_ble_eq_true rfl) (fun g C D hR hRX hT => ?_)
  show Zt w g τ (0, 0) 0 [(0, .ref (w.1 i0)), (1, .int x1), (2, .int x2), (3, .int x3)] []
  unfold wpx_X8_give at hw
  refine z_aload_n C 0 (by rfl) dX8_give_0 ?_
  refine z_iload_n C 1 (by rfl) dX8_give_1 ?_
  refine xv_r C D (As := [.int x1]) (bytes := cX8_callerOf) (maxL := 2) (F1 := 7) (L1 := 103) (mc := 1) (ms := 6) (cx_X8_callerOf w _ i0 x1 _ _ hl h0 hw) h0.2 (tE7 h0.1) rfl 1 gX8_give_X8_callerOf rfl (by decide +kernel) ⟨Nat.le_of_ble_eq_true rfl, Nat.le_of_ble_eq_true rfl⟩ rfl (Nat.le_of_ble_eq_true rfl) (k2 := (1, 6)) rfl ⟨Nat.le_of_ble_eq_true rfl, Nat.le_of_ble_eq_true rfl⟩ rfl dX8_give_2 (fun _ _ hx => hRX _ _ _ _ _ (Nat.le_of_ble_eq_true rfl) (Nat.le_of_ble_eq_true rfl) hx) (fun τ21 j22 hw hj22 => ?_)
  refine z_astore C [(4, .ref (w.1 j22)), (0, .ref (w.1 i0)), (1, .int x1), (2, .int x2), (3, .int x3)] dX8_give_5 (by decide) rfl ?_
  refine z_iload_n C 4 (by rfl) dX8_give_7 ?_
  refine z_iconst C 1 (by decide) dX8_give_8 ?_
  refine z_bipush C 50 (by decide) dX8_give_9 ?_
  refine xs_v C D (As := [.int x3, .int 1, .int 50]) (bytes := cX8_checkRange) (maxL := 3) (F1 := 6) (L1 := 82) (mc := 1) (ms := 6) (cx_X8_checkRange w _ x3 1 50 _ _ hl  hw) 3 gX8_give_X8_checkRange rfl (by decide +kernel) ⟨Nat.le_of_ble_eq_true rfl, Nat.le_of_ble_eq_true rfl⟩ rfl (Nat.le_of_ble_eq_true rfl) (k2 := (2, 12)) rfl ⟨Nat.le_of_ble_eq_true rfl, Nat.le_of_ble_eq_true rfl⟩ rfl dX8_give_11 (fun _ _ hx => hRX _ _ _ _ _ (Nat.le_of_ble_eq_true rfl) (Nat.le_of_ble_eq_true rfl) hx) (fun τ23 hw => ?_)
  refine z_aload C 0 (by rfl) dX8_give_14 ?_
  exact hw.elim
def wpx_X8_close (τ : TS) (i0 : Nat) (x1 : Int32) (K : TS → Int32 → Prop) (X : TS → Nat → Prop) : Prop :=
  wpx_X8_callerOf τ i0 x1 (fun τ21 j22 => False) X
set_option maxHeartbeats 4000000 in
set_option maxRecDepth 100000 in
theorem cx_X8_close (w : WPar) (τ : TS) (i0 : Nat) (x1 : Int32) (K : TS → Int32 → Prop) (X : TS → Nat → Prop) (hl : w.2.1.stackTraces = false) (h0 : tp_is w i0 7) (hw : wpx_X8_close τ i0 x1 K X) : XI w yX8_close wsX8_close 8 124 1 6 [.ref (w.1 i0), .int x1] τ K X := by
  refine tp_enterXI (cc := cX8_close) (maxL := 3) hl (by decide) rfl rfl (Nat.le_of_ble_eq_true rfl) (fun g C D hR hRX hT => ?_)
  show Zt w g τ (0, 0) 0 [(0, .ref (w.1 i0)), (1, .int x1)] []
  unfold wpx_X8_close at hw
  refine z_aload_n C 0 (by rfl) dX8_close_0 ?_
  refine z_iload_n C 1 (by rfl) dX8_close_1 ?_
  refine xv_r C D (As := [.int x1]) (bytes := cX8_callerOf) (maxL := 2) (F1 := 7) (L1 := 103) (mc := 1) (ms := 6) (cx_X8_callerOf w _ i0 x1 _ _ hl h0 hw) h0.2 (tE7 h0.1) rfl 1 gX8_close_X8_callerOf rfl (by decide +kernel) ⟨Nat.le_of_ble_eq_true rfl, Nat.le_of_ble_eq_true rfl⟩ rfl (Nat.le_of_ble_eq_true rfl) (k2 := (1, 6)) rfl ⟨Nat.le_of_ble_eq_true rfl, Nat.le_of_ble_eq_true rfl⟩ rfl dX8_close_2 (fun _ _ hx => hRX _ _ _ _ _ (Nat.le_of_ble_eq_true rfl) (Nat.le_of_ble_eq_true rfl) hx) (fun τ21 j22 hw hj22 => ?_)
  refine z_astore_n C [(2, .ref (w.1 j22)), (0, .ref (w.1 i0)), (1, .int x1)] dX8_close_5 (by decide) rfl ?_
  refine z_aload_n C 0 (by rfl) dX8_close_6 ?_
  exact hw.elim
def wpx_X8_read (τ : TS) (i0 : Nat) (x1 : Int32) (x2 : Int32) (K : TS → Int32 → Prop) (X : TS → Nat → Prop) : Prop :=
  wpx_X8_connectionOf τ i0 x1 (fun τ21 j22 => wpx_X8_checkRange τ21 x2 1 50 (fun τ23 => False) X) X
set_option maxHeartbeats 4000000 in
set_option maxRecDepth 100000 in
theorem cx_X8_read (w : WPar) (τ : TS) (i0 : Nat) (x1 : Int32) (x2 : Int32) (K : TS → Int32 → Prop) (X : TS → Nat → Prop) (hl : w.2.1.stackTraces = false) (h0 : tp_is w i0 7) (hw : wpx_X8_read τ i0 x1 x2 K X) : XI w yX8_read wsX8_read 7 104 2 12 [.ref (w.1 i0), .int x1, .int x2] τ K X := by
  refine tp_enterXI (cc := cX8_read) (maxL := 9) hl (by decide) rfl rfl (Nat.le_of_ble_eq_true rfl) (fun g C D hR hRX hT => ?_)
  show Zt w g τ (0, 0) 0 [(0, .ref (w.1 i0)), (1, .int x1), (2, .int x2)] []
  unfold wpx_X8_read at hw
  refine z_aload_n C 0 (by rfl) dX8_read_0 ?_
  refine z_iload_n C 1 (by rfl) dX8_read_1 ?_
  refine xv_r C D (As := [.int x1]) (bytes := cX8_connectionOf) (maxL := 2) (F1 := 6) (L1 := 82) (mc := 1) (ms := 6) (cx_X8_connectionOf w _ i0 x1 _ _ hl h0 hw) h0.2 (tE7 h0.1) rfl 1 gX8_read_X8_connectionOf rfl (by decide +kernel) ⟨Nat.le_of_ble_eq_true rfl, Nat.le_of_ble_eq_true rfl⟩ rfl (Nat.le_of_ble_eq_true rfl) (k2 := (1, 6)) rfl ⟨Nat.le_of_ble_eq_true rfl, Nat.le_of_ble_eq_true rfl⟩ rfl dX8_read_2 (fun _ _ hx => hRX _ _ _ _ _ (Nat.le_of_ble_eq_true rfl) (Nat.le_of_ble_eq_true rfl) hx) (fun τ21 j22 hw hj22 => ?_)
  refine z_astore_n C [(3, .ref (w.1 j22)), (0, .ref (w.1 i0)), (1, .int x1), (2, .int x2)] dX8_read_5 (by decide) rfl ?_
  refine z_iload_n C 3 (by rfl) dX8_read_6 ?_
  refine z_iconst C 1 (by decide) dX8_read_7 ?_
  refine z_bipush C 50 (by decide) dX8_read_8 ?_
  refine xs_v C D (As := [.int x2, .int 1, .int 50]) (bytes := cX8_checkRange) (maxL := 3) (F1 := 6) (L1 := 82) (mc := 1) (ms := 6) (cx_X8_checkRange w _ x2 1 50 _ _ hl  hw) 3 gX8_read_X8_checkRange rfl (by decide +kernel) ⟨Nat.le_of_ble_eq_true rfl, Nat.le_of_ble_eq_true rfl⟩ rfl (Nat.le_of_ble_eq_true rfl) (k2 := (2, 12)) rfl ⟨Nat.le_of_ble_eq_true rfl, Nat.le_of_ble_eq_true rfl⟩ rfl dX8_read_10 (fun _ _ hx => hRX _ _ _ _ _ (Nat.le_of_ble_eq_true rfl) (Nat.le_of_ble_eq_true rfl) hx) (fun τ23 hw => ?_)
  refine z_iload_n C 3 (by rfl) dX8_read_13 ?_
  refine z_aload_n C 0 (by rfl) dX8_read_14 ?_
  exact hw.elim
def wpx_X8_pass (τ : TS) (i0 : Nat) (x1 : Int32) (K : TS → Int32 → Prop) (X : TS → Nat → Prop) : Prop :=
  wpx_X8_checkRange τ x1 1 50 (fun τ21 => ∃ (I24 : TS → Int32 → Prop) (u24 : TS → Int32 → Nat), I24 τ21 0 ∧ ∀ (τ22 : TS) (x23 : Int32), I24 τ22 x23 → (((x1 ≤ x23) → (K τ22 (τ22 17 4))) ∧ ((¬ x1 ≤ x23) → (wp_X6_tick τ22 17 (fun τ26 => ∀ x27 : Int32, x27 = x23 + 1 → I24 τ26 x27 ∧ u24 τ26 x27 < u24 τ22 x23))))) X
theorem mw_X8_pass_0 : Cond.fieldLink RX8 21 "TidePost" "traffic" "LTidePost$Traffic;" ∈ wsX8_pass := List.mem_of_getElem? (i := 1) rfl
theorem mw_X8_pass_1 : Cond.fieldLink RX8 168 "TidePost$Traffic" "clock" "I" ∈ wsX8_pass := List.mem_of_getElem? (i := 2) rfl
theorem in_X8_pass_X8 : ∀ x ∈ wsX80, x ∈ wsX8_pass := fun _ h => List.mem_cons_of_mem _ (List.mem_append_left _ (List.mem_append_left _ (List.mem_append_left _ (List.mem_append_left _ (List.mem_append_left _ (List.mem_append_left _ (List.mem_append_left _ (List.mem_append_left _ (List.mem_append_right _ h)))))))))
theorem in_X8_pass_X6 : ∀ x ∈ wsX60, x ∈ wsX8_pass := fun _ h => List.mem_cons_of_mem _ (List.mem_append_left _ (List.mem_append_left _ (List.mem_append_left _ (List.mem_append_left _ (List.mem_append_left _ (List.mem_append_left _ (List.mem_append_left _ (List.mem_append_right _ h))))))))
set_option maxHeartbeats 4000000 in
set_option maxRecDepth 100000 in
theorem cx_X8_pass (w : WPar) (τ : TS) (i0 : Nat) (x1 : Int32) (K : TS → Int32 → Prop) (X : TS → Nat → Prop) (hl : w.2.1.stackTraces = false) (h0 : tp_is w i0 7) (hw : wpx_X8_pass τ i0 x1 K X) : XI w yX8_pass wsX8_pass 7 104 1 6 [.ref (w.1 i0), .int x1] τ K X := by
  refine tp_enterXI (cc := cX8_pass) (maxL := 3) hl (by decide) rfl rfl (Nat.le_of_ble_eq_true rfl) (fun g C D hR hRX hT => ?_)
  show Zt w g τ (0, 0) 0 [(0, .ref (w.1 i0)), (1, .int x1)] []
  unfold wpx_X8_pass at hw
  refine z_iload_n C 1 (by rfl) dX8_pass_0 ?_
  refine z_iconst C 1 (by decide) dX8_pass_1 ?_
  refine z_bipush C 50 (by decide) dX8_pass_2 ?_
  refine xs_v C D (As := [.int x1, .int 1, .int 50]) (bytes := cX8_checkRange) (maxL := 3) (F1 := 6) (L1 := 82) (mc := 1) (ms := 6) (cx_X8_checkRange w _ x1 1 50 _ _ hl  hw) 3 gX8_pass_X8_checkRange rfl (by decide +kernel) ⟨Nat.le_of_ble_eq_true rfl, Nat.le_of_ble_eq_true rfl⟩ rfl (Nat.le_of_ble_eq_true rfl) (k2 := (1, 6)) rfl ⟨Nat.le_of_ble_eq_true rfl, Nat.le_of_ble_eq_true rfl⟩ rfl dX8_pass_4 (fun _ _ hx => hRX _ _ _ _ _ (Nat.le_of_ble_eq_true rfl) (Nat.le_of_ble_eq_true rfl) hx) (fun τ21 hw => ?_)
  refine z_iconst C 0 (by decide) dX8_pass_7 ?_
  refine z_istore_n C [(2, .int 0), (0, .ref (w.1 i0)), (1, .int x1)] dX8_pass_8 (by decide) rfl ?_
  obtain ⟨I24, u24, hI24, hs24⟩ := hw
  have lp24 : ∀ (n24 : Nat) (τ22 : TS) (x23 : Int32), u24 τ22 x23 < n24 → I24 τ22 x23 → Zt w g τ22 (1, 6) 9 [(0, .ref (w.1 i0)), (1, .int x1), (2, .int x23)] [] := by
    intro n24
    induction n24 with
    | zero => intro τ22 x23 hlt24; exact absurd hlt24 (Nat.not_lt_zero _)
    | succ n24 ih24 =>
      intro τ22 x23 hlt24 hh24
      have hw := hs24 τ22 x23 hh24
      refine z_iload_n C 2 (by rfl) dX8_pass_9 ?_
      refine z_iload_n C 1 (by rfl) dX8_pass_10 ?_
      refine z_icmp_ge (tgt := 27) C dX8_pass_11 (by decide) (fun c25 => ?_) (fun c25 => ?_)
      · have hw := hw.1 c25
        refine z_aload_n C 0 (by rfl) dX8_pass_27 ?_
        refine z_get C (Cn := RX8) (T := TX8) (N := 4) (ci := 7) h0.2 1 (tE7 h0.1) in_X8_pass_X8 rfl (by decide) mw_X8_pass_0 rfl rfl dX8_pass_28 ?_
        refine z_get C (Cn := RX6) (T := TX6) (N := 6) (ci := 5) (tR7_1 h0).2 4 (tE5 (tR7_1 h0).1) in_X8_pass_X6 rfl (by decide) mw_X8_pass_1 rfl rfl dX8_pass_31 ?_
        exact hR _ _ _ _ dX8_pass_34 hw
      · have hw := hw.2 c25
        refine z_aload_n C 0 (by rfl) dX8_pass_14 ?_
        refine z_get C (Cn := RX8) (T := TX8) (N := 4) (ci := 7) h0.2 1 (tE7 h0.1) in_X8_pass_X8 rfl (by decide) mw_X8_pass_0 rfl rfl dX8_pass_15 ?_
        refine zv_v C (As := []) (bytes := cX6_tick) (maxL := 1) (F1 := 1) (L1 := 23) (c_X6_tick w _ 17 _ (tR7_1 h0) hw) (tR7_1 h0).2 (tE5 (tR7_1 h0).1) rfl 0 gX8_pass_X6_tick rfl (by decide +kernel) ⟨Nat.le_of_ble_eq_true rfl, Nat.le_of_ble_eq_true rfl⟩ rfl (Nat.le_of_ble_eq_true rfl) ⟨Nat.le_of_ble_eq_true rfl, Nat.le_of_ble_eq_true rfl⟩ rfl dX8_pass_18 (fun τ26 hw => ?_)
        obtain ⟨x27, ex27⟩ : ∃ z : Int32, z = x23 + 1 := ⟨_, rfl⟩
        have hw := hw x27 ex27
        refine z_iinc C 2 x27 [(2, .int x27), (0, .ref (w.1 i0)), (1, .int x1)] dX8_pass_21 (by rfl) (by rw [ex27]; rfl) (by decide) rfl ?_
        refine z_goto (tgt := 9) C dX8_pass_24 (by decide) ?_
        refine z_sub [1, 2, 0] [(0, .ref (w.1 i0)), (1, .int x1), (2, .int x27)] rfl ?_
        exact ih24 τ26 x27 (Nat.lt_of_lt_of_le hw.2 (Nat.le_of_lt_succ hlt24)) hw.1
  refine z_sub [1, 2, 0] [(0, .ref (w.1 i0)), (1, .int x1), (2, .int 0)] rfl ?_
  exact lp24 _ τ21 0 (Nat.lt_succ_self _) hI24
def wpx_X8_isUp (τ : TS) (i0 : Nat) (x1 : Int32) (K : TS → Int32 → Prop) (X : TS → Nat → Prop) : Prop :=
  wpx_X8_checkLink τ i0 x1 (fun τ21 => vp_in x1 12 ∧ (tp_z (τ21 6 (Int32.toNatClampNeg x1)) ∧ K τ21 (τ21 6 (Int32.toNatClampNeg x1)))) X
theorem mw_X8_isUp_0 : Cond.fieldLink RX8 12 "TidePost" "net" "LTidePost$Net;" ∈ wsX8_isUp := List.mem_of_getElem? (i := 1) rfl
theorem mw_X8_isUp_1 : Cond.fieldLink RX8 80 "TidePost$Net" "up" "[Z" ∈ wsX8_isUp := List.mem_of_getElem? (i := 2) rfl
theorem in_X8_isUp_X8 : ∀ x ∈ wsX80, x ∈ wsX8_isUp := fun _ h => List.mem_cons_of_mem _ (List.mem_append_left _ (List.mem_append_left _ (List.mem_append_right _ h)))
theorem in_X8_isUp_X3 : ∀ x ∈ wsX30, x ∈ wsX8_isUp := fun _ h => List.mem_cons_of_mem _ (List.mem_append_left _ (List.mem_append_right _ h))
set_option maxHeartbeats 4000000 in
set_option maxRecDepth 100000 in
theorem cx_X8_isUp (w : WPar) (τ : TS) (i0 : Nat) (x1 : Int32) (K : TS → Int32 → Prop) (X : TS → Nat → Prop) (hl : w.2.1.stackTraces = false) (h0 : tp_is w i0 7) (hw : wpx_X8_isUp τ i0 x1 K X) : XI w yX8_isUp wsX8_isUp 7 103 1 6 [.ref (w.1 i0), .int x1] τ K X := by
  refine tp_enterXZ (cc := cX8_isUp) (maxL := 2) hl (by decide) rfl rfl (Nat.le_of_ble_eq_true rfl) (fun g C D hR hRX hT => ?_)
  show Zt w g τ (0, 0) 0 [(0, .ref (w.1 i0)), (1, .int x1)] []
  unfold wpx_X8_isUp at hw
  refine z_aload_n C 0 (by rfl) dX8_isUp_0 ?_
  refine z_iload_n C 1 (by rfl) dX8_isUp_1 ?_
  refine xv_v C D (As := [.int x1]) (bytes := cX8_checkLink) (maxL := 2) (F1 := 6) (L1 := 82) (mc := 1) (ms := 6) (cx_X8_checkLink w _ i0 x1 _ _ hl h0 hw) h0.2 (tE7 h0.1) rfl 1 gX8_isUp_X8_checkLink rfl (by decide +kernel) ⟨Nat.le_of_ble_eq_true rfl, Nat.le_of_ble_eq_true rfl⟩ rfl (Nat.le_of_ble_eq_true rfl) (k2 := (1, 6)) rfl ⟨Nat.le_of_ble_eq_true rfl, Nat.le_of_ble_eq_true rfl⟩ rfl dX8_isUp_2 (fun _ _ hx => hRX _ _ _ _ _ (Nat.le_of_ble_eq_true rfl) (Nat.le_of_ble_eq_true rfl) hx) (fun τ21 hw => ?_)
  refine z_aload_n C 0 (by rfl) dX8_isUp_5 ?_
  refine z_get C (Cn := RX8) (T := TX8) (N := 4) (ci := 7) h0.2 0 (tE7 h0.1) in_X8_isUp_X8 rfl (by decide) mw_X8_isUp_0 rfl rfl dX8_isUp_6 ?_
  refine z_get C (Cn := RX3) (T := TX3) (N := 9) (ci := 3) (tR7_0 h0).2 6 (tE3 (tR7_0 h0).1) in_X8_isUp_X3 rfl (by decide) mw_X8_isUp_1 rfl rfl dX8_isUp_9 ?_
  refine z_iload_n C 1 (by rfl) dX8_isUp_12 ?_
  obtain ⟨s22, hw⟩ := hw
  refine z_zald C (tR3_6 (tR7_0 h0)).2 (tE12 (tR3_6 (tR7_0 h0)).1) s22 dX8_isUp_13 ?_
  exact hR _ _ _ _ dX8_isUp_14 hw.1.1 hw.2
def wpx_X8_distance (τ : TS) (i0 : Nat) (x1 : Int32) (x2 : Int32) (K : TS → Int32 → Prop) (X : TS → Nat → Prop) : Prop :=
  wpx_X8_checkNode τ i0 x1 (fun τ21 => wpx_X8_checkNode τ21 i0 x2 (fun τ22 => vp_in x2 8 ∧ (vp_in x1 8 ∧ (K τ22 (τ22 (8 + (Int32.toNatClampNeg x2)) (Int32.toNatClampNeg x1))))) X) X
theorem mw_X8_distance_0 : Cond.fieldLink RX8 12 "TidePost" "net" "LTidePost$Net;" ∈ wsX8_distance := List.mem_of_getElem? (i := 1) rfl
theorem mw_X8_distance_1 : Cond.fieldLink RX8 171 "TidePost$Net" "distances" "[[I" ∈ wsX8_distance := List.mem_of_getElem? (i := 2) rfl
theorem in_X8_distance_X8 : ∀ x ∈ wsX80, x ∈ wsX8_distance := fun _ h => List.mem_cons_of_mem _ (List.mem_append_left _ (List.mem_append_left _ (List.mem_append_right _ h)))
theorem in_X8_distance_X3 : ∀ x ∈ wsX30, x ∈ wsX8_distance := fun _ h => List.mem_cons_of_mem _ (List.mem_append_left _ (List.mem_append_right _ h))
set_option maxHeartbeats 4000000 in
set_option maxRecDepth 100000 in
theorem cx_X8_distance (w : WPar) (τ : TS) (i0 : Nat) (x1 : Int32) (x2 : Int32) (K : TS → Int32 → Prop) (X : TS → Nat → Prop) (hl : w.2.1.stackTraces = false) (h0 : tp_is w i0 7) (hw : wpx_X8_distance τ i0 x1 x2 K X) : XI w yX8_distance wsX8_distance 7 103 2 12 [.ref (w.1 i0), .int x1, .int x2] τ K X := by
  refine tp_enterXI (cc := cX8_distance) (maxL := 3) hl (by decide) rfl rfl (Nat.le_of_ble_eq_true rfl) (fun g C D hR hRX hT => ?_)
  show Zt w g τ (0, 0) 0 [(0, .ref (w.1 i0)), (1, .int x1), (2, .int x2)] []
  unfold wpx_X8_distance at hw
  refine z_aload_n C 0 (by rfl) dX8_distance_0 ?_
  refine z_iload_n C 1 (by rfl) dX8_distance_1 ?_
  refine xv_v C D (As := [.int x1]) (bytes := cX8_checkNode) (maxL := 2) (F1 := 6) (L1 := 82) (mc := 1) (ms := 6) (cx_X8_checkNode w _ i0 x1 _ _ hl h0 hw) h0.2 (tE7 h0.1) rfl 1 gX8_distance_X8_checkNode rfl (by decide +kernel) ⟨Nat.le_of_ble_eq_true rfl, Nat.le_of_ble_eq_true rfl⟩ rfl (Nat.le_of_ble_eq_true rfl) (k2 := (1, 6)) rfl ⟨Nat.le_of_ble_eq_true rfl, Nat.le_of_ble_eq_true rfl⟩ rfl dX8_distance_2 (fun _ _ hx => hRX _ _ _ _ _ (Nat.le_of_ble_eq_true rfl) (Nat.le_of_ble_eq_true rfl) hx) (fun τ21 hw => ?_)
  refine z_aload_n C 0 (by rfl) dX8_distance_5 ?_
  refine z_iload_n C 2 (by rfl) dX8_distance_6 ?_
  refine xv_v C D (As := [.int x2]) (bytes := cX8_checkNode) (maxL := 2) (F1 := 6) (L1 := 82) (mc := 1) (ms := 6) (cx_X8_checkNode w _ i0 x2 _ _ hl h0 hw) h0.2 (tE7 h0.1) rfl 1 gX8_distance_X8_checkNode rfl (by decide +kernel) ⟨Nat.le_of_ble_eq_true rfl, Nat.le_of_ble_eq_true rfl⟩ rfl (Nat.le_of_ble_eq_true rfl) (k2 := (2, 12)) rfl ⟨Nat.le_of_ble_eq_true rfl, Nat.le_of_ble_eq_true rfl⟩ rfl dX8_distance_7 (fun _ _ hx => hRX _ _ _ _ _ (Nat.le_of_ble_eq_true rfl) (Nat.le_of_ble_eq_true rfl) hx) (fun τ22 hw => ?_)
  refine z_aload_n C 0 (by rfl) dX8_distance_10 ?_
  refine z_get C (Cn := RX8) (T := TX8) (N := 4) (ci := 7) h0.2 0 (tE7 h0.1) in_X8_distance_X8 rfl (by decide) mw_X8_distance_0 rfl rfl dX8_distance_11 ?_
  refine z_get C (Cn := RX3) (T := TX3) (N := 9) (ci := 3) (tR7_0 h0).2 7 (tE3 (tR7_0 h0).1) in_X8_distance_X3 rfl (by decide) mw_X8_distance_1 rfl rfl dX8_distance_14 ?_
  refine z_iload_n C 2 (by rfl) dX8_distance_17 ?_
  obtain ⟨s23, hw⟩ := hw
  refine z_aald_q4 C (tR3_7 (tR7_0 h0)).2 (tE14 (tR3_7 (tR7_0 h0)).1) s23 (if_pos (tp_lt s23)) dX8_distance_18 ?_
  refine z_iload_n C 1 (by rfl) dX8_distance_19 ?_
  obtain ⟨s24, hw⟩ := hw
  refine z_iald C (tR14 (tR3_7 (tR7_0 h0)) (tp_lt s23)).2 (tE13 (tR14 (tR3_7 (tR7_0 h0)) (tp_lt s23)).1) s24 dX8_distance_20 ?_
  exact hR _ _ _ _ dX8_distance_21 hw
def wpx_X8_nextLink (τ : TS) (i0 : Nat) (x1 : Int32) (x2 : Int32) (K : TS → Int32 → Prop) (X : TS → Nat → Prop) : Prop :=
  wpx_X8_checkNode τ i0 x1 (fun τ21 => wpx_X8_checkNode τ21 i0 x2 (fun τ22 => False) X) X
theorem mw_X8_nextLink_0 : Cond.fieldLink RX8 12 "TidePost" "net" "LTidePost$Net;" ∈ wsX8_nextLink := List.mem_of_getElem? (i := 1) rfl
theorem in_X8_nextLink_X8 : ∀ x ∈ wsX80, x ∈ wsX8_nextLink := fun _ h => List.mem_cons_of_mem _ (List.mem_append_left _ (List.mem_append_left _ (List.mem_append_right _ h)))
set_option maxHeartbeats 4000000 in
set_option maxRecDepth 100000 in
theorem cx_X8_nextLink (w : WPar) (τ : TS) (i0 : Nat) (x1 : Int32) (x2 : Int32) (K : TS → Int32 → Prop) (X : TS → Nat → Prop) (hl : w.2.1.stackTraces = false) (h0 : tp_is w i0 7) (hw : wpx_X8_nextLink τ i0 x1 x2 K X) : XI w yX8_nextLink wsX8_nextLink 7 103 2 12 [.ref (w.1 i0), .int x1, .int x2] τ K X := by
  refine tp_enterXI (cc := cX8_nextLink) (maxL := 3) hl (by decide) rfl rfl (Nat.le_of_ble_eq_true rfl) (fun g C D hR hRX hT => ?_)
  show Zt w g τ (0, 0) 0 [(0, .ref (w.1 i0)), (1, .int x1), (2, .int x2)] []
  unfold wpx_X8_nextLink at hw
  refine z_aload_n C 0 (by rfl) dX8_nextLink_0 ?_
  refine z_iload_n C 1 (by rfl) dX8_nextLink_1 ?_
  refine xv_v C D (As := [.int x1]) (bytes := cX8_checkNode) (maxL := 2) (F1 := 6) (L1 := 82) (mc := 1) (ms := 6) (cx_X8_checkNode w _ i0 x1 _ _ hl h0 hw) h0.2 (tE7 h0.1) rfl 1 gX8_nextLink_X8_checkNode rfl (by decide +kernel) ⟨Nat.le_of_ble_eq_true rfl, Nat.le_of_ble_eq_true rfl⟩ rfl (Nat.le_of_ble_eq_true rfl) (k2 := (1, 6)) rfl ⟨Nat.le_of_ble_eq_true rfl, Nat.le_of_ble_eq_true rfl⟩ rfl dX8_nextLink_2 (fun _ _ hx => hRX _ _ _ _ _ (Nat.le_of_ble_eq_true rfl) (Nat.le_of_ble_eq_true rfl) hx) (fun τ21 hw => ?_)
  refine z_aload_n C 0 (by rfl) dX8_nextLink_5 ?_
  refine z_iload_n C 2 (by rfl) dX8_nextLink_6 ?_
  refine xv_v C D (As := [.int x2]) (bytes := cX8_checkNode) (maxL := 2) (F1 := 6) (L1 := 82) (mc := 1) (ms := 6) (cx_X8_checkNode w _ i0 x2 _ _ hl h0 hw) h0.2 (tE7 h0.1) rfl 1 gX8_nextLink_X8_checkNode rfl (by decide +kernel) ⟨Nat.le_of_ble_eq_true rfl, Nat.le_of_ble_eq_true rfl⟩ rfl (Nat.le_of_ble_eq_true rfl) (k2 := (2, 12)) rfl ⟨Nat.le_of_ble_eq_true rfl, Nat.le_of_ble_eq_true rfl⟩ rfl dX8_nextLink_7 (fun _ _ hx => hRX _ _ _ _ _ (Nat.le_of_ble_eq_true rfl) (Nat.le_of_ble_eq_true rfl) hx) (fun τ22 hw => ?_)
  refine z_aload_n C 0 (by rfl) dX8_nextLink_10 ?_
  refine z_get C (Cn := RX8) (T := TX8) (N := 4) (ci := 7) h0.2 0 (tE7 h0.1) in_X8_nextLink_X8 rfl (by decide) mw_X8_nextLink_0 rfl rfl dX8_nextLink_11 ?_
  refine z_iload_n C 1 (by rfl) dX8_nextLink_14 ?_
  refine z_iload_n C 2 (by rfl) dX8_nextLink_15 ?_
  exact hw.elim
def wpx_X8_queued (τ : TS) (i0 : Nat) (x1 : Int32) (x2 : Int32) (K : TS → Int32 → Prop) (X : TS → Nat → Prop) : Prop :=
  wpx_X8_wayOf τ i0 x1 x2 (fun τ21 j22 => K τ21 (τ21 j22 2)) X
theorem mw_X8_queued_0 : Cond.fieldLink RX8 177 "TidePost$Way" "queued" "I" ∈ wsX8_queued := List.mem_of_getElem? (i := 1) rfl
theorem in_X8_queued_X7 : ∀ x ∈ wsX70, x ∈ wsX8_queued := fun _ h => List.mem_cons_of_mem _ (List.mem_append_left _ (List.mem_append_left _ (List.mem_append_left _ (List.mem_append_left _ (List.mem_append_right _ h)))))
set_option maxHeartbeats 4000000 in
set_option maxRecDepth 100000 in
theorem cx_X8_queued (w : WPar) (τ : TS) (i0 : Nat) (x1 : Int32) (x2 : Int32) (K : TS → Int32 → Prop) (X : TS → Nat → Prop) (hl : w.2.1.stackTraces = false) (h0 : tp_is w i0 7) (hw : wpx_X8_queued τ i0 x1 x2 K X) : XI w yX8_queued wsX8_queued 8 125 2 12 [.ref (w.1 i0), .int x1, .int x2] τ K X := by
  refine tp_enterXI (cc := cX8_queued) (maxL := 3) hl (by decide) rfl rfl (Nat.le_of_ble_eq_true rfl) (fun g C D hR hRX hT => ?_)
  show Zt w g τ (0, 0) 0 [(0, .ref (w.1 i0)), (1, .int x1), (2, .int x2)] []
  unfold wpx_X8_queued at hw
  refine z_aload_n C 0 (by rfl) dX8_queued_0 ?_
  refine z_iload_n C 1 (by rfl) dX8_queued_1 ?_
  refine z_iload_n C 2 (by rfl) dX8_queued_2 ?_
  refine xv_r C D (As := [.int x1, .int x2]) (bytes := cX8_wayOf) (maxL := 3) (F1 := 7) (L1 := 103) (mc := 2) (ms := 12) (cx_X8_wayOf w _ i0 x1 x2 _ _ hl h0 hw) h0.2 (tE7 h0.1) rfl 2 gX8_queued_X8_wayOf rfl (by decide +kernel) ⟨Nat.le_of_ble_eq_true rfl, Nat.le_of_ble_eq_true rfl⟩ rfl (Nat.le_of_ble_eq_true rfl) (k2 := (2, 12)) rfl ⟨Nat.le_of_ble_eq_true rfl, Nat.le_of_ble_eq_true rfl⟩ rfl dX8_queued_3 (fun _ _ hx => hRX _ _ _ _ _ (Nat.le_of_ble_eq_true rfl) (Nat.le_of_ble_eq_true rfl) hx) (fun τ21 j22 hw hj22 => ?_)
  refine z_get C (Cn := RX7) (T := TX7) (N := 7) (ci := 6) hj22.2 2 (tE6 hj22.1) in_X8_queued_X7 rfl (by decide) mw_X8_queued_0 rfl rfl dX8_queued_6 ?_
  exact hR _ _ _ _ dX8_queued_9 hw
def wpx_X8_flying (τ : TS) (i0 : Nat) (x1 : Int32) (x2 : Int32) (K : TS → Int32 → Prop) (X : TS → Nat → Prop) : Prop :=
  wpx_X8_wayOf τ i0 x1 x2 (fun τ21 j22 => K τ21 (τ21 j22 4)) X
theorem mw_X8_flying_0 : Cond.fieldLink RX8 180 "TidePost$Way" "flying" "I" ∈ wsX8_flying := List.mem_of_getElem? (i := 1) rfl
theorem in_X8_flying_X7 : ∀ x ∈ wsX70, x ∈ wsX8_flying := fun _ h => List.mem_cons_of_mem _ (List.mem_append_left _ (List.mem_append_left _ (List.mem_append_left _ (List.mem_append_left _ (List.mem_append_right _ h)))))
set_option maxHeartbeats 4000000 in
set_option maxRecDepth 100000 in
theorem cx_X8_flying (w : WPar) (τ : TS) (i0 : Nat) (x1 : Int32) (x2 : Int32) (K : TS → Int32 → Prop) (X : TS → Nat → Prop) (hl : w.2.1.stackTraces = false) (h0 : tp_is w i0 7) (hw : wpx_X8_flying τ i0 x1 x2 K X) : XI w yX8_flying wsX8_flying 8 125 2 12 [.ref (w.1 i0), .int x1, .int x2] τ K X := by
  refine tp_enterXI (cc := cX8_flying) (maxL := 3) hl (by decide) rfl rfl (Nat.le_of_ble_eq_true rfl) (fun g C D hR hRX hT => ?_)
  show Zt w g τ (0, 0) 0 [(0, .ref (w.1 i0)), (1, .int x1), (2, .int x2)] []
  unfold wpx_X8_flying at hw
  refine z_aload_n C 0 (by rfl) dX8_flying_0 ?_
  refine z_iload_n C 1 (by rfl) dX8_flying_1 ?_
  refine z_iload_n C 2 (by rfl) dX8_flying_2 ?_
  refine xv_r C D (As := [.int x1, .int x2]) (bytes := cX8_wayOf) (maxL := 3) (F1 := 7) (L1 := 103) (mc := 2) (ms := 12) (cx_X8_wayOf w _ i0 x1 x2 _ _ hl h0 hw) h0.2 (tE7 h0.1) rfl 2 gX8_flying_X8_wayOf rfl (by decide +kernel) ⟨Nat.le_of_ble_eq_true rfl, Nat.le_of_ble_eq_true rfl⟩ rfl (Nat.le_of_ble_eq_true rfl) (k2 := (2, 12)) rfl ⟨Nat.le_of_ble_eq_true rfl, Nat.le_of_ble_eq_true rfl⟩ rfl dX8_flying_3 (fun _ _ hx => hRX _ _ _ _ _ (Nat.le_of_ble_eq_true rfl) (Nat.le_of_ble_eq_true rfl) hx) (fun τ21 j22 hw hj22 => ?_)
  refine z_get C (Cn := RX7) (T := TX7) (N := 7) (ci := 6) hj22.2 4 (tE6 hj22.1) in_X8_flying_X7 rfl (by decide) mw_X8_flying_0 rfl rfl dX8_flying_6 ?_
  exact hR _ _ _ _ dX8_flying_9 hw
def wpx_X8_flown (τ : TS) (i0 : Nat) (x1 : Int32) (x2 : Int32) (K : TS → Int32 → Prop) (X : TS → Nat → Prop) : Prop :=
  wpx_X8_wayOf τ i0 x1 x2 (fun τ21 j22 => K τ21 (τ21 j22 5)) X
theorem mw_X8_flown_0 : Cond.fieldLink RX8 183 "TidePost$Way" "flown" "I" ∈ wsX8_flown := List.mem_of_getElem? (i := 1) rfl
theorem in_X8_flown_X7 : ∀ x ∈ wsX70, x ∈ wsX8_flown := fun _ h => List.mem_cons_of_mem _ (List.mem_append_left _ (List.mem_append_left _ (List.mem_append_left _ (List.mem_append_left _ (List.mem_append_right _ h)))))
set_option maxHeartbeats 4000000 in
set_option maxRecDepth 100000 in
theorem cx_X8_flown (w : WPar) (τ : TS) (i0 : Nat) (x1 : Int32) (x2 : Int32) (K : TS → Int32 → Prop) (X : TS → Nat → Prop) (hl : w.2.1.stackTraces = false) (h0 : tp_is w i0 7) (hw : wpx_X8_flown τ i0 x1 x2 K X) : XI w yX8_flown wsX8_flown 8 125 2 12 [.ref (w.1 i0), .int x1, .int x2] τ K X := by
  refine tp_enterXI (cc := cX8_flown) (maxL := 3) hl (by decide) rfl rfl (Nat.le_of_ble_eq_true rfl) (fun g C D hR hRX hT => ?_)
  show Zt w g τ (0, 0) 0 [(0, .ref (w.1 i0)), (1, .int x1), (2, .int x2)] []
  unfold wpx_X8_flown at hw
  refine z_aload_n C 0 (by rfl) dX8_flown_0 ?_
  refine z_iload_n C 1 (by rfl) dX8_flown_1 ?_
  refine z_iload_n C 2 (by rfl) dX8_flown_2 ?_
  refine xv_r C D (As := [.int x1, .int x2]) (bytes := cX8_wayOf) (maxL := 3) (F1 := 7) (L1 := 103) (mc := 2) (ms := 12) (cx_X8_wayOf w _ i0 x1 x2 _ _ hl h0 hw) h0.2 (tE7 h0.1) rfl 2 gX8_flown_X8_wayOf rfl (by decide +kernel) ⟨Nat.le_of_ble_eq_true rfl, Nat.le_of_ble_eq_true rfl⟩ rfl (Nat.le_of_ble_eq_true rfl) (k2 := (2, 12)) rfl ⟨Nat.le_of_ble_eq_true rfl, Nat.le_of_ble_eq_true rfl⟩ rfl dX8_flown_3 (fun _ _ hx => hRX _ _ _ _ _ (Nat.le_of_ble_eq_true rfl) (Nat.le_of_ble_eq_true rfl) hx) (fun τ21 j22 hw hj22 => ?_)
  refine z_get C (Cn := RX7) (T := TX7) (N := 7) (ci := 6) hj22.2 5 (tE6 hj22.1) in_X8_flown_X7 rfl (by decide) mw_X8_flown_0 rfl rfl dX8_flown_6 ?_
  exact hR _ _ _ _ dX8_flown_9 hw
def wpx_X8_stateOf (τ : TS) (i0 : Nat) (x1 : Int32) (K : TS → Int32 → Prop) (X : TS → Nat → Prop) : Prop :=
  wpx_X8_callerOf τ i0 x1 (fun τ21 j22 => K τ21 (τ21 j22 0)) X
theorem mw_X8_stateOf_0 : Cond.fieldLink RX8 193 "TidePost$Caller" "state" "I" ∈ wsX8_stateOf := List.mem_of_getElem? (i := 1) rfl
theorem in_X8_stateOf_X1 : ∀ x ∈ wsX10, x ∈ wsX8_stateOf := fun _ h => List.mem_cons_of_mem _ (List.mem_append_left _ (List.mem_append_left _ (List.mem_append_left _ (List.mem_append_left _ (List.mem_append_right _ h)))))
set_option maxHeartbeats 4000000 in
set_option maxRecDepth 100000 in
theorem cx_X8_stateOf (w : WPar) (τ : TS) (i0 : Nat) (x1 : Int32) (K : TS → Int32 → Prop) (X : TS → Nat → Prop) (hl : w.2.1.stackTraces = false) (h0 : tp_is w i0 7) (hw : wpx_X8_stateOf τ i0 x1 K X) : XI w yX8_stateOf wsX8_stateOf 8 124 1 6 [.ref (w.1 i0), .int x1] τ K X := by
  refine tp_enterXI (cc := cX8_stateOf) (maxL := 2) hl (by decide) rfl rfl (Nat.le_of_ble_eq_true rfl) (fun g C D hR hRX hT => ?_)
  show Zt w g τ (0, 0) 0 [(0, .ref (w.1 i0)), (1, .int x1)] []
  unfold wpx_X8_stateOf at hw
  refine z_aload_n C 0 (by rfl) dX8_stateOf_0 ?_
  refine z_iload_n C 1 (by rfl) dX8_stateOf_1 ?_
  refine xv_r C D (As := [.int x1]) (bytes := cX8_callerOf) (maxL := 2) (F1 := 7) (L1 := 103) (mc := 1) (ms := 6) (cx_X8_callerOf w _ i0 x1 _ _ hl h0 hw) h0.2 (tE7 h0.1) rfl 1 gX8_stateOf_X8_callerOf rfl (by decide +kernel) ⟨Nat.le_of_ble_eq_true rfl, Nat.le_of_ble_eq_true rfl⟩ rfl (Nat.le_of_ble_eq_true rfl) (k2 := (1, 6)) rfl ⟨Nat.le_of_ble_eq_true rfl, Nat.le_of_ble_eq_true rfl⟩ rfl dX8_stateOf_2 (fun _ _ hx => hRX _ _ _ _ _ (Nat.le_of_ble_eq_true rfl) (Nat.le_of_ble_eq_true rfl) hx) (fun τ21 j22 hw hj22 => ?_)
  refine z_get C (Cn := RX1) (T := TX1) (N := 14) (ci := 1) hj22.2 0 (tE1 hj22.1) in_X8_stateOf_X1 rfl (by decide) mw_X8_stateOf_0 rfl rfl dX8_stateOf_5 ?_
  exact hR _ _ _ _ dX8_stateOf_8 hw
def wpx_X8_given (τ : TS) (i0 : Nat) (x1 : Int32) (K : TS → Int32 → Prop) (X : TS → Nat → Prop) : Prop :=
  wpx_X8_callerOf τ i0 x1 (fun τ21 j22 => K τ21 (τ21 j22 1)) X
theorem mw_X8_given_0 : Cond.fieldLink RX8 116 "TidePost$Caller" "given" "I" ∈ wsX8_given := List.mem_of_getElem? (i := 1) rfl
theorem in_X8_given_X1 : ∀ x ∈ wsX10, x ∈ wsX8_given := fun _ h => List.mem_cons_of_mem _ (List.mem_append_left _ (List.mem_append_left _ (List.mem_append_left _ (List.mem_append_left _ (List.mem_append_right _ h)))))
set_option maxHeartbeats 4000000 in
set_option maxRecDepth 100000 in
theorem cx_X8_given (w : WPar) (τ : TS) (i0 : Nat) (x1 : Int32) (K : TS → Int32 → Prop) (X : TS → Nat → Prop) (hl : w.2.1.stackTraces = false) (h0 : tp_is w i0 7) (hw : wpx_X8_given τ i0 x1 K X) : XI w yX8_given wsX8_given 8 124 1 6 [.ref (w.1 i0), .int x1] τ K X := by
  refine tp_enterXI (cc := cX8_given) (maxL := 2) hl (by decide) rfl rfl (Nat.le_of_ble_eq_true rfl) (fun g C D hR hRX hT => ?_)
  show Zt w g τ (0, 0) 0 [(0, .ref (w.1 i0)), (1, .int x1)] []
  unfold wpx_X8_given at hw
  refine z_aload_n C 0 (by rfl) dX8_given_0 ?_
  refine z_iload_n C 1 (by rfl) dX8_given_1 ?_
  refine xv_r C D (As := [.int x1]) (bytes := cX8_callerOf) (maxL := 2) (F1 := 7) (L1 := 103) (mc := 1) (ms := 6) (cx_X8_callerOf w _ i0 x1 _ _ hl h0 hw) h0.2 (tE7 h0.1) rfl 1 gX8_given_X8_callerOf rfl (by decide +kernel) ⟨Nat.le_of_ble_eq_true rfl, Nat.le_of_ble_eq_true rfl⟩ rfl (Nat.le_of_ble_eq_true rfl) (k2 := (1, 6)) rfl ⟨Nat.le_of_ble_eq_true rfl, Nat.le_of_ble_eq_true rfl⟩ rfl dX8_given_2 (fun _ _ hx => hRX _ _ _ _ _ (Nat.le_of_ble_eq_true rfl) (Nat.le_of_ble_eq_true rfl) hx) (fun τ21 j22 hw hj22 => ?_)
  refine z_get C (Cn := RX1) (T := TX1) (N := 14) (ci := 1) hj22.2 1 (tE1 hj22.1) in_X8_given_X1 rfl (by decide) mw_X8_given_0 rfl rfl dX8_given_5 ?_
  exact hR _ _ _ _ dX8_given_8 hw
