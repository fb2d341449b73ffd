def wp_X8_checkNode (τ : TS) (i0 : Nat) (x1 : Int32) (K : TS → Prop) : Prop :=
  ((x1 < 0) → False) ∧ ((¬ x1 < 0) → (((x1 < (τ 1 0)) → (K τ)) ∧ ((¬ x1 < (τ 1 0)) → False)))
theorem mw_X8_checkNode_2 : Cond.fieldLink RX8 12 "TidePost" "net" "LTidePost$Net;" ∈ wsX8_checkNode := List.mem_of_getElem? (i := 3) rfl
theorem mw_X8_checkNode_3 : Cond.fieldLink RX8 33 "TidePost$Net" "nodes" "I" ∈ wsX8_checkNode := List.mem_of_getElem? (i := 4) rfl
theorem in_X8_checkNode_X8 : ∀ x ∈ wsX80, x ∈ wsX8_checkNode := fun _ h => List.mem_cons_of_mem _ (List.mem_append_left _ (List.mem_append_left _ (List.mem_append_right _ h)))
theorem in_X8_checkNode_X3 : ∀ x ∈ wsX30, x ∈ wsX8_checkNode := fun _ h => List.mem_cons_of_mem _ (List.mem_append_left _ (List.mem_append_right _ h))
set_option maxHeartbeats 4000000 in
set_option maxRecDepth 100000 in
theorem c_X8_checkNode (w : WPar) (τ : TS) (i0 : Nat) (x1 : Int32) (K : TS → Prop) (h0 : tp_is w i0 7) (hw : wp_X8_checkNode τ i0 x1 K) : MV w yX8_checkNode wsX8_checkNode 0 0 [.ref (w.1 i0), .int x1] τ K := by
  refine tp_enterV (cc := cX8_checkNode) (maxL := 2) (own := RX8) (by decide) rfl rfl (Nat.le_of_ble_eq_true rfl) (fun g C hR => ?_)
  show Zt w g τ (0, 0) 0 [(0, .ref (w.1 i0)), (1, .int x1)] []
  unfold wp_X8_checkNode at hw
  refine z_iload_n C 1 (by rfl) dX8_checkNode_0 ?_
  refine z_if_lt (tgt := 15) C dX8_checkNode_1 (by decide) (fun c21 => ?_) (fun c21 => ?_)
  · have hw := hw.1 c21
    exact hw.elim
  · have hw := hw.2 c21
    refine z_iload_n C 1 (by rfl) dX8_checkNode_4 ?_
    refine z_aload_n C 0 (by rfl) dX8_checkNode_5 ?_
    refine z_get C (Cn := RX8) (T := TX8) (N := 4) (ci := 7) h0.2 0 (tE7 h0.1) in_X8_checkNode_X8 rfl (by decide) mw_X8_checkNode_2 rfl rfl dX8_checkNode_6 ?_
    refine z_get C (Cn := RX3) (T := TX3) (N := 9) (ci := 3) (tR7_0 h0).2 0 (tE3 (tR7_0 h0).1) in_X8_checkNode_X3 rfl (by decide) mw_X8_checkNode_3 rfl rfl dX8_checkNode_9 ?_
    refine z_icmp_lt (tgt := 26) C dX8_checkNode_12 (by decide) (fun c22 => ?_) (fun c22 => ?_)
    · have hw := hw.1 c22
      exact hR _ _ _ dX8_checkNode_26 hw
    · have hw := hw.2 c22
      exact hw.elim
def wp_X8_checkLink (τ : TS) (i0 : Nat) (x1 : Int32) (K : TS → Prop) : Prop :=
  ((x1 < 0) → False) ∧ ((¬ x1 < 0) → (((x1 < (τ 1 1)) → (K τ)) ∧ ((¬ x1 < (τ 1 1)) → False)))
theorem mw_X8_checkLink_2 : Cond.fieldLink RX8 12 "TidePost" "net" "LTidePost$Net;" ∈ wsX8_checkLink := List.mem_of_getElem? (i := 3) rfl
theorem mw_X8_checkLink_3 : Cond.fieldLink RX8 61 "TidePost$Net" "links" "I" ∈ wsX8_checkLink := List.mem_of_getElem? (i := 4) rfl
theorem in_X8_checkLink_X8 : ∀ x ∈ wsX80, x ∈ wsX8_checkLink := fun _ h => List.mem_cons_of_mem _ (List.mem_append_left _ (List.mem_append_left _ (List.mem_append_right _ h)))
theorem in_X8_checkLink_X3 : ∀ x ∈ wsX30, x ∈ wsX8_checkLink := fun _ h => List.mem_cons_of_mem _ (List.mem_append_left _ (List.mem_append_right _ h))
set_option maxHeartbeats 4000000 in
set_option maxRecDepth 100000 in
theorem c_X8_checkLink (w : WPar) (τ : TS) (i0 : Nat) (x1 : Int32) (K : TS → Prop) (h0 : tp_is w i0 7) (hw : wp_X8_checkLink τ i0 x1 K) : MV w yX8_checkLink wsX8_checkLink 0 0 [.ref (w.1 i0), .int x1] τ K := by
  refine tp_enterV (cc := cX8_checkLink) (maxL := 2) (own := RX8) (by decide) rfl rfl (Nat.le_of_ble_eq_true rfl) (fun g C hR => ?_)
  show Zt w g τ (0, 0) 0 [(0, .ref (w.1 i0)), (1, .int x1)] []
  unfold wp_X8_checkLink at hw
  refine z_iload_n C 1 (by rfl) dX8_checkLink_0 ?_
  refine z_if_lt (tgt := 15) C dX8_checkLink_1 (by decide) (fun c21 => ?_) (fun c21 => ?_)
  · have hw := hw.1 c21
    exact hw.elim
  · have hw := hw.2 c21
    refine z_iload_n C 1 (by rfl) dX8_checkLink_4 ?_
    refine z_aload_n C 0 (by rfl) dX8_checkLink_5 ?_
    refine z_get C (Cn := RX8) (T := TX8) (N := 4) (ci := 7) h0.2 0 (tE7 h0.1) in_X8_checkLink_X8 rfl (by decide) mw_X8_checkLink_2 rfl rfl dX8_checkLink_6 ?_
    refine z_get C (Cn := RX3) (T := TX3) (N := 9) (ci := 3) (tR7_0 h0).2 1 (tE3 (tR7_0 h0).1) in_X8_checkLink_X3 rfl (by decide) mw_X8_checkLink_3 rfl rfl dX8_checkLink_9 ?_
    refine z_icmp_lt (tgt := 26) C dX8_checkLink_12 (by decide) (fun c22 => ?_) (fun c22 => ?_)
    · have hw := hw.1 c22
      exact hR _ _ _ dX8_checkLink_26 hw
    · have hw := hw.2 c22
      exact hw.elim
def wp_X8_checkRange (τ : TS) (x0 : Int32) (x1 : Int32) (x2 : Int32) (K : TS → Prop) : Prop :=
  ((x0 < x1) → False) ∧ ((¬ x0 < x1) → (((x0 ≤ x2) → (K τ)) ∧ ((¬ x0 ≤ x2) → False)))
set_option maxHeartbeats 4000000 in
set_option maxRecDepth 100000 in
theorem c_X8_checkRange (w : WPar) (τ : TS) (x0 : Int32) (x1 : Int32) (x2 : Int32) (K : TS → Prop)  (hw : wp_X8_checkRange τ x0 x1 x2 K) : MV w yX8_checkRange wsX8_checkRange 0 0 [.int x0, .int x1, .int x2] τ K := by
  refine tp_enterV (cc := cX8_checkRange) (maxL := 3) (own := RX8) (by decide) rfl rfl (Nat.le_of_ble_eq_true rfl) (fun g C hR => ?_)
  show Zt w g τ (0, 0) 0 [(0, .int x0), (1, .int x1), (2, .int x2)] []
  unfold wp_X8_checkRange at hw
  refine z_iload_n C 0 (by rfl) dX8_checkRange_0 ?_
  refine z_iload_n C 1 (by rfl) dX8_checkRange_1 ?_
  refine z_icmp_lt (tgt := 10) C dX8_checkRange_2 (by decide) (fun c21 => ?_) (fun c21 => ?_)
  · have hw := hw.1 c21
    exact hw.elim
  · have hw := hw.2 c21
    refine z_iload_n C 0 (by rfl) dX8_checkRange_5 ?_
    refine z_iload_n C 2 (by rfl) dX8_checkRange_6 ?_
    refine z_icmp_le (tgt := 21) C dX8_checkRange_7 (by decide) (fun c22 => ?_) (fun c22 => ?_)
    · have hw := hw.1 c22
      exact hR _ _ _ dX8_checkRange_21 hw
    · have hw := hw.2 c22
      exact hw.elim
def wp_X8_checkTakesThings (τ : TS) (j0 : Nat) (K : TS → Prop) : Prop :=
  (((τ j0 0) = 2) → False) ∧ ((¬ (τ j0 0) = 2) → ((((τ j0 0) = 3) → False) ∧ ((¬ (τ j0 0) = 3) → ((((τ j0 2) = 0) → (K τ)) ∧ ((¬ (τ j0 2) = 0) → False)))))
theorem mw_X8_checkTakesThings_2 : Cond.fieldLink RX8 193 "TidePost$Caller" "state" "I" ∈ wsX8_checkTakesThings := List.mem_of_getElem? (i := 3) rfl
theorem mw_X8_checkTakesThings_3 : Cond.fieldLink RX8 123 "TidePost$Caller" "toldToClose" "Z" ∈ wsX8_checkTakesThings := List.mem_of_getElem? (i := 4) rfl
theorem in_X8_checkTakesThings_X1 : ∀ x ∈ wsX10, x ∈ wsX8_checkTakesThings := fun _ h => List.mem_cons_of_mem _ (List.mem_append_left _ (List.mem_append_right _ h))
set_option maxHeartbeats 4000000 in
set_option maxRecDepth 100000 in
theorem c_X8_checkTakesThings (w : WPar) (τ : TS) (j0 : Nat) (K : TS → Prop) (h0 : tp_is w j0 1) (hw : wp_X8_checkTakesThings τ j0 K) : MV w yX8_checkTakesThings wsX8_checkTakesThings 0 0 [.ref (w.1 j0)] τ K := by
  refine tp_enterV (cc := cX8_checkTakesThings) (maxL := 1) (own := RX8) (by decide) rfl rfl (Nat.le_of_ble_eq_true rfl) (fun g C hR => ?_)
  show Zt w g τ (0, 0) 0 [(0, .ref (w.1 j0))] []
  unfold wp_X8_checkTakesThings at hw
  refine z_aload_n C 0 (by rfl) dX8_checkTakesThings_0 ?_
  refine z_get C (Cn := RX1) (T := TX1) (N := 14) (ci := 1) h0.2 0 (tE1 h0.1) in_X8_checkTakesThings_X1 rfl (by decide) mw_X8_checkTakesThings_2 rfl rfl dX8_checkTakesThings_1 ?_
  refine z_iconst C 2 (by decide) dX8_checkTakesThings_4 ?_
  refine z_icmp_eq (tgt := 23) C dX8_checkTakesThings_5 (by decide) (fun c21 => ?_) (fun c21 => ?_)
  · have hw := hw.1 c21
    exact hw.elim
  · have hw := hw.2 c21
    refine z_aload_n C 0 (by rfl) dX8_checkTakesThings_8 ?_
    refine z_get C (Cn := RX1) (T := TX1) (N := 14) (ci := 1) h0.2 0 (tE1 h0.1) in_X8_checkTakesThings_X1 rfl (by decide) mw_X8_checkTakesThings_2 rfl rfl dX8_checkTakesThings_9 ?_
    refine z_iconst C 3 (by decide) dX8_checkTakesThings_12 ?_
    refine z_icmp_eq (tgt := 23) C dX8_checkTakesThings_13 (by decide) (fun c22 => ?_) (fun c22 => ?_)
    · have hw := hw.1 c22
      exact hw.elim
    · have hw := hw.2 c22
      refine z_aload_n C 0 (by rfl) dX8_checkTakesThings_16 ?_
      refine z_get C (Cn := RX1) (T := TX1) (N := 14) (ci := 1) h0.2 2 (tE1 h0.1) in_X8_checkTakesThings_X1 rfl (by decide) mw_X8_checkTakesThings_3 rfl rfl dX8_checkTakesThings_17 ?_
      refine z_if_eq (tgt := 34) C dX8_checkTakesThings_20 (by decide) (fun c23 => ?_) (fun c23 => ?_)
      · have hw := hw.1 c23
        exact hR _ _ _ dX8_checkTakesThings_34 hw
      · have hw := hw.2 c23
        exact hw.elim
def wp_X8_wayOf (τ : TS) (i0 : Nat) (x1 : Int32) (x2 : Int32) (K : TS → Nat → Prop) : Prop :=
  wp_X8_checkLink τ i0 x1 (fun τ21 => ((x2 < 0) → False) ∧ ((¬ x2 < 0) → (((x2 ≤ 1) → (vp_in ((2 * x1) + x2) 24 ∧ (K τ21 ((17 + 1) + 2 + 3 * (Int32.toNatClampNeg ((2 * x1) + x2)))))) ∧ ((¬ x2 ≤ 1) → False))))
theorem mw_X8_wayOf_2 : Cond.fieldLink RX8 21 "TidePost" "traffic" "LTidePost$Traffic;" ∈ wsX8_wayOf := List.mem_of_getElem? (i := 3) rfl
theorem mw_X8_wayOf_3 : Cond.fieldLink RX8 189 "TidePost$Traffic" "ways" "[LTidePost$Way;" ∈ wsX8_wayOf := List.mem_of_getElem? (i := 4) rfl
theorem in_X8_wayOf_X8 : ∀ x ∈ wsX80, x ∈ wsX8_wayOf := fun _ h => List.mem_cons_of_mem _ (List.mem_append_left _ (List.mem_append_left _ (List.mem_append_left _ (List.mem_append_right _ h))))
theorem in_X8_wayOf_X6 : ∀ x ∈ wsX60, x ∈ wsX8_wayOf := fun _ h => List.mem_cons_of_mem _ (List.mem_append_left _ (List.mem_append_left _ (List.mem_append_right _ h)))
set_option maxHeartbeats 4000000 in
set_option maxRecDepth 100000 in
theorem c_X8_wayOf (w : WPar) (τ : TS) (i0 : Nat) (x1 : Int32) (x2 : Int32) (K : TS → Nat → Prop) (h0 : tp_is w i0 7) (hw : wp_X8_wayOf τ i0 x1 x2 K) : MR w yX8_wayOf wsX8_wayOf 1 21 [.ref (w.1 i0), .int x1, .int x2] τ K 6 := by
  refine tp_enterR (cc := cX8_wayOf) (maxL := 3) (own := RX8) (by decide) rfl rfl (Nat.le_of_ble_eq_true rfl) (fun g C hR => ?_)
  show Zt w g τ (0, 0) 0 [(0, .ref (w.1 i0)), (1, .int x1), (2, .int x2)] []
  unfold wp_X8_wayOf at hw
  refine z_aload_n C 0 (by rfl) dX8_wayOf_0 ?_
  refine z_iload_n C 1 (by rfl) dX8_wayOf_1 ?_
  refine zv_v C (As := [.int x1]) (bytes := cX8_checkLink) (maxL := 2) (F1 := 0) (L1 := 0) (c_X8_checkLink w _ i0 x1 _ h0 hw) h0.2 (tE7 h0.1) rfl 1 gX8_wayOf_X8_checkLink rfl (by decide +kernel) ⟨Nat.le_of_ble_eq_true rfl, Nat.le_of_ble_eq_true rfl⟩ rfl (Nat.le_of_ble_eq_true rfl) ⟨Nat.le_of_ble_eq_true rfl, Nat.le_of_ble_eq_true rfl⟩ rfl dX8_wayOf_2 (fun τ21 hw => ?_)
  refine z_iload_n C 2 (by rfl) dX8_wayOf_5 ?_
  refine z_if_lt (tgt := 14) C dX8_wayOf_6 (by decide) (fun c22 => ?_) (fun c22 => ?_)
  · have hw := hw.1 c22
    exact hw.elim
  · have hw := hw.2 c22
    refine z_iload_n C 2 (by rfl) dX8_wayOf_9 ?_
    refine z_iconst C 1 (by decide) dX8_wayOf_10 ?_
    refine z_icmp_le (tgt := 25) C dX8_wayOf_11 (by decide) (fun c23 => ?_) (fun c23 => ?_)
    · have hw := hw.1 c23
      refine z_aload_n C 0 (by rfl) dX8_wayOf_25 ?_
      refine z_get C (Cn := RX8) (T := TX8) (N := 4) (ci := 7) h0.2 1 (tE7 h0.1) in_X8_wayOf_X8 rfl (by decide) mw_X8_wayOf_2 rfl rfl dX8_wayOf_26 ?_
      refine z_get C (Cn := RX6) (T := TX6) (N := 6) (ci := 5) (tR7_1 h0).2 1 (tE5 (tR7_1 h0).1) in_X8_wayOf_X6 rfl (by decide) mw_X8_wayOf_3 rfl rfl dX8_wayOf_29 ?_
      refine z_iconst C 2 (by decide) dX8_wayOf_32 ?_
      refine z_iload_n C 1 (by rfl) dX8_wayOf_33 ?_
      refine z_imul C dX8_wayOf_34 ?_
      refine z_iload_n C 2 (by rfl) dX8_wayOf_35 ?_
      refine z_iadd C dX8_wayOf_36 ?_
      obtain ⟨s24, hw⟩ := hw
      refine z_aald_q2 C (tR5_1 (tR7_1 h0)).2 (tE15 (tR5_1 (tR7_1 h0)).1) s24 (if_pos (tp_lt s24)) dX8_wayOf_37 ?_
      exact hR _ _ _ _ dX8_wayOf_38 (tR15 (tR5_1 (tR7_1 h0)) (tp_lt s24)) hw
    · have hw := hw.2 c23
      exact hw.elim
def wp_X8_connectionOf (τ : TS) (i0 : Nat) (x1 : Int32) (K : TS → Nat → Prop) : Prop :=
  ((x1 < 0) → False) ∧ ((¬ x1 < 0) → (((x1 < (τ 17 3)) → (vp_in x1 6 ∧ (K τ ((17 + 2) + 73 + 5 * (Int32.toNatClampNeg x1))))) ∧ ((¬ x1 < (τ 17 3)) → False)))
theorem mw_X8_connectionOf_2 : Cond.fieldLink RX8 21 "TidePost" "traffic" "LTidePost$Traffic;" ∈ wsX8_connectionOf := List.mem_of_getElem? (i := 3) rfl
theorem mw_X8_connectionOf_3 : Cond.fieldLink RX8 99 "TidePost$Traffic" "made" "I" ∈ wsX8_connectionOf := List.mem_of_getElem? (i := 4) rfl
theorem mw_X8_connectionOf_4 : Cond.fieldLink RX8 247 "TidePost$Traffic" "all" "[LTidePost$Connection;" ∈ wsX8_connectionOf := List.mem_of_getElem? (i := 5) rfl
theorem in_X8_connectionOf_X8 : ∀ x ∈ wsX80, x ∈ wsX8_connectionOf := fun _ h => List.mem_cons_of_mem _ (List.mem_append_left _ (List.mem_append_left _ (List.mem_append_right _ h)))
theorem in_X8_connectionOf_X6 : ∀ x ∈ wsX60, x ∈ wsX8_connectionOf := fun _ h => List.mem_cons_of_mem _ (List.mem_append_left _ (List.mem_append_right _ h))
set_option maxHeartbeats 4000000 in
set_option maxRecDepth 100000 in
theorem c_X8_connectionOf (w : WPar) (τ : TS) (i0 : Nat) (x1 : Int32) (K : TS → Nat → Prop) (h0 : tp_is w i0 7) (hw : wp_X8_connectionOf τ i0 x1 K) : MR w yX8_connectionOf wsX8_connectionOf 0 0 [.ref (w.1 i0), .int x1] τ K 2 := by
  refine tp_enterR (cc := cX8_connectionOf) (maxL := 2) (own := RX8) (by decide) rfl rfl (Nat.le_of_ble_eq_true rfl) (fun g C hR => ?_)
  show Zt w g τ (0, 0) 0 [(0, .ref (w.1 i0)), (1, .int x1)] []
  unfold wp_X8_connectionOf at hw
  refine z_iload_n C 1 (by rfl) dX8_connectionOf_0 ?_
  refine z_if_lt (tgt := 15) C dX8_connectionOf_1 (by decide) (fun c21 => ?_) (fun c21 => ?_)
  · have hw := hw.1 c21
    exact hw.elim
  · have hw := hw.2 c21
    refine z_iload_n C 1 (by rfl) dX8_connectionOf_4 ?_
    refine z_aload_n C 0 (by rfl) dX8_connectionOf_5 ?_
    refine z_get C (Cn := RX8) (T := TX8) (N := 4) (ci := 7) h0.2 1 (tE7 h0.1) in_X8_connectionOf_X8 rfl (by decide) mw_X8_connectionOf_2 rfl rfl dX8_connectionOf_6 ?_
    refine z_get C (Cn := RX6) (T := TX6) (N := 6) (ci := 5) (tR7_1 h0).2 3 (tE5 (tR7_1 h0).1) in_X8_connectionOf_X6 rfl (by decide) mw_X8_connectionOf_3 rfl rfl dX8_connectionOf_9 ?_
    refine z_icmp_lt (tgt := 26) C dX8_connectionOf_12 (by decide) (fun c22 => ?_) (fun c22 => ?_)
    · have hw := hw.1 c22
      refine z_aload_n C 0 (by rfl) dX8_connectionOf_26 ?_
      refine z_get C (Cn := RX8) (T := TX8) (N := 4) (ci := 7) h0.2 1 (tE7 h0.1) in_X8_connectionOf_X8 rfl (by decide) mw_X8_connectionOf_2 rfl rfl dX8_connectionOf_27 ?_
      refine z_get C (Cn := RX6) (T := TX6) (N := 6) (ci := 5) (tR7_1 h0).2 2 (tE5 (tR7_1 h0).1) in_X8_connectionOf_X6 rfl (by decide) mw_X8_connectionOf_4 rfl rfl dX8_connectionOf_30 ?_
      refine z_iload_n C 1 (by rfl) dX8_connectionOf_33 ?_
      obtain ⟨s23, hw⟩ := hw
      refine z_aald_q3 C (tR5_2 (tR7_1 h0)).2 (tE16 (tR5_2 (tR7_1 h0)).1) s23 (if_pos (tp_lt s23)) dX8_connectionOf_34 ?_
      exact hR _ _ _ _ dX8_connectionOf_35 (tR16 (tR5_2 (tR7_1 h0)) (tp_lt s23)) hw
    · have hw := hw.2 c22
      exact hw.elim
def wp_X8_callerOf (τ : TS) (i0 : Nat) (x1 : Int32) (K : TS → Nat → Prop) : Prop :=
  wp_X8_connectionOf τ i0 x1 (fun τ21 j22 => K τ21 (j22 + 1))
theorem mw_X8_callerOf_0 : Cond.fieldLink RX8 251 "TidePost$Connection" "caller" "LTidePost$Caller;" ∈ wsX8_callerOf := List.mem_of_getElem? (i := 1) rfl
theorem in_X8_callerOf_X2 : ∀ x ∈ wsX20, x ∈ wsX8_callerOf := fun _ h => List.mem_cons_of_mem _ (List.mem_append_left _ (List.mem_append_left _ (List.mem_append_left _ (List.mem_append_right _ h))))
set_option maxHeartbeats 4000000 in
set_option maxRecDepth 100000 in
theorem c_X8_callerOf (w : WPar) (τ : TS) (i0 : Nat) (x1 : Int32) (K : TS → Nat → Prop) (h0 : tp_is w i0 7) (hw : wp_X8_callerOf τ i0 x1 K) : MR w yX8_callerOf wsX8_callerOf 1 21 [.ref (w.1 i0), .int x1] τ K 1 := by
  refine tp_enterR (cc := cX8_callerOf) (maxL := 2) (own := RX8) (by decide) rfl rfl (Nat.le_of_ble_eq_true rfl) (fun g C hR => ?_)
  show Zt w g τ (0, 0) 0 [(0, .ref (w.1 i0)), (1, .int x1)] []
  unfold wp_X8_callerOf at hw
  refine z_aload_n C 0 (by rfl) dX8_callerOf_0 ?_
  refine z_iload_n C 1 (by rfl) dX8_callerOf_1 ?_
  refine zv_r C (As := [.int x1]) (bytes := cX8_connectionOf) (maxL := 2) (F1 := 0) (L1 := 0) (c_X8_connectionOf w _ i0 x1 _ h0 hw) h0.2 (tE7 h0.1) rfl 1 gX8_callerOf_X8_connectionOf rfl (by decide +kernel) ⟨Nat.le_of_ble_eq_true rfl, Nat.le_of_ble_eq_true rfl⟩ rfl (Nat.le_of_ble_eq_true rfl) ⟨Nat.le_of_ble_eq_true rfl, Nat.le_of_ble_eq_true rfl⟩ rfl dX8_callerOf_2 (fun τ21 j22 hw hj22 => ?_)
  refine z_get C (Cn := RX2) (T := TX2) (N := 4) (ci := 2) hj22.2 2 (tE2 hj22.1) in_X8_callerOf_X2 rfl (by decide) mw_X8_callerOf_0 rfl rfl dX8_callerOf_5 ?_
  exact hR _ _ _ _ dX8_callerOf_8 (tR2_2 hj22) hw
def wp_X8_clock (τ : TS) (i0 : Nat) (K : TS → Int32 → Prop) : Prop :=
  K τ (τ 17 4)
theorem mw_X8_clock_0 : Cond.fieldLink RX8 21 "TidePost" "traffic" "LTidePost$Traffic;" ∈ wsX8_clock := List.mem_of_getElem? (i := 1) rfl
theorem mw_X8_clock_1 : Cond.fieldLink RX8 168 "TidePost$Traffic" "clock" "I" ∈ wsX8_clock := List.mem_of_getElem? (i := 2) rfl
theorem in_X8_clock_X8 : ∀ x ∈ wsX80, x ∈ wsX8_clock := fun _ h => List.mem_cons_of_mem _ (List.mem_append_left _ (List.mem_append_right _ h))
theorem in_X8_clock_X6 : ∀ x ∈ wsX60, x ∈ wsX8_clock := fun _ h => List.mem_cons_of_mem _ (List.mem_append_right _ h)
set_option maxHeartbeats 4000000 in
set_option maxRecDepth 100000 in
theorem c_X8_clock (w : WPar) (τ : TS) (i0 : Nat) (K : TS → Int32 → Prop) (h0 : tp_is w i0 7) (hw : wp_X8_clock τ i0 K) : MI w yX8_clock wsX8_clock 0 0 [.ref (w.1 i0)] τ K := by
  refine tp_enterI (cc := cX8_clock) (maxL := 1) (own := RX8) (by decide) rfl rfl (Nat.le_of_ble_eq_true rfl) (fun g C hR => ?_)
  show Zt w g τ (0, 0) 0 [(0, .ref (w.1 i0))] []
  unfold wp_X8_clock at hw
  refine z_aload_n C 0 (by rfl) dX8_clock_0 ?_
  refine z_get C (Cn := RX8) (T := TX8) (N := 4) (ci := 7) h0.2 1 (tE7 h0.1) in_X8_clock_X8 rfl (by decide) mw_X8_clock_0 rfl rfl dX8_clock_1 ?_
  refine z_get C (Cn := RX6) (T := TX6) (N := 6) (ci := 5) (tR7_1 h0).2 4 (tE5 (tR7_1 h0).1) in_X8_clock_X6 rfl (by decide) mw_X8_clock_1 rfl rfl dX8_clock_4 ?_
  exact hR _ _ _ _ dX8_clock_7 hw
def wp_X8_nodes (τ : TS) (i0 : Nat) (K : TS → Int32 → Prop) : Prop :=
  K τ (τ 1 0)
theorem mw_X8_nodes_0 : Cond.fieldLink RX8 12 "TidePost" "net" "LTidePost$Net;" ∈ wsX8_nodes := List.mem_of_getElem? (i := 1) rfl
theorem mw_X8_nodes_1 : Cond.fieldLink RX8 33 "TidePost$Net" "nodes" "I" ∈ wsX8_nodes := List.mem_of_getElem? (i := 2) rfl
theorem in_X8_nodes_X8 : ∀ x ∈ wsX80, x ∈ wsX8_nodes := fun _ h => List.mem_cons_of_mem _ (List.mem_append_left _ (List.mem_append_right _ h))
theorem in_X8_nodes_X3 : ∀ x ∈ wsX30, x ∈ wsX8_nodes := fun _ h => List.mem_cons_of_mem _ (List.mem_append_right _ h)
set_option maxHeartbeats 4000000 in
set_option maxRecDepth 100000 in
theorem c_X8_nodes (w : WPar) (τ : TS) (i0 : Nat) (K : TS → Int32 → Prop) (h0 : tp_is w i0 7) (hw : wp_X8_nodes τ i0 K) : MI w yX8_nodes wsX8_nodes 0 0 [.ref (w.1 i0)] τ K := by
  refine tp_enterI (cc := cX8_nodes) (maxL := 1) (own := RX8) (by decide) rfl rfl (Nat.le_of_ble_eq_true rfl) (fun g C hR => ?_)
  show Zt w g τ (0, 0) 0 [(0, .ref (w.1 i0))] []
  unfold wp_X8_nodes at hw
  refine z_aload_n C 0 (by rfl) dX8_nodes_0 ?_
  refine z_get C (Cn := RX8) (T := TX8) (N := 4) (ci := 7) h0.2 0 (tE7 h0.1) in_X8_nodes_X8 rfl (by decide) mw_X8_nodes_0 rfl rfl dX8_nodes_1 ?_
  refine z_get C (Cn := RX3) (T := TX3) (N := 9) (ci := 3) (tR7_0 h0).2 0 (tE3 (tR7_0 h0).1) in_X8_nodes_X3 rfl (by decide) mw_X8_nodes_1 rfl rfl dX8_nodes_4 ?_
  exact hR _ _ _ _ dX8_nodes_7 hw
def wp_X8_links (τ : TS) (i0 : Nat) (K : TS → Int32 → Prop) : Prop :=
  K τ (τ 1 1)
theorem mw_X8_links_0 : Cond.fieldLink RX8 12 "TidePost" "net" "LTidePost$Net;" ∈ wsX8_links := List.mem_of_getElem? (i := 1) rfl
theorem mw_X8_links_1 : Cond.fieldLink RX8 61 "TidePost$Net" "links" "I" ∈ wsX8_links := List.mem_of_getElem? (i := 2) rfl
theorem in_X8_links_X8 : ∀ x ∈ wsX80, x ∈ wsX8_links := fun _ h => List.mem_cons_of_mem _ (List.mem_append_left _ (List.mem_append_right _ h))
theorem in_X8_links_X3 : ∀ x ∈ wsX30, x ∈ wsX8_links := fun _ h => List.mem_cons_of_mem _ (List.mem_append_right _ h)
set_option maxHeartbeats 4000000 in
set_option maxRecDepth 100000 in
theorem c_X8_links (w : WPar) (τ : TS) (i0 : Nat) (K : TS → Int32 → Prop) (h0 : tp_is w i0 7) (hw : wp_X8_links τ i0 K) : MI w yX8_links wsX8_links 0 0 [.ref (w.1 i0)] τ K := by
  refine tp_enterI (cc := cX8_links) (maxL := 1) (own := RX8) (by decide) rfl rfl (Nat.le_of_ble_eq_true rfl) (fun g C hR => ?_)
  show Zt w g τ (0, 0) 0 [(0, .ref (w.1 i0))] []
  unfold wp_X8_links at hw
  refine z_aload_n C 0 (by rfl) dX8_links_0 ?_
  refine z_get C (Cn := RX8) (T := TX8) (N := 4) (ci := 7) h0.2 0 (tE7 h0.1) in_X8_links_X8 rfl (by decide) mw_X8_links_0 rfl rfl dX8_links_1 ?_
  refine z_get C (Cn := RX3) (T := TX3) (N := 9) (ci := 3) (tR7_0 h0).2 1 (tE3 (tR7_0 h0).1) in_X8_links_X3 rfl (by decide) mw_X8_links_1 rfl rfl dX8_links_4 ?_
  exact hR _ _ _ _ dX8_links_7 hw
def wp_X8_lost (τ : TS) (i0 : Nat) (K : TS → Int32 → Prop) : Prop :=
  K τ (τ 17 5)
theorem mw_X8_lost_0 : Cond.fieldLink RX8 21 "TidePost" "traffic" "LTidePost$Traffic;" ∈ wsX8_lost := List.mem_of_getElem? (i := 1) rfl
theorem mw_X8_lost_1 : Cond.fieldLink RX8 186 "TidePost$Traffic" "lost" "I" ∈ wsX8_lost := List.mem_of_getElem? (i := 2) rfl
theorem in_X8_lost_X8 : ∀ x ∈ wsX80, x ∈ wsX8_lost := fun _ h => List.mem_cons_of_mem _ (List.mem_append_left _ (List.mem_append_right _ h))
theorem in_X8_lost_X6 : ∀ x ∈ wsX60, x ∈ wsX8_lost := fun _ h => List.mem_cons_of_mem _ (List.mem_append_right _ h)
set_option maxHeartbeats 4000000 in
set_option maxRecDepth 100000 in
theorem c_X8_lost (w : WPar) (τ : TS) (i0 : Nat) (K : TS → Int32 → Prop) (h0 : tp_is w i0 7) (hw : wp_X8_lost τ i0 K) : MI w yX8_lost wsX8_lost 0 0 [.ref (w.1 i0)] τ K := by
  refine tp_enterI (cc := cX8_lost) (maxL := 1) (own := RX8) (by decide) rfl rfl (Nat.le_of_ble_eq_true rfl) (fun g C hR => ?_)
  show Zt w g τ (0, 0) 0 [(0, .ref (w.1 i0))] []
  unfold wp_X8_lost at hw
  refine z_aload_n C 0 (by rfl) dX8_lost_0 ?_
  refine z_get C (Cn := RX8) (T := TX8) (N := 4) (ci := 7) h0.2 1 (tE7 h0.1) in_X8_lost_X8 rfl (by decide) mw_X8_lost_0 rfl rfl dX8_lost_1 ?_
  refine z_get C (Cn := RX6) (T := TX6) (N := 6) (ci := 5) (tR7_1 h0).2 5 (tE5 (tR7_1 h0).1) in_X8_lost_X6 rfl (by decide) mw_X8_lost_1 rfl rfl dX8_lost_4 ?_
  exact hR _ _ _ _ dX8_lost_7 hw
def wp_X8_connections (τ : TS) (i0 : Nat) (K : TS → Int32 → Prop) : Prop :=
  K τ (τ 17 3)
theorem mw_X8_connections_0 : Cond.fieldLink RX8 21 "TidePost" "traffic" "LTidePost$Traffic;" ∈ wsX8_connections := List.mem_of_getElem? (i := 1) rfl
theorem mw_X8_connections_1 : Cond.fieldLink RX8 99 "TidePost$Traffic" "made" "I" ∈ wsX8_connections := List.mem_of_getElem? (i := 2) rfl
theorem in_X8_connections_X8 : ∀ x ∈ wsX80, x ∈ wsX8_connections := fun _ h => List.mem_cons_of_mem _ (List.mem_append_left _ (List.mem_append_right _ h))
theorem in_X8_connections_X6 : ∀ x ∈ wsX60, x ∈ wsX8_connections := fun _ h => List.mem_cons_of_mem _ (List.mem_append_right _ h)
set_option maxHeartbeats 4000000 in
set_option maxRecDepth 100000 in
theorem c_X8_connections (w : WPar) (τ : TS) (i0 : Nat) (K : TS → Int32 → Prop) (h0 : tp_is w i0 7) (hw : wp_X8_connections τ i0 K) : MI w yX8_connections wsX8_connections 0 0 [.ref (w.1 i0)] τ K := by
  refine tp_enterI (cc := cX8_connections) (maxL := 1) (own := RX8) (by decide) rfl rfl (Nat.le_of_ble_eq_true rfl) (fun g C hR => ?_)
  show Zt w g τ (0, 0) 0 [(0, .ref (w.1 i0))] []
  unfold wp_X8_connections at hw
  refine z_aload_n C 0 (by rfl) dX8_connections_0 ?_
  refine z_get C (Cn := RX8) (T := TX8) (N := 4) (ci := 7) h0.2 1 (tE7 h0.1) in_X8_connections_X8 rfl (by decide) mw_X8_connections_0 rfl rfl dX8_connections_1 ?_
  refine z_get C (Cn := RX6) (T := TX6) (N := 6) (ci := 5) (tR7_1 h0).2 3 (tE5 (tR7_1 h0).1) in_X8_connections_X6 rfl (by decide) mw_X8_connections_1 rfl rfl dX8_connections_4 ?_
  exact hR _ _ _ _ dX8_connections_7 hw
def wp_X8_underWay (τ : TS) (i0 : Nat) (K : TS → Int32 → Prop) : Prop :=
  ∃ (I24 : TS → Int32 → Int32 → Prop) (u24 : TS → Int32 → Int32 → Nat), I24 τ 0 0 ∧ ∀ (τ21 : TS) (x22 : Int32) (x23 : Int32), I24 τ21 x22 x23 → ((((2 * (τ21 1 1)) ≤ x23) → (K τ21 x22)) ∧ ((¬ (2 * (τ21 1 1)) ≤ x23) → (vp_in x23 24 ∧ (vp_in x23 24 ∧ (∀ x28 : Int32, x28 = (x22 + ((τ21 ((17 + 1) + 2 + 3 * (Int32.toNatClampNeg x23)) 2) + (τ21 ((17 + 1) + 2 + 3 * (Int32.toNatClampNeg x23)) 4))) → ∀ x29 : Int32, x29 = x23 + 1 → I24 τ21 x28 x29 ∧ u24 τ21 x28 x29 < u24 τ21 x22 x23)))))
theorem mw_X8_underWay_0 : Cond.fieldLink RX8 12 "TidePost" "net" "LTidePost$Net;" ∈ wsX8_underWay := List.mem_of_getElem? (i := 1) rfl
theorem mw_X8_underWay_1 : Cond.fieldLink RX8 61 "TidePost$Net" "links" "I" ∈ wsX8_underWay := List.mem_of_getElem? (i := 2) rfl
theorem mw_X8_underWay_2 : Cond.fieldLink RX8 21 "TidePost" "traffic" "LTidePost$Traffic;" ∈ wsX8_underWay := List.mem_of_getElem? (i := 3) rfl
theorem mw_X8_underWay_3 : Cond.fieldLink RX8 189 "TidePost$Traffic" "ways" "[LTidePost$Way;" ∈ wsX8_underWay := List.mem_of_getElem? (i := 4) rfl
theorem mw_X8_underWay_4 : Cond.fieldLink RX8 177 "TidePost$Way" "queued" "I" ∈ wsX8_underWay := List.mem_of_getElem? (i := 5) rfl
theorem mw_X8_underWay_5 : Cond.fieldLink RX8 180 "TidePost$Way" "flying" "I" ∈ wsX8_underWay := List.mem_of_getElem? (i := 6) rfl
theorem in_X8_underWay_X8 : ∀ x ∈ wsX80, x ∈ wsX8_underWay := fun _ h => List.mem_cons_of_mem _ (List.mem_append_left _ (List.mem_append_left _ (List.mem_append_left _ (List.mem_append_right _ h))))
theorem in_X8_underWay_X3 : ∀ x ∈ wsX30, x ∈ wsX8_underWay := fun _ h => List.mem_cons_of_mem _ (List.mem_append_left _ (List.mem_append_left _ (List.mem_append_right _ h)))
theorem in_X8_underWay_X6 : ∀ x ∈ wsX60, x ∈ wsX8_underWay := fun _ h => List.mem_cons_of_mem _ (List.mem_append_left _ (List.mem_append_right _ h))
theorem in_X8_underWay_X7 : ∀ x ∈ wsX70, x ∈ wsX8_underWay := fun _ h => List.mem_cons_of_mem _ (List.mem_append_right _ h)
set_option maxHeartbeats 4000000 in
set_option maxRecDepth 100000 in
theorem c_X8_underWay (w : WPar) (τ : TS) (i0 : Nat) (K : TS → Int32 → Prop) (h0 : tp_is w i0 7) (hw : wp_X8_underWay τ i0 K) : MI w yX8_underWay wsX8_underWay 0 0 [.ref (w.1 i0)] τ K := by
  refine tp_enterI (cc := cX8_underWay) (maxL := 3) (own := RX8) (by decide) rfl rfl (Nat.le_of_ble_eq_true rfl) (fun g C hR => ?_)
  show Zt w g τ (0, 0) 0 [(0, .ref (w.1 i0))] []
  unfold wp_X8_underWay at hw
  refine z_iconst C 0 (by decide) dX8_underWay_0 ?_
  refine z_istore_n C [(1, .int 0), (0, .ref (w.1 i0))] dX8_underWay_1 (by decide) rfl ?_
  refine z_iconst C 0 (by decide) dX8_underWay_2 ?_
  refine z_istore_n C [(2, .int 0), (1, .int 0), (0, .ref (w.1 i0))] dX8_underWay_3 (by decide) rfl ?_
  obtain ⟨I24, u24, hI24, hs24⟩ := hw
  have lp24 : ∀ (n24 : Nat) (τ21 : TS) (x22 : Int32) (x23 : Int32), u24 τ21 x22 x23 < n24 → I24 τ21 x22 x23 → Zt w g τ21 (0, 0) 4 [(0, .ref (w.1 i0)), (1, .int x22), (2, .int x23)] [] := by
    intro n24
    induction n24 with
    | zero => intro τ21 x22 x23 hlt24; exact absurd hlt24 (Nat.not_lt_zero _)
    | succ n24 ih24 =>
      intro τ21 x22 x23 hlt24 hh24
      have hw := hs24 τ21 x22 x23 hh24
      refine z_iload_n C 2 (by rfl) dX8_underWay_4 ?_
      refine z_iconst C 2 (by decide) dX8_underWay_5 ?_
      refine z_aload_n C 0 (by rfl) dX8_underWay_6 ?_
      refine z_get C (Cn := RX8) (T := TX8) (N := 4) (ci := 7) h0.2 0 (tE7 h0.1) in_X8_underWay_X8 rfl (by decide) mw_X8_underWay_0 rfl rfl dX8_underWay_7 ?_
      refine z_get C (Cn := RX3) (T := TX3) (N := 9) (ci := 3) (tR7_0 h0).2 1 (tE3 (tR7_0 h0).1) in_X8_underWay_X3 rfl (by decide) mw_X8_underWay_1 rfl rfl dX8_underWay_10 ?_
      refine z_imul C dX8_underWay_13 ?_
      refine z_icmp_ge (tgt := 51) C dX8_underWay_14 (by decide) (fun c25 => ?_) (fun c25 => ?_)
      · have hw := hw.1 c25
        refine z_iload_n C 1 (by rfl) dX8_underWay_51 ?_
        exact hR _ _ _ _ dX8_underWay_52 hw
      · have hw := hw.2 c25
        refine z_iload_n C 1 (by rfl) dX8_underWay_17 ?_
        refine z_aload_n C 0 (by rfl) dX8_underWay_18 ?_
        refine z_get C (Cn := RX8) (T := TX8) (N := 4) (ci := 7) h0.2 1 (tE7 h0.1) in_X8_underWay_X8 rfl (by decide) mw_X8_underWay_2 rfl rfl dX8_underWay_19 ?_
        refine z_get C (Cn := RX6) (T := TX6) (N := 6) (ci := 5) (tR7_1 h0).2 1 (tE5 (tR7_1 h0).1) in_X8_underWay_X6 rfl (by decide) mw_X8_underWay_3 rfl rfl dX8_underWay_22 ?_
        refine z_iload_n C 2 (by rfl) dX8_underWay_25 ?_
        obtain ⟨s26, hw⟩ := hw
        refine z_aald_q2 C (tR5_1 (tR7_1 h0)).2 (tE15 (tR5_1 (tR7_1 h0)).1) s26 (if_pos (tp_lt s26)) dX8_underWay_26 ?_
        refine z_get C (Cn := RX7) (T := TX7) (N := 7) (ci := 6) (tR15 (tR5_1 (tR7_1 h0)) (tp_lt s26)).2 2 (tE6 (tR15 (tR5_1 (tR7_1 h0)) (tp_lt s26)).1) in_X8_underWay_X7 rfl (by decide) mw_X8_underWay_4 rfl rfl dX8_underWay_27 ?_
        refine z_aload_n C 0 (by rfl) dX8_underWay_30 ?_
        refine z_get C (Cn := RX8) (T := TX8) (N := 4) (ci := 7) h0.2 1 (tE7 h0.1) in_X8_underWay_X8 rfl (by decide) mw_X8_underWay_2 rfl rfl dX8_underWay_31 ?_
        refine z_get C (Cn := RX6) (T := TX6) (N := 6) (ci := 5) (tR7_1 h0).2 1 (tE5 (tR7_1 h0).1) in_X8_underWay_X6 rfl (by decide) mw_X8_underWay_3 rfl rfl dX8_underWay_34 ?_
        refine z_iload_n C 2 (by rfl) dX8_underWay_37 ?_
        obtain ⟨s27, hw⟩ := hw
        refine z_aald_q2 C (tR5_1 (tR7_1 h0)).2 (tE15 (tR5_1 (tR7_1 h0)).1) s27 (if_pos (tp_lt s27)) dX8_underWay_38 ?_
        refine z_get C (Cn := RX7) (T := TX7) (N := 7) (ci := 6) (tR15 (tR5_1 (tR7_1 h0)) (tp_lt s27)).2 4 (tE6 (tR15 (tR5_1 (tR7_1 h0)) (tp_lt s27)).1) in_X8_underWay_X7 rfl (by decide) mw_X8_underWay_5 rfl rfl dX8_underWay_39 ?_
        refine z_iadd C dX8_underWay_42 ?_
        refine z_iadd C dX8_underWay_43 ?_
        refine z_top (fun x28 ex28 => ?_)
        have hw := hw x28 ex28
        refine z_istore_n C [(1, .int x28), (0, .ref (w.1 i0)), (2, .int x23)] dX8_underWay_44 (by decide) rfl ?_
        obtain ⟨x29, ex29⟩ : ∃ z : Int32, z = x23 + 1 := ⟨_, rfl⟩
        have hw := hw x29 ex29
        refine z_iinc C 2 x29 [(2, .int x29), (1, .int x28), (0, .ref (w.1 i0))] dX8_underWay_45 (by rfl) (by rw [ex29]; rfl) (by decide) rfl ?_
        refine z_goto (tgt := 4) C dX8_underWay_48 (by decide) ?_
        refine z_sub [2, 1, 0] [(0, .ref (w.1 i0)), (1, .int x28), (2, .int x29)] rfl ?_
        exact ih24 τ21 x28 x29 (Nat.lt_of_lt_of_le hw.2 (Nat.le_of_lt_succ hlt24)) hw.1
  refine z_sub [2, 1, 0] [(0, .ref (w.1 i0)), (1, .int 0), (2, .int 0)] rfl ?_
  exact lp24 _ τ 0 0 (Nat.lt_succ_self _) hI24
def wp_X8_isUp (τ : TS) (i0 : Nat) (x1 : Int32) (K : TS → Int32 → Prop) : Prop :=
  wp_X8_checkLink τ i0 x1 (fun τ21 => vp_in x1 12 ∧ (tp_z (τ21 6 (Int32.toNatClampNeg x1)) ∧ K τ21 (τ21 6 (Int32.toNatClampNeg x1))))
theorem mw_X8_isUp_0 : Cond.fieldLink RX8 12 "TidePost" "net" "LTidePost$Net;" ∈ wsX8_isUp := List.mem_of_getElem? (i := 1) rfl
theorem mw_X8_isUp_1 : Cond.fieldLink RX8 80 "TidePost$Net" "up" "[Z" ∈ wsX8_isUp := List.mem_of_getElem? (i := 2) rfl
theorem in_X8_isUp_X8 : ∀ x ∈ wsX80, x ∈ wsX8_isUp := fun _ h => List.mem_cons_of_mem _ (List.mem_append_left _ (List.mem_append_left _ (List.mem_append_right _ h)))
theorem in_X8_isUp_X3 : ∀ x ∈ wsX30, x ∈ wsX8_isUp := fun _ h => List.mem_cons_of_mem _ (List.mem_append_left _ (List.mem_append_right _ h))
set_option maxHeartbeats 4000000 in
set_option maxRecDepth 100000 in
theorem c_X8_isUp (w : WPar) (τ : TS) (i0 : Nat) (x1 : Int32) (K : TS → Int32 → Prop) (h0 : tp_is w i0 7) (hw : wp_X8_isUp τ i0 x1 K) : MI w yX8_isUp wsX8_isUp 1 21 [.ref (w.1 i0), .int x1] τ K := by
  refine tp_enterZ (cc := cX8_isUp) (maxL := 2) (own := RX8) (by decide) rfl rfl (Nat.le_of_ble_eq_true rfl) (fun g C hR => ?_)
  show Zt w g τ (0, 0) 0 [(0, .ref (w.1 i0)), (1, .int x1)] []
  unfold wp_X8_isUp at hw
  refine z_aload_n C 0 (by rfl) dX8_isUp_0 ?_
  refine z_iload_n C 1 (by rfl) dX8_isUp_1 ?_
  refine zv_v C (As := [.int x1]) (bytes := cX8_checkLink) (maxL := 2) (F1 := 0) (L1 := 0) (c_X8_checkLink w _ i0 x1 _ h0 hw) h0.2 (tE7 h0.1) rfl 1 gX8_isUp_X8_checkLink rfl (by decide +kernel) ⟨Nat.le_of_ble_eq_true rfl, Nat.le_of_ble_eq_true rfl⟩ rfl (Nat.le_of_ble_eq_true rfl) ⟨Nat.le_of_ble_eq_true rfl, Nat.le_of_ble_eq_true rfl⟩ rfl dX8_isUp_2 (fun τ21 hw => ?_)
  refine z_aload_n C 0 (by rfl) dX8_isUp_5 ?_
  refine z_get C (Cn := RX8) (T := TX8) (N := 4) (ci := 7) h0.2 0 (tE7 h0.1) in_X8_isUp_X8 rfl (by decide) mw_X8_isUp_0 rfl rfl dX8_isUp_6 ?_
  refine z_get C (Cn := RX3) (T := TX3) (N := 9) (ci := 3) (tR7_0 h0).2 6 (tE3 (tR7_0 h0).1) in_X8_isUp_X3 rfl (by decide) mw_X8_isUp_1 rfl rfl dX8_isUp_9 ?_
  refine z_iload_n C 1 (by rfl) dX8_isUp_12 ?_
  obtain ⟨s22, hw⟩ := hw
  refine z_zald C (tR3_6 (tR7_0 h0)).2 (tE12 (tR3_6 (tR7_0 h0)).1) s22 dX8_isUp_13 ?_
  exact hR _ _ _ _ dX8_isUp_14 hw.1.1 hw.2
def wp_X8_distance (τ : TS) (i0 : Nat) (x1 : Int32) (x2 : Int32) (K : TS → Int32 → Prop) : Prop :=
  wp_X8_checkNode τ i0 x1 (fun τ21 => wp_X8_checkNode τ21 i0 x2 (fun τ22 => vp_in x2 8 ∧ (vp_in x1 8 ∧ (K τ22 (τ22 (8 + (Int32.toNatClampNeg x2)) (Int32.toNatClampNeg x1))))))
theorem mw_X8_distance_0 : Cond.fieldLink RX8 12 "TidePost" "net" "LTidePost$Net;" ∈ wsX8_distance := List.mem_of_getElem? (i := 1) rfl
theorem mw_X8_distance_1 : Cond.fieldLink RX8 171 "TidePost$Net" "distances" "[[I" ∈ wsX8_distance := List.mem_of_getElem? (i := 2) rfl
theorem in_X8_distance_X8 : ∀ x ∈ wsX80, x ∈ wsX8_distance := fun _ h => List.mem_cons_of_mem _ (List.mem_append_left _ (List.mem_append_left _ (List.mem_append_right _ h)))
theorem in_X8_distance_X3 : ∀ x ∈ wsX30, x ∈ wsX8_distance := fun _ h => List.mem_cons_of_mem _ (List.mem_append_left _ (List.mem_append_right _ h))
set_option maxHeartbeats 4000000 in
set_option maxRecDepth 100000 in
theorem c_X8_distance (w : WPar) (τ : TS) (i0 : Nat) (x1 : Int32) (x2 : Int32) (K : TS → Int32 → Prop) (h0 : tp_is w i0 7) (hw : wp_X8_distance τ i0 x1 x2 K) : MI w yX8_distance wsX8_distance 1 21 [.ref (w.1 i0), .int x1, .int x2] τ K := by
  refine tp_enterI (cc := cX8_distance) (maxL := 3) (own := RX8) (by decide) rfl rfl (Nat.le_of_ble_eq_true rfl) (fun g C hR => ?_)
  show Zt w g τ (0, 0) 0 [(0, .ref (w.1 i0)), (1, .int x1), (2, .int x2)] []
  unfold wp_X8_distance at hw
  refine z_aload_n C 0 (by rfl) dX8_distance_0 ?_
  refine z_iload_n C 1 (by rfl) dX8_distance_1 ?_
  refine zv_v C (As := [.int x1]) (bytes := cX8_checkNode) (maxL := 2) (F1 := 0) (L1 := 0) (c_X8_checkNode w _ i0 x1 _ h0 hw) h0.2 (tE7 h0.1) rfl 1 gX8_distance_X8_checkNode rfl (by decide +kernel) ⟨Nat.le_of_ble_eq_true rfl, Nat.le_of_ble_eq_true rfl⟩ rfl (Nat.le_of_ble_eq_true rfl) ⟨Nat.le_of_ble_eq_true rfl, Nat.le_of_ble_eq_true rfl⟩ rfl dX8_distance_2 (fun τ21 hw => ?_)
  refine z_aload_n C 0 (by rfl) dX8_distance_5 ?_
  refine z_iload_n C 2 (by rfl) dX8_distance_6 ?_
  refine zv_v C (As := [.int x2]) (bytes := cX8_checkNode) (maxL := 2) (F1 := 0) (L1 := 0) (c_X8_checkNode w _ i0 x2 _ h0 hw) h0.2 (tE7 h0.1) rfl 1 gX8_distance_X8_checkNode rfl (by decide +kernel) ⟨Nat.le_of_ble_eq_true rfl, Nat.le_of_ble_eq_true rfl⟩ rfl (Nat.le_of_ble_eq_true rfl) ⟨Nat.le_of_ble_eq_true rfl, Nat.le_of_ble_eq_true rfl⟩ rfl dX8_distance_7 (fun τ22 hw => ?_)
  refine z_aload_n C 0 (by rfl) dX8_distance_10 ?_
  refine z_get C (Cn := RX8) (T := TX8) (N := 4) (ci := 7) h0.2 0 (tE7 h0.1) in_X8_distance_X8 rfl (by decide) mw_X8_distance_0 rfl rfl dX8_distance_11 ?_
  refine z_get C (Cn := RX3) (T := TX3) (N := 9) (ci := 3) (tR7_0 h0).2 7 (tE3 (tR7_0 h0).1) in_X8_distance_X3 rfl (by decide) mw_X8_distance_1 rfl rfl dX8_distance_14 ?_
  refine z_iload_n C 2 (by rfl) dX8_distance_17 ?_
  obtain ⟨s23, hw⟩ := hw
  refine z_aald_q4 C (tR3_7 (tR7_0 h0)).2 (tE14 (tR3_7 (tR7_0 h0)).1) s23 (if_pos (tp_lt s23)) dX8_distance_18 ?_
  refine z_iload_n C 1 (by rfl) dX8_distance_19 ?_
  obtain ⟨s24, hw⟩ := hw
  refine z_iald C (tR14 (tR3_7 (tR7_0 h0)) (tp_lt s23)).2 (tE13 (tR14 (tR3_7 (tR7_0 h0)) (tp_lt s23)).1) s24 dX8_distance_20 ?_
  exact hR _ _ _ _ dX8_distance_21 hw
def wp_X8_nextLink (τ : TS) (i0 : Nat) (x1 : Int32) (x2 : Int32) (K : TS → Int32 → Prop) : Prop :=
  wp_X8_checkNode τ i0 x1 (fun τ21 => wp_X8_checkNode τ21 i0 x2 (fun τ22 => wp_X3_linkTowards τ22 1 x1 x2 (fun τ23 x24 => K τ23 x24)))
theorem mw_X8_nextLink_0 : Cond.fieldLink RX8 12 "TidePost" "net" "LTidePost$Net;" ∈ wsX8_nextLink := List.mem_of_getElem? (i := 1) rfl
theorem in_X8_nextLink_X8 : ∀ x ∈ wsX80, x ∈ wsX8_nextLink := fun _ h => List.mem_cons_of_mem _ (List.mem_append_left _ (List.mem_append_left _ (List.mem_append_right _ h)))
set_option maxHeartbeats 4000000 in
set_option maxRecDepth 100000 in
theorem c_X8_nextLink (w : WPar) (τ : TS) (i0 : Nat) (x1 : Int32) (x2 : Int32) (K : TS → Int32 → Prop) (h0 : tp_is w i0 7) (hw : wp_X8_nextLink τ i0 x1 x2 K) : MI w yX8_nextLink wsX8_nextLink 2 47 [.ref (w.1 i0), .int x1, .int x2] τ K := by
  refine tp_enterI (cc := cX8_nextLink) (maxL := 3) (own := RX8) (by decide) rfl rfl (Nat.le_of_ble_eq_true rfl) (fun g C hR => ?_)
  show Zt w g τ (0, 0) 0 [(0, .ref (w.1 i0)), (1, .int x1), (2, .int x2)] []
  unfold wp_X8_nextLink at hw
  refine z_aload_n C 0 (by rfl) dX8_nextLink_0 ?_
  refine z_iload_n C 1 (by rfl) dX8_nextLink_1 ?_
  refine zv_v C (As := [.int x1]) (bytes := cX8_checkNode) (maxL := 2) (F1 := 0) (L1 := 0) (c_X8_checkNode w _ i0 x1 _ h0 hw) h0.2 (tE7 h0.1) rfl 1 gX8_nextLink_X8_checkNode rfl (by decide +kernel) ⟨Nat.le_of_ble_eq_true rfl, Nat.le_of_ble_eq_true rfl⟩ rfl (Nat.le_of_ble_eq_true rfl) ⟨Nat.le_of_ble_eq_true rfl, Nat.le_of_ble_eq_true rfl⟩ rfl dX8_nextLink_2 (fun τ21 hw => ?_)
  refine z_aload_n C 0 (by rfl) dX8_nextLink_5 ?_
  refine z_iload_n C 2 (by rfl) dX8_nextLink_6 ?_
  refine zv_v C (As := [.int x2]) (bytes := cX8_checkNode) (maxL := 2) (F1 := 0) (L1 := 0) (c_X8_checkNode w _ i0 x2 _ h0 hw) h0.2 (tE7 h0.1) rfl 1 gX8_nextLink_X8_checkNode rfl (by decide +kernel) ⟨Nat.le_of_ble_eq_true rfl, Nat.le_of_ble_eq_true rfl⟩ rfl (Nat.le_of_ble_eq_true rfl) ⟨Nat.le_of_ble_eq_true rfl, Nat.le_of_ble_eq_true rfl⟩ rfl dX8_nextLink_7 (fun τ22 hw => ?_)
  refine z_aload_n C 0 (by rfl) dX8_nextLink_10 ?_
  refine z_get C (Cn := RX8) (T := TX8) (N := 4) (ci := 7) h0.2 0 (tE7 h0.1) in_X8_nextLink_X8 rfl (by decide) mw_X8_nextLink_0 rfl rfl dX8_nextLink_11 ?_
  refine z_iload_n C 1 (by rfl) dX8_nextLink_14 ?_
  refine z_iload_n C 2 (by rfl) dX8_nextLink_15 ?_
  refine zv_i C (As := [.int x1, .int x2]) (bytes := cX3_linkTowards) (maxL := 6) (F1 := 1) (L1 := 22) (c_X3_linkTowards w _ 1 x1 x2 _ (tR7_0 h0) hw) (tR7_0 h0).2 (tE3 (tR7_0 h0).1) rfl 2 gX8_nextLink_X3_linkTowards rfl (by decide +kernel) ⟨Nat.le_of_ble_eq_true rfl, Nat.le_of_ble_eq_true rfl⟩ rfl (Nat.le_of_ble_eq_true rfl) ⟨Nat.le_of_ble_eq_true rfl, Nat.le_of_ble_eq_true rfl⟩ rfl dX8_nextLink_16 (fun x24 τ23 hw => ?_)
  exact hR _ _ _ _ dX8_nextLink_19 hw
def wp_X8_queued (τ : TS) (i0 : Nat) (x1 : Int32) (x2 : Int32) (K : TS → Int32 → Prop) : Prop :=
  wp_X8_wayOf τ i0 x1 x2 (fun τ21 j22 => K τ21 (τ21 j22 2))
theorem mw_X8_queued_0 : Cond.fieldLink RX8 177 "TidePost$Way" "queued" "I" ∈ wsX8_queued := List.mem_of_getElem? (i := 1) rfl
theorem in_X8_queued_X7 : ∀ x ∈ wsX70, x ∈ wsX8_queued := fun _ h => List.mem_cons_of_mem _ (List.mem_append_left _ (List.mem_append_left _ (List.mem_append_left _ (List.mem_append_left _ (List.mem_append_right _ h)))))
set_option maxHeartbeats 4000000 in
set_option maxRecDepth 100000 in
theorem c_X8_queued (w : WPar) (τ : TS) (i0 : Nat) (x1 : Int32) (x2 : Int32) (K : TS → Int32 → Prop) (h0 : tp_is w i0 7) (hw : wp_X8_queued τ i0 x1 x2 K) : MI w yX8_queued wsX8_queued 2 43 [.ref (w.1 i0), .int x1, .int x2] τ K := by
  refine tp_enterI (cc := cX8_queued) (maxL := 3) (own := RX8) (by decide) rfl rfl (Nat.le_of_ble_eq_true rfl) (fun g C hR => ?_)
  show Zt w g τ (0, 0) 0 [(0, .ref (w.1 i0)), (1, .int x1), (2, .int x2)] []
  unfold wp_X8_queued at hw
  refine z_aload_n C 0 (by rfl) dX8_queued_0 ?_
  refine z_iload_n C 1 (by rfl) dX8_queued_1 ?_
  refine z_iload_n C 2 (by rfl) dX8_queued_2 ?_
  refine zv_r C (As := [.int x1, .int x2]) (bytes := cX8_wayOf) (maxL := 3) (F1 := 1) (L1 := 21) (c_X8_wayOf w _ i0 x1 x2 _ h0 hw) h0.2 (tE7 h0.1) rfl 2 gX8_queued_X8_wayOf rfl (by decide +kernel) ⟨Nat.le_of_ble_eq_true rfl, Nat.le_of_ble_eq_true rfl⟩ rfl (Nat.le_of_ble_eq_true rfl) ⟨Nat.le_of_ble_eq_true rfl, Nat.le_of_ble_eq_true rfl⟩ rfl dX8_queued_3 (fun τ21 j22 hw hj22 => ?_)
  refine z_get C (Cn := RX7) (T := TX7) (N := 7) (ci := 6) hj22.2 2 (tE6 hj22.1) in_X8_queued_X7 rfl (by decide) mw_X8_queued_0 rfl rfl dX8_queued_6 ?_
  exact hR _ _ _ _ dX8_queued_9 hw
def wp_X8_flying (τ : TS) (i0 : Nat) (x1 : Int32) (x2 : Int32) (K : TS → Int32 → Prop) : Prop :=
  wp_X8_wayOf τ i0 x1 x2 (fun τ21 j22 => K τ21 (τ21 j22 4))
theorem mw_X8_flying_0 : Cond.fieldLink RX8 180 "TidePost$Way" "flying" "I" ∈ wsX8_flying := List.mem_of_getElem? (i := 1) rfl
theorem in_X8_flying_X7 : ∀ x ∈ wsX70, x ∈ wsX8_flying := fun _ h => List.mem_cons_of_mem _ (List.mem_append_left _ (List.mem_append_left _ (List.mem_append_left _ (List.mem_append_left _ (List.mem_append_right _ h)))))
set_option maxHeartbeats 4000000 in
set_option maxRecDepth 100000 in
theorem c_X8_flying (w : WPar) (τ : TS) (i0 : Nat) (x1 : Int32) (x2 : Int32) (K : TS → Int32 → Prop) (h0 : tp_is w i0 7) (hw : wp_X8_flying τ i0 x1 x2 K) : MI w yX8_flying wsX8_flying 2 43 [.ref (w.1 i0), .int x1, .int x2] τ K := by
  refine tp_enterI (cc := cX8_flying) (maxL := 3) (own := RX8) (by decide) rfl rfl (Nat.le_of_ble_eq_true rfl) (fun g C hR => ?_)
  show Zt w g τ (0, 0) 0 [(0, .ref (w.1 i0)), (1, .int x1), (2, .int x2)] []
  unfold wp_X8_flying at hw
  refine z_aload_n C 0 (by rfl) dX8_flying_0 ?_
  refine z_iload_n C 1 (by rfl) dX8_flying_1 ?_
  refine z_iload_n C 2 (by rfl) dX8_flying_2 ?_
  refine zv_r C (As := [.int x1, .int x2]) (bytes := cX8_wayOf) (maxL := 3) (F1 := 1) (L1 := 21) (c_X8_wayOf w _ i0 x1 x2 _ h0 hw) h0.2 (tE7 h0.1) rfl 2 gX8_flying_X8_wayOf rfl (by decide +kernel) ⟨Nat.le_of_ble_eq_true rfl, Nat.le_of_ble_eq_true rfl⟩ rfl (Nat.le_of_ble_eq_true rfl) ⟨Nat.le_of_ble_eq_true rfl, Nat.le_of_ble_eq_true rfl⟩ rfl dX8_flying_3 (fun τ21 j22 hw hj22 => ?_)
  refine z_get C (Cn := RX7) (T := TX7) (N := 7) (ci := 6) hj22.2 4 (tE6 hj22.1) in_X8_flying_X7 rfl (by decide) mw_X8_flying_0 rfl rfl dX8_flying_6 ?_
  exact hR _ _ _ _ dX8_flying_9 hw
def wp_X8_stateOf (τ : TS) (i0 : Nat) (x1 : Int32) (K : TS → Int32 → Prop) : Prop :=
  wp_X8_callerOf τ i0 x1 (fun τ21 j22 => K τ21 (τ21 j22 0))
theorem mw_X8_stateOf_0 : Cond.fieldLink RX8 193 "TidePost$Caller" "state" "I" ∈ wsX8_stateOf := List.mem_of_getElem? (i := 1) rfl
theorem in_X8_stateOf_X1 : ∀ x ∈ wsX10, x ∈ wsX8_stateOf := fun _ h => List.mem_cons_of_mem _ (List.mem_append_left _ (List.mem_append_left _ (List.mem_append_left _ (List.mem_append_left _ (List.mem_append_right _ h)))))
set_option maxHeartbeats 4000000 in
set_option maxRecDepth 100000 in
theorem c_X8_stateOf (w : WPar) (τ : TS) (i0 : Nat) (x1 : Int32) (K : TS → Int32 → Prop) (h0 : tp_is w i0 7) (hw : wp_X8_stateOf τ i0 x1 K) : MI w yX8_stateOf wsX8_stateOf 2 42 [.ref (w.1 i0), .int x1] τ K := by
  refine tp_enterI (cc := cX8_stateOf) (maxL := 2) (own := RX8) (by decide) rfl rfl (Nat.le_of_ble_eq_true rfl) (fun g C hR => ?_)
  show Zt w g τ (0, 0) 0 [(0, .ref (w.1 i0)), (1, .int x1)] []
  unfold wp_X8_stateOf at hw
  refine z_aload_n C 0 (by rfl) dX8_stateOf_0 ?_
  refine z_iload_n C 1 (by rfl) dX8_stateOf_1 ?_
  refine zv_r C (As := [.int x1]) (bytes := cX8_callerOf) (maxL := 2) (F1 := 1) (L1 := 21) (c_X8_callerOf w _ i0 x1 _ h0 hw) h0.2 (tE7 h0.1) rfl 1 gX8_stateOf_X8_callerOf rfl (by decide +kernel) ⟨Nat.le_of_ble_eq_true rfl, Nat.le_of_ble_eq_true rfl⟩ rfl (Nat.le_of_ble_eq_true rfl) ⟨Nat.le_of_ble_eq_true rfl, Nat.le_of_ble_eq_true rfl⟩ rfl dX8_stateOf_2 (fun τ21 j22 hw hj22 => ?_)
  refine z_get C (Cn := RX1) (T := TX1) (N := 14) (ci := 1) hj22.2 0 (tE1 hj22.1) in_X8_stateOf_X1 rfl (by decide) mw_X8_stateOf_0 rfl rfl dX8_stateOf_5 ?_
  exact hR _ _ _ _ dX8_stateOf_8 hw
def wp_X8_given (τ : TS) (i0 : Nat) (x1 : Int32) (K : TS → Int32 → Prop) : Prop :=
  wp_X8_callerOf τ i0 x1 (fun τ21 j22 => K τ21 (τ21 j22 1))
theorem mw_X8_given_0 : Cond.fieldLink RX8 116 "TidePost$Caller" "given" "I" ∈ wsX8_given := List.mem_of_getElem? (i := 1) rfl
theorem in_X8_given_X1 : ∀ x ∈ wsX10, x ∈ wsX8_given := fun _ h => List.mem_cons_of_mem _ (List.mem_append_left _ (List.mem_append_left _ (List.mem_append_left _ (List.mem_append_left _ (List.mem_append_right _ h)))))
set_option maxHeartbeats 4000000 in
set_option maxRecDepth 100000 in
theorem c_X8_given (w : WPar) (τ : TS) (i0 : Nat) (x1 : Int32) (K : TS → Int32 → Prop) (h0 : tp_is w i0 7) (hw : wp_X8_given τ i0 x1 K) : MI w yX8_given wsX8_given 2 42 [.ref (w.1 i0), .int x1] τ K := by
  refine tp_enterI (cc := cX8_given) (maxL := 2) (own := RX8) (by decide) rfl rfl (Nat.le_of_ble_eq_true rfl) (fun g C hR => ?_)
  show Zt w g τ (0, 0) 0 [(0, .ref (w.1 i0)), (1, .int x1)] []
  unfold wp_X8_given at hw
  refine z_aload_n C 0 (by rfl) dX8_given_0 ?_
  refine z_iload_n C 1 (by rfl) dX8_given_1 ?_
  refine zv_r C (As := [.int x1]) (bytes := cX8_callerOf) (maxL := 2) (F1 := 1) (L1 := 21) (c_X8_callerOf w _ i0 x1 _ h0 hw) h0.2 (tE7 h0.1) rfl 1 gX8_given_X8_callerOf rfl (by decide +kernel) ⟨Nat.le_of_ble_eq_true rfl, Nat.le_of_ble_eq_true rfl⟩ rfl (Nat.le_of_ble_eq_true rfl) ⟨Nat.le_of_ble_eq_true rfl, Nat.le_of_ble_eq_true rfl⟩ rfl dX8_given_2 (fun τ21 j22 hw hj22 => ?_)
  refine z_get C (Cn := RX1) (T := TX1) (N := 14) (ci := 1) hj22.2 1 (tE1 hj22.1) in_X8_given_X1 rfl (by decide) mw_X8_given_0 rfl rfl dX8_given_5 ?_
  exact hR _ _ _ _ dX8_given_8 hw
def wp_X8_base (τ : TS) (i0 : Nat) (x1 : Int32) (K : TS → Int32 → Prop) : Prop :=
  wp_X8_callerOf τ i0 x1 (fun τ21 j22 => K τ21 (τ21 j22 3))
theorem mw_X8_base_0 : Cond.fieldLink RX8 130 "TidePost$Caller" "base" "I" ∈ wsX8_base := List.mem_of_getElem? (i := 1) rfl
theorem in_X8_base_X1 : ∀ x ∈ wsX10, x ∈ wsX8_base := fun _ h => List.mem_cons_of_mem _ (List.mem_append_left _ (List.mem_append_left _ (List.mem_append_left _ (List.mem_append_left _ (List.mem_append_right _ h)))))
set_option maxHeartbeats 4000000 in
set_option maxRecDepth 100000 in
theorem c_X8_base (w : WPar) (τ : TS) (i0 : Nat) (x1 : Int32) (K : TS → Int32 → Prop) (h0 : tp_is w i0 7) (hw : wp_X8_base τ i0 x1 K) : MI w yX8_base wsX8_base 2 42 [.ref (w.1 i0), .int x1] τ K := by
  refine tp_enterI (cc := cX8_base) (maxL := 2) (own := RX8) (by decide) rfl rfl (Nat.le_of_ble_eq_true rfl) (fun g C hR => ?_)
  show Zt w g τ (0, 0) 0 [(0, .ref (w.1 i0)), (1, .int x1)] []
  unfold wp_X8_base at hw
  refine z_aload_n C 0 (by rfl) dX8_base_0 ?_
  refine z_iload_n C 1 (by rfl) dX8_base_1 ?_
  refine zv_r C (As := [.int x1]) (bytes := cX8_callerOf) (maxL := 2) (F1 := 1) (L1 := 21) (c_X8_callerOf w _ i0 x1 _ h0 hw) h0.2 (tE7 h0.1) rfl 1 gX8_base_X8_callerOf rfl (by decide +kernel) ⟨Nat.le_of_ble_eq_true rfl, Nat.le_of_ble_eq_true rfl⟩ rfl (Nat.le_of_ble_eq_true rfl) ⟨Nat.le_of_ble_eq_true rfl, Nat.le_of_ble_eq_true rfl⟩ rfl dX8_base_2 (fun τ21 j22 hw hj22 => ?_)
  refine z_get C (Cn := RX1) (T := TX1) (N := 14) (ci := 1) hj22.2 3 (tE1 hj22.1) in_X8_base_X1 rfl (by decide) mw_X8_base_0 rfl rfl dX8_base_5 ?_
  exact hR _ _ _ _ dX8_base_8 hw
def wp_X8_next (τ : TS) (i0 : Nat) (x1 : Int32) (K : TS → Int32 → Prop) : Prop :=
  wp_X8_callerOf τ i0 x1 (fun τ21 j22 => K τ21 (τ21 j22 4))
theorem mw_X8_next_0 : Cond.fieldLink RX8 196 "TidePost$Caller" "next" "I" ∈ wsX8_next := List.mem_of_getElem? (i := 1) rfl
theorem in_X8_next_X1 : ∀ x ∈ wsX10, x ∈ wsX8_next := fun _ h => List.mem_cons_of_mem _ (List.mem_append_left _ (List.mem_append_left _ (List.mem_append_left _ (List.mem_append_left _ (List.mem_append_right _ h)))))
set_option maxHeartbeats 4000000 in
set_option maxRecDepth 100000 in
theorem c_X8_next (w : WPar) (τ : TS) (i0 : Nat) (x1 : Int32) (K : TS → Int32 → Prop) (h0 : tp_is w i0 7) (hw : wp_X8_next τ i0 x1 K) : MI w yX8_next wsX8_next 2 42 [.ref (w.1 i0), .int x1] τ K := by
  refine tp_enterI (cc := cX8_next) (maxL := 2) (own := RX8) (by decide) rfl rfl (Nat.le_of_ble_eq_true rfl) (fun g C hR => ?_)
  show Zt w g τ (0, 0) 0 [(0, .ref (w.1 i0)), (1, .int x1)] []
  unfold wp_X8_next at hw
  refine z_aload_n C 0 (by rfl) dX8_next_0 ?_
  refine z_iload_n C 1 (by rfl) dX8_next_1 ?_
  refine zv_r C (As := [.int x1]) (bytes := cX8_callerOf) (maxL := 2) (F1 := 1) (L1 := 21) (c_X8_callerOf w _ i0 x1 _ h0 hw) h0.2 (tE7 h0.1) rfl 1 gX8_next_X8_callerOf rfl (by decide +kernel) ⟨Nat.le_of_ble_eq_true rfl, Nat.le_of_ble_eq_true rfl⟩ rfl (Nat.le_of_ble_eq_true rfl) ⟨Nat.le_of_ble_eq_true rfl, Nat.le_of_ble_eq_true rfl⟩ rfl dX8_next_2 (fun τ21 j22 hw hj22 => ?_)
  refine z_get C (Cn := RX1) (T := TX1) (N := 14) (ci := 1) hj22.2 4 (tE1 hj22.1) in_X8_next_X1 rfl (by decide) mw_X8_next_0 rfl rfl dX8_next_5 ?_
  exact hR _ _ _ _ dX8_next_8 hw
def wp_X8_window (τ : TS) (i0 : Nat) (x1 : Int32) (K : TS → Int32 → Prop) : Prop :=
  wp_X8_callerOf τ i0 x1 (fun τ21 j22 => K τ21 (τ21 j22 5))
theorem mw_X8_window_0 : Cond.fieldLink RX8 199 "TidePost$Caller" "window" "I" ∈ wsX8_window := List.mem_of_getElem? (i := 1) rfl
theorem in_X8_window_X1 : ∀ x ∈ wsX10, x ∈ wsX8_window := fun _ h => List.mem_cons_of_mem _ (List.mem_append_left _ (List.mem_append_left _ (List.mem_append_left _ (List.mem_append_left _ (List.mem_append_right _ h)))))
set_option maxHeartbeats 4000000 in
set_option maxRecDepth 100000 in
theorem c_X8_window (w : WPar) (τ : TS) (i0 : Nat) (x1 : Int32) (K : TS → Int32 → Prop) (h0 : tp_is w i0 7) (hw : wp_X8_window τ i0 x1 K) : MI w yX8_window wsX8_window 2 42 [.ref (w.1 i0), .int x1] τ K := by
  refine tp_enterI (cc := cX8_window) (maxL := 2) (own := RX8) (by decide) rfl rfl (Nat.le_of_ble_eq_true rfl) (fun g C hR => ?_)
  show Zt w g τ (0, 0) 0 [(0, .ref (w.1 i0)), (1, .int x1)] []
  unfold wp_X8_window at hw
  refine z_aload_n C 0 (by rfl) dX8_window_0 ?_
  refine z_iload_n C 1 (by rfl) dX8_window_1 ?_
  refine zv_r C (As := [.int x1]) (bytes := cX8_callerOf) (maxL := 2) (F1 := 1) (L1 := 21) (c_X8_callerOf w _ i0 x1 _ h0 hw) h0.2 (tE7 h0.1) rfl 1 gX8_window_X8_callerOf rfl (by decide +kernel) ⟨Nat.le_of_ble_eq_true rfl, Nat.le_of_ble_eq_true rfl⟩ rfl (Nat.le_of_ble_eq_true rfl) ⟨Nat.le_of_ble_eq_true rfl, Nat.le_of_ble_eq_true rfl⟩ rfl dX8_window_2 (fun τ21 j22 hw hj22 => ?_)
  refine z_get C (Cn := RX1) (T := TX1) (N := 14) (ci := 1) hj22.2 5 (tE1 hj22.1) in_X8_window_X1 rfl (by decide) mw_X8_window_0 rfl rfl dX8_window_5 ?_
  exact hR _ _ _ _ dX8_window_8 hw
def wp_X8_recover (τ : TS) (i0 : Nat) (x1 : Int32) (K : TS → Int32 → Prop) : Prop :=
  wp_X8_callerOf τ i0 x1 (fun τ21 j22 => K τ21 (τ21 j22 9))
theorem mw_X8_recover_0 : Cond.fieldLink RX8 211 "TidePost$Caller" "recover" "I" ∈ wsX8_recover := List.mem_of_getElem? (i := 1) rfl
theorem in_X8_recover_X1 : ∀ x ∈ wsX10, x ∈ wsX8_recover := fun _ h => List.mem_cons_of_mem _ (List.mem_append_left _ (List.mem_append_left _ (List.mem_append_left _ (List.mem_append_left _ (List.mem_append_right _ h)))))
set_option maxHeartbeats 4000000 in
set_option maxRecDepth 100000 in
theorem c_X8_recover (w : WPar) (τ : TS) (i0 : Nat) (x1 : Int32) (K : TS → Int32 → Prop) (h0 : tp_is w i0 7) (hw : wp_X8_recover τ i0 x1 K) : MI w yX8_recover wsX8_recover 2 42 [.ref (w.1 i0), .int x1] τ K := by
  refine tp_enterI (cc := cX8_recover) (maxL := 2) (own := RX8) (by decide) rfl rfl (Nat.le_of_ble_eq_true rfl) (fun g C hR => ?_)
  show Zt w g τ (0, 0) 0 [(0, .ref (w.1 i0)), (1, .int x1)] []
  unfold wp_X8_recover at hw
  refine z_aload_n C 0 (by rfl) dX8_recover_0 ?_
  refine z_iload_n C 1 (by rfl) dX8_recover_1 ?_
  refine zv_r C (As := [.int x1]) (bytes := cX8_callerOf) (maxL := 2) (F1 := 1) (L1 := 21) (c_X8_callerOf w _ i0 x1 _ h0 hw) h0.2 (tE7 h0.1) rfl 1 gX8_recover_X8_callerOf rfl (by decide +kernel) ⟨Nat.le_of_ble_eq_true rfl, Nat.le_of_ble_eq_true rfl⟩ rfl (Nat.le_of_ble_eq_true rfl) ⟨Nat.le_of_ble_eq_true rfl, Nat.le_of_ble_eq_true rfl⟩ rfl dX8_recover_2 (fun τ21 j22 hw hj22 => ?_)
  refine z_get C (Cn := RX1) (T := TX1) (N := 14) (ci := 1) hj22.2 9 (tE1 hj22.1) in_X8_recover_X1 rfl (by decide) mw_X8_recover_0 rfl rfl dX8_recover_5 ?_
  exact hR _ _ _ _ dX8_recover_8 hw
def wp_X8_timeout (τ : TS) (i0 : Nat) (x1 : Int32) (K : TS → Int32 → Prop) : Prop :=
  wp_X8_callerOf τ i0 x1 (fun τ21 j22 => K τ21 (τ21 (j22 + 1) 2))
theorem mw_X8_timeout_0 : Cond.fieldLink RX8 214 "TidePost$Caller" "timing" "LTidePost$Timing;" ∈ wsX8_timeout := List.mem_of_getElem? (i := 1) rfl
theorem mw_X8_timeout_1 : Cond.fieldLink RX8 226 "TidePost$Timing" "timeout" "I" ∈ wsX8_timeout := List.mem_of_getElem? (i := 2) rfl
theorem in_X8_timeout_X1 : ∀ x ∈ wsX10, x ∈ wsX8_timeout := fun _ h => List.mem_cons_of_mem _ (List.mem_append_left _ (List.mem_append_left _ (List.mem_append_left _ (List.mem_append_left _ (List.mem_append_left _ (List.mem_append_right _ h))))))
theorem in_X8_timeout_X5 : ∀ x ∈ wsX50, x ∈ wsX8_timeout := fun _ h => List.mem_cons_of_mem _ (List.mem_append_left _ (List.mem_append_left _ (List.mem_append_left _ (List.mem_append_left _ (List.mem_append_right _ h)))))
set_option maxHeartbeats 4000000 in
set_option maxRecDepth 100000 in
theorem c_X8_timeout (w : WPar) (τ : TS) (i0 : Nat) (x1 : Int32) (K : TS → Int32 → Prop) (h0 : tp_is w i0 7) (hw : wp_X8_timeout τ i0 x1 K) : MI w yX8_timeout wsX8_timeout 2 42 [.ref (w.1 i0), .int x1] τ K := by
  refine tp_enterI (cc := cX8_timeout) (maxL := 2) (own := RX8) (by decide) rfl rfl (Nat.le_of_ble_eq_true rfl) (fun g C hR => ?_)
  show Zt w g τ (0, 0) 0 [(0, .ref (w.1 i0)), (1, .int x1)] []
  unfold wp_X8_timeout at hw
  refine z_aload_n C 0 (by rfl) dX8_timeout_0 ?_
  refine z_iload_n C 1 (by rfl) dX8_timeout_1 ?_
  refine zv_r C (As := [.int x1]) (bytes := cX8_callerOf) (maxL := 2) (F1 := 1) (L1 := 21) (c_X8_callerOf w _ i0 x1 _ h0 hw) h0.2 (tE7 h0.1) rfl 1 gX8_timeout_X8_callerOf rfl (by decide +kernel) ⟨Nat.le_of_ble_eq_true rfl, Nat.le_of_ble_eq_true rfl⟩ rfl (Nat.le_of_ble_eq_true rfl) ⟨Nat.le_of_ble_eq_true rfl, Nat.le_of_ble_eq_true rfl⟩ rfl dX8_timeout_2 (fun τ21 j22 hw hj22 => ?_)
  refine z_get C (Cn := RX1) (T := TX1) (N := 14) (ci := 1) hj22.2 13 (tE1 hj22.1) in_X8_timeout_X1 rfl (by decide) mw_X8_timeout_0 rfl rfl dX8_timeout_5 ?_
  refine z_get C (Cn := RX5) (T := TX5) (N := 5) (ci := 4) (tR1_13 hj22).2 2 (tE4 (tR1_13 hj22).1) in_X8_timeout_X5 rfl (by decide) mw_X8_timeout_1 rfl rfl dX8_timeout_8 ?_
  exact hR _ _ _ _ dX8_timeout_11 hw
def wp_X8_timer (τ : TS) (i0 : Nat) (x1 : Int32) (K : TS → Int32 → Prop) : Prop :=
  wp_X8_callerOf τ i0 x1 (fun τ21 j22 => K τ21 (τ21 j22 10))
theorem mw_X8_timer_0 : Cond.fieldLink RX8 229 "TidePost$Caller" "timer" "I" ∈ wsX8_timer := List.mem_of_getElem? (i := 1) rfl
theorem in_X8_timer_X1 : ∀ x ∈ wsX10, x ∈ wsX8_timer := fun _ h => List.mem_cons_of_mem _ (List.mem_append_left _ (List.mem_append_left _ (List.mem_append_left _ (List.mem_append_left _ (List.mem_append_right _ h)))))
set_option maxHeartbeats 4000000 in
set_option maxRecDepth 100000 in
theorem c_X8_timer (w : WPar) (τ : TS) (i0 : Nat) (x1 : Int32) (K : TS → Int32 → Prop) (h0 : tp_is w i0 7) (hw : wp_X8_timer τ i0 x1 K) : MI w yX8_timer wsX8_timer 2 42 [.ref (w.1 i0), .int x1] τ K := by
  refine tp_enterI (cc := cX8_timer) (maxL := 2) (own := RX8) (by decide) rfl rfl (Nat.le_of_ble_eq_true rfl) (fun g C hR => ?_)
  show Zt w g τ (0, 0) 0 [(0, .ref (w.1 i0)), (1, .int x1)] []
  unfold wp_X8_timer at hw
  refine z_aload_n C 0 (by rfl) dX8_timer_0 ?_
  refine z_iload_n C 1 (by rfl) dX8_timer_1 ?_
  refine zv_r C (As := [.int x1]) (bytes := cX8_callerOf) (maxL := 2) (F1 := 1) (L1 := 21) (c_X8_callerOf w _ i0 x1 _ h0 hw) h0.2 (tE7 h0.1) rfl 1 gX8_timer_X8_callerOf rfl (by decide +kernel) ⟨Nat.le_of_ble_eq_true rfl, Nat.le_of_ble_eq_true rfl⟩ rfl (Nat.le_of_ble_eq_true rfl) ⟨Nat.le_of_ble_eq_true rfl, Nat.le_of_ble_eq_true rfl⟩ rfl dX8_timer_2 (fun τ21 j22 hw hj22 => ?_)
  refine z_get C (Cn := RX1) (T := TX1) (N := 14) (ci := 1) hj22.2 10 (tE1 hj22.1) in_X8_timer_X1 rfl (by decide) mw_X8_timer_0 rfl rfl dX8_timer_5 ?_
  exact hR _ _ _ _ dX8_timer_8 hw
def wp_X8_measured (τ : TS) (i0 : Nat) (x1 : Int32) (K : TS → Int32 → Prop) : Prop :=
  wp_X8_callerOf τ i0 x1 (fun τ21 j22 => K τ21 (τ21 (j22 + 1) 3))
theorem mw_X8_measured_0 : Cond.fieldLink RX8 214 "TidePost$Caller" "timing" "LTidePost$Timing;" ∈ wsX8_measured := List.mem_of_getElem? (i := 1) rfl
theorem mw_X8_measured_1 : Cond.fieldLink RX8 232 "TidePost$Timing" "measured" "I" ∈ wsX8_measured := List.mem_of_getElem? (i := 2) rfl
theorem in_X8_measured_X1 : ∀ x ∈ wsX10, x ∈ wsX8_measured := fun _ h => List.mem_cons_of_mem _ (List.mem_append_left _ (List.mem_append_left _ (List.mem_append_left _ (List.mem_append_left _ (List.mem_append_left _ (List.mem_append_right _ h))))))
theorem in_X8_measured_X5 : ∀ x ∈ wsX50, x ∈ wsX8_measured := fun _ h => List.mem_cons_of_mem _ (List.mem_append_left _ (List.mem_append_left _ (List.mem_append_left _ (List.mem_append_left _ (List.mem_append_right _ h)))))
set_option maxHeartbeats 4000000 in
set_option maxRecDepth 100000 in
theorem c_X8_measured (w : WPar) (τ : TS) (i0 : Nat) (x1 : Int32) (K : TS → Int32 → Prop) (h0 : tp_is w i0 7) (hw : wp_X8_measured τ i0 x1 K) : MI w yX8_measured wsX8_measured 2 42 [.ref (w.1 i0), .int x1] τ K := by
  refine tp_enterI (cc := cX8_measured) (maxL := 2) (own := RX8) (by decide) rfl rfl (Nat.le_of_ble_eq_true rfl) (fun g C hR => ?_)
  show Zt w g τ (0, 0) 0 [(0, .ref (w.1 i0)), (1, .int x1)] []
  unfold wp_X8_measured at hw
  refine z_aload_n C 0 (by rfl) dX8_measured_0 ?_
  refine z_iload_n C 1 (by rfl) dX8_measured_1 ?_
  refine zv_r C (As := [.int x1]) (bytes := cX8_callerOf) (maxL := 2) (F1 := 1) (L1 := 21) (c_X8_callerOf w _ i0 x1 _ h0 hw) h0.2 (tE7 h0.1) rfl 1 gX8_measured_X8_callerOf rfl (by decide +kernel) ⟨Nat.le_of_ble_eq_true rfl, Nat.le_of_ble_eq_true rfl⟩ rfl (Nat.le_of_ble_eq_true rfl) ⟨Nat.le_of_ble_eq_true rfl, Nat.le_of_ble_eq_true rfl⟩ rfl dX8_measured_2 (fun τ21 j22 hw hj22 => ?_)
  refine z_get C (Cn := RX1) (T := TX1) (N := 14) (ci := 1) hj22.2 13 (tE1 hj22.1) in_X8_measured_X1 rfl (by decide) mw_X8_measured_0 rfl rfl dX8_measured_5 ?_
  refine z_get C (Cn := RX5) (T := TX5) (N := 5) (ci := 4) (tR1_13 hj22).2 3 (tE4 (tR1_13 hj22).1) in_X8_measured_X5 rfl (by decide) mw_X8_measured_1 rfl rfl dX8_measured_8 ?_
  exact hR _ _ _ _ dX8_measured_11 hw
def wp_X8_tries (τ : TS) (i0 : Nat) (x1 : Int32) (K : TS → Int32 → Prop) : Prop :=
  wp_X8_callerOf τ i0 x1 (fun τ21 j22 => K τ21 (τ21 j22 11))
theorem mw_X8_tries_0 : Cond.fieldLink RX8 235 "TidePost$Caller" "tries" "I" ∈ wsX8_tries := List.mem_of_getElem? (i := 1) rfl
theorem in_X8_tries_X1 : ∀ x ∈ wsX10, x ∈ wsX8_tries := fun _ h => List.mem_cons_of_mem _ (List.mem_append_left _ (List.mem_append_left _ (List.mem_append_left _ (List.mem_append_left _ (List.mem_append_right _ h)))))
set_option maxHeartbeats 4000000 in
set_option maxRecDepth 100000 in
theorem c_X8_tries (w : WPar) (τ : TS) (i0 : Nat) (x1 : Int32) (K : TS → Int32 → Prop) (h0 : tp_is w i0 7) (hw : wp_X8_tries τ i0 x1 K) : MI w yX8_tries wsX8_tries 2 42 [.ref (w.1 i0), .int x1] τ K := by
  refine tp_enterI (cc := cX8_tries) (maxL := 2) (own := RX8) (by decide) rfl rfl (Nat.le_of_ble_eq_true rfl) (fun g C hR => ?_)
  show Zt w g τ (0, 0) 0 [(0, .ref (w.1 i0)), (1, .int x1)] []
  unfold wp_X8_tries at hw
  refine z_aload_n C 0 (by rfl) dX8_tries_0 ?_
  refine z_iload_n C 1 (by rfl) dX8_tries_1 ?_
  refine zv_r C (As := [.int x1]) (bytes := cX8_callerOf) (maxL := 2) (F1 := 1) (L1 := 21) (c_X8_callerOf w _ i0 x1 _ h0 hw) h0.2 (tE7 h0.1) rfl 1 gX8_tries_X8_callerOf rfl (by decide +kernel) ⟨Nat.le_of_ble_eq_true rfl, Nat.le_of_ble_eq_true rfl⟩ rfl (Nat.le_of_ble_eq_true rfl) ⟨Nat.le_of_ble_eq_true rfl, Nat.le_of_ble_eq_true rfl⟩ rfl dX8_tries_2 (fun τ21 j22 hw hj22 => ?_)
  refine z_get C (Cn := RX1) (T := TX1) (N := 14) (ci := 1) hj22.2 11 (tE1 hj22.1) in_X8_tries_X1 rfl (by decide) mw_X8_tries_0 rfl rfl dX8_tries_5 ?_
  exact hR _ _ _ _ dX8_tries_8 hw
def wp_X8_wanted (τ : TS) (i0 : Nat) (x1 : Int32) (K : TS → Int32 → Prop) : Prop :=
  wp_X8_connectionOf τ i0 x1 (fun τ21 j22 => K τ21 (τ21 (j22 + 3) 1))
theorem mw_X8_wanted_0 : Cond.fieldLink RX8 150 "TidePost$Connection" "callee" "LTidePost$Callee;" ∈ wsX8_wanted := List.mem_of_getElem? (i := 1) rfl
theorem mw_X8_wanted_1 : Cond.fieldLink RX8 241 "TidePost$Callee" "wanted" "I" ∈ wsX8_wanted := List.mem_of_getElem? (i := 2) rfl
theorem in_X8_wanted_X2 : ∀ x ∈ wsX20, x ∈ wsX8_wanted := fun _ h => List.mem_cons_of_mem _ (List.mem_append_left _ (List.mem_append_left _ (List.mem_append_left _ (List.mem_append_left _ (List.mem_append_right _ h)))))
theorem in_X8_wanted_X0 : ∀ x ∈ wsX00, x ∈ wsX8_wanted := fun _ h => List.mem_cons_of_mem _ (List.mem_append_left _ (List.mem_append_left _ (List.mem_append_left _ (List.mem_append_right _ h))))
set_option maxHeartbeats 4000000 in
set_option maxRecDepth 100000 in
theorem c_X8_wanted (w : WPar) (τ : TS) (i0 : Nat) (x1 : Int32) (K : TS → Int32 → Prop) (h0 : tp_is w i0 7) (hw : wp_X8_wanted τ i0 x1 K) : MI w yX8_wanted wsX8_wanted 1 21 [.ref (w.1 i0), .int x1] τ K := by
  refine tp_enterI (cc := cX8_wanted) (maxL := 2) (own := RX8) (by decide) rfl rfl (Nat.le_of_ble_eq_true rfl) (fun g C hR => ?_)
  show Zt w g τ (0, 0) 0 [(0, .ref (w.1 i0)), (1, .int x1)] []
  unfold wp_X8_wanted at hw
  refine z_aload_n C 0 (by rfl) dX8_wanted_0 ?_
  refine z_iload_n C 1 (by rfl) dX8_wanted_1 ?_
  refine zv_r C (As := [.int x1]) (bytes := cX8_connectionOf) (maxL := 2) (F1 := 0) (L1 := 0) (c_X8_connectionOf w _ i0 x1 _ h0 hw) h0.2 (tE7 h0.1) rfl 1 gX8_wanted_X8_connectionOf rfl (by decide +kernel) ⟨Nat.le_of_ble_eq_true rfl, Nat.le_of_ble_eq_true rfl⟩ rfl (Nat.le_of_ble_eq_true rfl) ⟨Nat.le_of_ble_eq_true rfl, Nat.le_of_ble_eq_true rfl⟩ rfl dX8_wanted_2 (fun τ21 j22 hw hj22 => ?_)
  refine z_get C (Cn := RX2) (T := TX2) (N := 4) (ci := 2) hj22.2 3 (tE2 hj22.1) in_X8_wanted_X2 rfl (by decide) mw_X8_wanted_0 rfl rfl dX8_wanted_5 ?_
  refine z_get C (Cn := RX0) (T := TX0) (N := 4) (ci := 0) (tR2_3 hj22).2 1 (tE0 (tR2_3 hj22).1) in_X8_wanted_X0 rfl (by decide) mw_X8_wanted_1 rfl rfl dX8_wanted_8 ?_
  exact hR _ _ _ _ dX8_wanted_11 hw
def wp_X8_holds (τ : TS) (i0 : Nat) (x1 : Int32) (x2 : Int32) (K : TS → Int32 → Prop) : Prop :=
  wp_X8_connectionOf τ i0 x1 (fun τ21 j22 => ((x2 < 0) → (K τ21 0)) ∧ ((¬ x2 < 0) → (((201 ≤ x2) → (K τ21 0)) ∧ ((¬ 201 ≤ x2) → (vp_in x2 201 ∧ ((((τ21 ((j22 + 3) + 1) (Int32.toNatClampNeg x2)) = 0) → (K τ21 0)) ∧ ((¬ (τ21 ((j22 + 3) + 1) (Int32.toNatClampNeg x2)) = 0) → (K τ21 1))))))))
theorem mw_X8_holds_0 : Cond.fieldLink RX8 150 "TidePost$Connection" "callee" "LTidePost$Callee;" ∈ wsX8_holds := List.mem_of_getElem? (i := 1) rfl
theorem mw_X8_holds_1 : Cond.fieldLink RX8 244 "TidePost$Callee" "held" "[Z" ∈ wsX8_holds := List.mem_of_getElem? (i := 2) rfl
theorem in_X8_holds_X2 : ∀ x ∈ wsX20, x ∈ wsX8_holds := fun _ h => List.mem_cons_of_mem _ (List.mem_append_left _ (List.mem_append_left _ (List.mem_append_left _ (List.mem_append_left _ (List.mem_append_right _ h)))))
theorem in_X8_holds_X0 : ∀ x ∈ wsX00, x ∈ wsX8_holds := fun _ h => List.mem_cons_of_mem _ (List.mem_append_left _ (List.mem_append_left _ (List.mem_append_left _ (List.mem_append_right _ h))))
set_option maxHeartbeats 4000000 in
set_option maxRecDepth 100000 in
theorem c_X8_holds (w : WPar) (τ : TS) (i0 : Nat) (x1 : Int32) (x2 : Int32) (K : TS → Int32 → Prop) (h0 : tp_is w i0 7) (hw : wp_X8_holds τ i0 x1 x2 K) : MI w yX8_holds wsX8_holds 1 21 [.ref (w.1 i0), .int x1, .int x2] τ K := by
  refine tp_enterZ (cc := cX8_holds) (maxL := 4) (own := RX8) (by decide) rfl rfl (Nat.le_of_ble_eq_true rfl) (fun g C hR => ?_)
  show Zt w g τ (0, 0) 0 [(0, .ref (w.1 i0)), (1, .int x1), (2, .int x2)] []
  unfold wp_X8_holds at hw
  refine z_aload_n C 0 (by rfl) dX8_holds_0 ?_
  refine z_iload_n C 1 (by rfl) dX8_holds_1 ?_
  refine zv_r C (As := [.int x1]) (bytes := cX8_connectionOf) (maxL := 2) (F1 := 0) (L1 := 0) (c_X8_connectionOf w _ i0 x1 _ h0 hw) h0.2 (tE7 h0.1) rfl 1 gX8_holds_X8_connectionOf rfl (by decide +kernel) ⟨Nat.le_of_ble_eq_true rfl, Nat.le_of_ble_eq_true rfl⟩ rfl (Nat.le_of_ble_eq_true rfl) ⟨Nat.le_of_ble_eq_true rfl, Nat.le_of_ble_eq_true rfl⟩ rfl dX8_holds_2 (fun τ21 j22 hw hj22 => ?_)
  refine z_get C (Cn := RX2) (T := TX2) (N := 4) (ci := 2) hj22.2 3 (tE2 hj22.1) in_X8_holds_X2 rfl (by decide) mw_X8_holds_0 rfl rfl dX8_holds_5 ?_
  refine z_get C (Cn := RX0) (T := TX0) (N := 4) (ci := 0) (tR2_3 hj22).2 3 (tE0 (tR2_3 hj22).1) in_X8_holds_X0 rfl (by decide) mw_X8_holds_1 rfl rfl dX8_holds_8 ?_
  refine z_astore_n C [(3, .ref (w.1 ((j22 + 3) + 1))), (0, .ref (w.1 i0)), (1, .int x1), (2, .int x2)] dX8_holds_11 (by decide) rfl ?_
  refine z_iload_n C 3 (by rfl) dX8_holds_12 ?_
  refine z_if_lt (tgt := 32) C dX8_holds_13 (by decide) (fun c23 => ?_) (fun c23 => ?_)
  · have hw := hw.1 c23
    refine z_iconst C 0 (by decide) dX8_holds_32 ?_
    exact hR _ _ _ _ dX8_holds_33 rfl hw
  · have hw := hw.2 c23
    refine z_iload_n C 3 (by rfl) dX8_holds_16 ?_
    refine z_aload_n C 0 (by rfl) dX8_holds_17 ?_
    refine z_alen C 1 201 (tR0_3 (tR2_3 hj22)).2 (tE10 (tR0_3 (tR2_3 hj22)).1) rfl rfl dX8_holds_18 ?_
    refine z_icmp_ge (tgt := 32) C dX8_holds_19 (by decide) (fun c24 => ?_) (fun c24 => ?_)
    · have hw := hw.1 c24
      refine z_iconst C 0 (by decide) dX8_holds_32 ?_
      exact hR _ _ _ _ dX8_holds_33 rfl hw
    · have hw := hw.2 c24
      refine z_aload_n C 0 (by rfl) dX8_holds_22 ?_
      refine z_iload_n C 3 (by rfl) dX8_holds_23 ?_
      obtain ⟨s25, hw⟩ := hw
      refine z_zald C (tR0_3 (tR2_3 hj22)).2 (tE10 (tR0_3 (tR2_3 hj22)).1) s25 dX8_holds_24 ?_
      refine z_if_eq (tgt := 32) C dX8_holds_25 (by decide) (fun c26 => ?_) (fun c26 => ?_)
      · have hw := hw.1 c26
        refine z_iconst C 0 (by decide) dX8_holds_32 ?_
        exact hR _ _ _ _ dX8_holds_33 rfl hw
      · have hw := hw.2 c26
        refine z_iconst C 1 (by decide) dX8_holds_28 ?_
        refine z_goto (tgt := 33) C dX8_holds_29 (by decide) ?_
        exact hR _ _ _ _ dX8_holds_33 rfl hw
def wp_X8_readable (τ : TS) (i0 : Nat) (x1 : Int32) (K : TS → Int32 → Prop) : Prop :=
  wp_X8_connectionOf τ i0 x1 (fun τ21 j22 => wp_X2_unread τ21 j22 (fun τ23 x24 => K τ23 x24))
set_option maxHeartbeats 4000000 in
set_option maxRecDepth 100000 in
theorem c_X8_readable (w : WPar) (τ : TS) (i0 : Nat) (x1 : Int32) (K : TS → Int32 → Prop) (h0 : tp_is w i0 7) (hw : wp_X8_readable τ i0 x1 K) : MI w yX8_readable wsX8_readable 2 33 [.ref (w.1 i0), .int x1] τ K := by
  refine tp_enterI (cc := cX8_readable) (maxL := 2) (own := RX8) (by decide) rfl rfl (Nat.le_of_ble_eq_true rfl) (fun g C hR => ?_)
  show Zt w g τ (0, 0) 0 [(0, .ref (w.1 i0)), (1, .int x1)] []
  unfold wp_X8_readable at hw
  refine z_aload_n C 0 (by rfl) dX8_readable_0 ?_
  refine z_iload_n C 1 (by rfl) dX8_readable_1 ?_
  refine zv_r C (As := [.int x1]) (bytes := cX8_connectionOf) (maxL := 2) (F1 := 0) (L1 := 0) (c_X8_connectionOf w _ i0 x1 _ h0 hw) h0.2 (tE7 h0.1) rfl 1 gX8_readable_X8_connectionOf rfl (by decide +kernel) ⟨Nat.le_of_ble_eq_true rfl, Nat.le_of_ble_eq_true rfl⟩ rfl (Nat.le_of_ble_eq_true rfl) ⟨Nat.le_of_ble_eq_true rfl, Nat.le_of_ble_eq_true rfl⟩ rfl dX8_readable_2 (fun τ21 j22 hw hj22 => ?_)
  refine zv_i C (As := []) (bytes := cX2_unread) (maxL := 1) (F1 := 1) (L1 := 13) (c_X2_unread w _ j22 _ hj22 hw) hj22.2 (tE2 hj22.1) rfl 0 gX8_readable_X2_unread rfl (by decide +kernel) ⟨Nat.le_of_ble_eq_true rfl, Nat.le_of_ble_eq_true rfl⟩ rfl (Nat.le_of_ble_eq_true rfl) ⟨Nat.le_of_ble_eq_true rfl, Nat.le_of_ble_eq_true rfl⟩ rfl dX8_readable_5 (fun x24 τ23 hw => ?_)
  exact hR _ _ _ _ dX8_readable_8 hw
def wp_X8_hasRead (τ : TS) (i0 : Nat) (x1 : Int32) (K : TS → Int32 → Prop) : Prop :=
  wp_X8_connectionOf τ i0 x1 (fun τ21 j22 => K τ21 (τ21 (j22 + 3) 2))
theorem mw_X8_hasRead_0 : Cond.fieldLink RX8 150 "TidePost$Connection" "callee" "LTidePost$Callee;" ∈ wsX8_hasRead := List.mem_of_getElem? (i := 1) rfl
theorem mw_X8_hasRead_1 : Cond.fieldLink RX8 159 "TidePost$Callee" "read" "I" ∈ wsX8_hasRead := List.mem_of_getElem? (i := 2) rfl
theorem in_X8_hasRead_X2 : ∀ x ∈ wsX20, x ∈ wsX8_hasRead := fun _ h => List.mem_cons_of_mem _ (List.mem_append_left _ (List.mem_append_left _ (List.mem_append_left _ (List.mem_append_left _ (List.mem_append_right _ h)))))
theorem in_X8_hasRead_X0 : ∀ x ∈ wsX00, x ∈ wsX8_hasRead := fun _ h => List.mem_cons_of_mem _ (List.mem_append_left _ (List.mem_append_left _ (List.mem_append_left _ (List.mem_append_right _ h))))
set_option maxHeartbeats 4000000 in
set_option maxRecDepth 100000 in
theorem c_X8_hasRead (w : WPar) (τ : TS) (i0 : Nat) (x1 : Int32) (K : TS → Int32 → Prop) (h0 : tp_is w i0 7) (hw : wp_X8_hasRead τ i0 x1 K) : MI w yX8_hasRead wsX8_hasRead 1 21 [.ref (w.1 i0), .int x1] τ K := by
  refine tp_enterI (cc := cX8_hasRead) (maxL := 2) (own := RX8) (by decide) rfl rfl (Nat.le_of_ble_eq_true rfl) (fun g C hR => ?_)
  show Zt w g τ (0, 0) 0 [(0, .ref (w.1 i0)), (1, .int x1)] []
  unfold wp_X8_hasRead at hw
  refine z_aload_n C 0 (by rfl) dX8_hasRead_0 ?_
  refine z_iload_n C 1 (by rfl) dX8_hasRead_1 ?_
  refine zv_r C (As := [.int x1]) (bytes := cX8_connectionOf) (maxL := 2) (F1 := 0) (L1 := 0) (c_X8_connectionOf w _ i0 x1 _ h0 hw) h0.2 (tE7 h0.1) rfl 1 gX8_hasRead_X8_connectionOf rfl (by decide +kernel) ⟨Nat.le_of_ble_eq_true rfl, Nat.le_of_ble_eq_true rfl⟩ rfl (Nat.le_of_ble_eq_true rfl) ⟨Nat.le_of_ble_eq_true rfl, Nat.le_of_ble_eq_true rfl⟩ rfl dX8_hasRead_2 (fun τ21 j22 hw hj22 => ?_)
  refine z_get C (Cn := RX2) (T := TX2) (N := 4) (ci := 2) hj22.2 3 (tE2 hj22.1) in_X8_hasRead_X2 rfl (by decide) mw_X8_hasRead_0 rfl rfl dX8_hasRead_5 ?_
  refine z_get C (Cn := RX0) (T := TX0) (N := 4) (ci := 0) (tR2_3 hj22).2 2 (tE0 (tR2_3 hj22).1) in_X8_hasRead_X0 rfl (by decide) mw_X8_hasRead_1 rfl rfl dX8_hasRead_8 ?_
  exact hR _ _ _ _ dX8_hasRead_11 hw
def wp_X8_addNode (τ : TS) (i0 : Nat) (K : TS → Int32 → Prop) : Prop :=
  (((τ 1 0) < 8) → (wp_X3_layNode τ 1 (fun τ22 x23 => K τ22 x23))) ∧ ((¬ (τ 1 0) < 8) → False)
theorem mw_X8_addNode_2 : Cond.fieldLink RX8 12 "TidePost" "net" "LTidePost$Net;" ∈ wsX8_addNode := List.mem_of_getElem? (i := 3) rfl
theorem mw_X8_addNode_3 : Cond.fieldLink RX8 33 "TidePost$Net" "nodes" "I" ∈ wsX8_addNode := List.mem_of_getElem? (i := 4) rfl
theorem in_X8_addNode_X8 : ∀ x ∈ wsX80, x ∈ wsX8_addNode := fun _ h => List.mem_cons_of_mem _ (List.mem_append_left _ (List.mem_append_left _ (List.mem_append_right _ h)))
theorem in_X8_addNode_X3 : ∀ x ∈ wsX30, x ∈ wsX8_addNode := fun _ h => List.mem_cons_of_mem _ (List.mem_append_left _ (List.mem_append_right _ h))
set_option maxHeartbeats 4000000 in
set_option maxRecDepth 100000 in
theorem c_X8_addNode (w : WPar) (τ : TS) (i0 : Nat) (K : TS → Int32 → Prop) (h0 : tp_is w i0 7) (hw : wp_X8_addNode τ i0 K) : MI w yX8_addNode wsX8_addNode 4 92 [.ref (w.1 i0)] τ K := by
  refine tp_enterI (cc := cX8_addNode) (maxL := 1) (own := RX8) (by decide) rfl rfl (Nat.le_of_ble_eq_true rfl) (fun g C hR => ?_)
  show Zt w g τ (0, 0) 0 [(0, .ref (w.1 i0))] []
  unfold wp_X8_addNode at hw
  refine z_aload_n C 0 (by rfl) dX8_addNode_0 ?_
  refine z_get C (Cn := RX8) (T := TX8) (N := 4) (ci := 7) h0.2 0 (tE7 h0.1) in_X8_addNode_X8 rfl (by decide) mw_X8_addNode_2 rfl rfl dX8_addNode_1 ?_
  refine z_get C (Cn := RX3) (T := TX3) (N := 9) (ci := 3) (tR7_0 h0).2 0 (tE3 (tR7_0 h0).1) in_X8_addNode_X3 rfl (by decide) mw_X8_addNode_3 rfl rfl dX8_addNode_4 ?_
  refine z_bipush C 8 (by decide) dX8_addNode_7 ?_
  refine z_icmp_lt (tgt := 22) C dX8_addNode_9 (by decide) (fun c21 => ?_) (fun c21 => ?_)
  · have hw := hw.1 c21
    refine z_aload_n C 0 (by rfl) dX8_addNode_22 ?_
    refine z_get C (Cn := RX8) (T := TX8) (N := 4) (ci := 7) h0.2 0 (tE7 h0.1) in_X8_addNode_X8 rfl (by decide) mw_X8_addNode_2 rfl rfl dX8_addNode_23 ?_
    refine zv_i C (As := []) (bytes := cX3_layNode) (maxL := 1) (F1 := 3) (L1 := 72) (c_X3_layNode w _ 1 _ (tR7_0 h0) hw) (tR7_0 h0).2 (tE3 (tR7_0 h0).1) rfl 0 gX8_addNode_X3_layNode rfl (by decide +kernel) ⟨Nat.le_of_ble_eq_true rfl, Nat.le_of_ble_eq_true rfl⟩ rfl (Nat.le_of_ble_eq_true rfl) ⟨Nat.le_of_ble_eq_true rfl, Nat.le_of_ble_eq_true rfl⟩ rfl dX8_addNode_26 (fun x23 τ22 hw => ?_)
    exact hR _ _ _ _ dX8_addNode_29 hw
  · have hw := hw.2 c21
    exact hw.elim
def wp_X8_pass (τ : TS) (i0 : Nat) (x1 : Int32) (K : TS → Int32 → Prop) : Prop :=
  wp_X8_checkRange τ x1 1 50 (fun τ21 => ∃ (I24 : TS → Int32 → Prop) (u24 : TS → Int32 → Nat), I24 τ21 0 ∧ ∀ (τ22 : TS) (x23 : Int32), I24 τ22 x23 → (((x1 ≤ x23) → (K τ22 (τ22 17 4))) ∧ ((¬ x1 ≤ x23) → (wp_X6_tick τ22 17 (fun τ26 => ∀ x27 : Int32, x27 = x23 + 1 → I24 τ26 x27 ∧ u24 τ26 x27 < u24 τ22 x23)))))
theorem mw_X8_pass_0 : Cond.fieldLink RX8 21 "TidePost" "traffic" "LTidePost$Traffic;" ∈ wsX8_pass := List.mem_of_getElem? (i := 1) rfl
theorem mw_X8_pass_1 : Cond.fieldLink RX8 168 "TidePost$Traffic" "clock" "I" ∈ wsX8_pass := List.mem_of_getElem? (i := 2) rfl
theorem in_X8_pass_X8 : ∀ x ∈ wsX80, x ∈ wsX8_pass := fun _ h => List.mem_cons_of_mem _ (List.mem_append_left _ (List.mem_append_left _ (List.mem_append_left _ (List.mem_append_left _ (List.mem_append_left _ (List.mem_append_left _ (List.mem_append_left _ (List.mem_append_left _ (List.mem_append_right _ h)))))))))
theorem in_X8_pass_X6 : ∀ x ∈ wsX60, x ∈ wsX8_pass := fun _ h => List.mem_cons_of_mem _ (List.mem_append_left _ (List.mem_append_left _ (List.mem_append_left _ (List.mem_append_left _ (List.mem_append_left _ (List.mem_append_left _ (List.mem_append_left _ (List.mem_append_right _ h))))))))
set_option maxHeartbeats 4000000 in
set_option maxRecDepth 100000 in
theorem c_X8_pass (w : WPar) (τ : TS) (i0 : Nat) (x1 : Int32) (K : TS → Int32 → Prop) (h0 : tp_is w i0 7) (hw : wp_X8_pass τ i0 x1 K) : MI w yX8_pass wsX8_pass 7 167 [.ref (w.1 i0), .int x1] τ K := by
  refine tp_enterI (cc := cX8_pass) (maxL := 3) (own := RX8) (by decide) rfl rfl (Nat.le_of_ble_eq_true rfl) (fun g C hR => ?_)
  show Zt w g τ (0, 0) 0 [(0, .ref (w.1 i0)), (1, .int x1)] []
  unfold wp_X8_pass at hw
  refine z_iload_n C 1 (by rfl) dX8_pass_0 ?_
  refine z_iconst C 1 (by decide) dX8_pass_1 ?_
  refine z_bipush C 50 (by decide) dX8_pass_2 ?_
  refine zs_v C (As := [.int x1, .int 1, .int 50]) (bytes := cX8_checkRange) (maxL := 3) (F1 := 0) (L1 := 0) (c_X8_checkRange w _ x1 1 50 _  hw) 3 gX8_pass_X8_checkRange rfl (by decide +kernel) ⟨Nat.le_of_ble_eq_true rfl, Nat.le_of_ble_eq_true rfl⟩ rfl (Nat.le_of_ble_eq_true rfl) ⟨Nat.le_of_ble_eq_true rfl, Nat.le_of_ble_eq_true rfl⟩ rfl dX8_pass_4 (fun τ21 hw => ?_)
  refine z_iconst C 0 (by decide) dX8_pass_7 ?_
  refine z_istore_n C [(2, .int 0), (0, .ref (w.1 i0)), (1, .int x1)] dX8_pass_8 (by decide) rfl ?_
  obtain ⟨I24, u24, hI24, hs24⟩ := hw
  have lp24 : ∀ (n24 : Nat) (τ22 : TS) (x23 : Int32), u24 τ22 x23 < n24 → I24 τ22 x23 → Zt w g τ22 (0, 0) 9 [(0, .ref (w.1 i0)), (1, .int x1), (2, .int x23)] [] := by
    intro n24
    induction n24 with
    | zero => intro τ22 x23 hlt24; exact absurd hlt24 (Nat.not_lt_zero _)
    | succ n24 ih24 =>
      intro τ22 x23 hlt24 hh24
      have hw := hs24 τ22 x23 hh24
      refine z_iload_n C 2 (by rfl) dX8_pass_9 ?_
      refine z_iload_n C 1 (by rfl) dX8_pass_10 ?_
      refine z_icmp_ge (tgt := 27) C dX8_pass_11 (by decide) (fun c25 => ?_) (fun c25 => ?_)
      · have hw := hw.1 c25
        refine z_aload_n C 0 (by rfl) dX8_pass_27 ?_
        refine z_get C (Cn := RX8) (T := TX8) (N := 4) (ci := 7) h0.2 1 (tE7 h0.1) in_X8_pass_X8 rfl (by decide) mw_X8_pass_0 rfl rfl dX8_pass_28 ?_
        refine z_get C (Cn := RX6) (T := TX6) (N := 6) (ci := 5) (tR7_1 h0).2 4 (tE5 (tR7_1 h0).1) in_X8_pass_X6 rfl (by decide) mw_X8_pass_1 rfl rfl dX8_pass_31 ?_
        exact hR _ _ _ _ dX8_pass_34 hw
      · have hw := hw.2 c25
        refine z_aload_n C 0 (by rfl) dX8_pass_14 ?_
        refine z_get C (Cn := RX8) (T := TX8) (N := 4) (ci := 7) h0.2 1 (tE7 h0.1) in_X8_pass_X8 rfl (by decide) mw_X8_pass_0 rfl rfl dX8_pass_15 ?_
        refine zv_v C (As := []) (bytes := cX6_tick) (maxL := 1) (F1 := 6) (L1 := 147) (c_X6_tick w _ 17 _ (tR7_1 h0) hw) (tR7_1 h0).2 (tE5 (tR7_1 h0).1) rfl 0 gX8_pass_X6_tick rfl (by decide +kernel) ⟨Nat.le_of_ble_eq_true rfl, Nat.le_of_ble_eq_true rfl⟩ rfl (Nat.le_of_ble_eq_true rfl) ⟨Nat.le_of_ble_eq_true rfl, Nat.le_of_ble_eq_true rfl⟩ rfl dX8_pass_18 (fun τ26 hw => ?_)
        obtain ⟨x27, ex27⟩ : ∃ z : Int32, z = x23 + 1 := ⟨_, rfl⟩
        have hw := hw x27 ex27
        refine z_iinc C 2 x27 [(2, .int x27), (0, .ref (w.1 i0)), (1, .int x1)] dX8_pass_21 (by rfl) (by rw [ex27]; rfl) (by decide) rfl ?_
        refine z_goto (tgt := 9) C dX8_pass_24 (by decide) ?_
        refine z_sub [1, 2, 0] [(0, .ref (w.1 i0)), (1, .int x1), (2, .int x27)] rfl ?_
        exact ih24 τ26 x27 (Nat.lt_of_lt_of_le hw.2 (Nat.le_of_lt_succ hlt24)) hw.1
  refine z_sub [1, 2, 0] [(0, .ref (w.1 i0)), (1, .int x1), (2, .int 0)] rfl ?_
  exact lp24 _ τ21 0 (Nat.lt_succ_self _) hI24
def wp_X8_lostIn (τ : TS) (i0 : Nat) (x1 : Int32) (K : TS → Int32 → Prop) : Prop :=
  wp_X8_checkRange τ x1 1 50 (fun τ21 => wp_X6_copyFrom τ21 122 17 (fun τ22 => ∃ (I25 : TS → Int32 → Prop) (u25 : TS → Int32 → Nat), I25 τ22 0 ∧ ∀ (τ23 : TS) (x24 : Int32), I25 τ23 x24 → (((x1 ≤ x24) → (K τ23 ((τ23 122 5) - (τ23 17 5)))) ∧ ((¬ x1 ≤ x24) → (wp_X6_tick τ23 122 (fun τ27 => ∀ x28 : Int32, x28 = x24 + 1 → I25 τ27 x28 ∧ u25 τ27 x28 < u25 τ23 x24))))))
theorem mw_X8_lostIn_0 : Cond.fieldLink RX8 25 "TidePost" "ahead" "LTidePost$Traffic;" ∈ wsX8_lostIn := List.mem_of_getElem? (i := 1) rfl
theorem mw_X8_lostIn_1 : Cond.fieldLink RX8 21 "TidePost" "traffic" "LTidePost$Traffic;" ∈ wsX8_lostIn := List.mem_of_getElem? (i := 2) rfl
theorem mw_X8_lostIn_2 : Cond.fieldLink RX8 186 "TidePost$Traffic" "lost" "I" ∈ wsX8_lostIn := List.mem_of_getElem? (i := 3) rfl
theorem in_X8_lostIn_X8 : ∀ x ∈ wsX80, x ∈ wsX8_lostIn := fun _ h => List.mem_cons_of_mem _ (List.mem_append_left _ (List.mem_append_left _ (List.mem_append_left _ (List.mem_append_left _ (List.mem_append_left _ (List.mem_append_left _ (List.mem_append_left _ (List.mem_append_left _ (List.mem_append_right _ h)))))))))
theorem in_X8_lostIn_X6 : ∀ x ∈ wsX60, x ∈ wsX8_lostIn := fun _ h => List.mem_cons_of_mem _ (List.mem_append_left _ (List.mem_append_left _ (List.mem_append_left _ (List.mem_append_left _ (List.mem_append_left _ (List.mem_append_left _ (List.mem_append_left _ (List.mem_append_right _ h))))))))
set_option maxHeartbeats 4000000 in
set_option maxRecDepth 100000 in
theorem c_X8_lostIn (w : WPar) (τ : TS) (i0 : Nat) (x1 : Int32) (K : TS → Int32 → Prop) (h0 : tp_is w i0 7) (hw : wp_X8_lostIn τ i0 x1 K) : MI w yX8_lostIn wsX8_lostIn 7 167 [.ref (w.1 i0), .int x1] τ K := by
  refine tp_enterI (cc := cX8_lostIn) (maxL := 3) (own := RX8) (by decide) rfl rfl (Nat.le_of_ble_eq_true rfl) (fun g C hR => ?_)
  show Zt w g τ (0, 0) 0 [(0, .ref (w.1 i0)), (1, .int x1)] []
  unfold wp_X8_lostIn at hw
  refine z_iload_n C 1 (by rfl) dX8_lostIn_0 ?_
  refine z_iconst C 1 (by decide) dX8_lostIn_1 ?_
  refine z_bipush C 50 (by decide) dX8_lostIn_2 ?_
  refine zs_v C (As := [.int x1, .int 1, .int 50]) (bytes := cX8_checkRange) (maxL := 3) (F1 := 0) (L1 := 0) (c_X8_checkRange w _ x1 1 50 _  hw) 3 gX8_lostIn_X8_checkRange rfl (by decide +kernel) ⟨Nat.le_of_ble_eq_true rfl, Nat.le_of_ble_eq_true rfl⟩ rfl (Nat.le_of_ble_eq_true rfl) ⟨Nat.le_of_ble_eq_true rfl, Nat.le_of_ble_eq_true rfl⟩ rfl dX8_lostIn_4 (fun τ21 hw => ?_)
  refine z_aload_n C 0 (by rfl) dX8_lostIn_7 ?_
  refine z_get C (Cn := RX8) (T := TX8) (N := 4) (ci := 7) h0.2 2 (tE7 h0.1) in_X8_lostIn_X8 rfl (by decide) mw_X8_lostIn_0 rfl rfl dX8_lostIn_8 ?_
  refine z_aload_n C 0 (by rfl) dX8_lostIn_11 ?_
  refine z_get C (Cn := RX8) (T := TX8) (N := 4) (ci := 7) h0.2 1 (tE7 h0.1) in_X8_lostIn_X8 rfl (by decide) mw_X8_lostIn_1 rfl rfl dX8_lostIn_12 ?_
  refine zv_v C (As := [.ref (w.1 17)]) (bytes := cX6_copyFrom) (maxL := 3) (F1 := 3) (L1 := 63) (c_X6_copyFrom w _ 122 17 _ (tR7_2 h0) (tR7_1 h0) hw) (tR7_2 h0).2 (tE5 (tR7_2 h0).1) rfl 1 gX8_lostIn_X6_copyFrom rfl (by decide +kernel) ⟨Nat.le_of_ble_eq_true rfl, Nat.le_of_ble_eq_true rfl⟩ rfl (Nat.le_of_ble_eq_true rfl) ⟨Nat.le_of_ble_eq_true rfl, Nat.le_of_ble_eq_true rfl⟩ rfl dX8_lostIn_15 (fun τ22 hw => ?_)
  refine z_iconst C 0 (by decide) dX8_lostIn_18 ?_
  refine z_istore_n C [(2, .int 0), (0, .ref (w.1 i0)), (1, .int x1)] dX8_lostIn_19 (by decide) rfl ?_
  obtain ⟨I25, u25, hI25, hs25⟩ := hw
  have lp25 : ∀ (n25 : Nat) (τ23 : TS) (x24 : Int32), u25 τ23 x24 < n25 → I25 τ23 x24 → Zt w g τ23 (0, 0) 20 [(0, .ref (w.1 i0)), (1, .int x1), (2, .int x24)] [] := by
    intro n25
    induction n25 with
    | zero => intro τ23 x24 hlt25; exact absurd hlt25 (Nat.not_lt_zero _)
    | succ n25 ih25 =>
      intro τ23 x24 hlt25 hh25
      have hw := hs25 τ23 x24 hh25
      refine z_iload_n C 2 (by rfl) dX8_lostIn_20 ?_
      refine z_iload_n C 1 (by rfl) dX8_lostIn_21 ?_
      refine z_icmp_ge (tgt := 38) C dX8_lostIn_22 (by decide) (fun c26 => ?_) (fun c26 => ?_)
      · have hw := hw.1 c26
        refine z_aload_n C 0 (by rfl) dX8_lostIn_38 ?_
        refine z_get C (Cn := RX8) (T := TX8) (N := 4) (ci := 7) h0.2 2 (tE7 h0.1) in_X8_lostIn_X8 rfl (by decide) mw_X8_lostIn_0 rfl rfl dX8_lostIn_39 ?_
        refine z_get C (Cn := RX6) (T := TX6) (N := 6) (ci := 5) (tR7_2 h0).2 5 (tE5 (tR7_2 h0).1) in_X8_lostIn_X6 rfl (by decide) mw_X8_lostIn_2 rfl rfl dX8_lostIn_42 ?_
        refine z_aload_n C 0 (by rfl) dX8_lostIn_45 ?_
        refine z_get C (Cn := RX8) (T := TX8) (N := 4) (ci := 7) h0.2 1 (tE7 h0.1) in_X8_lostIn_X8 rfl (by decide) mw_X8_lostIn_1 rfl rfl dX8_lostIn_46 ?_
        refine z_get C (Cn := RX6) (T := TX6) (N := 6) (ci := 5) (tR7_1 h0).2 5 (tE5 (tR7_1 h0).1) in_X8_lostIn_X6 rfl (by decide) mw_X8_lostIn_2 rfl rfl dX8_lostIn_49 ?_
        refine z_isub C dX8_lostIn_52 ?_
        exact hR _ _ _ _ dX8_lostIn_53 hw
      · have hw := hw.2 c26
        refine z_aload_n C 0 (by rfl) dX8_lostIn_25 ?_
        refine z_get C (Cn := RX8) (T := TX8) (N := 4) (ci := 7) h0.2 2 (tE7 h0.1) in_X8_lostIn_X8 rfl (by decide) mw_X8_lostIn_0 rfl rfl dX8_lostIn_26 ?_
        refine zv_v C (As := []) (bytes := cX6_tick) (maxL := 1) (F1 := 6) (L1 := 147) (c_X6_tick w _ 122 _ (tR7_2 h0) hw) (tR7_2 h0).2 (tE5 (tR7_2 h0).1) rfl 0 gX8_lostIn_X6_tick rfl (by decide +kernel) ⟨Nat.le_of_ble_eq_true rfl, Nat.le_of_ble_eq_true rfl⟩ rfl (Nat.le_of_ble_eq_true rfl) ⟨Nat.le_of_ble_eq_true rfl, Nat.le_of_ble_eq_true rfl⟩ rfl dX8_lostIn_29 (fun τ27 hw => ?_)
        obtain ⟨x28, ex28⟩ : ∃ z : Int32, z = x24 + 1 := ⟨_, rfl⟩
        have hw := hw x28 ex28
        refine z_iinc C 2 x28 [(2, .int x28), (0, .ref (w.1 i0)), (1, .int x1)] dX8_lostIn_32 (by rfl) (by rw [ex28]; rfl) (by decide) rfl ?_
        refine z_goto (tgt := 20) C dX8_lostIn_35 (by decide) ?_
        refine z_sub [1, 2, 0] [(0, .ref (w.1 i0)), (1, .int x1), (2, .int x28)] rfl ?_
        exact ih25 τ27 x28 (Nat.lt_of_lt_of_le hw.2 (Nat.le_of_lt_succ hlt25)) hw.1
  refine z_sub [1, 2, 0] [(0, .ref (w.1 i0)), (1, .int x1), (2, .int 0)] rfl ?_
  exact lp25 _ τ22 0 (Nat.lt_succ_self _) hI25
def wp_X8_digestOfLink (τ : TS) (i0 : Nat) (y1 : Int64) (x3 : Int32) (K : TS → Int64 → Prop) : Prop :=
  vp_in x3 12 ∧ (∃ J22 : Int32 → Prop, (∀ (x23 : Int32), J22 x23 → (∀ y24 : Int64, y24 = ((y1 * 31) + (Int32.toInt64 x23)) → ∃ (I28 : TS → Int64 → Int32 → Prop) (u28 : TS → Int64 → Int32 → Nat), I28 τ y24 0 ∧ ∀ (τ25 : TS) (y26 : Int64) (x27 : Int32), I28 τ25 y26 x27 → (((2 ≤ x27) → (K τ25 y26)) ∧ ((¬ 2 ≤ x27) → (vp_in ((2 * x3) + x27) 24 ∧ (∀ y31 : Int64, y31 = ((y26 * 31) + (Int32.toInt64 (τ25 ((17 + 1) + 2 + 3 * (Int32.toNatClampNeg ((2 * x3) + x27))) 2))) → ∀ y32 : Int64, y32 = ((y31 * 31) + (Int32.toInt64 (τ25 ((17 + 1) + 2 + 3 * (Int32.toNatClampNeg ((2 * x3) + x27))) 4))) → ∀ y33 : Int64, y33 = ((y32 * 31) + (Int32.toInt64 (τ25 ((17 + 1) + 2 + 3 * (Int32.toNatClampNeg ((2 * x3) + x27))) 5))) → ∀ x34 : Int32, x34 = x27 + 1 → I28 τ25 y33 x34 ∧ u28 τ25 y33 x34 < u28 τ25 y26 x27)))))) ∧ ((((τ 6 (Int32.toNatClampNeg x3)) = 0) → (J22 0)) ∧ ((¬ (τ 6 (Int32.toNatClampNeg x3)) = 0) → (J22 1))))
theorem mw_X8_digestOfLink_0 : Cond.constantLong RX8 269 (31) ∈ wsX8_digestOfLink := List.mem_of_getElem? (i := 1) rfl
theorem mw_X8_digestOfLink_1 : Cond.fieldLink RX8 12 "TidePost" "net" "LTidePost$Net;" ∈ wsX8_digestOfLink := List.mem_of_getElem? (i := 2) rfl
theorem mw_X8_digestOfLink_2 : Cond.fieldLink RX8 80 "TidePost$Net" "up" "[Z" ∈ wsX8_digestOfLink := List.mem_of_getElem? (i := 3) rfl
theorem mw_X8_digestOfLink_3 : Cond.fieldLink RX8 21 "TidePost" "traffic" "LTidePost$Traffic;" ∈ wsX8_digestOfLink := List.mem_of_getElem? (i := 4) rfl
theorem mw_X8_digestOfLink_4 : Cond.fieldLink RX8 189 "TidePost$Traffic" "ways" "[LTidePost$Way;" ∈ wsX8_digestOfLink := List.mem_of_getElem? (i := 5) rfl
theorem mw_X8_digestOfLink_5 : Cond.fieldLink RX8 177 "TidePost$Way" "queued" "I" ∈ wsX8_digestOfLink := List.mem_of_getElem? (i := 6) rfl
theorem mw_X8_digestOfLink_6 : Cond.fieldLink RX8 180 "TidePost$Way" "flying" "I" ∈ wsX8_digestOfLink := List.mem_of_getElem? (i := 7) rfl
theorem mw_X8_digestOfLink_7 : Cond.fieldLink RX8 183 "TidePost$Way" "flown" "I" ∈ wsX8_digestOfLink := List.mem_of_getElem? (i := 8) rfl
theorem in_X8_digestOfLink_X8 : ∀ x ∈ wsX80, x ∈ wsX8_digestOfLink := fun _ h => List.mem_cons_of_mem _ (List.mem_append_left _ (List.mem_append_left _ (List.mem_append_left _ (List.mem_append_right _ h))))
theorem in_X8_digestOfLink_X3 : ∀ x ∈ wsX30, x ∈ wsX8_digestOfLink := fun _ h => List.mem_cons_of_mem _ (List.mem_append_left _ (List.mem_append_left _ (List.mem_append_right _ h)))
theorem in_X8_digestOfLink_X6 : ∀ x ∈ wsX60, x ∈ wsX8_digestOfLink := fun _ h => List.mem_cons_of_mem _ (List.mem_append_left _ (List.mem_append_right _ h))
theorem in_X8_digestOfLink_X7 : ∀ x ∈ wsX70, x ∈ wsX8_digestOfLink := fun _ h => List.mem_cons_of_mem _ (List.mem_append_right _ h)
set_option maxHeartbeats 4000000 in
set_option maxRecDepth 100000 in
theorem c_X8_digestOfLink (w : WPar) (τ : TS) (i0 : Nat) (y1 : Int64) (x3 : Int32) (K : TS → Int64 → Prop) (h0 : tp_is w i0 7) (hw : wp_X8_digestOfLink τ i0 y1 x3 K) : ML w yX8_digestOfLink wsX8_digestOfLink 0 0 [.ref (w.1 i0), .long y1, .int x3] τ K := by
  refine tp_enterL (cc := cX8_digestOfLink) (maxL := 8) (own := RX8) (by decide) rfl rfl (Nat.le_of_ble_eq_true rfl) (fun g C hR => ?_)
  show Zt w g τ (0, 0) 0 [(0, .ref (w.1 i0)), (1, .long y1), (3, .int x3)] []
  unfold wp_X8_digestOfLink at hw
  refine z_lload_n C 1 (by rfl) dX8_digestOfLink_0 ?_
  refine z_ldc2 C 31 mw_X8_digestOfLink_0 dX8_digestOfLink_1 ?_
  refine z_lmul C dX8_digestOfLink_4 ?_
  refine z_aload_n C 0 (by rfl) dX8_digestOfLink_5 ?_
  refine z_get C (Cn := RX8) (T := TX8) (N := 4) (ci := 7) h0.2 0 (tE7 h0.1) in_X8_digestOfLink_X8 rfl (by decide) mw_X8_digestOfLink_1 rfl rfl dX8_digestOfLink_6 ?_
  refine z_get C (Cn := RX3) (T := TX3) (N := 9) (ci := 3) (tR7_0 h0).2 6 (tE3 (tR7_0 h0).1) in_X8_digestOfLink_X3 rfl (by decide) mw_X8_digestOfLink_2 rfl rfl dX8_digestOfLink_9 ?_
  refine z_iload_n C 2 (by rfl) dX8_digestOfLink_12 ?_
  obtain ⟨s21, hw⟩ := hw
  refine z_zald C (tR3_6 (tR7_0 h0)).2 (tE12 (tR3_6 (tR7_0 h0)).1) s21 dX8_digestOfLink_13 ?_
  obtain ⟨J22, hJ22, hw⟩ := hw
  have jn22 : ∀ (x23 : Int32), J22 x23 → Zt w g τ (0, 0) 22 [(0, .ref (w.1 i0)), (3, .int x3)] [.int x23, .long (y1 * 31)] := by
    intro x23 hj22
    have hw := hJ22 x23 hj22
    refine z_i2l C dX8_digestOfLink_22 ?_
    refine z_ladd C dX8_digestOfLink_23 ?_
    refine z_topl (fun y24 ey24 => ?_)
    have hw := hw y24 ey24
    refine z_lstore C [(4, .long y24), (0, .ref (w.1 i0)), (3, .int x3)] dX8_digestOfLink_24 (by decide) rfl ?_
    refine z_iconst C 0 (by decide) dX8_digestOfLink_26 ?_
    refine z_istore C [(6, .int 0), (4, .long y24), (0, .ref (w.1 i0)), (3, .int x3)] dX8_digestOfLink_27 (by decide) rfl ?_
    obtain ⟨I28, u28, hI28, hs28⟩ := hw
    have lp28 : ∀ (n28 : Nat) (τ25 : TS) (y26 : Int64) (x27 : Int32), u28 τ25 y26 x27 < n28 → I28 τ25 y26 x27 → Zt w g τ25 (0, 0) 29 [(0, .ref (w.1 i0)), (3, .int x3), (4, .long y26), (6, .int x27)] [] := by
      intro n28
      induction n28 with
      | zero => intro τ25 y26 x27 hlt28; exact absurd hlt28 (Nat.not_lt_zero _)
      | succ n28 ih28 =>
        intro τ25 y26 x27 hlt28 hh28
        have hw := hs28 τ25 y26 x27 hh28
        refine z_iload C 3 (by rfl) dX8_digestOfLink_29 ?_
        refine z_iconst C 2 (by decide) dX8_digestOfLink_31 ?_
        refine z_icmp_ge (tgt := 102) C dX8_digestOfLink_32 (by decide) (fun c29 => ?_) (fun c29 => ?_)
        · have hw := hw.1 c29
          refine z_lload C 2 (by rfl) dX8_digestOfLink_102 ?_
          exact hR _ _ _ _ dX8_digestOfLink_104 hw
        · have hw := hw.2 c29
          refine z_aload_n C 0 (by rfl) dX8_digestOfLink_35 ?_
          refine z_get C (Cn := RX8) (T := TX8) (N := 4) (ci := 7) h0.2 1 (tE7 h0.1) in_X8_digestOfLink_X8 rfl (by decide) mw_X8_digestOfLink_3 rfl rfl dX8_digestOfLink_36 ?_
          refine z_get C (Cn := RX6) (T := TX6) (N := 6) (ci := 5) (tR7_1 h0).2 1 (tE5 (tR7_1 h0).1) in_X8_digestOfLink_X6 rfl (by decide) mw_X8_digestOfLink_4 rfl rfl dX8_digestOfLink_39 ?_
          refine z_iconst C 2 (by decide) dX8_digestOfLink_42 ?_
          refine z_iload_n C 1 (by rfl) dX8_digestOfLink_43 ?_
          refine z_imul C dX8_digestOfLink_44 ?_
          refine z_iload C 3 (by rfl) dX8_digestOfLink_45 ?_
          refine z_iadd C dX8_digestOfLink_47 ?_
          obtain ⟨s30, hw⟩ := hw
          refine z_aald_q2 C (tR5_1 (tR7_1 h0)).2 (tE15 (tR5_1 (tR7_1 h0)).1) s30 (if_pos (tp_lt s30)) dX8_digestOfLink_48 ?_
          refine z_astore C [(7, .ref (w.1 ((17 + 1) + 2 + 3 * (Int32.toNatClampNeg ((2 * x3) + x27))))), (0, .ref (w.1 i0)), (3, .int x3), (4, .long y26), (6, .int x27)] dX8_digestOfLink_49 (by decide) rfl ?_
          refine z_lload C 3 (by rfl) dX8_digestOfLink_51 ?_
          refine z_ldc2 C 31 mw_X8_digestOfLink_0 dX8_digestOfLink_53 ?_
          refine z_lmul C dX8_digestOfLink_56 ?_
          refine z_aload C 0 (by rfl) dX8_digestOfLink_57 ?_
          refine z_get C (Cn := RX7) (T := TX7) (N := 7) (ci := 6) (tR15 (tR5_1 (tR7_1 h0)) (tp_lt s30)).2 2 (tE6 (tR15 (tR5_1 (tR7_1 h0)) (tp_lt s30)).1) in_X8_digestOfLink_X7 rfl (by decide) mw_X8_digestOfLink_5 rfl rfl dX8_digestOfLink_59 ?_
          refine z_i2l C dX8_digestOfLink_62 ?_
          refine z_ladd C dX8_digestOfLink_63 ?_
          refine z_topl (fun y31 ey31 => ?_)
          have hw := hw y31 ey31
          refine z_lstore C [(4, .long y31), (7, .ref (w.1 ((17 + 1) + 2 + 3 * (Int32.toNatClampNeg ((2 * x3) + x27))))), (0, .ref (w.1 i0)), (3, .int x3), (6, .int x27)] dX8_digestOfLink_64 (by decide) rfl ?_
          refine z_lload C 0 (by rfl) dX8_digestOfLink_66 ?_
          refine z_ldc2 C 31 mw_X8_digestOfLink_0 dX8_digestOfLink_68 ?_
          refine z_lmul C dX8_digestOfLink_71 ?_
          refine z_aload C 1 (by rfl) dX8_digestOfLink_72 ?_
          refine z_get C (Cn := RX7) (T := TX7) (N := 7) (ci := 6) (tR15 (tR5_1 (tR7_1 h0)) (tp_lt s30)).2 4 (tE6 (tR15 (tR5_1 (tR7_1 h0)) (tp_lt s30)).1) in_X8_digestOfLink_X7 rfl (by decide) mw_X8_digestOfLink_6 rfl rfl dX8_digestOfLink_74 ?_
          refine z_i2l C dX8_digestOfLink_77 ?_
          refine z_ladd C dX8_digestOfLink_78 ?_
          refine z_topl (fun y32 ey32 => ?_)
          have hw := hw y32 ey32
          refine z_lstore C [(4, .long y32), (7, .ref (w.1 ((17 + 1) + 2 + 3 * (Int32.toNatClampNeg ((2 * x3) + x27))))), (0, .ref (w.1 i0)), (3, .int x3), (6, .int x27)] dX8_digestOfLink_79 (by decide) rfl ?_
          refine z_lload C 0 (by rfl) dX8_digestOfLink_81 ?_
          refine z_ldc2 C 31 mw_X8_digestOfLink_0 dX8_digestOfLink_83 ?_
          refine z_lmul C dX8_digestOfLink_86 ?_
          refine z_aload C 1 (by rfl) dX8_digestOfLink_87 ?_
          refine z_get C (Cn := RX7) (T := TX7) (N := 7) (ci := 6) (tR15 (tR5_1 (tR7_1 h0)) (tp_lt s30)).2 5 (tE6 (tR15 (tR5_1 (tR7_1 h0)) (tp_lt s30)).1) in_X8_digestOfLink_X7 rfl (by decide) mw_X8_digestOfLink_7 rfl rfl dX8_digestOfLink_89 ?_
          refine z_i2l C dX8_digestOfLink_92 ?_
          refine z_ladd C dX8_digestOfLink_93 ?_
          refine z_topl (fun y33 ey33 => ?_)
          have hw := hw y33 ey33
          refine z_lstore C [(4, .long y33), (7, .ref (w.1 ((17 + 1) + 2 + 3 * (Int32.toNatClampNeg ((2 * x3) + x27))))), (0, .ref (w.1 i0)), (3, .int x3), (6, .int x27)] dX8_digestOfLink_94 (by decide) rfl ?_
          obtain ⟨x34, ex34⟩ : ∃ z : Int32, z = x27 + 1 := ⟨_, rfl⟩
          have hw := hw x34 ex34
          refine z_iinc C 4 x34 [(6, .int x34), (4, .long y33), (7, .ref (w.1 ((17 + 1) + 2 + 3 * (Int32.toNatClampNeg ((2 * x3) + x27))))), (0, .ref (w.1 i0)), (3, .int x3)] dX8_digestOfLink_96 (by rfl) (by rw [ex34]; rfl) (by decide) rfl ?_
          refine z_goto (tgt := 29) C dX8_digestOfLink_99 (by decide) ?_
          refine z_sub [3, 4, 1, 0] [(0, .ref (w.1 i0)), (3, .int x3), (4, .long y33), (6, .int x34)] rfl ?_
          exact ih28 τ25 y33 x34 (Nat.lt_of_lt_of_le hw.2 (Nat.le_of_lt_succ hlt28)) hw.1
    refine z_sub [2, 3, 1, 0] [(0, .ref (w.1 i0)), (3, .int x3), (4, .long y24), (6, .int 0)] rfl ?_
    exact lp28 _ τ y24 0 (Nat.lt_succ_self _) hI28
  refine z_if_eq (tgt := 21) C dX8_digestOfLink_14 (by decide) (fun c35 => ?_) (fun c35 => ?_)
  · have hw := hw.1 c35
    refine z_iconst C 0 (by decide) dX8_digestOfLink_21 ?_
    refine z_sub [0, 2] [(0, .ref (w.1 i0)), (3, .int x3)] rfl ?_
    exact jn22 0 hw
  · have hw := hw.2 c35
    refine z_iconst C 1 (by decide) dX8_digestOfLink_17 ?_
    refine z_goto (tgt := 22) C dX8_digestOfLink_18 (by decide) ?_
    refine z_sub [0, 2] [(0, .ref (w.1 i0)), (3, .int x3)] rfl ?_
    exact jn22 1 hw
def wp_X8_digestOfCaller (τ : TS) (y0 : Int64) (j2 : Nat) (K : TS → Int64 → Prop) : Prop :=
  ∀ y21 : Int64, y21 = ((y0 * 31) + (Int32.toInt64 (τ j2 0))) → ∀ y22 : Int64, y22 = ((y21 * 31) + (Int32.toInt64 (τ j2 1))) → ∀ y23 : Int64, y23 = ((y22 * 31) + (Int32.toInt64 (τ j2 3))) → ∀ y24 : Int64, y24 = ((y23 * 31) + (Int32.toInt64 (τ j2 4))) → ∀ y25 : Int64, y25 = ((y24 * 31) + (Int32.toInt64 (τ j2 5))) → ∀ y26 : Int64, y26 = ((y25 * 31) + (Int32.toInt64 (τ j2 6))) → ∀ y27 : Int64, y27 = ((y26 * 31) + (Int32.toInt64 (τ j2 7))) → ∀ y28 : Int64, y28 = ((y27 * 31) + (Int32.toInt64 (τ j2 8))) → ∀ y29 : Int64, y29 = ((y28 * 31) + (Int32.toInt64 (τ j2 9))) → ∀ y30 : Int64, y30 = ((y29 * 31) + (Int32.toInt64 (τ (j2 + 1) 0))) → ∀ y31 : Int64, y31 = ((y30 * 31) + (Int32.toInt64 (τ (j2 + 1) 1))) → ∀ y32 : Int64, y32 = ((y31 * 31) + (Int32.toInt64 (τ (j2 + 1) 2))) → ∀ y33 : Int64, y33 = ((y32 * 31) + (Int32.toInt64 (τ j2 10))) → ∀ y34 : Int64, y34 = ((y33 * 31) + (Int32.toInt64 (τ (j2 + 1) 3))) → ∀ y35 : Int64, y35 = ((y34 * 31) + (Int32.toInt64 (τ j2 11))) → K τ ((y35 * 31) + (Int32.toInt64 (τ j2 12)))
theorem mw_X8_digestOfCaller_0 : Cond.constantLong RX8 269 (31) ∈ wsX8_digestOfCaller := List.mem_of_getElem? (i := 1) rfl
theorem mw_X8_digestOfCaller_1 : Cond.fieldLink RX8 193 "TidePost$Caller" "state" "I" ∈ wsX8_digestOfCaller := List.mem_of_getElem? (i := 2) rfl
theorem mw_X8_digestOfCaller_2 : Cond.fieldLink RX8 116 "TidePost$Caller" "given" "I" ∈ wsX8_digestOfCaller := List.mem_of_getElem? (i := 3) rfl
theorem mw_X8_digestOfCaller_3 : Cond.fieldLink RX8 130 "TidePost$Caller" "base" "I" ∈ wsX8_digestOfCaller := List.mem_of_getElem? (i := 4) rfl
theorem mw_X8_digestOfCaller_4 : Cond.fieldLink RX8 196 "TidePost$Caller" "next" "I" ∈ wsX8_digestOfCaller := List.mem_of_getElem? (i := 5) rfl
theorem mw_X8_digestOfCaller_5 : Cond.fieldLink RX8 199 "TidePost$Caller" "window" "I" ∈ wsX8_digestOfCaller := List.mem_of_getElem? (i := 6) rfl
theorem mw_X8_digestOfCaller_6 : Cond.fieldLink RX8 202 "TidePost$Caller" "threshold" "I" ∈ wsX8_digestOfCaller := List.mem_of_getElem? (i := 7) rfl
theorem mw_X8_digestOfCaller_7 : Cond.fieldLink RX8 205 "TidePost$Caller" "room" "I" ∈ wsX8_digestOfCaller := List.mem_of_getElem? (i := 8) rfl
theorem mw_X8_digestOfCaller_8 : Cond.fieldLink RX8 208 "TidePost$Caller" "like" "I" ∈ wsX8_digestOfCaller := List.mem_of_getElem? (i := 9) rfl
theorem mw_X8_digestOfCaller_9 : Cond.fieldLink RX8 211 "TidePost$Caller" "recover" "I" ∈ wsX8_digestOfCaller := List.mem_of_getElem? (i := 10) rfl
theorem mw_X8_digestOfCaller_10 : Cond.fieldLink RX8 214 "TidePost$Caller" "timing" "LTidePost$Timing;" ∈ wsX8_digestOfCaller := List.mem_of_getElem? (i := 11) rfl
theorem mw_X8_digestOfCaller_11 : Cond.fieldLink RX8 218 "TidePost$Timing" "round" "I" ∈ wsX8_digestOfCaller := List.mem_of_getElem? (i := 12) rfl
theorem mw_X8_digestOfCaller_12 : Cond.fieldLink RX8 223 "TidePost$Timing" "swing" "I" ∈ wsX8_digestOfCaller := List.mem_of_getElem? (i := 13) rfl
theorem mw_X8_digestOfCaller_13 : Cond.fieldLink RX8 226 "TidePost$Timing" "timeout" "I" ∈ wsX8_digestOfCaller := List.mem_of_getElem? (i := 14) rfl
theorem mw_X8_digestOfCaller_14 : Cond.fieldLink RX8 229 "TidePost$Caller" "timer" "I" ∈ wsX8_digestOfCaller := List.mem_of_getElem? (i := 15) rfl
theorem mw_X8_digestOfCaller_15 : Cond.fieldLink RX8 232 "TidePost$Timing" "measured" "I" ∈ wsX8_digestOfCaller := List.mem_of_getElem? (i := 16) rfl
theorem mw_X8_digestOfCaller_16 : Cond.fieldLink RX8 235 "TidePost$Caller" "tries" "I" ∈ wsX8_digestOfCaller := List.mem_of_getElem? (i := 17) rfl
theorem mw_X8_digestOfCaller_17 : Cond.fieldLink RX8 238 "TidePost$Caller" "sentAgain" "I" ∈ wsX8_digestOfCaller := List.mem_of_getElem? (i := 18) rfl
theorem in_X8_digestOfCaller_X1 : ∀ x ∈ wsX10, x ∈ wsX8_digestOfCaller := fun _ h => List.mem_cons_of_mem _ (List.mem_append_left _ (List.mem_append_right _ h))
theorem in_X8_digestOfCaller_X5 : ∀ x ∈ wsX50, x ∈ wsX8_digestOfCaller := fun _ h => List.mem_cons_of_mem _ (List.mem_append_right _ h)
set_option maxHeartbeats 4000000 in
set_option maxRecDepth 100000 in
theorem c_X8_digestOfCaller (w : WPar) (τ : TS) (y0 : Int64) (j2 : Nat) (K : TS → Int64 → Prop) (h2 : tp_is w j2 1) (hw : wp_X8_digestOfCaller τ y0 j2 K) : ML w yX8_digestOfCaller wsX8_digestOfCaller 0 0 [.long y0, .ref (w.1 j2)] τ K := by
  refine tp_enterL (cc := cX8_digestOfCaller) (maxL := 5) (own := RX8) (by decide) rfl rfl (Nat.le_of_ble_eq_true rfl) (fun g C hR => ?_)
  show Zt w g τ (0, 0) 0 [(0, .long y0), (2, .ref (w.1 j2))] []
  unfold wp_X8_digestOfCaller at hw
  refine z_lload_n C 0 (by rfl) dX8_digestOfCaller_0 ?_
  refine z_ldc2 C 31 mw_X8_digestOfCaller_0 dX8_digestOfCaller_1 ?_
  refine z_lmul C dX8_digestOfCaller_4 ?_
  refine z_aload_n C 1 (by rfl) dX8_digestOfCaller_5 ?_
  refine z_get C (Cn := RX1) (T := TX1) (N := 14) (ci := 1) h2.2 0 (tE1 h2.1) in_X8_digestOfCaller_X1 rfl (by decide) mw_X8_digestOfCaller_1 rfl rfl dX8_digestOfCaller_6 ?_
  refine z_i2l C dX8_digestOfCaller_9 ?_
  refine z_ladd C dX8_digestOfCaller_10 ?_
  refine z_topl (fun y21 ey21 => ?_)
  have hw := hw y21 ey21
  refine z_lstore_n C [(3, .long y21), (0, .long y0), (2, .ref (w.1 j2))] dX8_digestOfCaller_11 (by decide) rfl ?_
  refine z_lload_n C 0 (by rfl) dX8_digestOfCaller_12 ?_
  refine z_ldc2 C 31 mw_X8_digestOfCaller_0 dX8_digestOfCaller_13 ?_
  refine z_lmul C dX8_digestOfCaller_16 ?_
  refine z_aload_n C 2 (by rfl) dX8_digestOfCaller_17 ?_
  refine z_get C (Cn := RX1) (T := TX1) (N := 14) (ci := 1) h2.2 1 (tE1 h2.1) in_X8_digestOfCaller_X1 rfl (by decide) mw_X8_digestOfCaller_2 rfl rfl dX8_digestOfCaller_18 ?_
  refine z_i2l C dX8_digestOfCaller_21 ?_
  refine z_ladd C dX8_digestOfCaller_22 ?_
  refine z_topl (fun y22 ey22 => ?_)
  have hw := hw y22 ey22
  refine z_lstore_n C [(3, .long y22), (0, .long y0), (2, .ref (w.1 j2))] dX8_digestOfCaller_23 (by decide) rfl ?_
  refine z_lload_n C 0 (by rfl) dX8_digestOfCaller_24 ?_
  refine z_ldc2 C 31 mw_X8_digestOfCaller_0 dX8_digestOfCaller_25 ?_
  refine z_lmul C dX8_digestOfCaller_28 ?_
  refine z_aload_n C 2 (by rfl) dX8_digestOfCaller_29 ?_
  refine z_get C (Cn := RX1) (T := TX1) (N := 14) (ci := 1) h2.2 3 (tE1 h2.1) in_X8_digestOfCaller_X1 rfl (by decide) mw_X8_digestOfCaller_3 rfl rfl dX8_digestOfCaller_30 ?_
  refine z_i2l C dX8_digestOfCaller_33 ?_
  refine z_ladd C dX8_digestOfCaller_34 ?_
  refine z_topl (fun y23 ey23 => ?_)
  have hw := hw y23 ey23
  refine z_lstore_n C [(3, .long y23), (0, .long y0), (2, .ref (w.1 j2))] dX8_digestOfCaller_35 (by decide) rfl ?_
  refine z_lload_n C 0 (by rfl) dX8_digestOfCaller_36 ?_
  refine z_ldc2 C 31 mw_X8_digestOfCaller_0 dX8_digestOfCaller_37 ?_
  refine z_lmul C dX8_digestOfCaller_40 ?_
  refine z_aload_n C 2 (by rfl) dX8_digestOfCaller_41 ?_
  refine z_get C (Cn := RX1) (T := TX1) (N := 14) (ci := 1) h2.2 4 (tE1 h2.1) in_X8_digestOfCaller_X1 rfl (by decide) mw_X8_digestOfCaller_4 rfl rfl dX8_digestOfCaller_42 ?_
  refine z_i2l C dX8_digestOfCaller_45 ?_
  refine z_ladd C dX8_digestOfCaller_46 ?_
  refine z_topl (fun y24 ey24 => ?_)
  have hw := hw y24 ey24
  refine z_lstore_n C [(3, .long y24), (0, .long y0), (2, .ref (w.1 j2))] dX8_digestOfCaller_47 (by decide) rfl ?_
  refine z_lload_n C 0 (by rfl) dX8_digestOfCaller_48 ?_
  refine z_ldc2 C 31 mw_X8_digestOfCaller_0 dX8_digestOfCaller_49 ?_
  refine z_lmul C dX8_digestOfCaller_52 ?_
  refine z_aload_n C 2 (by rfl) dX8_digestOfCaller_53 ?_
  refine z_get C (Cn := RX1) (T := TX1) (N := 14) (ci := 1) h2.2 5 (tE1 h2.1) in_X8_digestOfCaller_X1 rfl (by decide) mw_X8_digestOfCaller_5 rfl rfl dX8_digestOfCaller_54 ?_
  refine z_i2l C dX8_digestOfCaller_57 ?_
  refine z_ladd C dX8_digestOfCaller_58 ?_
  refine z_topl (fun y25 ey25 => ?_)
  have hw := hw y25 ey25
  refine z_lstore_n C [(3, .long y25), (0, .long y0), (2, .ref (w.1 j2))] dX8_digestOfCaller_59 (by decide) rfl ?_
  refine z_lload_n C 0 (by rfl) dX8_digestOfCaller_60 ?_
  refine z_ldc2 C 31 mw_X8_digestOfCaller_0 dX8_digestOfCaller_61 ?_
  refine z_lmul C dX8_digestOfCaller_64 ?_
  refine z_aload_n C 2 (by rfl) dX8_digestOfCaller_65 ?_
  refine z_get C (Cn := RX1) (T := TX1) (N := 14) (ci := 1) h2.2 6 (tE1 h2.1) in_X8_digestOfCaller_X1 rfl (by decide) mw_X8_digestOfCaller_6 rfl rfl dX8_digestOfCaller_66 ?_
  refine z_i2l C dX8_digestOfCaller_69 ?_
  refine z_ladd C dX8_digestOfCaller_70 ?_
  refine z_topl (fun y26 ey26 => ?_)
  have hw := hw y26 ey26
  refine z_lstore_n C [(3, .long y26), (0, .long y0), (2, .ref (w.1 j2))] dX8_digestOfCaller_71 (by decide) rfl ?_
  refine z_lload_n C 0 (by rfl) dX8_digestOfCaller_72 ?_
  refine z_ldc2 C 31 mw_X8_digestOfCaller_0 dX8_digestOfCaller_73 ?_
  refine z_lmul C dX8_digestOfCaller_76 ?_
  refine z_aload_n C 2 (by rfl) dX8_digestOfCaller_77 ?_
  refine z_get C (Cn := RX1) (T := TX1) (N := 14) (ci := 1) h2.2 7 (tE1 h2.1) in_X8_digestOfCaller_X1 rfl (by decide) mw_X8_digestOfCaller_7 rfl rfl dX8_digestOfCaller_78 ?_
  refine z_i2l C dX8_digestOfCaller_81 ?_
  refine z_ladd C dX8_digestOfCaller_82 ?_
  refine z_topl (fun y27 ey27 => ?_)
  have hw := hw y27 ey27
  refine z_lstore_n C [(3, .long y27), (0, .long y0), (2, .ref (w.1 j2))] dX8_digestOfCaller_83 (by decide) rfl ?_
  refine z_lload_n C 0 (by rfl) dX8_digestOfCaller_84 ?_
  refine z_ldc2 C 31 mw_X8_digestOfCaller_0 dX8_digestOfCaller_85 ?_
  refine z_lmul C dX8_digestOfCaller_88 ?_
  refine z_aload_n C 2 (by rfl) dX8_digestOfCaller_89 ?_
  refine z_get C (Cn := RX1) (T := TX1) (N := 14) (ci := 1) h2.2 8 (tE1 h2.1) in_X8_digestOfCaller_X1 rfl (by decide) mw_X8_digestOfCaller_8 rfl rfl dX8_digestOfCaller_90 ?_
  refine z_i2l C dX8_digestOfCaller_93 ?_
  refine z_ladd C dX8_digestOfCaller_94 ?_
  refine z_topl (fun y28 ey28 => ?_)
  have hw := hw y28 ey28
  refine z_lstore_n C [(3, .long y28), (0, .long y0), (2, .ref (w.1 j2))] dX8_digestOfCaller_95 (by decide) rfl ?_
  refine z_lload_n C 0 (by rfl) dX8_digestOfCaller_96 ?_
  refine z_ldc2 C 31 mw_X8_digestOfCaller_0 dX8_digestOfCaller_97 ?_
  refine z_lmul C dX8_digestOfCaller_100 ?_
  refine z_aload_n C 2 (by rfl) dX8_digestOfCaller_101 ?_
  refine z_get C (Cn := RX1) (T := TX1) (N := 14) (ci := 1) h2.2 9 (tE1 h2.1) in_X8_digestOfCaller_X1 rfl (by decide) mw_X8_digestOfCaller_9 rfl rfl dX8_digestOfCaller_102 ?_
  refine z_i2l C dX8_digestOfCaller_105 ?_
  refine z_ladd C dX8_digestOfCaller_106 ?_
  refine z_topl (fun y29 ey29 => ?_)
  have hw := hw y29 ey29
  refine z_lstore_n C [(3, .long y29), (0, .long y0), (2, .ref (w.1 j2))] dX8_digestOfCaller_107 (by decide) rfl ?_
  refine z_lload_n C 0 (by rfl) dX8_digestOfCaller_108 ?_
  refine z_ldc2 C 31 mw_X8_digestOfCaller_0 dX8_digestOfCaller_109 ?_
  refine z_lmul C dX8_digestOfCaller_112 ?_
  refine z_aload_n C 2 (by rfl) dX8_digestOfCaller_113 ?_
  refine z_get C (Cn := RX1) (T := TX1) (N := 14) (ci := 1) h2.2 13 (tE1 h2.1) in_X8_digestOfCaller_X1 rfl (by decide) mw_X8_digestOfCaller_10 rfl rfl dX8_digestOfCaller_114 ?_
  refine z_get C (Cn := RX5) (T := TX5) (N := 5) (ci := 4) (tR1_13 h2).2 0 (tE4 (tR1_13 h2).1) in_X8_digestOfCaller_X5 rfl (by decide) mw_X8_digestOfCaller_11 rfl rfl dX8_digestOfCaller_117 ?_
  refine z_i2l C dX8_digestOfCaller_120 ?_
  refine z_ladd C dX8_digestOfCaller_121 ?_
  refine z_topl (fun y30 ey30 => ?_)
  have hw := hw y30 ey30
  refine z_lstore_n C [(3, .long y30), (0, .long y0), (2, .ref (w.1 j2))] dX8_digestOfCaller_122 (by decide) rfl ?_
  refine z_lload_n C 0 (by rfl) dX8_digestOfCaller_123 ?_
  refine z_ldc2 C 31 mw_X8_digestOfCaller_0 dX8_digestOfCaller_124 ?_
  refine z_lmul C dX8_digestOfCaller_127 ?_
  refine z_aload_n C 2 (by rfl) dX8_digestOfCaller_128 ?_
  refine z_get C (Cn := RX1) (T := TX1) (N := 14) (ci := 1) h2.2 13 (tE1 h2.1) in_X8_digestOfCaller_X1 rfl (by decide) mw_X8_digestOfCaller_10 rfl rfl dX8_digestOfCaller_129 ?_
  refine z_get C (Cn := RX5) (T := TX5) (N := 5) (ci := 4) (tR1_13 h2).2 1 (tE4 (tR1_13 h2).1) in_X8_digestOfCaller_X5 rfl (by decide) mw_X8_digestOfCaller_12 rfl rfl dX8_digestOfCaller_132 ?_
  refine z_i2l C dX8_digestOfCaller_135 ?_
  refine z_ladd C dX8_digestOfCaller_136 ?_
  refine z_topl (fun y31 ey31 => ?_)
  have hw := hw y31 ey31
  refine z_lstore_n C [(3, .long y31), (0, .long y0), (2, .ref (w.1 j2))] dX8_digestOfCaller_137 (by decide) rfl ?_
  refine z_lload_n C 0 (by rfl) dX8_digestOfCaller_138 ?_
  refine z_ldc2 C 31 mw_X8_digestOfCaller_0 dX8_digestOfCaller_139 ?_
  refine z_lmul C dX8_digestOfCaller_142 ?_
  refine z_aload_n C 2 (by rfl) dX8_digestOfCaller_143 ?_
  refine z_get C (Cn := RX1) (T := TX1) (N := 14) (ci := 1) h2.2 13 (tE1 h2.1) in_X8_digestOfCaller_X1 rfl (by decide) mw_X8_digestOfCaller_10 rfl rfl dX8_digestOfCaller_144 ?_
  refine z_get C (Cn := RX5) (T := TX5) (N := 5) (ci := 4) (tR1_13 h2).2 2 (tE4 (tR1_13 h2).1) in_X8_digestOfCaller_X5 rfl (by decide) mw_X8_digestOfCaller_13 rfl rfl dX8_digestOfCaller_147 ?_
  refine z_i2l C dX8_digestOfCaller_150 ?_
  refine z_ladd C dX8_digestOfCaller_151 ?_
  refine z_topl (fun y32 ey32 => ?_)
  have hw := hw y32 ey32
  refine z_lstore_n C [(3, .long y32), (0, .long y0), (2, .ref (w.1 j2))] dX8_digestOfCaller_152 (by decide) rfl ?_
  refine z_lload_n C 0 (by rfl) dX8_digestOfCaller_153 ?_
  refine z_ldc2 C 31 mw_X8_digestOfCaller_0 dX8_digestOfCaller_154 ?_
  refine z_lmul C dX8_digestOfCaller_157 ?_
  refine z_aload_n C 2 (by rfl) dX8_digestOfCaller_158 ?_
  refine z_get C (Cn := RX1) (T := TX1) (N := 14) (ci := 1) h2.2 10 (tE1 h2.1) in_X8_digestOfCaller_X1 rfl (by decide) mw_X8_digestOfCaller_14 rfl rfl dX8_digestOfCaller_159 ?_
  refine z_i2l C dX8_digestOfCaller_162 ?_
  refine z_ladd C dX8_digestOfCaller_163 ?_
  refine z_topl (fun y33 ey33 => ?_)
  have hw := hw y33 ey33
  refine z_lstore_n C [(3, .long y33), (0, .long y0), (2, .ref (w.1 j2))] dX8_digestOfCaller_164 (by decide) rfl ?_
  refine z_lload_n C 0 (by rfl) dX8_digestOfCaller_165 ?_
  refine z_ldc2 C 31 mw_X8_digestOfCaller_0 dX8_digestOfCaller_166 ?_
  refine z_lmul C dX8_digestOfCaller_169 ?_
  refine z_aload_n C 2 (by rfl) dX8_digestOfCaller_170 ?_
  refine z_get C (Cn := RX1) (T := TX1) (N := 14) (ci := 1) h2.2 13 (tE1 h2.1) in_X8_digestOfCaller_X1 rfl (by decide) mw_X8_digestOfCaller_10 rfl rfl dX8_digestOfCaller_171 ?_
  refine z_get C (Cn := RX5) (T := TX5) (N := 5) (ci := 4) (tR1_13 h2).2 3 (tE4 (tR1_13 h2).1) in_X8_digestOfCaller_X5 rfl (by decide) mw_X8_digestOfCaller_15 rfl rfl dX8_digestOfCaller_174 ?_
  refine z_i2l C dX8_digestOfCaller_177 ?_
  refine z_ladd C dX8_digestOfCaller_178 ?_
  refine z_topl (fun y34 ey34 => ?_)
  have hw := hw y34 ey34
  refine z_lstore_n C [(3, .long y34), (0, .long y0), (2, .ref (w.1 j2))] dX8_digestOfCaller_179 (by decide) rfl ?_
  refine z_lload_n C 0 (by rfl) dX8_digestOfCaller_180 ?_
  refine z_ldc2 C 31 mw_X8_digestOfCaller_0 dX8_digestOfCaller_181 ?_
  refine z_lmul C dX8_digestOfCaller_184 ?_
  refine z_aload_n C 2 (by rfl) dX8_digestOfCaller_185 ?_
  refine z_get C (Cn := RX1) (T := TX1) (N := 14) (ci := 1) h2.2 11 (tE1 h2.1) in_X8_digestOfCaller_X1 rfl (by decide) mw_X8_digestOfCaller_16 rfl rfl dX8_digestOfCaller_186 ?_
  refine z_i2l C dX8_digestOfCaller_189 ?_
  refine z_ladd C dX8_digestOfCaller_190 ?_
  refine z_topl (fun y35 ey35 => ?_)
  have hw := hw y35 ey35
  refine z_lstore_n C [(3, .long y35), (0, .long y0), (2, .ref (w.1 j2))] dX8_digestOfCaller_191 (by decide) rfl ?_
  refine z_lload_n C 0 (by rfl) dX8_digestOfCaller_192 ?_
  refine z_ldc2 C 31 mw_X8_digestOfCaller_0 dX8_digestOfCaller_193 ?_
  refine z_lmul C dX8_digestOfCaller_196 ?_
  refine z_aload_n C 2 (by rfl) dX8_digestOfCaller_197 ?_
  refine z_get C (Cn := RX1) (T := TX1) (N := 14) (ci := 1) h2.2 12 (tE1 h2.1) in_X8_digestOfCaller_X1 rfl (by decide) mw_X8_digestOfCaller_17 rfl rfl dX8_digestOfCaller_198 ?_
  refine z_i2l C dX8_digestOfCaller_201 ?_
  refine z_ladd C dX8_digestOfCaller_202 ?_
  exact hR _ _ _ _ dX8_digestOfCaller_203 hw
def wp_X8_digestOfCallee (τ : TS) (y0 : Int64) (j2 : Nat) (K : TS → Int64 → Prop) : Prop :=
  ∀ y21 : Int64, y21 = ((y0 * 31) + (Int32.toInt64 (τ (j2 + 3) 1))) → wp_X2_unread τ j2 (fun τ22 x23 => ∀ y24 : Int64, y24 = ((y21 * 31) + (Int32.toInt64 x23)) → K τ22 ((y24 * 31) + (Int32.toInt64 (τ22 (j2 + 3) 2))))
theorem mw_X8_digestOfCallee_0 : Cond.constantLong RX8 269 (31) ∈ wsX8_digestOfCallee := List.mem_of_getElem? (i := 1) rfl
theorem mw_X8_digestOfCallee_1 : Cond.fieldLink RX8 150 "TidePost$Connection" "callee" "LTidePost$Callee;" ∈ wsX8_digestOfCallee := List.mem_of_getElem? (i := 2) rfl
theorem mw_X8_digestOfCallee_2 : Cond.fieldLink RX8 241 "TidePost$Callee" "wanted" "I" ∈ wsX8_digestOfCallee := List.mem_of_getElem? (i := 3) rfl
theorem mw_X8_digestOfCallee_3 : Cond.fieldLink RX8 159 "TidePost$Callee" "read" "I" ∈ wsX8_digestOfCallee := List.mem_of_getElem? (i := 4) rfl
theorem in_X8_digestOfCallee_X2 : ∀ x ∈ wsX20, x ∈ wsX8_digestOfCallee := fun _ h => List.mem_cons_of_mem _ (List.mem_append_left _ (List.mem_append_left _ (List.mem_append_right _ h)))
theorem in_X8_digestOfCallee_X0 : ∀ x ∈ wsX00, x ∈ wsX8_digestOfCallee := fun _ h => List.mem_cons_of_mem _ (List.mem_append_left _ (List.mem_append_right _ h))
set_option maxHeartbeats 4000000 in
set_option maxRecDepth 100000 in
theorem c_X8_digestOfCallee (w : WPar) (τ : TS) (y0 : Int64) (j2 : Nat) (K : TS → Int64 → Prop) (h2 : tp_is w j2 2) (hw : wp_X8_digestOfCallee τ y0 j2 K) : ML w yX8_digestOfCallee wsX8_digestOfCallee 2 33 [.long y0, .ref (w.1 j2)] τ K := by
  refine tp_enterL (cc := cX8_digestOfCallee) (maxL := 5) (own := RX8) (by decide) rfl rfl (Nat.le_of_ble_eq_true rfl) (fun g C hR => ?_)
  show Zt w g τ (0, 0) 0 [(0, .long y0), (2, .ref (w.1 j2))] []
  unfold wp_X8_digestOfCallee at hw
  refine z_lload_n C 0 (by rfl) dX8_digestOfCallee_0 ?_
  refine z_ldc2 C 31 mw_X8_digestOfCallee_0 dX8_digestOfCallee_1 ?_
  refine z_lmul C dX8_digestOfCallee_4 ?_
  refine z_aload_n C 1 (by rfl) dX8_digestOfCallee_5 ?_
  refine z_get C (Cn := RX2) (T := TX2) (N := 4) (ci := 2) h2.2 3 (tE2 h2.1) in_X8_digestOfCallee_X2 rfl (by decide) mw_X8_digestOfCallee_1 rfl rfl dX8_digestOfCallee_6 ?_
  refine z_get C (Cn := RX0) (T := TX0) (N := 4) (ci := 0) (tR2_3 h2).2 1 (tE0 (tR2_3 h2).1) in_X8_digestOfCallee_X0 rfl (by decide) mw_X8_digestOfCallee_2 rfl rfl dX8_digestOfCallee_9 ?_
  refine z_i2l C dX8_digestOfCallee_12 ?_
  refine z_ladd C dX8_digestOfCallee_13 ?_
  refine z_topl (fun y21 ey21 => ?_)
  have hw := hw y21 ey21
  refine z_lstore_n C [(3, .long y21), (0, .long y0), (2, .ref (w.1 j2))] dX8_digestOfCallee_14 (by decide) rfl ?_
  refine z_lload_n C 0 (by rfl) dX8_digestOfCallee_15 ?_
  refine z_ldc2 C 31 mw_X8_digestOfCallee_0 dX8_digestOfCallee_16 ?_
  refine z_lmul C dX8_digestOfCallee_19 ?_
  refine z_aload_n C 2 (by rfl) dX8_digestOfCallee_20 ?_
  refine zv_i C (As := []) (bytes := cX2_unread) (maxL := 1) (F1 := 1) (L1 := 13) (c_X2_unread w _ j2 _ h2 hw) h2.2 (tE2 h2.1) rfl 0 gX8_digestOfCallee_X2_unread rfl (by decide +kernel) ⟨Nat.le_of_ble_eq_true rfl, Nat.le_of_ble_eq_true rfl⟩ rfl (Nat.le_of_ble_eq_true rfl) ⟨Nat.le_of_ble_eq_true rfl, Nat.le_of_ble_eq_true rfl⟩ rfl dX8_digestOfCallee_21 (fun x23 τ22 hw => ?_)
  refine z_i2l C dX8_digestOfCallee_24 ?_
  refine z_ladd C dX8_digestOfCallee_25 ?_
  refine z_topl (fun y24 ey24 => ?_)
  have hw := hw y24 ey24
  refine z_lstore_n C [(3, .long y24), (0, .long y0), (2, .ref (w.1 j2))] dX8_digestOfCallee_26 (by decide) rfl ?_
  refine z_lload_n C 0 (by rfl) dX8_digestOfCallee_27 ?_
  refine z_ldc2 C 31 mw_X8_digestOfCallee_0 dX8_digestOfCallee_28 ?_
  refine z_lmul C dX8_digestOfCallee_31 ?_
  refine z_aload_n C 2 (by rfl) dX8_digestOfCallee_32 ?_
  refine z_get C (Cn := RX2) (T := TX2) (N := 4) (ci := 2) h2.2 3 (tE2 h2.1) in_X8_digestOfCallee_X2 rfl (by decide) mw_X8_digestOfCallee_1 rfl rfl dX8_digestOfCallee_33 ?_
  refine z_get C (Cn := RX0) (T := TX0) (N := 4) (ci := 0) (tR2_3 h2).2 2 (tE0 (tR2_3 h2).1) in_X8_digestOfCallee_X0 rfl (by decide) mw_X8_digestOfCallee_3 rfl rfl dX8_digestOfCallee_36 ?_
  refine z_i2l C dX8_digestOfCallee_39 ?_
  refine z_ladd C dX8_digestOfCallee_40 ?_
  exact hR _ _ _ _ dX8_digestOfCallee_41 hw
def wp_X8_digest (τ : TS) (i0 : Nat) (K : TS → Int64 → Prop) : Prop :=
  wp_X8_clock τ i0 (fun τ21 x22 => ∀ y23 : Int64, y23 = ((58043 * 31) + (Int32.toInt64 x22)) → wp_X8_nodes τ21 i0 (fun τ24 x25 => ∀ y26 : Int64, y26 = ((y23 * 31) + (Int32.toInt64 x25)) → wp_X8_links τ24 i0 (fun τ27 x28 => ∀ y29 : Int64, y29 = ((y26 * 31) + (Int32.toInt64 x28)) → wp_X8_lost τ27 i0 (fun τ30 x31 => ∀ y32 : Int64, y32 = ((y29 * 31) + (Int32.toInt64 x31)) → wp_X8_underWay τ30 i0 (fun τ33 x34 => ∀ y35 : Int64, y35 = ((y32 * 31) + (Int32.toInt64 x34)) → wp_X8_connections τ33 i0 (fun τ36 x37 => ∀ y38 : Int64, y38 = ((y35 * 31) + (Int32.toInt64 x37)) → ∃ (I42 : TS → Int64 → Int32 → Prop) (u42 : TS → Int64 → Int32 → Nat), I42 τ36 y38 0 ∧ ∀ (τ39 : TS) (y40 : Int64) (x41 : Int32), I42 τ39 y40 x41 → ((((τ39 1 1) ≤ x41) → (∃ (I47 : TS → Int64 → Int32 → Prop) (u47 : TS → Int64 → Int32 → Nat), I47 τ39 y40 0 ∧ ∀ (τ44 : TS) (y45 : Int64) (x46 : Int32), I47 τ44 y45 x46 → ((((τ44 17 3) ≤ x46) → (∃ (I52 : TS → Int64 → Int32 → Prop) (u52 : TS → Int64 → Int32 → Nat), I52 τ44 y45 0 ∧ ∀ (τ49 : TS) (y50 : Int64) (x51 : Int32), I52 τ49 y50 x51 → ((((τ49 1 0) ≤ x51) → (K τ49 y50)) ∧ ((¬ (τ49 1 0) ≤ x51) → (vp_in x51 8 ∧ (∀ y56 : Int64, y56 = ((y50 * 31) + (Int32.toInt64 (τ49 (8 + (Int32.toNatClampNeg x51)) (Int32.toNatClampNeg 0)))) → ∀ x57 : Int32, x57 = x51 + 1 → I52 τ49 y56 x57 ∧ u52 τ49 y56 x57 < u52 τ49 y50 x51)))))) ∧ ((¬ (τ44 17 3) ≤ x46) → (vp_in x46 6 ∧ (wp_X8_digestOfCaller τ44 y45 (((17 + 2) + 73 + 5 * (Int32.toNatClampNeg x46)) + 1) (fun τ59 y60 => vp_in x46 6 ∧ (wp_X8_digestOfCallee τ59 y60 ((17 + 2) + 73 + 5 * (Int32.toNatClampNeg x46)) (fun τ62 y63 => ∀ x64 : Int32, x64 = x46 + 1 → I47 τ62 y63 x64 ∧ u47 τ62 y63 x64 < u47 τ44 y45 x46))))))))) ∧ ((¬ (τ39 1 1) ≤ x41) → (wp_X8_digestOfLink τ39 i0 y40 x41 (fun τ65 y66 => ∀ x67 : Int32, x67 = x41 + 1 → I42 τ65 y66 x67 ∧ u42 τ65 y66 x67 < u42 τ39 y40 x41))))))))))
theorem mw_X8_digest_0 : Cond.constantLong RX8 267 (58043) ∈ wsX8_digest := List.mem_of_getElem? (i := 1) rfl
theorem mw_X8_digest_1 : Cond.constantLong RX8 269 (31) ∈ wsX8_digest := List.mem_of_getElem? (i := 2) rfl
theorem mw_X8_digest_2 : Cond.fieldLink RX8 12 "TidePost" "net" "LTidePost$Net;" ∈ wsX8_digest := List.mem_of_getElem? (i := 3) rfl
theorem mw_X8_digest_3 : Cond.fieldLink RX8 61 "TidePost$Net" "links" "I" ∈ wsX8_digest := List.mem_of_getElem? (i := 4) rfl
theorem mw_X8_digest_4 : Cond.fieldLink RX8 21 "TidePost" "traffic" "LTidePost$Traffic;" ∈ wsX8_digest := List.mem_of_getElem? (i := 5) rfl
theorem mw_X8_digest_5 : Cond.fieldLink RX8 99 "TidePost$Traffic" "made" "I" ∈ wsX8_digest := List.mem_of_getElem? (i := 6) rfl
theorem mw_X8_digest_8 : Cond.fieldLink RX8 33 "TidePost$Net" "nodes" "I" ∈ wsX8_digest := List.mem_of_getElem? (i := 9) rfl
theorem mw_X8_digest_9 : Cond.fieldLink RX8 171 "TidePost$Net" "distances" "[[I" ∈ wsX8_digest := List.mem_of_getElem? (i := 10) rfl
theorem mw_X8_digest_6 : Cond.fieldLink RX8 247 "TidePost$Traffic" "all" "[LTidePost$Connection;" ∈ wsX8_digest := List.mem_of_getElem? (i := 7) rfl
theorem mw_X8_digest_7 : Cond.fieldLink RX8 251 "TidePost$Connection" "caller" "LTidePost$Caller;" ∈ wsX8_digest := List.mem_of_getElem? (i := 8) rfl
theorem in_X8_digest_X8 : ∀ x ∈ wsX80, x ∈ wsX8_digest := fun _ h => List.mem_cons_of_mem _ (List.mem_append_left _ (List.mem_append_left _ (List.mem_append_left _ (List.mem_append_left _ (List.mem_append_left _ (List.mem_append_left _ (List.mem_append_left _ (List.mem_append_right _ h))))))))
theorem in_X8_digest_X3 : ∀ x ∈ wsX30, x ∈ wsX8_digest := fun _ h => List.mem_cons_of_mem _ (List.mem_append_left _ (List.mem_append_left _ (List.mem_append_left _ (List.mem_append_left _ (List.mem_append_left _ (List.mem_append_left _ (List.mem_append_right _ h)))))))
theorem in_X8_digest_X6 : ∀ x ∈ wsX60, x ∈ wsX8_digest := fun _ h => List.mem_cons_of_mem _ (List.mem_append_left _ (List.mem_append_left _ (List.mem_append_left _ (List.mem_append_left _ (List.mem_append_left _ (List.mem_append_right _ h))))))
theorem in_X8_digest_X2 : ∀ x ∈ wsX20, x ∈ wsX8_digest := fun _ h => List.mem_cons_of_mem _ (List.mem_append_left _ (List.mem_append_left _ (List.mem_append_left _ (List.mem_append_left _ (List.mem_append_right _ h)))))
set_option maxHeartbeats 4000000 in
set_option maxRecDepth 100000 in
theorem c_X8_digest (w : WPar) (τ : TS) (i0 : Nat) (K : TS → Int64 → Prop) (h0 : tp_is w i0 7) (hw : wp_X8_digest τ i0 K) : ML w yX8_digest wsX8_digest 3 57 [.ref (w.1 i0)] τ K := by
  refine tp_enterL (cc := cX8_digest) (maxL := 4) (own := RX8) (by decide) rfl rfl (Nat.le_of_ble_eq_true rfl) (fun g C hR => ?_)
  show Zt w g τ (0, 0) 0 [(0, .ref (w.1 i0))] []
  unfold wp_X8_digest at hw
  refine z_ldc2 C 58043 mw_X8_digest_0 dX8_digest_0 ?_
  refine z_lstore_n C [(1, .long 58043), (0, .ref (w.1 i0))] dX8_digest_3 (by decide) rfl ?_
  refine z_lload_n C 0 (by rfl) dX8_digest_4 ?_
  refine z_ldc2 C 31 mw_X8_digest_1 dX8_digest_5 ?_
  refine z_lmul C dX8_digest_8 ?_
  refine z_aload_n C 1 (by rfl) dX8_digest_9 ?_
  refine zv_i C (As := []) (bytes := cX8_clock) (maxL := 1) (F1 := 0) (L1 := 0) (c_X8_clock w _ i0 _ h0 hw) h0.2 (tE7 h0.1) rfl 0 gX8_digest_X8_clock rfl (by decide +kernel) ⟨Nat.le_of_ble_eq_true rfl, Nat.le_of_ble_eq_true rfl⟩ rfl (Nat.le_of_ble_eq_true rfl) ⟨Nat.le_of_ble_eq_true rfl, Nat.le_of_ble_eq_true rfl⟩ rfl dX8_digest_10 (fun x22 τ21 hw => ?_)
  refine z_i2l C dX8_digest_13 ?_
  refine z_ladd C dX8_digest_14 ?_
  refine z_topl (fun y23 ey23 => ?_)
  have hw := hw y23 ey23
  refine z_lstore_n C [(1, .long y23), (0, .ref (w.1 i0))] dX8_digest_15 (by decide) rfl ?_
  refine z_lload_n C 0 (by rfl) dX8_digest_16 ?_
  refine z_ldc2 C 31 mw_X8_digest_1 dX8_digest_17 ?_
  refine z_lmul C dX8_digest_20 ?_
  refine z_aload_n C 1 (by rfl) dX8_digest_21 ?_
  refine zv_i C (As := []) (bytes := cX8_nodes) (maxL := 1) (F1 := 0) (L1 := 0) (c_X8_nodes w _ i0 _ h0 hw) h0.2 (tE7 h0.1) rfl 0 gX8_digest_X8_nodes rfl (by decide +kernel) ⟨Nat.le_of_ble_eq_true rfl, Nat.le_of_ble_eq_true rfl⟩ rfl (Nat.le_of_ble_eq_true rfl) ⟨Nat.le_of_ble_eq_true rfl, Nat.le_of_ble_eq_true rfl⟩ rfl dX8_digest_22 (fun x25 τ24 hw => ?_)
  refine z_i2l C dX8_digest_25 ?_
  refine z_ladd C dX8_digest_26 ?_
  refine z_topl (fun y26 ey26 => ?_)
  have hw := hw y26 ey26
  refine z_lstore_n C [(1, .long y26), (0, .ref (w.1 i0))] dX8_digest_27 (by decide) rfl ?_
  refine z_lload_n C 0 (by rfl) dX8_digest_28 ?_
  refine z_ldc2 C 31 mw_X8_digest_1 dX8_digest_29 ?_
  refine z_lmul C dX8_digest_32 ?_
  refine z_aload_n C 1 (by rfl) dX8_digest_33 ?_
  refine zv_i C (As := []) (bytes := cX8_links) (maxL := 1) (F1 := 0) (L1 := 0) (c_X8_links w _ i0 _ h0 hw) h0.2 (tE7 h0.1) rfl 0 gX8_digest_X8_links rfl (by decide +kernel) ⟨Nat.le_of_ble_eq_true rfl, Nat.le_of_ble_eq_true rfl⟩ rfl (Nat.le_of_ble_eq_true rfl) ⟨Nat.le_of_ble_eq_true rfl, Nat.le_of_ble_eq_true rfl⟩ rfl dX8_digest_34 (fun x28 τ27 hw => ?_)
  refine z_i2l C dX8_digest_37 ?_
  refine z_ladd C dX8_digest_38 ?_
  refine z_topl (fun y29 ey29 => ?_)
  have hw := hw y29 ey29
  refine z_lstore_n C [(1, .long y29), (0, .ref (w.1 i0))] dX8_digest_39 (by decide) rfl ?_
  refine z_lload_n C 0 (by rfl) dX8_digest_40 ?_
  refine z_ldc2 C 31 mw_X8_digest_1 dX8_digest_41 ?_
  refine z_lmul C dX8_digest_44 ?_
  refine z_aload_n C 1 (by rfl) dX8_digest_45 ?_
  refine zv_i C (As := []) (bytes := cX8_lost) (maxL := 1) (F1 := 0) (L1 := 0) (c_X8_lost w _ i0 _ h0 hw) h0.2 (tE7 h0.1) rfl 0 gX8_digest_X8_lost rfl (by decide +kernel) ⟨Nat.le_of_ble_eq_true rfl, Nat.le_of_ble_eq_true rfl⟩ rfl (Nat.le_of_ble_eq_true rfl) ⟨Nat.le_of_ble_eq_true rfl, Nat.le_of_ble_eq_true rfl⟩ rfl dX8_digest_46 (fun x31 τ30 hw => ?_)
  refine z_i2l C dX8_digest_49 ?_
  refine z_ladd C dX8_digest_50 ?_
  refine z_topl (fun y32 ey32 => ?_)
  have hw := hw y32 ey32
  refine z_lstore_n C [(1, .long y32), (0, .ref (w.1 i0))] dX8_digest_51 (by decide) rfl ?_
  refine z_lload_n C 0 (by rfl) dX8_digest_52 ?_
  refine z_ldc2 C 31 mw_X8_digest_1 dX8_digest_53 ?_
  refine z_lmul C dX8_digest_56 ?_
  refine z_aload_n C 1 (by rfl) dX8_digest_57 ?_
  refine zv_i C (As := []) (bytes := cX8_underWay) (maxL := 3) (F1 := 0) (L1 := 0) (c_X8_underWay w _ i0 _ h0 hw) h0.2 (tE7 h0.1) rfl 0 gX8_digest_X8_underWay rfl (by decide +kernel) ⟨Nat.le_of_ble_eq_true rfl, Nat.le_of_ble_eq_true rfl⟩ rfl (Nat.le_of_ble_eq_true rfl) ⟨Nat.le_of_ble_eq_true rfl, Nat.le_of_ble_eq_true rfl⟩ rfl dX8_digest_58 (fun x34 τ33 hw => ?_)
  refine z_i2l C dX8_digest_61 ?_
  refine z_ladd C dX8_digest_62 ?_
  refine z_topl (fun y35 ey35 => ?_)
  have hw := hw y35 ey35
  refine z_lstore_n C [(1, .long y35), (0, .ref (w.1 i0))] dX8_digest_63 (by decide) rfl ?_
  refine z_lload_n C 0 (by rfl) dX8_digest_64 ?_
  refine z_ldc2 C 31 mw_X8_digest_1 dX8_digest_65 ?_
  refine z_lmul C dX8_digest_68 ?_
  refine z_aload_n C 1 (by rfl) dX8_digest_69 ?_
  refine zv_i C (As := []) (bytes := cX8_connections) (maxL := 1) (F1 := 0) (L1 := 0) (c_X8_connections w _ i0 _ h0 hw) h0.2 (tE7 h0.1) rfl 0 gX8_digest_X8_connections rfl (by decide +kernel) ⟨Nat.le_of_ble_eq_true rfl, Nat.le_of_ble_eq_true rfl⟩ rfl (Nat.le_of_ble_eq_true rfl) ⟨Nat.le_of_ble_eq_true rfl, Nat.le_of_ble_eq_true rfl⟩ rfl dX8_digest_70 (fun x37 τ36 hw => ?_)
  refine z_i2l C dX8_digest_73 ?_
  refine z_ladd C dX8_digest_74 ?_
  refine z_topl (fun y38 ey38 => ?_)
  have hw := hw y38 ey38
  refine z_lstore_n C [(1, .long y38), (0, .ref (w.1 i0))] dX8_digest_75 (by decide) rfl ?_
  refine z_iconst C 0 (by decide) dX8_digest_76 ?_
  refine z_istore_n C [(3, .int 0), (1, .long y38), (0, .ref (w.1 i0))] dX8_digest_77 (by decide) rfl ?_
  obtain ⟨I42, u42, hI42, hs42⟩ := hw
  have lp42 : ∀ (n42 : Nat) (τ39 : TS) (y40 : Int64) (x41 : Int32), u42 τ39 y40 x41 < n42 → I42 τ39 y40 x41 → Zt w g τ39 (0, 0) 78 [(0, .ref (w.1 i0)), (1, .long y40), (3, .int x41)] [] := by
    intro n42
    induction n42 with
    | zero => intro τ39 y40 x41 hlt42; exact absurd hlt42 (Nat.not_lt_zero _)
    | succ n42 ih42 =>
      intro τ39 y40 x41 hlt42 hh42
      have hw := hs42 τ39 y40 x41 hh42
      refine z_iload_n C 2 (by rfl) dX8_digest_78 ?_
      refine z_aload_n C 0 (by rfl) dX8_digest_79 ?_
      refine z_get C (Cn := RX8) (T := TX8) (N := 4) (ci := 7) h0.2 0 (tE7 h0.1) in_X8_digest_X8 rfl (by decide) mw_X8_digest_2 rfl rfl dX8_digest_80 ?_
      refine z_get C (Cn := RX3) (T := TX3) (N := 9) (ci := 3) (tR7_0 h0).2 1 (tE3 (tR7_0 h0).1) in_X8_digest_X3 rfl (by decide) mw_X8_digest_3 rfl rfl dX8_digest_83 ?_
      refine z_icmp_ge (tgt := 102) C dX8_digest_86 (by decide) (fun c43 => ?_) (fun c43 => ?_)
      · have hw := hw.1 c43
        refine z_iconst C 0 (by decide) dX8_digest_102 ?_
        refine z_istore_n C [(3, .int 0), (0, .ref (w.1 i0)), (1, .long y40)] dX8_digest_103 (by decide) rfl ?_
        obtain ⟨I47, u47, hI47, hs47⟩ := hw
        have lp47 : ∀ (n47 : Nat) (τ44 : TS) (y45 : Int64) (x46 : Int32), u47 τ44 y45 x46 < n47 → I47 τ44 y45 x46 → Zt w g τ44 (0, 0) 104 [(0, .ref (w.1 i0)), (1, .long y45), (3, .int x46)] [] := by
          intro n47
          induction n47 with
          | zero => intro τ44 y45 x46 hlt47; exact absurd hlt47 (Nat.not_lt_zero _)
          | succ n47 ih47 =>
            intro τ44 y45 x46 hlt47 hh47
            have hw := hs47 τ44 y45 x46 hh47
            refine z_iload_n C 2 (by rfl) dX8_digest_104 ?_
            refine z_aload_n C 0 (by rfl) dX8_digest_105 ?_
            refine z_get C (Cn := RX8) (T := TX8) (N := 4) (ci := 7) h0.2 1 (tE7 h0.1) in_X8_digest_X8 rfl (by decide) mw_X8_digest_4 rfl rfl dX8_digest_106 ?_
            refine z_get C (Cn := RX6) (T := TX6) (N := 6) (ci := 5) (tR7_1 h0).2 3 (tE5 (tR7_1 h0).1) in_X8_digest_X6 rfl (by decide) mw_X8_digest_5 rfl rfl dX8_digest_109 ?_
            refine z_icmp_ge (tgt := 150) C dX8_digest_112 (by decide) (fun c48 => ?_) (fun c48 => ?_)
            · have hw := hw.1 c48
              refine z_iconst C 0 (by decide) dX8_digest_150 ?_
              refine z_istore_n C [(3, .int 0), (0, .ref (w.1 i0)), (1, .long y45)] dX8_digest_151 (by decide) rfl ?_
              obtain ⟨I52, u52, hI52, hs52⟩ := hw
              have lp52 : ∀ (n52 : Nat) (τ49 : TS) (y50 : Int64) (x51 : Int32), u52 τ49 y50 x51 < n52 → I52 τ49 y50 x51 → Zt w g τ49 (0, 0) 152 [(0, .ref (w.1 i0)), (1, .long y50), (3, .int x51)] [] := by
                intro n52
                induction n52 with
                | zero => intro τ49 y50 x51 hlt52; exact absurd hlt52 (Nat.not_lt_zero _)
                | succ n52 ih52 =>
                  intro τ49 y50 x51 hlt52 hh52
                  have hw := hs52 τ49 y50 x51 hh52
                  refine z_iload_n C 2 (by rfl) dX8_digest_152 ?_
                  refine z_aload_n C 0 (by rfl) dX8_digest_153 ?_
                  refine z_get C (Cn := RX8) (T := TX8) (N := 4) (ci := 7) h0.2 0 (tE7 h0.1) in_X8_digest_X8 rfl (by decide) mw_X8_digest_2 rfl rfl dX8_digest_154 ?_
                  refine z_get C (Cn := RX3) (T := TX3) (N := 9) (ci := 3) (tR7_0 h0).2 0 (tE3 (tR7_0 h0).1) in_X8_digest_X3 rfl (by decide) mw_X8_digest_8 rfl rfl dX8_digest_157 ?_
                  refine z_icmp_ge (tgt := 188) C dX8_digest_160 (by decide) (fun c53 => ?_) (fun c53 => ?_)
                  · have hw := hw.1 c53
                    refine z_lload_n C 1 (by rfl) dX8_digest_188 ?_
                    exact hR _ _ _ _ dX8_digest_189 hw
                  · have hw := hw.2 c53
                    refine z_lload_n C 1 (by rfl) dX8_digest_163 ?_
                    refine z_ldc2 C 31 mw_X8_digest_1 dX8_digest_164 ?_
                    refine z_lmul C dX8_digest_167 ?_
                    refine z_aload_n C 0 (by rfl) dX8_digest_168 ?_
                    refine z_get C (Cn := RX8) (T := TX8) (N := 4) (ci := 7) h0.2 0 (tE7 h0.1) in_X8_digest_X8 rfl (by decide) mw_X8_digest_2 rfl rfl dX8_digest_169 ?_
                    refine z_get C (Cn := RX3) (T := TX3) (N := 9) (ci := 3) (tR7_0 h0).2 7 (tE3 (tR7_0 h0).1) in_X8_digest_X3 rfl (by decide) mw_X8_digest_9 rfl rfl dX8_digest_172 ?_
                    refine z_iload_n C 2 (by rfl) dX8_digest_175 ?_
                    obtain ⟨s54, hw⟩ := hw
                    refine z_aald_q4 C (tR3_7 (tR7_0 h0)).2 (tE14 (tR3_7 (tR7_0 h0)).1) s54 (if_pos (tp_lt s54)) dX8_digest_176 ?_
                    refine z_iconst C 0 (by decide) dX8_digest_177 ?_
                    have s55 : vp_in 0 8 := by unfold vp_in; decide
                    refine z_iald C (tR14 (tR3_7 (tR7_0 h0)) (tp_lt s54)).2 (tE13 (tR14 (tR3_7 (tR7_0 h0)) (tp_lt s54)).1) s55 dX8_digest_178 ?_
                    refine z_i2l C dX8_digest_179 ?_
                    refine z_ladd C dX8_digest_180 ?_
                    refine z_topl (fun y56 ey56 => ?_)
                    have hw := hw y56 ey56
                    refine z_lstore_n C [(1, .long y56), (0, .ref (w.1 i0)), (3, .int x51)] dX8_digest_181 (by decide) rfl ?_
                    obtain ⟨x57, ex57⟩ : ∃ z : Int32, z = x51 + 1 := ⟨_, rfl⟩
                    have hw := hw x57 ex57
                    refine z_iinc C 2 x57 [(3, .int x57), (1, .long y56), (0, .ref (w.1 i0))] dX8_digest_182 (by rfl) (by rw [ex57]; rfl) (by decide) rfl ?_
                    refine z_goto (tgt := 152) C dX8_digest_185 (by decide) ?_
                    refine z_sub [2, 1, 0] [(0, .ref (w.1 i0)), (1, .long y56), (3, .int x57)] rfl ?_
                    exact ih52 τ49 y56 x57 (Nat.lt_of_lt_of_le hw.2 (Nat.le_of_lt_succ hlt52)) hw.1
              refine z_sub [1, 2, 0] [(0, .ref (w.1 i0)), (1, .long y45), (3, .int 0)] rfl ?_
              exact lp52 _ τ44 y45 0 (Nat.lt_succ_self _) hI52
            · have hw := hw.2 c48
              refine z_lload_n C 1 (by rfl) dX8_digest_115 ?_
              refine z_aload_n C 0 (by rfl) dX8_digest_116 ?_
              refine z_get C (Cn := RX8) (T := TX8) (N := 4) (ci := 7) h0.2 1 (tE7 h0.1) in_X8_digest_X8 rfl (by decide) mw_X8_digest_4 rfl rfl dX8_digest_117 ?_
              refine z_get C (Cn := RX6) (T := TX6) (N := 6) (ci := 5) (tR7_1 h0).2 2 (tE5 (tR7_1 h0).1) in_X8_digest_X6 rfl (by decide) mw_X8_digest_6 rfl rfl dX8_digest_120 ?_
              refine z_iload_n C 2 (by rfl) dX8_digest_123 ?_
              obtain ⟨s58, hw⟩ := hw
              refine z_aald_q3 C (tR5_2 (tR7_1 h0)).2 (tE16 (tR5_2 (tR7_1 h0)).1) s58 (if_pos (tp_lt s58)) dX8_digest_124 ?_
              refine z_get C (Cn := RX2) (T := TX2) (N := 4) (ci := 2) (tR16 (tR5_2 (tR7_1 h0)) (tp_lt s58)).2 2 (tE2 (tR16 (tR5_2 (tR7_1 h0)) (tp_lt s58)).1) in_X8_digest_X2 rfl (by decide) mw_X8_digest_7 rfl rfl dX8_digest_125 ?_
              refine zs_l C (As := [.long y45, .ref (w.1 (((17 + 2) + 73 + 5 * (Int32.toNatClampNeg x46)) + 1))]) (bytes := cX8_digestOfCaller) (maxL := 5) (F1 := 0) (L1 := 0) (c_X8_digestOfCaller w _ y45 (((17 + 2) + 73 + 5 * (Int32.toNatClampNeg x46)) + 1) _ (tR2_2 (tR16 (tR5_2 (tR7_1 h0)) (tp_lt s58))) hw) 2 gX8_digest_X8_digestOfCaller rfl (by decide +kernel) ⟨Nat.le_of_ble_eq_true rfl, Nat.le_of_ble_eq_true rfl⟩ rfl (Nat.le_of_ble_eq_true rfl) ⟨Nat.le_of_ble_eq_true rfl, Nat.le_of_ble_eq_true rfl⟩ rfl dX8_digest_128 (fun y60 τ59 hw => ?_)
              refine z_aload_n C 0 (by rfl) dX8_digest_131 ?_
              refine z_get C (Cn := RX8) (T := TX8) (N := 4) (ci := 7) h0.2 1 (tE7 h0.1) in_X8_digest_X8 rfl (by decide) mw_X8_digest_4 rfl rfl dX8_digest_132 ?_
              refine z_get C (Cn := RX6) (T := TX6) (N := 6) (ci := 5) (tR7_1 h0).2 2 (tE5 (tR7_1 h0).1) in_X8_digest_X6 rfl (by decide) mw_X8_digest_6 rfl rfl dX8_digest_135 ?_
              refine z_iload_n C 2 (by rfl) dX8_digest_138 ?_
              obtain ⟨s61, hw⟩ := hw
              refine z_aald_q3 C (tR5_2 (tR7_1 h0)).2 (tE16 (tR5_2 (tR7_1 h0)).1) s61 (if_pos (tp_lt s61)) dX8_digest_139 ?_
              refine zs_l C (As := [.long y60, .ref (w.1 ((17 + 2) + 73 + 5 * (Int32.toNatClampNeg x46)))]) (bytes := cX8_digestOfCallee) (maxL := 5) (F1 := 2) (L1 := 33) (c_X8_digestOfCallee w _ y60 ((17 + 2) + 73 + 5 * (Int32.toNatClampNeg x46)) _ (tR16 (tR5_2 (tR7_1 h0)) (tp_lt s61)) hw) 2 gX8_digest_X8_digestOfCallee rfl (by decide +kernel) ⟨Nat.le_of_ble_eq_true rfl, Nat.le_of_ble_eq_true rfl⟩ rfl (Nat.le_of_ble_eq_true rfl) ⟨Nat.le_of_ble_eq_true rfl, Nat.le_of_ble_eq_true rfl⟩ rfl dX8_digest_140 (fun y63 τ62 hw => ?_)
              refine z_lstore_n C [(1, .long y63), (0, .ref (w.1 i0)), (3, .int x46)] dX8_digest_143 (by decide) rfl ?_
              obtain ⟨x64, ex64⟩ : ∃ z : Int32, z = x46 + 1 := ⟨_, rfl⟩
              have hw := hw x64 ex64
              refine z_iinc C 2 x64 [(3, .int x64), (1, .long y63), (0, .ref (w.1 i0))] dX8_digest_144 (by rfl) (by rw [ex64]; rfl) (by decide) rfl ?_
              refine z_goto (tgt := 104) C dX8_digest_147 (by decide) ?_
              refine z_sub [2, 1, 0] [(0, .ref (w.1 i0)), (1, .long y63), (3, .int x64)] rfl ?_
              exact ih47 τ62 y63 x64 (Nat.lt_of_lt_of_le hw.2 (Nat.le_of_lt_succ hlt47)) hw.1
        refine z_sub [1, 2, 0] [(0, .ref (w.1 i0)), (1, .long y40), (3, .int 0)] rfl ?_
        exact lp47 _ τ39 y40 0 (Nat.lt_succ_self _) hI47
      · have hw := hw.2 c43
        refine z_aload_n C 0 (by rfl) dX8_digest_89 ?_
        refine z_lload_n C 1 (by rfl) dX8_digest_90 ?_
        refine z_iload_n C 2 (by rfl) dX8_digest_91 ?_
        refine zv_l C (As := [.long y40, .int x41]) (bytes := cX8_digestOfLink) (maxL := 8) (F1 := 0) (L1 := 0) (c_X8_digestOfLink w _ i0 y40 x41 _ h0 hw) h0.2 (tE7 h0.1) rfl 2 gX8_digest_X8_digestOfLink rfl (by decide +kernel) ⟨Nat.le_of_ble_eq_true rfl, Nat.le_of_ble_eq_true rfl⟩ rfl (Nat.le_of_ble_eq_true rfl) ⟨Nat.le_of_ble_eq_true rfl, Nat.le_of_ble_eq_true rfl⟩ rfl dX8_digest_92 (fun y66 τ65 hw => ?_)
        refine z_lstore_n C [(1, .long y66), (0, .ref (w.1 i0)), (3, .int x41)] dX8_digest_95 (by decide) rfl ?_
        obtain ⟨x67, ex67⟩ : ∃ z : Int32, z = x41 + 1 := ⟨_, rfl⟩
        have hw := hw x67 ex67
        refine z_iinc C 2 x67 [(3, .int x67), (1, .long y66), (0, .ref (w.1 i0))] dX8_digest_96 (by rfl) (by rw [ex67]; rfl) (by decide) rfl ?_
        refine z_goto (tgt := 78) C dX8_digest_99 (by decide) ?_
        refine z_sub [2, 1, 0] [(0, .ref (w.1 i0)), (1, .long y66), (3, .int x67)] rfl ?_
        exact ih42 τ65 y66 x67 (Nat.lt_of_lt_of_le hw.2 (Nat.le_of_lt_succ hlt42)) hw.1
  refine z_sub [2, 1, 0] [(0, .ref (w.1 i0)), (1, .long y38), (3, .int 0)] rfl ?_
  exact lp42 _ τ36 y38 0 (Nat.lt_succ_self _) hI42
