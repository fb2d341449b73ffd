def wp_X6_letArrive (τ : TS) (i0 : Nat) (K : TS → Prop) : Prop :=
  ∃ (I23 : TS → Int32 → Prop) (u23 : TS → Int32 → Nat), I23 τ 0 ∧ ∀ (τ21 : TS) (x22 : Int32), I23 τ21 x22 → ((((τ21 1 1) ≤ x22) → (K τ21)) ∧ ((¬ (τ21 1 1) ≤ x22) → (∃ (I27 : TS → Int32 → Prop) (u27 : TS → Int32 → Nat), I27 τ21 0 ∧ ∀ (τ25 : TS) (x26 : Int32), I27 τ25 x26 → (((2 ≤ x26) → (∀ x29 : Int32, x29 = x22 + 1 → I23 τ25 x29 ∧ u23 τ25 x29 < u23 τ21 x22)) ∧ ((¬ 2 ≤ x26) → (vp_in ((2 * x22) + x26) 24 ∧ (False)))))))
theorem mw_X6_letArrive_0 : Cond.fieldLink RX6 23 "TidePost$Traffic" "net" "LTidePost$Net;" ∈ wsX6_letArrive := List.mem_of_getElem? (i := 1) rfl
theorem mw_X6_letArrive_1 : Cond.fieldLink RX6 84 "TidePost$Net" "links" "I" ∈ wsX6_letArrive := List.mem_of_getElem? (i := 2) rfl
theorem mw_X6_letArrive_2 : Cond.fieldLink RX6 11 "TidePost$Traffic" "ways" "[LTidePost$Way;" ∈ wsX6_letArrive := List.mem_of_getElem? (i := 3) rfl
theorem mw_X6_letArrive_3 : Cond.fieldLink RX6 52 "TidePost$Traffic" "clock" "I" ∈ wsX6_letArrive := List.mem_of_getElem? (i := 4) rfl
theorem in_X6_letArrive_X6 : ∀ x ∈ wsX60, x ∈ wsX6_letArrive := fun _ h => List.mem_cons_of_mem _ (List.mem_append_left _ (List.mem_append_left _ (List.mem_append_left _ (List.mem_append_left _ (List.mem_append_left _ (List.mem_append_left _ (List.mem_append_right _ h)))))))
theorem in_X6_letArrive_X3 : ∀ x ∈ wsX30, x ∈ wsX6_letArrive := fun _ h => List.mem_cons_of_mem _ (List.mem_append_left _ (List.mem_append_left _ (List.mem_append_left _ (List.mem_append_left _ (List.mem_append_left _ (List.mem_append_right _ h))))))
set_option maxHeartbeats 4000000 in
set_option maxRecDepth 100000 in
theorem c_X6_letArrive (w : WPar) (τ : TS) (i0 : Nat) (K : TS → Prop) (h0 : tp_is w i0 5) (hw : wp_X6_letArrive τ i0 K) : MV w yX6_letArrive wsX6_letArrive 0 0 [.ref (w.1 i0)] τ K := by
  refine tp_enterV (cc := cX6_letArrive) (maxL := 4) (own := RX6) (by decide) rfl rfl (Nat.le_of_ble_eq_true rfl) (fun g C hR => ?_)
  show Zt w g τ (0, 0) 0 [(0, .ref (w.1 i0))] []
  unfold wp_X6_letArrive at hw
  refine z_iconst C 0 (by decide) dX6_letArrive_0 ?_
  refine z_istore_n C [(1, .int 0), (0, .ref (w.1 i0))] dX6_letArrive_1 (by decide) rfl ?_
  obtain ⟨I23, u23, hI23, hs23⟩ := hw
  have lp23 : ∀ (n23 : Nat) (τ21 : TS) (x22 : Int32), u23 τ21 x22 < n23 → I23 τ21 x22 → Zt w g τ21 (0, 0) 2 [(0, .ref (w.1 i0)), (1, .int x22)] [] := by
    intro n23
    induction n23 with
    | zero => intro τ21 x22 hlt23; exact absurd hlt23 (Nat.not_lt_zero _)
    | succ n23 ih23 =>
      intro τ21 x22 hlt23 hh23
      have hw := hs23 τ21 x22 hh23
      refine z_iload_n C 1 (by rfl) dX6_letArrive_2 ?_
      refine z_aload_n C 0 (by rfl) dX6_letArrive_3 ?_
      refine z_get C (Cn := RX6) (T := TX6) (N := 6) (ci := 5) h0.2 0 (tE5 h0.1) in_X6_letArrive_X6 rfl (by decide) mw_X6_letArrive_0 rfl rfl dX6_letArrive_4 ?_
      refine z_get C (Cn := RX3) (T := TX3) (N := 9) (ci := 3) (tR5_0 h0).2 1 (tE3 (tR5_0 h0).1) in_X6_letArrive_X3 rfl (by decide) mw_X6_letArrive_1 rfl rfl dX6_letArrive_7 ?_
      refine z_icmp_ge (tgt := 85) C dX6_letArrive_10 (by decide) (fun c24 => ?_) (fun c24 => ?_)
      · have hw := hw.1 c24
        exact hR _ _ _ dX6_letArrive_85 hw
      · have hw := hw.2 c24
        refine z_iconst C 0 (by decide) dX6_letArrive_13 ?_
        refine z_istore_n C [(2, .int 0), (0, .ref (w.1 i0)), (1, .int x22)] dX6_letArrive_14 (by decide) rfl ?_
        obtain ⟨I27, u27, hI27, hs27⟩ := hw
        have lp27 : ∀ (n27 : Nat) (τ25 : TS) (x26 : Int32), u27 τ25 x26 < n27 → I27 τ25 x26 → Zt w g τ25 (0, 0) 15 [(0, .ref (w.1 i0)), (1, .int x22), (2, .int x26)] [] := by
          intro n27
          induction n27 with
          | zero => intro τ25 x26 hlt27; exact absurd hlt27 (Nat.not_lt_zero _)
          | succ n27 ih27 =>
            intro τ25 x26 hlt27 hh27
            have hw := hs27 τ25 x26 hh27
            refine z_iload_n C 2 (by rfl) dX6_letArrive_15 ?_
            refine z_iconst C 2 (by decide) dX6_letArrive_16 ?_
            refine z_icmp_ge (tgt := 79) C dX6_letArrive_17 (by decide) (fun c28 => ?_) (fun c28 => ?_)
            · have hw := hw.1 c28
              obtain ⟨x29, ex29⟩ : ∃ z : Int32, z = x22 + 1 := ⟨_, rfl⟩
              have hw := hw x29 ex29
              refine z_iinc C 1 x29 [(1, .int x29), (0, .ref (w.1 i0)), (2, .int x26)] dX6_letArrive_79 (by rfl) (by rw [ex29]; rfl) (by decide) rfl ?_
              refine z_goto (tgt := 2) C dX6_letArrive_82 (by decide) ?_
              refine z_sub [1, 0] [(0, .ref (w.1 i0)), (1, .int x29)] rfl ?_
              exact ih23 τ25 x29 (Nat.lt_of_lt_of_le hw.2 (Nat.le_of_lt_succ hlt23)) hw.1
            · have hw := hw.2 c28
              refine z_aload_n C 0 (by rfl) dX6_letArrive_20 ?_
              refine z_get C (Cn := RX6) (T := TX6) (N := 6) (ci := 5) h0.2 1 (tE5 h0.1) in_X6_letArrive_X6 rfl (by decide) mw_X6_letArrive_2 rfl rfl dX6_letArrive_21 ?_
              refine z_iconst C 2 (by decide) dX6_letArrive_24 ?_
              refine z_iload_n C 1 (by rfl) dX6_letArrive_25 ?_
              refine z_imul C dX6_letArrive_26 ?_
              refine z_iload_n C 2 (by rfl) dX6_letArrive_27 ?_
              refine z_iadd C dX6_letArrive_28 ?_
              obtain ⟨s30, hw⟩ := hw
              refine z_aald_q2 C (tR5_1 h0).2 (tE15 (tR5_1 h0).1) s30 (if_pos (tp_lt s30)) dX6_letArrive_29 ?_
              refine z_aload_n C 0 (by rfl) dX6_letArrive_30 ?_
              refine z_get C (Cn := RX6) (T := TX6) (N := 6) (ci := 5) h0.2 4 (tE5 h0.1) in_X6_letArrive_X6 rfl (by decide) mw_X6_letArrive_3 rfl rfl dX6_letArrive_31 ?_
              exact hw.elim
        refine z_sub [1, 2, 0] [(0, .ref (w.1 i0)), (1, .int x22), (2, .int 0)] rfl ?_
        exact lp27 _ τ21 0 (Nat.lt_succ_self _) hI27
  refine z_sub [1, 0] [(0, .ref (w.1 i0)), (1, .int 0)] rfl ?_
  exact lp23 _ τ 0 (Nat.lt_succ_self _) hI23
def wp_X6_letTimersRunOut (τ : TS) (i0 : Nat) (K : TS → Prop) : Prop :=
  ∃ (I23 : TS → Int32 → Prop) (u23 : TS → Int32 → Nat), I23 τ 0 ∧ ∀ (τ21 : TS) (x22 : Int32), I23 τ21 x22 → ((((τ21 i0 3) ≤ x22) → (K τ21)) ∧ ((¬ (τ21 i0 3) ≤ x22) → (vp_in x22 6 ∧ (((¬ (τ21 (((i0 + 2) + 73 + 5 * (Int32.toNatClampNeg x22)) + 1) 10) = (τ21 i0 4)) → (∀ x27 : Int32, x27 = x22 + 1 → I23 τ21 x27 ∧ u23 τ21 x27 < u23 τ21 x22)) ∧ (((τ21 (((i0 + 2) + 73 + 5 * (Int32.toNatClampNeg x22)) + 1) 10) = (τ21 i0 4)) → False)))))
theorem mw_X6_letTimersRunOut_0 : Cond.fieldLink RX6 29 "TidePost$Traffic" "made" "I" ∈ wsX6_letTimersRunOut := List.mem_of_getElem? (i := 1) rfl
theorem mw_X6_letTimersRunOut_1 : Cond.fieldLink RX6 19 "TidePost$Traffic" "all" "[LTidePost$Connection;" ∈ wsX6_letTimersRunOut := List.mem_of_getElem? (i := 2) rfl
theorem mw_X6_letTimersRunOut_2 : Cond.fieldLink RX6 48 "TidePost$Connection" "caller" "LTidePost$Caller;" ∈ wsX6_letTimersRunOut := List.mem_of_getElem? (i := 3) rfl
theorem mw_X6_letTimersRunOut_3 : Cond.fieldLink RX6 138 "TidePost$Caller" "timer" "I" ∈ wsX6_letTimersRunOut := List.mem_of_getElem? (i := 4) rfl
theorem mw_X6_letTimersRunOut_4 : Cond.fieldLink RX6 52 "TidePost$Traffic" "clock" "I" ∈ wsX6_letTimersRunOut := List.mem_of_getElem? (i := 5) rfl
theorem in_X6_letTimersRunOut_X6 : ∀ x ∈ wsX60, x ∈ wsX6_letTimersRunOut := fun _ h => List.mem_cons_of_mem _ (List.mem_append_left _ (List.mem_append_left _ (List.mem_append_left _ (List.mem_append_left _ (List.mem_append_left _ (List.mem_append_right _ h))))))
theorem in_X6_letTimersRunOut_X2 : ∀ x ∈ wsX20, x ∈ wsX6_letTimersRunOut := fun _ h => List.mem_cons_of_mem _ (List.mem_append_left _ (List.mem_append_left _ (List.mem_append_left _ (List.mem_append_left _ (List.mem_append_right _ h)))))
theorem in_X6_letTimersRunOut_X1 : ∀ x ∈ wsX10, x ∈ wsX6_letTimersRunOut := fun _ h => List.mem_cons_of_mem _ (List.mem_append_left _ (List.mem_append_left _ (List.mem_append_left _ (List.mem_append_right _ h))))
set_option maxHeartbeats 4000000 in
set_option maxRecDepth 100000 in
theorem c_X6_letTimersRunOut (w : WPar) (τ : TS) (i0 : Nat) (K : TS → Prop) (h0 : tp_is w i0 5) (hw : wp_X6_letTimersRunOut τ i0 K) : MV w yX6_letTimersRunOut wsX6_letTimersRunOut 0 0 [.ref (w.1 i0)] τ K := by
  refine tp_enterV (cc := cX6_letTimersRunOut) (maxL := 3) (own := RX6) (by decide) rfl rfl (Nat.le_of_ble_eq_true rfl) (fun g C hR => ?_)
  show Zt w g τ (0, 0) 0 [(0, .ref (w.1 i0))] []
  unfold wp_X6_letTimersRunOut at hw
  refine z_iconst C 0 (by decide) dX6_letTimersRunOut_0 ?_
  refine z_istore_n C [(1, .int 0), (0, .ref (w.1 i0))] dX6_letTimersRunOut_1 (by decide) rfl ?_
  obtain ⟨I23, u23, hI23, hs23⟩ := hw
  have lp23 : ∀ (n23 : Nat) (τ21 : TS) (x22 : Int32), u23 τ21 x22 < n23 → I23 τ21 x22 → Zt w g τ21 (0, 0) 2 [(0, .ref (w.1 i0)), (1, .int x22)] [] := by
    intro n23
    induction n23 with
    | zero => intro τ21 x22 hlt23; exact absurd hlt23 (Nat.not_lt_zero _)
    | succ n23 ih23 =>
      intro τ21 x22 hlt23 hh23
      have hw := hs23 τ21 x22 hh23
      refine z_iload_n C 1 (by rfl) dX6_letTimersRunOut_2 ?_
      refine z_aload_n C 0 (by rfl) dX6_letTimersRunOut_3 ?_
      refine z_get C (Cn := RX6) (T := TX6) (N := 6) (ci := 5) h0.2 3 (tE5 h0.1) in_X6_letTimersRunOut_X6 rfl (by decide) mw_X6_letTimersRunOut_0 rfl rfl dX6_letTimersRunOut_4 ?_
      refine z_icmp_ge (tgt := 72) C dX6_letTimersRunOut_7 (by decide) (fun c24 => ?_) (fun c24 => ?_)
      · have hw := hw.1 c24
        exact hR _ _ _ dX6_letTimersRunOut_72 hw
      · have hw := hw.2 c24
        refine z_aload_n C 0 (by rfl) dX6_letTimersRunOut_10 ?_
        refine z_get C (Cn := RX6) (T := TX6) (N := 6) (ci := 5) h0.2 2 (tE5 h0.1) in_X6_letTimersRunOut_X6 rfl (by decide) mw_X6_letTimersRunOut_1 rfl rfl dX6_letTimersRunOut_11 ?_
        refine z_iload_n C 1 (by rfl) dX6_letTimersRunOut_14 ?_
        obtain ⟨s25, hw⟩ := hw
        refine z_aald_q3 C (tR5_2 h0).2 (tE16 (tR5_2 h0).1) s25 (if_pos (tp_lt s25)) dX6_letTimersRunOut_15 ?_
        refine z_get C (Cn := RX2) (T := TX2) (N := 4) (ci := 2) (tR16 (tR5_2 h0) (tp_lt s25)).2 2 (tE2 (tR16 (tR5_2 h0) (tp_lt s25)).1) in_X6_letTimersRunOut_X2 rfl (by decide) mw_X6_letTimersRunOut_2 rfl rfl dX6_letTimersRunOut_16 ?_
        refine z_astore_n C [(2, .ref (w.1 (((i0 + 2) + 73 + 5 * (Int32.toNatClampNeg x22)) + 1))), (0, .ref (w.1 i0)), (1, .int x22)] dX6_letTimersRunOut_19 (by decide) rfl ?_
        refine z_aload_n C 0 (by rfl) dX6_letTimersRunOut_20 ?_
        refine z_get C (Cn := RX1) (T := TX1) (N := 14) (ci := 1) (tR2_2 (tR16 (tR5_2 h0) (tp_lt s25))).2 10 (tE1 (tR2_2 (tR16 (tR5_2 h0) (tp_lt s25))).1) in_X6_letTimersRunOut_X1 rfl (by decide) mw_X6_letTimersRunOut_3 rfl rfl dX6_letTimersRunOut_21 ?_
        refine z_aload_n C 1 (by rfl) dX6_letTimersRunOut_24 ?_
        refine z_get C (Cn := RX6) (T := TX6) (N := 6) (ci := 5) h0.2 4 (tE5 h0.1) in_X6_letTimersRunOut_X6 rfl (by decide) mw_X6_letTimersRunOut_4 rfl rfl dX6_letTimersRunOut_25 ?_
        refine z_icmp_ne (tgt := 66) C dX6_letTimersRunOut_28 (by decide) (fun c26 => ?_) (fun c26 => ?_)
        · have hw := hw.1 c26
          obtain ⟨x27, ex27⟩ : ∃ z : Int32, z = x22 + 1 := ⟨_, rfl⟩
          have hw := hw x27 ex27
          refine z_iinc C 2 x27 [(1, .int x27), (2, .ref (w.1 (((i0 + 2) + 73 + 5 * (Int32.toNatClampNeg x22)) + 1))), (0, .ref (w.1 i0))] dX6_letTimersRunOut_66 (by rfl) (by rw [ex27]; rfl) (by decide) rfl ?_
          refine z_goto (tgt := 2) C dX6_letTimersRunOut_69 (by decide) ?_
          refine z_sub [2, 0] [(0, .ref (w.1 i0)), (1, .int x27)] rfl ?_
          exact ih23 τ21 x27 (Nat.lt_of_lt_of_le hw.2 (Nat.le_of_lt_succ hlt23)) hw.1
        · have hw := hw.2 c26
          refine z_aload_n C 0 (by rfl) dX6_letTimersRunOut_31 ?_
          refine z_aload_n C 1 (by rfl) dX6_letTimersRunOut_32 ?_
          refine z_get C (Cn := RX6) (T := TX6) (N := 6) (ci := 5) h0.2 4 (tE5 h0.1) in_X6_letTimersRunOut_X6 rfl (by decide) mw_X6_letTimersRunOut_4 rfl rfl dX6_letTimersRunOut_33 ?_
          exact hw.elim
  refine z_sub [1, 0] [(0, .ref (w.1 i0)), (1, .int 0)] rfl ?_
  exact lp23 _ τ 0 (Nat.lt_succ_self _) hI23
def wp_X6_letCallersSend (τ : TS) (i0 : Nat) (K : TS → Prop) : Prop :=
  ∃ (I23 : TS → Int32 → Prop) (u23 : TS → Int32 → Nat), I23 τ 0 ∧ ∀ (τ21 : TS) (x22 : Int32), I23 τ21 x22 → ((((τ21 i0 3) ≤ x22) → (K τ21)) ∧ ((¬ (τ21 i0 3) ≤ x22) → (vp_in x22 6 ∧ (∃ (I28 : TS → Int32 → Prop) (u28 : TS → Int32 → Nat), I28 τ21 0 ∧ ∀ (τ26 : TS) (x27 : Int32), I28 τ26 x27 → (((201 ≤ x27) → (∀ x30 : Int32, x30 = x22 + 1 → I23 τ26 x30 ∧ u23 τ26 x30 < u23 τ21 x22)) ∧ ((¬ 201 ≤ x27) → False))))))
theorem mw_X6_letCallersSend_0 : Cond.fieldLink RX6 29 "TidePost$Traffic" "made" "I" ∈ wsX6_letCallersSend := List.mem_of_getElem? (i := 1) rfl
theorem mw_X6_letCallersSend_1 : Cond.fieldLink RX6 19 "TidePost$Traffic" "all" "[LTidePost$Connection;" ∈ wsX6_letCallersSend := List.mem_of_getElem? (i := 2) rfl
theorem mw_X6_letCallersSend_2 : Cond.fieldLink RX6 48 "TidePost$Connection" "caller" "LTidePost$Caller;" ∈ wsX6_letCallersSend := List.mem_of_getElem? (i := 3) rfl
theorem in_X6_letCallersSend_X6 : ∀ x ∈ wsX60, x ∈ wsX6_letCallersSend := fun _ h => List.mem_cons_of_mem _ (List.mem_append_left _ (List.mem_append_left _ (List.mem_append_left _ (List.mem_append_left _ (List.mem_append_left _ (List.mem_append_right _ h))))))
theorem in_X6_letCallersSend_X2 : ∀ x ∈ wsX20, x ∈ wsX6_letCallersSend := fun _ h => List.mem_cons_of_mem _ (List.mem_append_left _ (List.mem_append_left _ (List.mem_append_left _ (List.mem_append_left _ (List.mem_append_right _ h)))))
set_option maxHeartbeats 4000000 in
set_option maxRecDepth 100000 in
theorem c_X6_letCallersSend (w : WPar) (τ : TS) (i0 : Nat) (K : TS → Prop) (h0 : tp_is w i0 5) (hw : wp_X6_letCallersSend τ i0 K) : MV w yX6_letCallersSend wsX6_letCallersSend 0 0 [.ref (w.1 i0)] τ K := by
  refine tp_enterV (cc := cX6_letCallersSend) (maxL := 4) (own := RX6) (by decide) rfl rfl (Nat.le_of_ble_eq_true rfl) (fun g C hR => ?_)
  show Zt w g τ (0, 0) 0 [(0, .ref (w.1 i0))] []
  unfold wp_X6_letCallersSend at hw
  refine z_iconst C 0 (by decide) dX6_letCallersSend_0 ?_
  refine z_istore_n C [(1, .int 0), (0, .ref (w.1 i0))] dX6_letCallersSend_1 (by decide) rfl ?_
  obtain ⟨I23, u23, hI23, hs23⟩ := hw
  have lp23 : ∀ (n23 : Nat) (τ21 : TS) (x22 : Int32), u23 τ21 x22 < n23 → I23 τ21 x22 → Zt w g τ21 (0, 0) 2 [(0, .ref (w.1 i0)), (1, .int x22)] [] := by
    intro n23
    induction n23 with
    | zero => intro τ21 x22 hlt23; exact absurd hlt23 (Nat.not_lt_zero _)
    | succ n23 ih23 =>
      intro τ21 x22 hlt23 hh23
      have hw := hs23 τ21 x22 hh23
      refine z_iload_n C 1 (by rfl) dX6_letCallersSend_2 ?_
      refine z_aload_n C 0 (by rfl) dX6_letCallersSend_3 ?_
      refine z_get C (Cn := RX6) (T := TX6) (N := 6) (ci := 5) h0.2 3 (tE5 h0.1) in_X6_letCallersSend_X6 rfl (by decide) mw_X6_letCallersSend_0 rfl rfl dX6_letCallersSend_4 ?_
      refine z_icmp_ge (tgt := 65) C dX6_letCallersSend_7 (by decide) (fun c24 => ?_) (fun c24 => ?_)
      · have hw := hw.1 c24
        exact hR _ _ _ dX6_letCallersSend_65 hw
      · have hw := hw.2 c24
        refine z_aload_n C 0 (by rfl) dX6_letCallersSend_10 ?_
        refine z_get C (Cn := RX6) (T := TX6) (N := 6) (ci := 5) h0.2 2 (tE5 h0.1) in_X6_letCallersSend_X6 rfl (by decide) mw_X6_letCallersSend_1 rfl rfl dX6_letCallersSend_11 ?_
        refine z_iload_n C 1 (by rfl) dX6_letCallersSend_14 ?_
        obtain ⟨s25, hw⟩ := hw
        refine z_aald_q3 C (tR5_2 h0).2 (tE16 (tR5_2 h0).1) s25 (if_pos (tp_lt s25)) dX6_letCallersSend_15 ?_
        refine z_get C (Cn := RX2) (T := TX2) (N := 4) (ci := 2) (tR16 (tR5_2 h0) (tp_lt s25)).2 2 (tE2 (tR16 (tR5_2 h0) (tp_lt s25)).1) in_X6_letCallersSend_X2 rfl (by decide) mw_X6_letCallersSend_2 rfl rfl dX6_letCallersSend_16 ?_
        refine z_astore_n C [(2, .ref (w.1 (((i0 + 2) + 73 + 5 * (Int32.toNatClampNeg x22)) + 1))), (0, .ref (w.1 i0)), (1, .int x22)] dX6_letCallersSend_19 (by decide) rfl ?_
        refine z_iconst C 0 (by decide) dX6_letCallersSend_20 ?_
        refine z_istore_n C [(3, .int 0), (2, .ref (w.1 (((i0 + 2) + 73 + 5 * (Int32.toNatClampNeg x22)) + 1))), (0, .ref (w.1 i0)), (1, .int x22)] dX6_letCallersSend_21 (by decide) rfl ?_
        obtain ⟨I28, u28, hI28, hs28⟩ := hw
        have lp28 : ∀ (n28 : Nat) (τ26 : TS) (x27 : Int32), u28 τ26 x27 < n28 → I28 τ26 x27 → Zt w g τ26 (0, 0) 22 [(0, .ref (w.1 i0)), (1, .int x22), (2, .ref (w.1 (((i0 + 2) + 73 + 5 * (Int32.toNatClampNeg x22)) + 1))), (3, .int x27)] [] := by
          intro n28
          induction n28 with
          | zero => intro τ26 x27 hlt28; exact absurd hlt28 (Nat.not_lt_zero _)
          | succ n28 ih28 =>
            intro τ26 x27 hlt28 hh28
            have hw := hs28 τ26 x27 hh28
            refine z_iload_n C 3 (by rfl) dX6_letCallersSend_22 ?_
            refine z_sipush C 201 (by decide) dX6_letCallersSend_23 ?_
            refine z_icmp_ge (tgt := 59) C dX6_letCallersSend_26 (by decide) (fun c29 => ?_) (fun c29 => ?_)
            · have hw := hw.1 c29
              obtain ⟨x30, ex30⟩ : ∃ z : Int32, z = x22 + 1 := ⟨_, rfl⟩
              have hw := hw x30 ex30
              refine z_iinc C 1 x30 [(1, .int x30), (0, .ref (w.1 i0)), (2, .ref (w.1 (((i0 + 2) + 73 + 5 * (Int32.toNatClampNeg x22)) + 1))), (3, .int x27)] dX6_letCallersSend_59 (by rfl) (by rw [ex30]; rfl) (by decide) rfl ?_
              refine z_goto (tgt := 2) C dX6_letCallersSend_62 (by decide) ?_
              refine z_sub [1, 0] [(0, .ref (w.1 i0)), (1, .int x30)] rfl ?_
              exact ih23 τ26 x30 (Nat.lt_of_lt_of_le hw.2 (Nat.le_of_lt_succ hlt23)) hw.1
            · have hw := hw.2 c29
              refine z_aload_n C 2 (by rfl) dX6_letCallersSend_29 ?_
              exact hw.elim
        refine z_sub [2, 3, 1, 0] [(0, .ref (w.1 i0)), (1, .int x22), (2, .ref (w.1 (((i0 + 2) + 73 + 5 * (Int32.toNatClampNeg x22)) + 1))), (3, .int 0)] rfl ?_
        exact lp28 _ τ21 0 (Nat.lt_succ_self _) hI28
  refine z_sub [1, 0] [(0, .ref (w.1 i0)), (1, .int 0)] rfl ?_
  exact lp23 _ τ 0 (Nat.lt_succ_self _) hI23
def wp_X6_letTakeOff (τ : TS) (i0 : Nat) (K : TS → Prop) : Prop :=
  ∃ (I23 : TS → Int32 → Prop) (u23 : TS → Int32 → Nat), I23 τ 0 ∧ ∀ (τ21 : TS) (x22 : Int32), I23 τ21 x22 → ((((τ21 1 1) ≤ x22) → (K τ21)) ∧ ((¬ (τ21 1 1) ≤ x22) → (vp_in x22 12 ∧ ((((τ21 6 (Int32.toNatClampNeg x22)) = 0) → (∀ x27 : Int32, x27 = x22 + 1 → I23 τ21 x27 ∧ u23 τ21 x27 < u23 τ21 x22)) ∧ ((¬ (τ21 6 (Int32.toNatClampNeg x22)) = 0) → (vp_in x22 12 ∧ (∀ x29 : Int32, x29 = ((τ21 i0 4) + (τ21 4 (Int32.toNatClampNeg x22))) → vp_in (2 * x22) 24 ∧ (False))))))))
theorem mw_X6_letTakeOff_0 : Cond.fieldLink RX6 23 "TidePost$Traffic" "net" "LTidePost$Net;" ∈ wsX6_letTakeOff := List.mem_of_getElem? (i := 1) rfl
theorem mw_X6_letTakeOff_1 : Cond.fieldLink RX6 84 "TidePost$Net" "links" "I" ∈ wsX6_letTakeOff := List.mem_of_getElem? (i := 2) rfl
theorem mw_X6_letTakeOff_2 : Cond.fieldLink RX6 158 "TidePost$Net" "up" "[Z" ∈ wsX6_letTakeOff := List.mem_of_getElem? (i := 3) rfl
theorem mw_X6_letTakeOff_3 : Cond.fieldLink RX6 52 "TidePost$Traffic" "clock" "I" ∈ wsX6_letTakeOff := List.mem_of_getElem? (i := 4) rfl
theorem mw_X6_letTakeOff_4 : Cond.fieldLink RX6 162 "TidePost$Net" "delays" "[I" ∈ wsX6_letTakeOff := List.mem_of_getElem? (i := 5) rfl
theorem mw_X6_letTakeOff_5 : Cond.fieldLink RX6 69 "TidePost$Traffic" "lost" "I" ∈ wsX6_letTakeOff := List.mem_of_getElem? (i := 6) rfl
theorem mw_X6_letTakeOff_6 : Cond.fieldLink RX6 11 "TidePost$Traffic" "ways" "[LTidePost$Way;" ∈ wsX6_letTakeOff := List.mem_of_getElem? (i := 7) rfl
theorem in_X6_letTakeOff_X6 : ∀ x ∈ wsX60, x ∈ wsX6_letTakeOff := fun _ h => List.mem_cons_of_mem _ (List.mem_append_left _ (List.mem_append_left _ (List.mem_append_right _ h)))
theorem in_X6_letTakeOff_X3 : ∀ x ∈ wsX30, x ∈ wsX6_letTakeOff := fun _ h => List.mem_cons_of_mem _ (List.mem_append_left _ (List.mem_append_right _ h))
set_option maxHeartbeats 4000000 in
set_option maxRecDepth 100000 in
theorem c_X6_letTakeOff (w : WPar) (τ : TS) (i0 : Nat) (K : TS → Prop) (h0 : tp_is w i0 5) (hw : wp_X6_letTakeOff τ i0 K) : MV w yX6_letTakeOff wsX6_letTakeOff 0 0 [.ref (w.1 i0)] τ K := by
  refine tp_enterV (cc := cX6_letTakeOff) (maxL := 3) (own := RX6) (by decide) rfl rfl (Nat.le_of_ble_eq_true rfl) (fun g C hR => ?_)
  show Zt w g τ (0, 0) 0 [(0, .ref (w.1 i0))] []
  unfold wp_X6_letTakeOff at hw
  refine z_iconst C 0 (by decide) dX6_letTakeOff_0 ?_
  refine z_istore_n C [(1, .int 0), (0, .ref (w.1 i0))] dX6_letTakeOff_1 (by decide) rfl ?_
  obtain ⟨I23, u23, hI23, hs23⟩ := hw
  have lp23 : ∀ (n23 : Nat) (τ21 : TS) (x22 : Int32), u23 τ21 x22 < n23 → I23 τ21 x22 → Zt w g τ21 (0, 0) 2 [(0, .ref (w.1 i0)), (1, .int x22)] [] := by
    intro n23
    induction n23 with
    | zero => intro τ21 x22 hlt23; exact absurd hlt23 (Nat.not_lt_zero _)
    | succ n23 ih23 =>
      intro τ21 x22 hlt23 hh23
      have hw := hs23 τ21 x22 hh23
      refine z_iload_n C 1 (by rfl) dX6_letTakeOff_2 ?_
      refine z_aload_n C 0 (by rfl) dX6_letTakeOff_3 ?_
      refine z_get C (Cn := RX6) (T := TX6) (N := 6) (ci := 5) h0.2 0 (tE5 h0.1) in_X6_letTakeOff_X6 rfl (by decide) mw_X6_letTakeOff_0 rfl rfl dX6_letTakeOff_4 ?_
      refine z_get C (Cn := RX3) (T := TX3) (N := 9) (ci := 3) (tR5_0 h0).2 1 (tE3 (tR5_0 h0).1) in_X6_letTakeOff_X3 rfl (by decide) mw_X6_letTakeOff_1 rfl rfl dX6_letTakeOff_7 ?_
      refine z_icmp_ge (tgt := 106) C dX6_letTakeOff_10 (by decide) (fun c24 => ?_) (fun c24 => ?_)
      · have hw := hw.1 c24
        exact hR _ _ _ dX6_letTakeOff_106 hw
      · have hw := hw.2 c24
        refine z_aload_n C 0 (by rfl) dX6_letTakeOff_13 ?_
        refine z_get C (Cn := RX6) (T := TX6) (N := 6) (ci := 5) h0.2 0 (tE5 h0.1) in_X6_letTakeOff_X6 rfl (by decide) mw_X6_letTakeOff_0 rfl rfl dX6_letTakeOff_14 ?_
        refine z_get C (Cn := RX3) (T := TX3) (N := 9) (ci := 3) (tR5_0 h0).2 6 (tE3 (tR5_0 h0).1) in_X6_letTakeOff_X3 rfl (by decide) mw_X6_letTakeOff_2 rfl rfl dX6_letTakeOff_17 ?_
        refine z_iload_n C 1 (by rfl) dX6_letTakeOff_20 ?_
        obtain ⟨s25, hw⟩ := hw
        refine z_zald C (tR3_6 (tR5_0 h0)).2 (tE12 (tR3_6 (tR5_0 h0)).1) s25 dX6_letTakeOff_21 ?_
        refine z_if_eq (tgt := 100) C dX6_letTakeOff_22 (by decide) (fun c26 => ?_) (fun c26 => ?_)
        · have hw := hw.1 c26
          obtain ⟨x27, ex27⟩ : ∃ z : Int32, z = x22 + 1 := ⟨_, rfl⟩
          have hw := hw x27 ex27
          refine z_iinc C 1 x27 [(1, .int x27), (0, .ref (w.1 i0))] dX6_letTakeOff_100 (by rfl) (by rw [ex27]; rfl) (by decide) rfl ?_
          refine z_goto (tgt := 2) C dX6_letTakeOff_103 (by decide) ?_
          refine z_sub [1, 0] [(0, .ref (w.1 i0)), (1, .int x27)] rfl ?_
          exact ih23 τ21 x27 (Nat.lt_of_lt_of_le hw.2 (Nat.le_of_lt_succ hlt23)) hw.1
        · have hw := hw.2 c26
          refine z_aload_n C 0 (by rfl) dX6_letTakeOff_25 ?_
          refine z_get C (Cn := RX6) (T := TX6) (N := 6) (ci := 5) h0.2 4 (tE5 h0.1) in_X6_letTakeOff_X6 rfl (by decide) mw_X6_letTakeOff_3 rfl rfl dX6_letTakeOff_26 ?_
          refine z_aload_n C 0 (by rfl) dX6_letTakeOff_29 ?_
          refine z_get C (Cn := RX6) (T := TX6) (N := 6) (ci := 5) h0.2 0 (tE5 h0.1) in_X6_letTakeOff_X6 rfl (by decide) mw_X6_letTakeOff_0 rfl rfl dX6_letTakeOff_30 ?_
          refine z_get C (Cn := RX3) (T := TX3) (N := 9) (ci := 3) (tR5_0 h0).2 4 (tE3 (tR5_0 h0).1) in_X6_letTakeOff_X3 rfl (by decide) mw_X6_letTakeOff_4 rfl rfl dX6_letTakeOff_33 ?_
          refine z_iload_n C 1 (by rfl) dX6_letTakeOff_36 ?_
          obtain ⟨s28, hw⟩ := hw
          refine z_iald C (tR3_4 (tR5_0 h0)).2 (tE11 (tR3_4 (tR5_0 h0)).1) s28 dX6_letTakeOff_37 ?_
          refine z_iadd C dX6_letTakeOff_38 ?_
          refine z_top (fun x29 ex29 => ?_)
          have hw := hw x29 ex29
          refine z_istore_n C [(2, .int x29), (0, .ref (w.1 i0)), (1, .int x22)] dX6_letTakeOff_39 (by decide) rfl ?_
          refine z_aload_n C 1 (by rfl) dX6_letTakeOff_40 ?_
          refine z_dup C rfl dX6_letTakeOff_41 ?_
          refine z_get C (Cn := RX6) (T := TX6) (N := 6) (ci := 5) h0.2 5 (tE5 h0.1) in_X6_letTakeOff_X6 rfl (by decide) mw_X6_letTakeOff_5 rfl rfl dX6_letTakeOff_42 ?_
          refine z_aload_n C 1 (by rfl) dX6_letTakeOff_45 ?_
          refine z_get C (Cn := RX6) (T := TX6) (N := 6) (ci := 5) h0.2 1 (tE5 h0.1) in_X6_letTakeOff_X6 rfl (by decide) mw_X6_letTakeOff_6 rfl rfl dX6_letTakeOff_46 ?_
          refine z_iconst C 2 (by decide) dX6_letTakeOff_49 ?_
          refine z_iload_n C 2 (by rfl) dX6_letTakeOff_50 ?_
          refine z_imul C dX6_letTakeOff_51 ?_
          obtain ⟨s30, hw⟩ := hw
          refine z_aald_q2 C (tR5_1 h0).2 (tE15 (tR5_1 h0).1) s30 (if_pos (tp_lt s30)) dX6_letTakeOff_52 ?_
          refine z_iload_n C 0 (by rfl) dX6_letTakeOff_53 ?_
          exact hw.elim
  refine z_sub [1, 0] [(0, .ref (w.1 i0)), (1, .int 0)] rfl ?_
  exact lp23 _ τ 0 (Nat.lt_succ_self _) hI23
def wp_X6_tick (τ : TS) (i0 : Nat) (K : TS → Prop) : Prop :=
  ∀ τ21 : TS, τ21 = tp_up τ i0 4 ((τ i0 4) + 1) → wp_X6_letArrive τ21 i0 (fun τ22 => wp_X6_letTimersRunOut τ22 i0 (fun τ23 => wp_X6_letCallersSend τ23 i0 (fun τ24 => wp_X6_letTakeOff τ24 i0 (fun τ25 => K τ25))))
theorem mw_X6_tick_0 : Cond.fieldLink RX6 52 "TidePost$Traffic" "clock" "I" ∈ wsX6_tick := List.mem_of_getElem? (i := 1) rfl
theorem in_X6_tick_X6 : ∀ x ∈ wsX60, x ∈ wsX6_tick := fun _ h => List.mem_cons_of_mem _ (List.mem_append_left _ (List.mem_append_left _ (List.mem_append_left _ (List.mem_append_left _ (List.mem_append_left _ (List.mem_append_left _ (List.mem_append_right _ h)))))))
set_option maxHeartbeats 4000000 in
set_option maxRecDepth 100000 in
theorem c_X6_tick (w : WPar) (τ : TS) (i0 : Nat) (K : TS → Prop) (h0 : tp_is w i0 5) (hw : wp_X6_tick τ i0 K) : MV w yX6_tick wsX6_tick 1 23 [.ref (w.1 i0)] τ K := by
  refine tp_enterV (cc := cX6_tick) (maxL := 1) (own := RX6) (by decide) rfl rfl (Nat.le_of_ble_eq_true rfl) (fun g C hR => ?_)
  show Zt w g τ (0, 0) 0 [(0, .ref (w.1 i0))] []
  unfold wp_X6_tick at hw
  refine z_aload_n C 0 (by rfl) dX6_tick_0 ?_
  refine z_dup C rfl dX6_tick_1 ?_
  refine z_get C (Cn := RX6) (T := TX6) (N := 6) (ci := 5) h0.2 4 (tE5 h0.1) in_X6_tick_X6 rfl (by decide) mw_X6_tick_0 rfl rfl dX6_tick_2 ?_
  refine z_iconst C 1 (by decide) dX6_tick_5 ?_
  refine z_iadd C dX6_tick_6 ?_
  refine z_put C (Cn := RX6) (T := TX6) (N := 6) (ci := 5) h0.2 4 (tE5 h0.1) (tS5_4 h0.1 _) in_X6_tick_X6 tyX6 tyX6_ok nmX6 rfl (by decide) mw_X6_tick_0 rfl rfl (tyX6_ok 4 (by decide)) rfl rfl (Nat.le_of_ble_eq_true rfl) dX6_tick_7 (fun τ21 eτ21 => ?_)
  have hw := hw τ21 eτ21
  refine z_aload_n C 0 (by rfl) dX6_tick_10 ?_
  refine zv_v C (As := []) (bytes := cX6_letArrive) (maxL := 4) (F1 := 0) (L1 := 0) (c_X6_letArrive w _ i0 _ h0 hw) h0.2 (tE5 h0.1) rfl 0 gX6_tick_X6_letArrive rfl (by decide +kernel) ⟨Nat.le_of_ble_eq_true rfl, Nat.le_of_ble_eq_true rfl⟩ rfl (Nat.le_of_ble_eq_true rfl) ⟨Nat.le_of_ble_eq_true rfl, Nat.le_of_ble_eq_true rfl⟩ rfl dX6_tick_11 (fun τ22 hw => ?_)
  refine z_aload_n C 0 (by rfl) dX6_tick_14 ?_
  refine zv_v C (As := []) (bytes := cX6_letTimersRunOut) (maxL := 3) (F1 := 0) (L1 := 0) (c_X6_letTimersRunOut w _ i0 _ h0 hw) h0.2 (tE5 h0.1) rfl 0 gX6_tick_X6_letTimersRunOut rfl (by decide +kernel) ⟨Nat.le_of_ble_eq_true rfl, Nat.le_of_ble_eq_true rfl⟩ rfl (Nat.le_of_ble_eq_true rfl) ⟨Nat.le_of_ble_eq_true rfl, Nat.le_of_ble_eq_true rfl⟩ rfl dX6_tick_15 (fun τ23 hw => ?_)
  refine z_aload_n C 0 (by rfl) dX6_tick_18 ?_
  refine zv_v C (As := []) (bytes := cX6_letCallersSend) (maxL := 4) (F1 := 0) (L1 := 0) (c_X6_letCallersSend w _ i0 _ h0 hw) h0.2 (tE5 h0.1) rfl 0 gX6_tick_X6_letCallersSend rfl (by decide +kernel) ⟨Nat.le_of_ble_eq_true rfl, Nat.le_of_ble_eq_true rfl⟩ rfl (Nat.le_of_ble_eq_true rfl) ⟨Nat.le_of_ble_eq_true rfl, Nat.le_of_ble_eq_true rfl⟩ rfl dX6_tick_19 (fun τ24 hw => ?_)
  refine z_aload_n C 0 (by rfl) dX6_tick_22 ?_
  refine zv_v C (As := []) (bytes := cX6_letTakeOff) (maxL := 3) (F1 := 0) (L1 := 0) (c_X6_letTakeOff w _ i0 _ h0 hw) h0.2 (tE5 h0.1) rfl 0 gX6_tick_X6_letTakeOff rfl (by decide +kernel) ⟨Nat.le_of_ble_eq_true rfl, Nat.le_of_ble_eq_true rfl⟩ rfl (Nat.le_of_ble_eq_true rfl) ⟨Nat.le_of_ble_eq_true rfl, Nat.le_of_ble_eq_true rfl⟩ rfl dX6_tick_23 (fun τ25 hw => ?_)
  exact hR _ _ _ dX6_tick_26 hw
def wp_X6_copyFrom (τ : TS) (i0 : Nat) (j1 : Nat) (K : TS → Prop) : Prop :=
  ∃ (I23 : TS → Int32 → Prop) (u23 : TS → Int32 → Nat), I23 τ 0 ∧ ∀ (τ21 : TS) (x22 : Int32), I23 τ21 x22 → ((((2 * (τ21 1 1)) ≤ x22) → (∃ (I27 : TS → Int32 → Prop) (u27 : TS → Int32 → Nat), I27 τ21 0 ∧ ∀ (τ25 : TS) (x26 : Int32), I27 τ25 x26 → ((((τ25 j1 3) ≤ x26) → (∀ τ29 : TS, τ29 = tp_up τ25 i0 3 (τ25 j1 3) → ∀ τ30 : TS, τ30 = tp_up τ29 i0 4 (τ29 j1 4) → ∀ τ31 : TS, τ31 = tp_up τ30 i0 5 (τ30 j1 5) → K τ31)) ∧ ((¬ (τ25 j1 3) ≤ x26) → (vp_in x26 6 ∧ (vp_in x26 6 ∧ (False))))))) ∧ ((¬ (2 * (τ21 1 1)) ≤ x22) → (vp_in x22 24 ∧ (vp_in x22 24 ∧ (False)))))
theorem mw_X6_copyFrom_0 : Cond.fieldLink RX6 23 "TidePost$Traffic" "net" "LTidePost$Net;" ∈ wsX6_copyFrom := List.mem_of_getElem? (i := 1) rfl
theorem mw_X6_copyFrom_1 : Cond.fieldLink RX6 84 "TidePost$Net" "links" "I" ∈ wsX6_copyFrom := List.mem_of_getElem? (i := 2) rfl
theorem mw_X6_copyFrom_3 : Cond.fieldLink RX6 29 "TidePost$Traffic" "made" "I" ∈ wsX6_copyFrom := List.mem_of_getElem? (i := 4) rfl
theorem mw_X6_copyFrom_5 : Cond.fieldLink RX6 52 "TidePost$Traffic" "clock" "I" ∈ wsX6_copyFrom := List.mem_of_getElem? (i := 6) rfl
theorem mw_X6_copyFrom_6 : Cond.fieldLink RX6 69 "TidePost$Traffic" "lost" "I" ∈ wsX6_copyFrom := List.mem_of_getElem? (i := 7) rfl
theorem mw_X6_copyFrom_4 : Cond.fieldLink RX6 19 "TidePost$Traffic" "all" "[LTidePost$Connection;" ∈ wsX6_copyFrom := List.mem_of_getElem? (i := 5) rfl
theorem mw_X6_copyFrom_2 : Cond.fieldLink RX6 11 "TidePost$Traffic" "ways" "[LTidePost$Way;" ∈ wsX6_copyFrom := List.mem_of_getElem? (i := 3) rfl
theorem in_X6_copyFrom_X6 : ∀ x ∈ wsX60, x ∈ wsX6_copyFrom := fun _ h => List.mem_cons_of_mem _ (List.mem_append_left _ (List.mem_append_left _ (List.mem_append_left _ (List.mem_append_left _ (List.mem_append_left _ (List.mem_append_left _ (List.mem_append_right _ h)))))))
theorem in_X6_copyFrom_X3 : ∀ x ∈ wsX30, x ∈ wsX6_copyFrom := fun _ h => List.mem_cons_of_mem _ (List.mem_append_left _ (List.mem_append_left _ (List.mem_append_left _ (List.mem_append_left _ (List.mem_append_left _ (List.mem_append_right _ h))))))
set_option maxHeartbeats 4000000 in
set_option maxRecDepth 100000 in
theorem c_X6_copyFrom (w : WPar) (τ : TS) (i0 : Nat) (j1 : Nat) (K : TS → Prop) (h0 : tp_is w i0 5) (h1 : tp_is w j1 5) (hw : wp_X6_copyFrom τ i0 j1 K) : MV w yX6_copyFrom wsX6_copyFrom 0 0 [.ref (w.1 i0), .ref (w.1 j1)] τ K := by
  refine tp_enterV (cc := cX6_copyFrom) (maxL := 3) (own := RX6) (by decide) rfl rfl (Nat.le_of_ble_eq_true rfl) (fun g C hR => ?_)
  show Zt w g τ (0, 0) 0 [(0, .ref (w.1 i0)), (1, .ref (w.1 j1))] []
  unfold wp_X6_copyFrom at hw
  refine z_iconst C 0 (by decide) dX6_copyFrom_0 ?_
  refine z_istore_n C [(2, .int 0), (0, .ref (w.1 i0)), (1, .ref (w.1 j1))] dX6_copyFrom_1 (by decide) rfl ?_
  obtain ⟨I23, u23, hI23, hs23⟩ := hw
  have lp23 : ∀ (n23 : Nat) (τ21 : TS) (x22 : Int32), u23 τ21 x22 < n23 → I23 τ21 x22 → Zt w g τ21 (0, 0) 2 [(0, .ref (w.1 i0)), (1, .ref (w.1 j1)), (2, .int x22)] [] := by
    intro n23
    induction n23 with
    | zero => intro τ21 x22 hlt23; exact absurd hlt23 (Nat.not_lt_zero _)
    | succ n23 ih23 =>
      intro τ21 x22 hlt23 hh23
      have hw := hs23 τ21 x22 hh23
      refine z_iload_n C 2 (by rfl) dX6_copyFrom_2 ?_
      refine z_iconst C 2 (by decide) dX6_copyFrom_3 ?_
      refine z_aload_n C 0 (by rfl) dX6_copyFrom_4 ?_
      refine z_get C (Cn := RX6) (T := TX6) (N := 6) (ci := 5) h0.2 0 (tE5 h0.1) in_X6_copyFrom_X6 rfl (by decide) mw_X6_copyFrom_0 rfl rfl dX6_copyFrom_5 ?_
      refine z_get C (Cn := RX3) (T := TX3) (N := 9) (ci := 3) (tR5_0 h0).2 1 (tE3 (tR5_0 h0).1) in_X6_copyFrom_X3 rfl (by decide) mw_X6_copyFrom_1 rfl rfl dX6_copyFrom_8 ?_
      refine z_imul C dX6_copyFrom_11 ?_
      refine z_icmp_ge (tgt := 36) C dX6_copyFrom_12 (by decide) (fun c24 => ?_) (fun c24 => ?_)
      · have hw := hw.1 c24
        refine z_iconst C 0 (by decide) dX6_copyFrom_36 ?_
        refine z_istore_n C [(2, .int 0), (0, .ref (w.1 i0)), (1, .ref (w.1 j1))] dX6_copyFrom_37 (by decide) rfl ?_
        obtain ⟨I27, u27, hI27, hs27⟩ := hw
        have lp27 : ∀ (n27 : Nat) (τ25 : TS) (x26 : Int32), u27 τ25 x26 < n27 → I27 τ25 x26 → Zt w g τ25 (0, 0) 38 [(0, .ref (w.1 i0)), (1, .ref (w.1 j1)), (2, .int x26)] [] := by
          intro n27
          induction n27 with
          | zero => intro τ25 x26 hlt27; exact absurd hlt27 (Nat.not_lt_zero _)
          | succ n27 ih27 =>
            intro τ25 x26 hlt27 hh27
            have hw := hs27 τ25 x26 hh27
            refine z_iload_n C 2 (by rfl) dX6_copyFrom_38 ?_
            refine z_aload_n C 1 (by rfl) dX6_copyFrom_39 ?_
            refine z_get C (Cn := RX6) (T := TX6) (N := 6) (ci := 5) h1.2 3 (tE5 h1.1) in_X6_copyFrom_X6 rfl (by decide) mw_X6_copyFrom_3 rfl rfl dX6_copyFrom_40 ?_
            refine z_icmp_ge (tgt := 67) C dX6_copyFrom_43 (by decide) (fun c28 => ?_) (fun c28 => ?_)
            · have hw := hw.1 c28
              refine z_aload_n C 0 (by rfl) dX6_copyFrom_67 ?_
              refine z_aload_n C 1 (by rfl) dX6_copyFrom_68 ?_
              refine z_get C (Cn := RX6) (T := TX6) (N := 6) (ci := 5) h1.2 3 (tE5 h1.1) in_X6_copyFrom_X6 rfl (by decide) mw_X6_copyFrom_3 rfl rfl dX6_copyFrom_69 ?_
              refine z_put C (Cn := RX6) (T := TX6) (N := 6) (ci := 5) h0.2 3 (tE5 h0.1) (tS5_3 h0.1 _) in_X6_copyFrom_X6 tyX6 tyX6_ok nmX6 rfl (by decide) mw_X6_copyFrom_3 rfl rfl (tyX6_ok 3 (by decide)) rfl rfl (Nat.le_of_ble_eq_true rfl) dX6_copyFrom_72 (fun τ29 eτ29 => ?_)
              have hw := hw τ29 eτ29
              refine z_aload_n C 0 (by rfl) dX6_copyFrom_75 ?_
              refine z_aload_n C 1 (by rfl) dX6_copyFrom_76 ?_
              refine z_get C (Cn := RX6) (T := TX6) (N := 6) (ci := 5) h1.2 4 (tE5 h1.1) in_X6_copyFrom_X6 rfl (by decide) mw_X6_copyFrom_5 rfl rfl dX6_copyFrom_77 ?_
              refine z_put C (Cn := RX6) (T := TX6) (N := 6) (ci := 5) h0.2 4 (tE5 h0.1) (tS5_4 h0.1 _) in_X6_copyFrom_X6 tyX6 tyX6_ok nmX6 rfl (by decide) mw_X6_copyFrom_5 rfl rfl (tyX6_ok 4 (by decide)) rfl rfl (Nat.le_of_ble_eq_true rfl) dX6_copyFrom_80 (fun τ30 eτ30 => ?_)
              have hw := hw τ30 eτ30
              refine z_aload_n C 0 (by rfl) dX6_copyFrom_83 ?_
              refine z_aload_n C 1 (by rfl) dX6_copyFrom_84 ?_
              refine z_get C (Cn := RX6) (T := TX6) (N := 6) (ci := 5) h1.2 5 (tE5 h1.1) in_X6_copyFrom_X6 rfl (by decide) mw_X6_copyFrom_6 rfl rfl dX6_copyFrom_85 ?_
              refine z_put C (Cn := RX6) (T := TX6) (N := 6) (ci := 5) h0.2 5 (tE5 h0.1) (tS5_5 h0.1 _) in_X6_copyFrom_X6 tyX6 tyX6_ok nmX6 rfl (by decide) mw_X6_copyFrom_6 rfl rfl (tyX6_ok 5 (by decide)) rfl rfl (Nat.le_of_ble_eq_true rfl) dX6_copyFrom_88 (fun τ31 eτ31 => ?_)
              have hw := hw τ31 eτ31
              exact hR _ _ _ dX6_copyFrom_91 hw
            · have hw := hw.2 c28
              refine z_aload_n C 0 (by rfl) dX6_copyFrom_46 ?_
              refine z_get C (Cn := RX6) (T := TX6) (N := 6) (ci := 5) h0.2 2 (tE5 h0.1) in_X6_copyFrom_X6 rfl (by decide) mw_X6_copyFrom_4 rfl rfl dX6_copyFrom_47 ?_
              refine z_iload_n C 2 (by rfl) dX6_copyFrom_50 ?_
              obtain ⟨s32, hw⟩ := hw
              refine z_aald_q3 C (tR5_2 h0).2 (tE16 (tR5_2 h0).1) s32 (if_pos (tp_lt s32)) dX6_copyFrom_51 ?_
              refine z_aload_n C 1 (by rfl) dX6_copyFrom_52 ?_
              refine z_get C (Cn := RX6) (T := TX6) (N := 6) (ci := 5) h1.2 2 (tE5 h1.1) in_X6_copyFrom_X6 rfl (by decide) mw_X6_copyFrom_4 rfl rfl dX6_copyFrom_53 ?_
              refine z_iload_n C 2 (by rfl) dX6_copyFrom_56 ?_
              obtain ⟨s33, hw⟩ := hw
              refine z_aald_q3 C (tR5_2 h1).2 (tE16 (tR5_2 h1).1) s33 (if_pos (tp_lt s33)) dX6_copyFrom_57 ?_
              exact hw.elim
        refine z_sub [1, 2, 0] [(0, .ref (w.1 i0)), (1, .ref (w.1 j1)), (2, .int 0)] rfl ?_
        exact lp27 _ τ21 0 (Nat.lt_succ_self _) hI27
      · have hw := hw.2 c24
        refine z_aload_n C 0 (by rfl) dX6_copyFrom_15 ?_
        refine z_get C (Cn := RX6) (T := TX6) (N := 6) (ci := 5) h0.2 1 (tE5 h0.1) in_X6_copyFrom_X6 rfl (by decide) mw_X6_copyFrom_2 rfl rfl dX6_copyFrom_16 ?_
        refine z_iload_n C 2 (by rfl) dX6_copyFrom_19 ?_
        obtain ⟨s34, hw⟩ := hw
        refine z_aald_q2 C (tR5_1 h0).2 (tE15 (tR5_1 h0).1) s34 (if_pos (tp_lt s34)) dX6_copyFrom_20 ?_
        refine z_aload_n C 1 (by rfl) dX6_copyFrom_21 ?_
        refine z_get C (Cn := RX6) (T := TX6) (N := 6) (ci := 5) h1.2 1 (tE5 h1.1) in_X6_copyFrom_X6 rfl (by decide) mw_X6_copyFrom_2 rfl rfl dX6_copyFrom_22 ?_
        refine z_iload_n C 2 (by rfl) dX6_copyFrom_25 ?_
        obtain ⟨s35, hw⟩ := hw
        refine z_aald_q2 C (tR5_1 h1).2 (tE15 (tR5_1 h1).1) s35 (if_pos (tp_lt s35)) dX6_copyFrom_26 ?_
        exact hw.elim
  refine z_sub [1, 2, 0] [(0, .ref (w.1 i0)), (1, .ref (w.1 j1)), (2, .int 0)] rfl ?_
  exact lp23 _ τ 0 (Nat.lt_succ_self _) hI23
