def wp_X3_farEnd (τ : TS) (i0 : Nat) (x1 : Int32) (x2 : Int32) (K : TS → Int32 → Prop) : Prop :=
  vp_in x1 12 ∧ (((¬ (τ 2 (Int32.toNatClampNeg x1)) = x2) → (vp_in x1 12 ∧ (((¬ (τ 3 (Int32.toNatClampNeg x1)) = x2) → (K τ (-1))) ∧ (((τ 3 (Int32.toNatClampNeg x1)) = x2) → (vp_in x1 12 ∧ (K τ (τ 2 (Int32.toNatClampNeg x1)))))))) ∧ (((τ 2 (Int32.toNatClampNeg x1)) = x2) → (vp_in x1 12 ∧ (K τ (τ 3 (Int32.toNatClampNeg x1))))))
theorem mw_X3_farEnd_0 : Cond.fieldLink RX3 9 "TidePost$Net" "firsts" "[I" ∈ wsX3_farEnd := List.mem_of_getElem? (i := 1) rfl
theorem mw_X3_farEnd_1 : Cond.fieldLink RX3 15 "TidePost$Net" "seconds" "[I" ∈ wsX3_farEnd := List.mem_of_getElem? (i := 2) rfl
theorem in_X3_farEnd_X3 : ∀ x ∈ wsX30, x ∈ wsX3_farEnd := fun _ h => List.mem_cons_of_mem _ (List.mem_append_right _ h)
set_option maxHeartbeats 4000000 in
set_option maxRecDepth 100000 in
theorem c_X3_farEnd (w : WPar) (τ : TS) (i0 : Nat) (x1 : Int32) (x2 : Int32) (K : TS → Int32 → Prop) (h0 : tp_is w i0 3) (hw : wp_X3_farEnd τ i0 x1 x2 K) : MI w yX3_farEnd wsX3_farEnd 0 0 [.ref (w.1 i0), .int x1, .int x2] τ K := by
  refine tp_enterI (cc := cX3_farEnd) (maxL := 3) (own := RX3) (by decide) rfl rfl (Nat.le_of_ble_eq_true rfl) (fun g C hR => ?_)
  show Zt w g τ (0, 0) 0 [(0, .ref (w.1 i0)), (1, .int x1), (2, .int x2)] []
  unfold wp_X3_farEnd at hw
  refine z_aload_n C 0 (by rfl) dX3_farEnd_0 ?_
  refine z_get C (Cn := RX3) (T := TX3) (N := 9) (ci := 3) h0.2 2 (tE3 h0.1) in_X3_farEnd_X3 rfl (by decide) mw_X3_farEnd_0 rfl rfl dX3_farEnd_1 ?_
  refine z_iload_n C 1 (by rfl) dX3_farEnd_4 ?_
  obtain ⟨s21, hw⟩ := hw
  refine z_iald C (tR3_2 h0).2 (tE11 (tR3_2 h0).1) s21 dX3_farEnd_5 ?_
  refine z_iload_n C 2 (by rfl) dX3_farEnd_6 ?_
  refine z_icmp_ne (tgt := 17) C dX3_farEnd_7 (by decide) (fun c22 => ?_) (fun c22 => ?_)
  · have hw := hw.1 c22
    refine z_aload_n C 0 (by rfl) dX3_farEnd_17 ?_
    refine z_get C (Cn := RX3) (T := TX3) (N := 9) (ci := 3) h0.2 3 (tE3 h0.1) in_X3_farEnd_X3 rfl (by decide) mw_X3_farEnd_1 rfl rfl dX3_farEnd_18 ?_
    refine z_iload_n C 1 (by rfl) dX3_farEnd_21 ?_
    obtain ⟨s23, hw⟩ := hw
    refine z_iald C (tR3_3 h0).2 (tE11 (tR3_3 h0).1) s23 dX3_farEnd_22 ?_
    refine z_iload_n C 2 (by rfl) dX3_farEnd_23 ?_
    refine z_icmp_ne (tgt := 36) C dX3_farEnd_24 (by decide) (fun c24 => ?_) (fun c24 => ?_)
    · have hw := hw.1 c24
      refine z_iconst C (-1) (by decide) dX3_farEnd_36 ?_
      exact hR _ _ _ _ dX3_farEnd_37 hw
    · have hw := hw.2 c24
      refine z_aload_n C 0 (by rfl) dX3_farEnd_27 ?_
      refine z_get C (Cn := RX3) (T := TX3) (N := 9) (ci := 3) h0.2 2 (tE3 h0.1) in_X3_farEnd_X3 rfl (by decide) mw_X3_farEnd_0 rfl rfl dX3_farEnd_28 ?_
      refine z_iload_n C 1 (by rfl) dX3_farEnd_31 ?_
      obtain ⟨s25, hw⟩ := hw
      refine z_iald C (tR3_2 h0).2 (tE11 (tR3_2 h0).1) s25 dX3_farEnd_32 ?_
      refine z_goto (tgt := 37) C dX3_farEnd_33 (by decide) ?_
      exact hR _ _ _ _ dX3_farEnd_37 hw
  · have hw := hw.2 c22
    refine z_aload_n C 0 (by rfl) dX3_farEnd_10 ?_
    refine z_get C (Cn := RX3) (T := TX3) (N := 9) (ci := 3) h0.2 3 (tE3 h0.1) in_X3_farEnd_X3 rfl (by decide) mw_X3_farEnd_1 rfl rfl dX3_farEnd_11 ?_
    refine z_iload_n C 1 (by rfl) dX3_farEnd_14 ?_
    obtain ⟨s26, hw⟩ := hw
    refine z_iald C (tR3_3 h0).2 (tE11 (tR3_3 h0).1) s26 dX3_farEnd_15 ?_
    exact hR _ _ _ _ dX3_farEnd_16 hw
def wp_X3_joins (τ : TS) (i0 : Nat) (x1 : Int32) (x2 : Int32) (K : TS → Int32 → Prop) : Prop :=
  ∃ (I23 : TS → Int32 → Prop) (u23 : TS → Int32 → Nat), I23 τ 0 ∧ ∀ (τ21 : TS) (x22 : Int32), I23 τ21 x22 → ((((τ21 i0 1) ≤ x22) → (K τ21 0)) ∧ ((¬ (τ21 i0 1) ≤ x22) → (wp_X3_farEnd τ21 i0 x22 x1 (fun τ25 x26 => ((¬ x26 = x2) → (∀ x28 : Int32, x28 = x22 + 1 → I23 τ25 x28 ∧ u23 τ25 x28 < u23 τ21 x22)) ∧ ((x26 = x2) → (K τ25 1))))))
theorem mw_X3_joins_0 : Cond.fieldLink RX3 43 "TidePost$Net" "links" "I" ∈ wsX3_joins := List.mem_of_getElem? (i := 1) rfl
theorem in_X3_joins_X3 : ∀ x ∈ wsX30, x ∈ wsX3_joins := fun _ h => List.mem_cons_of_mem _ (List.mem_append_right _ h)
set_option maxHeartbeats 4000000 in
set_option maxRecDepth 100000 in
theorem c_X3_joins (w : WPar) (τ : TS) (i0 : Nat) (x1 : Int32) (x2 : Int32) (K : TS → Int32 → Prop) (h0 : tp_is w i0 3) (hw : wp_X3_joins τ i0 x1 x2 K) : MI w yX3_joins wsX3_joins 1 22 [.ref (w.1 i0), .int x1, .int x2] τ K := by
  refine tp_enterZ (cc := cX3_joins) (maxL := 4) (own := RX3) (by decide) rfl rfl (Nat.le_of_ble_eq_true rfl) (fun g C hR => ?_)
  show Zt w g τ (0, 0) 0 [(0, .ref (w.1 i0)), (1, .int x1), (2, .int x2)] []
  unfold wp_X3_joins at hw
  refine z_iconst C 0 (by decide) dX3_joins_0 ?_
  refine z_istore_n C [(3, .int 0), (0, .ref (w.1 i0)), (1, .int x1), (2, .int x2)] dX3_joins_1 (by decide) rfl ?_
  obtain ⟨I23, u23, hI23, hs23⟩ := hw
  have lp23 : ∀ (n23 : Nat) (τ21 : TS) (x22 : Int32), u23 τ21 x22 < n23 → I23 τ21 x22 → Zt w g τ21 (0, 0) 2 [(0, .ref (w.1 i0)), (1, .int x1), (2, .int x2), (3, .int x22)] [] := by
    intro n23
    induction n23 with
    | zero => intro τ21 x22 hlt23; exact absurd hlt23 (Nat.not_lt_zero _)
    | succ n23 ih23 =>
      intro τ21 x22 hlt23 hh23
      have hw := hs23 τ21 x22 hh23
      refine z_iload_n C 3 (by rfl) dX3_joins_2 ?_
      refine z_aload_n C 0 (by rfl) dX3_joins_3 ?_
      refine z_get C (Cn := RX3) (T := TX3) (N := 9) (ci := 3) h0.2 1 (tE3 h0.1) in_X3_joins_X3 rfl (by decide) mw_X3_joins_0 rfl rfl dX3_joins_4 ?_
      refine z_icmp_ge (tgt := 28) C dX3_joins_7 (by decide) (fun c24 => ?_) (fun c24 => ?_)
      · have hw := hw.1 c24
        refine z_iconst C 0 (by decide) dX3_joins_28 ?_
        exact hR _ _ _ _ dX3_joins_29 rfl hw
      · have hw := hw.2 c24
        refine z_aload_n C 0 (by rfl) dX3_joins_10 ?_
        refine z_iload_n C 3 (by rfl) dX3_joins_11 ?_
        refine z_iload_n C 1 (by rfl) dX3_joins_12 ?_
        refine zv_i C (As := [.int x22, .int x1]) (bytes := cX3_farEnd) (maxL := 3) (F1 := 0) (L1 := 0) (c_X3_farEnd w _ i0 x22 x1 _ h0 hw) h0.2 (tE3 h0.1) rfl 2 gX3_joins_X3_farEnd rfl (by decide +kernel) ⟨Nat.le_of_ble_eq_true rfl, Nat.le_of_ble_eq_true rfl⟩ rfl (Nat.le_of_ble_eq_true rfl) ⟨Nat.le_of_ble_eq_true rfl, Nat.le_of_ble_eq_true rfl⟩ rfl dX3_joins_13 (fun x26 τ25 hw => ?_)
        refine z_iload_n C 2 (by rfl) dX3_joins_16 ?_
        refine z_icmp_ne (tgt := 22) C dX3_joins_17 (by decide) (fun c27 => ?_) (fun c27 => ?_)
        · have hw := hw.1 c27
          obtain ⟨x28, ex28⟩ : ∃ z : Int32, z = x22 + 1 := ⟨_, rfl⟩
          have hw := hw x28 ex28
          refine z_iinc C 3 x28 [(3, .int x28), (0, .ref (w.1 i0)), (1, .int x1), (2, .int x2)] dX3_joins_22 (by rfl) (by rw [ex28]; rfl) (by decide) rfl ?_
          refine z_goto (tgt := 2) C dX3_joins_25 (by decide) ?_
          refine z_sub [1, 2, 3, 0] [(0, .ref (w.1 i0)), (1, .int x1), (2, .int x2), (3, .int x28)] rfl ?_
          exact ih23 τ25 x28 (Nat.lt_of_lt_of_le hw.2 (Nat.le_of_lt_succ hlt23)) hw.1
        · have hw := hw.2 c27
          refine z_iconst C 1 (by decide) dX3_joins_20 ?_
          exact hR _ _ _ _ dX3_joins_21 rfl hw
  refine z_sub [1, 2, 3, 0] [(0, .ref (w.1 i0)), (1, .int x1), (2, .int x2), (3, .int 0)] rfl ?_
  exact lp23 _ τ 0 (Nat.lt_succ_self _) hI23
def wp_X3_linkTowards (τ : TS) (i0 : Nat) (x1 : Int32) (x2 : Int32) (K : TS → Int32 → Prop) : Prop :=
  vp_in x2 8 ∧ (∃ (I24 : TS → Int32 → Prop) (u24 : TS → Int32 → Nat), I24 τ 0 ∧ ∀ (τ22 : TS) (x23 : Int32), I24 τ22 x23 → ((((τ22 i0 1) ≤ x23) → (K τ22 (-1))) ∧ ((¬ (τ22 i0 1) ≤ x23) → (vp_in x23 12 ∧ (∃ J27 : TS → Int32 → Prop, (∀ (τ28 : TS) (x29 : Int32), J27 τ28 x29 → (((x29 = (-1)) → (∀ x31 : Int32, x31 = x23 + 1 → I24 τ28 x31 ∧ u24 τ28 x31 < u24 τ22 x23)) ∧ ((¬ x29 = (-1)) → (vp_in x29 8 ∧ ((((τ28 (8 + (Int32.toNatClampNeg x2)) (Int32.toNatClampNeg x29)) = (-1)) → (∀ x34 : Int32, x34 = x23 + 1 → I24 τ28 x34 ∧ u24 τ28 x34 < u24 τ22 x23)) ∧ ((¬ (τ28 (8 + (Int32.toNatClampNeg x2)) (Int32.toNatClampNeg x29)) = (-1)) → (vp_in x29 8 ∧ (vp_in x23 12 ∧ (vp_in x1 8 ∧ (((¬ ((τ28 (8 + (Int32.toNatClampNeg x2)) (Int32.toNatClampNeg x29)) + (τ28 4 (Int32.toNatClampNeg x23))) = (τ28 (8 + (Int32.toNatClampNeg x2)) (Int32.toNatClampNeg x1))) → (∀ x39 : Int32, x39 = x23 + 1 → I24 τ28 x39 ∧ u24 τ28 x39 < u24 τ22 x23)) ∧ ((((τ28 (8 + (Int32.toNatClampNeg x2)) (Int32.toNatClampNeg x29)) + (τ28 4 (Int32.toNatClampNeg x23))) = (τ28 (8 + (Int32.toNatClampNeg x2)) (Int32.toNatClampNeg x1))) → (K τ28 x23)))))))))))) ∧ ((((τ22 6 (Int32.toNatClampNeg x23)) = 0) → (J27 τ22 (-1))) ∧ ((¬ (τ22 6 (Int32.toNatClampNeg x23)) = 0) → (wp_X3_farEnd τ22 i0 x23 x1 (fun τ41 x42 => J27 τ41 x42)))))))))
theorem mw_X3_linkTowards_0 : Cond.fieldLink RX3 30 "TidePost$Net" "distances" "[[I" ∈ wsX3_linkTowards := List.mem_of_getElem? (i := 1) rfl
theorem mw_X3_linkTowards_1 : Cond.fieldLink RX3 43 "TidePost$Net" "links" "I" ∈ wsX3_linkTowards := List.mem_of_getElem? (i := 2) rfl
theorem mw_X3_linkTowards_2 : Cond.fieldLink RX3 24 "TidePost$Net" "up" "[Z" ∈ wsX3_linkTowards := List.mem_of_getElem? (i := 3) rfl
theorem mw_X3_linkTowards_3 : Cond.fieldLink RX3 18 "TidePost$Net" "delays" "[I" ∈ wsX3_linkTowards := List.mem_of_getElem? (i := 4) rfl
theorem in_X3_linkTowards_X3 : ∀ x ∈ wsX30, x ∈ wsX3_linkTowards := fun _ h => List.mem_cons_of_mem _ (List.mem_append_right _ h)
set_option maxHeartbeats 4000000 in
set_option maxRecDepth 100000 in
theorem c_X3_linkTowards (w : WPar) (τ : TS) (i0 : Nat) (x1 : Int32) (x2 : Int32) (K : TS → Int32 → Prop) (h0 : tp_is w i0 3) (hw : wp_X3_linkTowards τ i0 x1 x2 K) : MI w yX3_linkTowards wsX3_linkTowards 1 22 [.ref (w.1 i0), .int x1, .int x2] τ K := by
  refine tp_enterI (cc := cX3_linkTowards) (maxL := 6) (own := RX3) (by decide) rfl rfl (Nat.le_of_ble_eq_true rfl) (fun g C hR => ?_)
  show Zt w g τ (0, 0) 0 [(0, .ref (w.1 i0)), (1, .int x1), (2, .int x2)] []
  unfold wp_X3_linkTowards at hw
  refine z_aload_n C 0 (by rfl) dX3_linkTowards_0 ?_
  refine z_get C (Cn := RX3) (T := TX3) (N := 9) (ci := 3) h0.2 7 (tE3 h0.1) in_X3_linkTowards_X3 rfl (by decide) mw_X3_linkTowards_0 rfl rfl dX3_linkTowards_1 ?_
  refine z_iload_n C 2 (by rfl) dX3_linkTowards_4 ?_
  obtain ⟨s21, hw⟩ := hw
  refine z_aald_q4 C (tR3_7 h0).2 (tE14 (tR3_7 h0).1) s21 (if_pos (tp_lt s21)) dX3_linkTowards_5 ?_
  refine z_astore_n C [(3, .ref (w.1 (8 + (Int32.toNatClampNeg x2)))), (0, .ref (w.1 i0)), (1, .int x1), (2, .int x2)] dX3_linkTowards_6 (by decide) rfl ?_
  refine z_iconst C 0 (by decide) dX3_linkTowards_7 ?_
  refine z_istore C [(4, .int 0), (3, .ref (w.1 (8 + (Int32.toNatClampNeg x2)))), (0, .ref (w.1 i0)), (1, .int x1), (2, .int x2)] dX3_linkTowards_8 (by decide) rfl ?_
  obtain ⟨I24, u24, hI24, hs24⟩ := hw
  have lp24 : ∀ (n24 : Nat) (τ22 : TS) (x23 : Int32), u24 τ22 x23 < n24 → I24 τ22 x23 → Zt w g τ22 (0, 0) 10 [(0, .ref (w.1 i0)), (1, .int x1), (3, .ref (w.1 (8 + (Int32.toNatClampNeg x2)))), (4, .int x23)] [] := by
    intro n24
    induction n24 with
    | zero => intro τ22 x23 hlt24; exact absurd hlt24 (Nat.not_lt_zero _)
    | succ n24 ih24 =>
      intro τ22 x23 hlt24 hh24
      have hw := hs24 τ22 x23 hh24
      refine z_iload C 3 (by rfl) dX3_linkTowards_10 ?_
      refine z_aload_n C 0 (by rfl) dX3_linkTowards_12 ?_
      refine z_get C (Cn := RX3) (T := TX3) (N := 9) (ci := 3) h0.2 1 (tE3 h0.1) in_X3_linkTowards_X3 rfl (by decide) mw_X3_linkTowards_1 rfl rfl dX3_linkTowards_13 ?_
      refine z_icmp_ge (tgt := 83) C dX3_linkTowards_16 (by decide) (fun c25 => ?_) (fun c25 => ?_)
      · have hw := hw.1 c25
        refine z_iconst C (-1) (by decide) dX3_linkTowards_83 ?_
        exact hR _ _ _ _ dX3_linkTowards_84 hw
      · have hw := hw.2 c25
        refine z_aload_n C 0 (by rfl) dX3_linkTowards_19 ?_
        refine z_get C (Cn := RX3) (T := TX3) (N := 9) (ci := 3) h0.2 6 (tE3 h0.1) in_X3_linkTowards_X3 rfl (by decide) mw_X3_linkTowards_2 rfl rfl dX3_linkTowards_20 ?_
        refine z_iload C 3 (by rfl) dX3_linkTowards_23 ?_
        obtain ⟨s26, hw⟩ := hw
        refine z_zald C (tR3_6 h0).2 (tE12 (tR3_6 h0).1) s26 dX3_linkTowards_25 ?_
        obtain ⟨J27, hJ27, hw⟩ := hw
        have jn27 : ∀ (τ28 : TS) (x29 : Int32), J27 τ28 x29 → Zt w g τ28 (0, 0) 40 [(0, .ref (w.1 i0)), (1, .int x1), (3, .ref (w.1 (8 + (Int32.toNatClampNeg x2)))), (4, .int x23)] [.int x29] := by
          intro τ28 x29 hj27
          have hw := hJ27 τ28 x29 hj27
          refine z_istore C [(5, .int x29), (0, .ref (w.1 i0)), (1, .int x1), (3, .ref (w.1 (8 + (Int32.toNatClampNeg x2)))), (4, .int x23)] dX3_linkTowards_40 (by decide) rfl ?_
          refine z_iload C 0 (by rfl) dX3_linkTowards_42 ?_
          refine z_iconst C (-1) (by decide) dX3_linkTowards_44 ?_
          refine z_icmp_eq (tgt := 77) C dX3_linkTowards_45 (by decide) (fun c30 => ?_) (fun c30 => ?_)
          · have hw := hw.1 c30
            obtain ⟨x31, ex31⟩ : ∃ z : Int32, z = x23 + 1 := ⟨_, rfl⟩
            have hw := hw x31 ex31
            refine z_iinc C 4 x31 [(4, .int x31), (5, .int x29), (0, .ref (w.1 i0)), (1, .int x1), (3, .ref (w.1 (8 + (Int32.toNatClampNeg x2))))] dX3_linkTowards_77 (by rfl) (by rw [ex31]; rfl) (by decide) rfl ?_
            refine z_goto (tgt := 10) C dX3_linkTowards_80 (by decide) ?_
            refine z_sub [2, 3, 4, 0] [(0, .ref (w.1 i0)), (1, .int x1), (3, .ref (w.1 (8 + (Int32.toNatClampNeg x2)))), (4, .int x31)] rfl ?_
            exact ih24 τ28 x31 (Nat.lt_of_lt_of_le hw.2 (Nat.le_of_lt_succ hlt24)) hw.1
          · have hw := hw.2 c30
            refine z_aload_n C 3 (by rfl) dX3_linkTowards_48 ?_
            refine z_iload C 0 (by rfl) dX3_linkTowards_49 ?_
            obtain ⟨s32, hw⟩ := hw
            refine z_iald C (tR14 (tR3_7 h0) (tp_lt s21)).2 (tE13 (tR14 (tR3_7 h0) (tp_lt s21)).1) s32 dX3_linkTowards_51 ?_
            refine z_iconst C (-1) (by decide) dX3_linkTowards_52 ?_
            refine z_icmp_eq (tgt := 77) C dX3_linkTowards_53 (by decide) (fun c33 => ?_) (fun c33 => ?_)
            · have hw := hw.1 c33
              obtain ⟨x34, ex34⟩ : ∃ z : Int32, z = x23 + 1 := ⟨_, rfl⟩
              have hw := hw x34 ex34
              refine z_iinc C 4 x34 [(4, .int x34), (5, .int x29), (0, .ref (w.1 i0)), (1, .int x1), (3, .ref (w.1 (8 + (Int32.toNatClampNeg x2))))] dX3_linkTowards_77 (by rfl) (by rw [ex34]; rfl) (by decide) rfl ?_
              refine z_goto (tgt := 10) C dX3_linkTowards_80 (by decide) ?_
              refine z_sub [2, 3, 4, 0] [(0, .ref (w.1 i0)), (1, .int x1), (3, .ref (w.1 (8 + (Int32.toNatClampNeg x2)))), (4, .int x34)] rfl ?_
              exact ih24 τ28 x34 (Nat.lt_of_lt_of_le hw.2 (Nat.le_of_lt_succ hlt24)) hw.1
            · have hw := hw.2 c33
              refine z_aload_n C 3 (by rfl) dX3_linkTowards_56 ?_
              refine z_iload C 0 (by rfl) dX3_linkTowards_57 ?_
              obtain ⟨s35, hw⟩ := hw
              refine z_iald C (tR14 (tR3_7 h0) (tp_lt s21)).2 (tE13 (tR14 (tR3_7 h0) (tp_lt s21)).1) s35 dX3_linkTowards_59 ?_
              refine z_aload_n C 1 (by rfl) dX3_linkTowards_60 ?_
              refine z_get C (Cn := RX3) (T := TX3) (N := 9) (ci := 3) h0.2 4 (tE3 h0.1) in_X3_linkTowards_X3 rfl (by decide) mw_X3_linkTowards_3 rfl rfl dX3_linkTowards_61 ?_
              refine z_iload C 4 (by rfl) dX3_linkTowards_64 ?_
              obtain ⟨s36, hw⟩ := hw
              refine z_iald C (tR3_4 h0).2 (tE11 (tR3_4 h0).1) s36 dX3_linkTowards_66 ?_
              refine z_iadd C dX3_linkTowards_67 ?_
              refine z_aload_n C 3 (by rfl) dX3_linkTowards_68 ?_
              refine z_iload_n C 2 (by rfl) dX3_linkTowards_69 ?_
              obtain ⟨s37, hw⟩ := hw
              refine z_iald C (tR14 (tR3_7 h0) (tp_lt s21)).2 (tE13 (tR14 (tR3_7 h0) (tp_lt s21)).1) s37 dX3_linkTowards_70 ?_
              refine z_icmp_ne (tgt := 77) C dX3_linkTowards_71 (by decide) (fun c38 => ?_) (fun c38 => ?_)
              · have hw := hw.1 c38
                obtain ⟨x39, ex39⟩ : ∃ z : Int32, z = x23 + 1 := ⟨_, rfl⟩
                have hw := hw x39 ex39
                refine z_iinc C 4 x39 [(4, .int x39), (5, .int x29), (0, .ref (w.1 i0)), (1, .int x1), (3, .ref (w.1 (8 + (Int32.toNatClampNeg x2))))] dX3_linkTowards_77 (by rfl) (by rw [ex39]; rfl) (by decide) rfl ?_
                refine z_goto (tgt := 10) C dX3_linkTowards_80 (by decide) ?_
                refine z_sub [2, 3, 4, 0] [(0, .ref (w.1 i0)), (1, .int x1), (3, .ref (w.1 (8 + (Int32.toNatClampNeg x2)))), (4, .int x39)] rfl ?_
                exact ih24 τ28 x39 (Nat.lt_of_lt_of_le hw.2 (Nat.le_of_lt_succ hlt24)) hw.1
              · have hw := hw.2 c38
                refine z_iload C 4 (by rfl) dX3_linkTowards_74 ?_
                exact hR _ _ _ _ dX3_linkTowards_76 hw
        refine z_if_eq (tgt := 39) C dX3_linkTowards_26 (by decide) (fun c40 => ?_) (fun c40 => ?_)
        · have hw := hw.1 c40
          refine z_iconst C (-1) (by decide) dX3_linkTowards_39 ?_
          exact jn27 τ22 (-1) hw
        · have hw := hw.2 c40
          refine z_aload_n C 0 (by rfl) dX3_linkTowards_29 ?_
          refine z_iload C 3 (by rfl) dX3_linkTowards_30 ?_
          refine z_iload_n C 1 (by rfl) dX3_linkTowards_32 ?_
          refine zv_i C (As := [.int x23, .int x1]) (bytes := cX3_farEnd) (maxL := 3) (F1 := 0) (L1 := 0) (c_X3_farEnd w _ i0 x23 x1 _ h0 hw) h0.2 (tE3 h0.1) rfl 2 gX3_linkTowards_X3_farEnd rfl (by decide +kernel) ⟨Nat.le_of_ble_eq_true rfl, Nat.le_of_ble_eq_true rfl⟩ rfl (Nat.le_of_ble_eq_true rfl) ⟨Nat.le_of_ble_eq_true rfl, Nat.le_of_ble_eq_true rfl⟩ rfl dX3_linkTowards_33 (fun x42 τ41 hw => ?_)
          refine z_goto (tgt := 40) C dX3_linkTowards_36 (by decide) ?_
          exact jn27 τ41 x42 hw
  refine z_sub [2, 3, 1, 0] [(0, .ref (w.1 i0)), (1, .int x1), (3, .ref (w.1 (8 + (Int32.toNatClampNeg x2)))), (4, .int 0)] rfl ?_
  exact lp24 _ τ 0 (Nat.lt_succ_self _) hI24
def wp_X3_shorten (τ : TS) (j0 : Nat) (x1 : Int32) (x2 : Int32) (x3 : Int32) (K : TS → Int32 → Prop) : Prop :=
  vp_in x2 8 ∧ ((((τ j0 (Int32.toNatClampNeg x2)) = (-1)) → (K τ 0)) ∧ ((¬ (τ j0 (Int32.toNatClampNeg x2)) = (-1)) → (vp_in x1 8 ∧ ((((τ j0 (Int32.toNatClampNeg x1)) = (-1)) → (vp_in x2 8 ∧ (vp_in x1 8 ∧ (∀ τ27 : TS, τ27 = tp_up τ j0 (Int32.toNatClampNeg x1) ((τ j0 (Int32.toNatClampNeg x2)) + x3) → K τ27 1)))) ∧ ((¬ (τ j0 (Int32.toNatClampNeg x1)) = (-1)) → (vp_in x1 8 ∧ (vp_in x2 8 ∧ (((((τ j0 (Int32.toNatClampNeg x2)) + x3) < (τ j0 (Int32.toNatClampNeg x1))) → (vp_in x2 8 ∧ (vp_in x1 8 ∧ (∀ τ33 : TS, τ33 = tp_up τ j0 (Int32.toNatClampNeg x1) ((τ j0 (Int32.toNatClampNeg x2)) + x3) → K τ33 1)))) ∧ ((¬ ((τ j0 (Int32.toNatClampNeg x2)) + x3) < (τ j0 (Int32.toNatClampNeg x1))) → (K τ 0))))))))))
set_option maxHeartbeats 4000000 in
set_option maxRecDepth 100000 in
theorem c_X3_shorten (w : WPar) (τ : TS) (j0 : Nat) (x1 : Int32) (x2 : Int32) (x3 : Int32) (K : TS → Int32 → Prop) (h0 : tp_is w j0 13) (hw : wp_X3_shorten τ j0 x1 x2 x3 K) : MI w yX3_shorten wsX3_shorten 0 0 [.ref (w.1 j0), .int x1, .int x2, .int x3] τ K := by
  refine tp_enterZ (cc := cX3_shorten) (maxL := 4) (own := RX3) (by decide) rfl rfl (Nat.le_of_ble_eq_true rfl) (fun g C hR => ?_)
  show Zt w g τ (0, 0) 0 [(0, .ref (w.1 j0)), (1, .int x1), (2, .int x2), (3, .int x3)] []
  unfold wp_X3_shorten at hw
  refine z_aload_n C 0 (by rfl) dX3_shorten_0 ?_
  refine z_iload_n C 2 (by rfl) dX3_shorten_1 ?_
  obtain ⟨s21, hw⟩ := hw
  refine z_iald C h0.2 (tE13 h0.1) s21 dX3_shorten_2 ?_
  refine z_iconst C (-1) (by decide) dX3_shorten_3 ?_
  refine z_icmp_eq (tgt := 25) C dX3_shorten_4 (by decide) (fun c22 => ?_) (fun c22 => ?_)
  · have hw := hw.1 c22
    refine z_iconst C 0 (by decide) dX3_shorten_25 ?_
    exact hR _ _ _ _ dX3_shorten_26 rfl hw
  · have hw := hw.2 c22
    refine z_aload_n C 0 (by rfl) dX3_shorten_7 ?_
    refine z_iload_n C 1 (by rfl) dX3_shorten_8 ?_
    obtain ⟨s23, hw⟩ := hw
    refine z_iald C h0.2 (tE13 h0.1) s23 dX3_shorten_9 ?_
    refine z_iconst C (-1) (by decide) dX3_shorten_10 ?_
    refine z_icmp_eq (tgt := 27) C dX3_shorten_11 (by decide) (fun c24 => ?_) (fun c24 => ?_)
    · have hw := hw.1 c24
      refine z_aload_n C 0 (by rfl) dX3_shorten_27 ?_
      refine z_iload_n C 1 (by rfl) dX3_shorten_28 ?_
      refine z_aload_n C 0 (by rfl) dX3_shorten_29 ?_
      refine z_iload_n C 2 (by rfl) dX3_shorten_30 ?_
      obtain ⟨s25, hw⟩ := hw
      refine z_iald C h0.2 (tE13 h0.1) s25 dX3_shorten_31 ?_
      refine z_iload_n C 3 (by rfl) dX3_shorten_32 ?_
      refine z_iadd C dX3_shorten_33 ?_
      obtain ⟨s26, hw⟩ := hw
      refine z_iast C h0.2 (fun _ => tE13 h0.1) s26 dX3_shorten_34 (fun τ27 eτ27 => ?_)
      have hw := hw τ27 eτ27
      refine z_iconst C 1 (by decide) dX3_shorten_35 ?_
      exact hR _ _ _ _ dX3_shorten_36 rfl hw
    · have hw := hw.2 c24
      refine z_aload_n C 0 (by rfl) dX3_shorten_14 ?_
      refine z_iload_n C 1 (by rfl) dX3_shorten_15 ?_
      obtain ⟨s28, hw⟩ := hw
      refine z_iald C h0.2 (tE13 h0.1) s28 dX3_shorten_16 ?_
      refine z_aload_n C 0 (by rfl) dX3_shorten_17 ?_
      refine z_iload_n C 2 (by rfl) dX3_shorten_18 ?_
      obtain ⟨s29, hw⟩ := hw
      refine z_iald C h0.2 (tE13 h0.1) s29 dX3_shorten_19 ?_
      refine z_iload_n C 3 (by rfl) dX3_shorten_20 ?_
      refine z_iadd C dX3_shorten_21 ?_
      refine z_icmp_gt (tgt := 27) C dX3_shorten_22 (by decide) (fun c30 => ?_) (fun c30 => ?_)
      · have hw := hw.1 c30
        refine z_aload_n C 0 (by rfl) dX3_shorten_27 ?_
        refine z_iload_n C 1 (by rfl) dX3_shorten_28 ?_
        refine z_aload_n C 0 (by rfl) dX3_shorten_29 ?_
        refine z_iload_n C 2 (by rfl) dX3_shorten_30 ?_
        obtain ⟨s31, hw⟩ := hw
        refine z_iald C h0.2 (tE13 h0.1) s31 dX3_shorten_31 ?_
        refine z_iload_n C 3 (by rfl) dX3_shorten_32 ?_
        refine z_iadd C dX3_shorten_33 ?_
        obtain ⟨s32, hw⟩ := hw
        refine z_iast C h0.2 (fun _ => tE13 h0.1) s32 dX3_shorten_34 (fun τ33 eτ33 => ?_)
        have hw := hw τ33 eτ33
        refine z_iconst C 1 (by decide) dX3_shorten_35 ?_
        exact hR _ _ _ _ dX3_shorten_36 rfl hw
      · have hw := hw.2 c30
        refine z_iconst C 0 (by decide) dX3_shorten_25 ?_
        exact hR _ _ _ _ dX3_shorten_26 rfl hw
def wp_X3_spread (τ : TS) (i0 : Nat) (x1 : Int32) (x2 : Int32) (j3 : Nat) (K : TS → Prop) : Prop :=
  ∃ (I23 : TS → Int32 → Prop) (u23 : TS → Int32 → Nat), I23 τ 0 ∧ ∀ (τ21 : TS) (x22 : Int32), I23 τ21 x22 → (((8 ≤ x22) → (∃ (I28 : TS → Int32 → Int32 → Prop) (u28 : TS → Int32 → Int32 → Nat), I28 τ21 1 0 ∧ ∀ (τ25 : TS) (x26 : Int32) (x27 : Int32), I28 τ25 x26 x27 → ((((τ25 i0 0) ≤ x27) → (K τ25)) ∧ ((¬ (τ25 i0 0) ≤ x27) → (((x26 = 0) → (K τ25)) ∧ ((¬ x26 = 0) → (∃ (I34 : TS → Int32 → Int32 → Prop) (u34 : TS → Int32 → Int32 → Nat), I34 τ25 0 0 ∧ ∀ (τ31 : TS) (x32 : Int32) (x33 : Int32), I34 τ31 x32 x33 → ((((τ31 i0 1) ≤ x33) → (∀ x36 : Int32, x36 = x27 + 1 → I28 τ31 x32 x36 ∧ u28 τ31 x32 x36 < u28 τ25 x26 x27)) ∧ ((¬ (τ31 i0 1) ≤ x33) → (vp_in x33 12 ∧ ((((τ31 6 (Int32.toNatClampNeg x33)) = 0) → (∀ x39 : Int32, x39 = x33 + 1 → I34 τ31 x32 x39 ∧ u34 τ31 x32 x39 < u34 τ31 x32 x33)) ∧ ((¬ (τ31 6 (Int32.toNatClampNeg x33)) = 0) → (((x33 = x2) → (∀ x41 : Int32, x41 = x33 + 1 → I34 τ31 x32 x41 ∧ u34 τ31 x32 x41 < u34 τ31 x32 x33)) ∧ ((¬ x33 = x2) → (vp_in x33 12 ∧ (vp_in x33 12 ∧ (vp_in x33 12 ∧ (wp_X3_shorten τ31 j3 (τ31 2 (Int32.toNatClampNeg x33)) (τ31 3 (Int32.toNatClampNeg x33)) (τ31 4 (Int32.toNatClampNeg x33)) (fun τ45 x46 => vp_in x33 12 ∧ (vp_in x33 12 ∧ (vp_in x33 12 ∧ (wp_X3_shorten τ45 j3 (τ45 3 (Int32.toNatClampNeg x33)) (τ45 2 (Int32.toNatClampNeg x33)) (τ45 4 (Int32.toNatClampNeg x33)) (fun τ50 x51 => ((¬ x32 = 0) → (∀ x53 : Int32, x53 = x33 + 1 → I34 τ50 1 x53 ∧ u34 τ50 1 x53 < u34 τ31 x32 x33)) ∧ ((x32 = 0) → (((¬ x46 = 0) → (∀ x55 : Int32, x55 = x33 + 1 → I34 τ50 1 x55 ∧ u34 τ50 1 x55 < u34 τ31 x32 x33)) ∧ ((x46 = 0) → (((x51 = 0) → (∀ x57 : Int32, x57 = x33 + 1 → I34 τ50 0 x57 ∧ u34 τ50 0 x57 < u34 τ31 x32 x33)) ∧ ((¬ x51 = 0) → (∀ x58 : Int32, x58 = x33 + 1 → I34 τ50 1 x58 ∧ u34 τ50 1 x58 < u34 τ31 x32 x33))))))))))))))))))))))))))))) ∧ ((¬ 8 ≤ x22) → (((¬ x22 = x1) → (vp_in x22 8 ∧ (∀ τ61 : TS, τ61 = tp_up τ21 j3 (Int32.toNatClampNeg x22) (-1) → ∀ x62 : Int32, x62 = x22 + 1 → I23 τ61 x62 ∧ u23 τ61 x62 < u23 τ21 x22))) ∧ ((x22 = x1) → (vp_in x22 8 ∧ (∀ τ64 : TS, τ64 = tp_up τ21 j3 (Int32.toNatClampNeg x22) 0 → ∀ x65 : Int32, x65 = x22 + 1 → I23 τ64 x65 ∧ u23 τ64 x65 < u23 τ21 x22))))))
theorem mw_X3_spread_0 : Cond.fieldLink RX3 36 "TidePost$Net" "nodes" "I" ∈ wsX3_spread := List.mem_of_getElem? (i := 1) rfl
theorem mw_X3_spread_1 : Cond.fieldLink RX3 43 "TidePost$Net" "links" "I" ∈ wsX3_spread := List.mem_of_getElem? (i := 2) rfl
theorem mw_X3_spread_2 : Cond.fieldLink RX3 24 "TidePost$Net" "up" "[Z" ∈ wsX3_spread := List.mem_of_getElem? (i := 3) rfl
theorem mw_X3_spread_3 : Cond.fieldLink RX3 9 "TidePost$Net" "firsts" "[I" ∈ wsX3_spread := List.mem_of_getElem? (i := 4) rfl
theorem mw_X3_spread_4 : Cond.fieldLink RX3 15 "TidePost$Net" "seconds" "[I" ∈ wsX3_spread := List.mem_of_getElem? (i := 5) rfl
theorem mw_X3_spread_5 : Cond.fieldLink RX3 18 "TidePost$Net" "delays" "[I" ∈ wsX3_spread := List.mem_of_getElem? (i := 6) rfl
theorem in_X3_spread_X3 : ∀ x ∈ wsX30, x ∈ wsX3_spread := fun _ h => List.mem_cons_of_mem _ (List.mem_append_right _ h)
set_option maxHeartbeats 4000000 in
set_option maxRecDepth 100000 in
theorem c_X3_spread (w : WPar) (τ : TS) (i0 : Nat) (x1 : Int32) (x2 : Int32) (j3 : Nat) (K : TS → Prop) (h0 : tp_is w i0 3) (h3 : tp_is w j3 13) (hw : wp_X3_spread τ i0 x1 x2 j3 K) : MV w yX3_spread wsX3_spread 1 23 [.ref (w.1 i0), .int x1, .int x2, .ref (w.1 j3)] τ K := by
  refine tp_enterV (cc := cX3_spread) (maxL := 9) (own := RX3) (by decide) rfl rfl (Nat.le_of_ble_eq_true rfl) (fun g C hR => ?_)
  show Zt w g τ (0, 0) 0 [(0, .ref (w.1 i0)), (1, .int x1), (2, .int x2), (3, .ref (w.1 j3))] []
  unfold wp_X3_spread at hw
  refine z_iconst C 0 (by decide) dX3_spread_0 ?_
  refine z_istore C [(4, .int 0), (0, .ref (w.1 i0)), (1, .int x1), (2, .int x2), (3, .ref (w.1 j3))] dX3_spread_1 (by decide) rfl ?_
  obtain ⟨I23, u23, hI23, hs23⟩ := hw
  have lp23 : ∀ (n23 : Nat) (τ21 : TS) (x22 : Int32), u23 τ21 x22 < n23 → I23 τ21 x22 → Zt w g τ21 (0, 0) 3 [(0, .ref (w.1 i0)), (1, .int x1), (2, .int x2), (3, .ref (w.1 j3)), (4, .int x22)] [] := by
    intro n23
    induction n23 with
    | zero => intro τ21 x22 hlt23; exact absurd hlt23 (Nat.not_lt_zero _)
    | succ n23 ih23 =>
      intro τ21 x22 hlt23 hh23
      have hw := hs23 τ21 x22 hh23
      refine z_iload C 4 (by rfl) dX3_spread_3 ?_
      refine z_aload_n C 3 (by rfl) dX3_spread_5 ?_
      refine z_alen C 0 8 h3.2 (tE13 h3.1) rfl rfl dX3_spread_6 ?_
      refine z_icmp_ge (tgt := 31) C dX3_spread_7 (by decide) (fun c24 => ?_) (fun c24 => ?_)
      · have hw := hw.1 c24
        refine z_iconst C 1 (by decide) dX3_spread_31 ?_
        refine z_istore C [(4, .int 1), (0, .ref (w.1 i0)), (1, .int x1), (2, .int x2), (3, .ref (w.1 j3))] dX3_spread_32 (by decide) rfl ?_
        refine z_iconst C 0 (by decide) dX3_spread_34 ?_
        refine z_istore C [(5, .int 0), (4, .int 1), (0, .ref (w.1 i0)), (1, .int x1), (2, .int x2), (3, .ref (w.1 j3))] dX3_spread_35 (by decide) rfl ?_
        obtain ⟨I28, u28, hI28, hs28⟩ := hw
        have lp28 : ∀ (n28 : Nat) (τ25 : TS) (x26 : Int32) (x27 : Int32), u28 τ25 x26 x27 < n28 → I28 τ25 x26 x27 → Zt w g τ25 (0, 0) 37 [(0, .ref (w.1 i0)), (2, .int x2), (3, .ref (w.1 j3)), (4, .int x26), (5, .int x27)] [] := by
          intro n28
          induction n28 with
          | zero => intro τ25 x26 x27 hlt28; exact absurd hlt28 (Nat.not_lt_zero _)
          | succ n28 ih28 =>
            intro τ25 x26 x27 hlt28 hh28
            have hw := hs28 τ25 x26 x27 hh28
            refine z_iload C 4 (by rfl) dX3_spread_37 ?_
            refine z_aload_n C 0 (by rfl) dX3_spread_39 ?_
            refine z_get C (Cn := RX3) (T := TX3) (N := 9) (ci := 3) h0.2 0 (tE3 h0.1) in_X3_spread_X3 rfl (by decide) mw_X3_spread_0 rfl rfl dX3_spread_40 ?_
            refine z_icmp_ge (tgt := 170) C dX3_spread_43 (by decide) (fun c29 => ?_) (fun c29 => ?_)
            · have hw := hw.1 c29
              exact hR _ _ _ dX3_spread_170 hw
            · have hw := hw.2 c29
              refine z_iload C 3 (by rfl) dX3_spread_46 ?_
              refine z_if_eq (tgt := 170) C dX3_spread_48 (by decide) (fun c30 => ?_) (fun c30 => ?_)
              · have hw := hw.1 c30
                exact hR _ _ _ dX3_spread_170 hw
              · have hw := hw.2 c30
                refine z_iconst C 0 (by decide) dX3_spread_51 ?_
                refine z_istore C [(4, .int 0), (0, .ref (w.1 i0)), (2, .int x2), (3, .ref (w.1 j3)), (5, .int x27)] dX3_spread_52 (by decide) rfl ?_
                refine z_iconst C 0 (by decide) dX3_spread_54 ?_
                refine z_istore C [(6, .int 0), (4, .int 0), (0, .ref (w.1 i0)), (2, .int x2), (3, .ref (w.1 j3)), (5, .int x27)] dX3_spread_55 (by decide) rfl ?_
                obtain ⟨I34, u34, hI34, hs34⟩ := hw
                have lp34 : ∀ (n34 : Nat) (τ31 : TS) (x32 : Int32) (x33 : Int32), u34 τ31 x32 x33 < n34 → I34 τ31 x32 x33 → Zt w g τ31 (0, 0) 57 [(0, .ref (w.1 i0)), (2, .int x2), (3, .ref (w.1 j3)), (4, .int x32), (5, .int x27), (6, .int x33)] [] := by
                  intro n34
                  induction n34 with
                  | zero => intro τ31 x32 x33 hlt34; exact absurd hlt34 (Nat.not_lt_zero _)
                  | succ n34 ih34 =>
                    intro τ31 x32 x33 hlt34 hh34
                    have hw := hs34 τ31 x32 x33 hh34
                    refine z_iload C 5 (by rfl) dX3_spread_57 ?_
                    refine z_aload_n C 0 (by rfl) dX3_spread_59 ?_
                    refine z_get C (Cn := RX3) (T := TX3) (N := 9) (ci := 3) h0.2 1 (tE3 h0.1) in_X3_spread_X3 rfl (by decide) mw_X3_spread_1 rfl rfl dX3_spread_60 ?_
                    refine z_icmp_ge (tgt := 164) C dX3_spread_63 (by decide) (fun c35 => ?_) (fun c35 => ?_)
                    · have hw := hw.1 c35
                      obtain ⟨x36, ex36⟩ : ∃ z : Int32, z = x27 + 1 := ⟨_, rfl⟩
                      have hw := hw x36 ex36
                      refine z_iinc C 4 x36 [(5, .int x36), (0, .ref (w.1 i0)), (2, .int x2), (3, .ref (w.1 j3)), (4, .int x32), (6, .int x33)] dX3_spread_164 (by rfl) (by rw [ex36]; rfl) (by decide) rfl ?_
                      refine z_goto (tgt := 37) C dX3_spread_167 (by decide) ?_
                      refine z_sub [1, 2, 3, 4, 0] [(0, .ref (w.1 i0)), (2, .int x2), (3, .ref (w.1 j3)), (4, .int x32), (5, .int x36)] rfl ?_
                      exact ih28 τ31 x32 x36 (Nat.lt_of_lt_of_le hw.2 (Nat.le_of_lt_succ hlt28)) hw.1
                    · have hw := hw.2 c35
                      refine z_aload_n C 0 (by rfl) dX3_spread_66 ?_
                      refine z_get C (Cn := RX3) (T := TX3) (N := 9) (ci := 3) h0.2 6 (tE3 h0.1) in_X3_spread_X3 rfl (by decide) mw_X3_spread_2 rfl rfl dX3_spread_67 ?_
                      refine z_iload C 5 (by rfl) dX3_spread_70 ?_
                      obtain ⟨s37, hw⟩ := hw
                      refine z_zald C (tR3_6 h0).2 (tE12 (tR3_6 h0).1) s37 dX3_spread_72 ?_
                      refine z_if_eq (tgt := 158) C dX3_spread_73 (by decide) (fun c38 => ?_) (fun c38 => ?_)
                      · have hw := hw.1 c38
                        obtain ⟨x39, ex39⟩ : ∃ z : Int32, z = x33 + 1 := ⟨_, rfl⟩
                        have hw := hw x39 ex39
                        refine z_iinc C 5 x39 [(6, .int x39), (0, .ref (w.1 i0)), (2, .int x2), (3, .ref (w.1 j3)), (4, .int x32), (5, .int x27)] dX3_spread_158 (by rfl) (by rw [ex39]; rfl) (by decide) rfl ?_
                        refine z_goto (tgt := 57) C dX3_spread_161 (by decide) ?_
                        refine z_sub [1, 2, 3, 4, 5, 0] [(0, .ref (w.1 i0)), (2, .int x2), (3, .ref (w.1 j3)), (4, .int x32), (5, .int x27), (6, .int x39)] rfl ?_
                        exact ih34 τ31 x32 x39 (Nat.lt_of_lt_of_le hw.2 (Nat.le_of_lt_succ hlt34)) hw.1
                      · have hw := hw.2 c38
                        refine z_iload C 5 (by rfl) dX3_spread_76 ?_
                        refine z_iload_n C 1 (by rfl) dX3_spread_78 ?_
                        refine z_icmp_eq (tgt := 158) C dX3_spread_79 (by decide) (fun c40 => ?_) (fun c40 => ?_)
                        · have hw := hw.1 c40
                          obtain ⟨x41, ex41⟩ : ∃ z : Int32, z = x33 + 1 := ⟨_, rfl⟩
                          have hw := hw x41 ex41
                          refine z_iinc C 5 x41 [(6, .int x41), (0, .ref (w.1 i0)), (2, .int x2), (3, .ref (w.1 j3)), (4, .int x32), (5, .int x27)] dX3_spread_158 (by rfl) (by rw [ex41]; rfl) (by decide) rfl ?_
                          refine z_goto (tgt := 57) C dX3_spread_161 (by decide) ?_
                          refine z_sub [1, 2, 3, 4, 5, 0] [(0, .ref (w.1 i0)), (2, .int x2), (3, .ref (w.1 j3)), (4, .int x32), (5, .int x27), (6, .int x41)] rfl ?_
                          exact ih34 τ31 x32 x41 (Nat.lt_of_lt_of_le hw.2 (Nat.le_of_lt_succ hlt34)) hw.1
                        · have hw := hw.2 c40
                          refine z_aload_n C 2 (by rfl) dX3_spread_82 ?_
                          refine z_aload_n C 0 (by rfl) dX3_spread_83 ?_
                          refine z_get C (Cn := RX3) (T := TX3) (N := 9) (ci := 3) h0.2 2 (tE3 h0.1) in_X3_spread_X3 rfl (by decide) mw_X3_spread_3 rfl rfl dX3_spread_84 ?_
                          refine z_iload C 5 (by rfl) dX3_spread_87 ?_
                          obtain ⟨s42, hw⟩ := hw
                          refine z_iald C (tR3_2 h0).2 (tE11 (tR3_2 h0).1) s42 dX3_spread_89 ?_
                          refine z_aload_n C 0 (by rfl) dX3_spread_90 ?_
                          refine z_get C (Cn := RX3) (T := TX3) (N := 9) (ci := 3) h0.2 3 (tE3 h0.1) in_X3_spread_X3 rfl (by decide) mw_X3_spread_4 rfl rfl dX3_spread_91 ?_
                          refine z_iload C 5 (by rfl) dX3_spread_94 ?_
                          obtain ⟨s43, hw⟩ := hw
                          refine z_iald C (tR3_3 h0).2 (tE11 (tR3_3 h0).1) s43 dX3_spread_96 ?_
                          refine z_aload_n C 0 (by rfl) dX3_spread_97 ?_
                          refine z_get C (Cn := RX3) (T := TX3) (N := 9) (ci := 3) h0.2 4 (tE3 h0.1) in_X3_spread_X3 rfl (by decide) mw_X3_spread_5 rfl rfl dX3_spread_98 ?_
                          refine z_iload C 5 (by rfl) dX3_spread_101 ?_
                          obtain ⟨s44, hw⟩ := hw
                          refine z_iald C (tR3_4 h0).2 (tE11 (tR3_4 h0).1) s44 dX3_spread_103 ?_
                          refine zs_i C (As := [.ref (w.1 j3), .int (τ31 2 (Int32.toNatClampNeg x33)), .int (τ31 3 (Int32.toNatClampNeg x33)), .int (τ31 4 (Int32.toNatClampNeg x33))]) (bytes := cX3_shorten) (maxL := 4) (F1 := 0) (L1 := 0) (c_X3_shorten w _ j3 (τ31 2 (Int32.toNatClampNeg x33)) (τ31 3 (Int32.toNatClampNeg x33)) (τ31 4 (Int32.toNatClampNeg x33)) _ h3 hw) 4 gX3_spread_X3_shorten rfl (by decide +kernel) ⟨Nat.le_of_ble_eq_true rfl, Nat.le_of_ble_eq_true rfl⟩ rfl (Nat.le_of_ble_eq_true rfl) ⟨Nat.le_of_ble_eq_true rfl, Nat.le_of_ble_eq_true rfl⟩ rfl dX3_spread_104 (fun x46 τ45 hw => ?_)
                          refine z_istore C [(7, .int x46), (0, .ref (w.1 i0)), (2, .int x2), (3, .ref (w.1 j3)), (4, .int x32), (5, .int x27), (6, .int x33)] dX3_spread_107 (by decide) rfl ?_
                          refine z_aload_n C 3 (by rfl) dX3_spread_109 ?_
                          refine z_aload_n C 1 (by rfl) dX3_spread_110 ?_
                          refine z_get C (Cn := RX3) (T := TX3) (N := 9) (ci := 3) h0.2 3 (tE3 h0.1) in_X3_spread_X3 rfl (by decide) mw_X3_spread_4 rfl rfl dX3_spread_111 ?_
                          refine z_iload C 6 (by rfl) dX3_spread_114 ?_
                          obtain ⟨s47, hw⟩ := hw
                          refine z_iald C (tR3_3 h0).2 (tE11 (tR3_3 h0).1) s47 dX3_spread_116 ?_
                          refine z_aload_n C 1 (by rfl) dX3_spread_117 ?_
                          refine z_get C (Cn := RX3) (T := TX3) (N := 9) (ci := 3) h0.2 2 (tE3 h0.1) in_X3_spread_X3 rfl (by decide) mw_X3_spread_3 rfl rfl dX3_spread_118 ?_
                          refine z_iload C 6 (by rfl) dX3_spread_121 ?_
                          obtain ⟨s48, hw⟩ := hw
                          refine z_iald C (tR3_2 h0).2 (tE11 (tR3_2 h0).1) s48 dX3_spread_123 ?_
                          refine z_aload_n C 1 (by rfl) dX3_spread_124 ?_
                          refine z_get C (Cn := RX3) (T := TX3) (N := 9) (ci := 3) h0.2 4 (tE3 h0.1) in_X3_spread_X3 rfl (by decide) mw_X3_spread_5 rfl rfl dX3_spread_125 ?_
                          refine z_iload C 6 (by rfl) dX3_spread_128 ?_
                          obtain ⟨s49, hw⟩ := hw
                          refine z_iald C (tR3_4 h0).2 (tE11 (tR3_4 h0).1) s49 dX3_spread_130 ?_
                          refine zs_i C (As := [.ref (w.1 j3), .int (τ45 3 (Int32.toNatClampNeg x33)), .int (τ45 2 (Int32.toNatClampNeg x33)), .int (τ45 4 (Int32.toNatClampNeg x33))]) (bytes := cX3_shorten) (maxL := 4) (F1 := 0) (L1 := 0) (c_X3_shorten w _ j3 (τ45 3 (Int32.toNatClampNeg x33)) (τ45 2 (Int32.toNatClampNeg x33)) (τ45 4 (Int32.toNatClampNeg x33)) _ h3 hw) 4 gX3_spread_X3_shorten rfl (by decide +kernel) ⟨Nat.le_of_ble_eq_true rfl, Nat.le_of_ble_eq_true rfl⟩ rfl (Nat.le_of_ble_eq_true rfl) ⟨Nat.le_of_ble_eq_true rfl, Nat.le_of_ble_eq_true rfl⟩ rfl dX3_spread_131 (fun x51 τ50 hw => ?_)
                          refine z_istore C [(8, .int x51), (7, .int x46), (0, .ref (w.1 i0)), (2, .int x2), (3, .ref (w.1 j3)), (4, .int x32), (5, .int x27), (6, .int x33)] dX3_spread_134 (by decide) rfl ?_
                          refine z_iload C 5 (by rfl) dX3_spread_136 ?_
                          refine z_if_ne (tgt := 151) C dX3_spread_138 (by decide) (fun c52 => ?_) (fun c52 => ?_)
                          · have hw := hw.1 c52
                            refine z_iconst C 1 (by decide) dX3_spread_151 ?_
                            refine z_goto (tgt := 156) C dX3_spread_152 (by decide) ?_
                            refine z_istore C [(4, .int 1), (8, .int x51), (7, .int x46), (0, .ref (w.1 i0)), (2, .int x2), (3, .ref (w.1 j3)), (5, .int x27), (6, .int x33)] dX3_spread_156 (by decide) rfl ?_
                            obtain ⟨x53, ex53⟩ : ∃ z : Int32, z = x33 + 1 := ⟨_, rfl⟩
                            have hw := hw x53 ex53
                            refine z_iinc C 7 x53 [(6, .int x53), (4, .int 1), (8, .int x51), (7, .int x46), (0, .ref (w.1 i0)), (2, .int x2), (3, .ref (w.1 j3)), (5, .int x27)] dX3_spread_158 (by rfl) (by rw [ex53]; rfl) (by decide) rfl ?_
                            refine z_goto (tgt := 57) C dX3_spread_161 (by decide) ?_
                            refine z_sub [4, 5, 6, 1, 7, 0] [(0, .ref (w.1 i0)), (2, .int x2), (3, .ref (w.1 j3)), (4, .int 1), (5, .int x27), (6, .int x53)] rfl ?_
                            exact ih34 τ50 1 x53 (Nat.lt_of_lt_of_le hw.2 (Nat.le_of_lt_succ hlt34)) hw.1
                          · have hw := hw.2 c52
                            refine z_iload C 1 (by rfl) dX3_spread_141 ?_
                            refine z_if_ne (tgt := 151) C dX3_spread_143 (by decide) (fun c54 => ?_) (fun c54 => ?_)
                            · have hw := hw.1 c54
                              refine z_iconst C 1 (by decide) dX3_spread_151 ?_
                              refine z_goto (tgt := 156) C dX3_spread_152 (by decide) ?_
                              refine z_istore C [(4, .int 1), (8, .int x51), (7, .int x46), (0, .ref (w.1 i0)), (2, .int x2), (3, .ref (w.1 j3)), (5, .int x27), (6, .int x33)] dX3_spread_156 (by decide) rfl ?_
                              obtain ⟨x55, ex55⟩ : ∃ z : Int32, z = x33 + 1 := ⟨_, rfl⟩
                              have hw := hw x55 ex55
                              refine z_iinc C 7 x55 [(6, .int x55), (4, .int 1), (8, .int x51), (7, .int x46), (0, .ref (w.1 i0)), (2, .int x2), (3, .ref (w.1 j3)), (5, .int x27)] dX3_spread_158 (by rfl) (by rw [ex55]; rfl) (by decide) rfl ?_
                              refine z_goto (tgt := 57) C dX3_spread_161 (by decide) ?_
                              refine z_sub [4, 5, 6, 1, 7, 0] [(0, .ref (w.1 i0)), (2, .int x2), (3, .ref (w.1 j3)), (4, .int 1), (5, .int x27), (6, .int x55)] rfl ?_
                              exact ih34 τ50 1 x55 (Nat.lt_of_lt_of_le hw.2 (Nat.le_of_lt_succ hlt34)) hw.1
                            · have hw := hw.2 c54
                              refine z_iload C 0 (by rfl) dX3_spread_146 ?_
                              refine z_if_eq (tgt := 155) C dX3_spread_148 (by decide) (fun c56 => ?_) (fun c56 => ?_)
                              · have hw := hw.1 c56
                                refine z_iconst C 0 (by decide) dX3_spread_155 ?_
                                refine z_istore C [(4, .int 0), (8, .int x51), (7, .int x46), (0, .ref (w.1 i0)), (2, .int x2), (3, .ref (w.1 j3)), (5, .int x27), (6, .int x33)] dX3_spread_156 (by decide) rfl ?_
                                obtain ⟨x57, ex57⟩ : ∃ z : Int32, z = x33 + 1 := ⟨_, rfl⟩
                                have hw := hw x57 ex57
                                refine z_iinc C 7 x57 [(6, .int x57), (4, .int 0), (8, .int x51), (7, .int x46), (0, .ref (w.1 i0)), (2, .int x2), (3, .ref (w.1 j3)), (5, .int x27)] dX3_spread_158 (by rfl) (by rw [ex57]; rfl) (by decide) rfl ?_
                                refine z_goto (tgt := 57) C dX3_spread_161 (by decide) ?_
                                refine z_sub [4, 5, 6, 1, 7, 0] [(0, .ref (w.1 i0)), (2, .int x2), (3, .ref (w.1 j3)), (4, .int 0), (5, .int x27), (6, .int x57)] rfl ?_
                                exact ih34 τ50 0 x57 (Nat.lt_of_lt_of_le hw.2 (Nat.le_of_lt_succ hlt34)) hw.1
                              · have hw := hw.2 c56
                                refine z_iconst C 1 (by decide) dX3_spread_151 ?_
                                refine z_goto (tgt := 156) C dX3_spread_152 (by decide) ?_
                                refine z_istore C [(4, .int 1), (8, .int x51), (7, .int x46), (0, .ref (w.1 i0)), (2, .int x2), (3, .ref (w.1 j3)), (5, .int x27), (6, .int x33)] dX3_spread_156 (by decide) rfl ?_
                                obtain ⟨x58, ex58⟩ : ∃ z : Int32, z = x33 + 1 := ⟨_, rfl⟩
                                have hw := hw x58 ex58
                                refine z_iinc C 7 x58 [(6, .int x58), (4, .int 1), (8, .int x51), (7, .int x46), (0, .ref (w.1 i0)), (2, .int x2), (3, .ref (w.1 j3)), (5, .int x27)] dX3_spread_158 (by rfl) (by rw [ex58]; rfl) (by decide) rfl ?_
                                refine z_goto (tgt := 57) C dX3_spread_161 (by decide) ?_
                                refine z_sub [4, 5, 6, 1, 7, 0] [(0, .ref (w.1 i0)), (2, .int x2), (3, .ref (w.1 j3)), (4, .int 1), (5, .int x27), (6, .int x58)] rfl ?_
                                exact ih34 τ50 1 x58 (Nat.lt_of_lt_of_le hw.2 (Nat.le_of_lt_succ hlt34)) hw.1
                refine z_sub [2, 3, 4, 1, 5, 0] [(0, .ref (w.1 i0)), (2, .int x2), (3, .ref (w.1 j3)), (4, .int 0), (5, .int x27), (6, .int 0)] rfl ?_
                exact lp34 _ τ25 0 0 (Nat.lt_succ_self _) hI34
        refine z_sub [2, 4, 5, 1, 0] [(0, .ref (w.1 i0)), (2, .int x2), (3, .ref (w.1 j3)), (4, .int 1), (5, .int 0)] rfl ?_
        exact lp28 _ τ21 1 0 (Nat.lt_succ_self _) hI28
      · have hw := hw.2 c24
        refine z_aload_n C 3 (by rfl) dX3_spread_10 ?_
        refine z_iload C 4 (by rfl) dX3_spread_11 ?_
        refine z_iload C 4 (by rfl) dX3_spread_13 ?_
        refine z_iload_n C 1 (by rfl) dX3_spread_15 ?_
        refine z_icmp_ne (tgt := 23) C dX3_spread_16 (by decide) (fun c59 => ?_) (fun c59 => ?_)
        · have hw := hw.1 c59
          refine z_iconst C (-1) (by decide) dX3_spread_23 ?_
          obtain ⟨s60, hw⟩ := hw
          refine z_iast C h3.2 (fun _ => tE13 h3.1) s60 dX3_spread_24 (fun τ61 eτ61 => ?_)
          have hw := hw τ61 eτ61
          obtain ⟨x62, ex62⟩ : ∃ z : Int32, z = x22 + 1 := ⟨_, rfl⟩
          have hw := hw x62 ex62
          refine z_iinc C 4 x62 [(4, .int x62), (0, .ref (w.1 i0)), (1, .int x1), (2, .int x2), (3, .ref (w.1 j3))] dX3_spread_25 (by rfl) (by rw [ex62]; rfl) (by decide) rfl ?_
          refine z_goto (tgt := 3) C dX3_spread_28 (by decide) ?_
          refine z_sub [1, 2, 3, 4, 0] [(0, .ref (w.1 i0)), (1, .int x1), (2, .int x2), (3, .ref (w.1 j3)), (4, .int x62)] rfl ?_
          exact ih23 τ61 x62 (Nat.lt_of_lt_of_le hw.2 (Nat.le_of_lt_succ hlt23)) hw.1
        · have hw := hw.2 c59
          refine z_iconst C 0 (by decide) dX3_spread_19 ?_
          refine z_goto (tgt := 24) C dX3_spread_20 (by decide) ?_
          obtain ⟨s63, hw⟩ := hw
          refine z_iast C h3.2 (fun _ => tE13 h3.1) s63 dX3_spread_24 (fun τ64 eτ64 => ?_)
          have hw := hw τ64 eτ64
          obtain ⟨x65, ex65⟩ : ∃ z : Int32, z = x22 + 1 := ⟨_, rfl⟩
          have hw := hw x65 ex65
          refine z_iinc C 4 x65 [(4, .int x65), (0, .ref (w.1 i0)), (1, .int x1), (2, .int x2), (3, .ref (w.1 j3))] dX3_spread_25 (by rfl) (by rw [ex65]; rfl) (by decide) rfl ?_
          refine z_goto (tgt := 3) C dX3_spread_28 (by decide) ?_
          refine z_sub [1, 2, 3, 4, 0] [(0, .ref (w.1 i0)), (1, .int x1), (2, .int x2), (3, .ref (w.1 j3)), (4, .int x65)] rfl ?_
          exact ih23 τ64 x65 (Nat.lt_of_lt_of_le hw.2 (Nat.le_of_lt_succ hlt23)) hw.1
  refine z_sub [1, 2, 3, 4, 0] [(0, .ref (w.1 i0)), (1, .int x1), (2, .int x2), (3, .ref (w.1 j3)), (4, .int 0)] rfl ?_
  exact lp23 _ τ 0 (Nat.lt_succ_self _) hI23
def wp_X3_measureRoutes (τ : TS) (i0 : Nat) (K : TS → Prop) : Prop :=
  ∃ (I23 : TS → Int32 → Prop) (u23 : TS → Int32 → Nat), I23 τ 0 ∧ ∀ (τ21 : TS) (x22 : Int32), I23 τ21 x22 → ((((τ21 i0 0) ≤ x22) → (K τ21)) ∧ ((¬ (τ21 i0 0) ≤ x22) → (vp_in x22 8 ∧ (wp_X3_spread τ21 i0 x22 (-1) (8 + (Int32.toNatClampNeg x22)) (fun τ26 => ∀ x27 : Int32, x27 = x22 + 1 → I23 τ26 x27 ∧ u23 τ26 x27 < u23 τ21 x22)))))
theorem mw_X3_measureRoutes_0 : Cond.fieldLink RX3 36 "TidePost$Net" "nodes" "I" ∈ wsX3_measureRoutes := List.mem_of_getElem? (i := 1) rfl
theorem mw_X3_measureRoutes_1 : Cond.fieldLink RX3 30 "TidePost$Net" "distances" "[[I" ∈ wsX3_measureRoutes := List.mem_of_getElem? (i := 2) rfl
theorem in_X3_measureRoutes_X3 : ∀ x ∈ wsX30, x ∈ wsX3_measureRoutes := fun _ h => List.mem_cons_of_mem _ (List.mem_append_right _ h)
set_option maxHeartbeats 4000000 in
set_option maxRecDepth 100000 in
theorem c_X3_measureRoutes (w : WPar) (τ : TS) (i0 : Nat) (K : TS → Prop) (h0 : tp_is w i0 3) (hw : wp_X3_measureRoutes τ i0 K) : MV w yX3_measureRoutes wsX3_measureRoutes 2 51 [.ref (w.1 i0)] τ K := by
  refine tp_enterV (cc := cX3_measureRoutes) (maxL := 2) (own := RX3) (by decide) rfl rfl (Nat.le_of_ble_eq_true rfl) (fun g C hR => ?_)
  show Zt w g τ (0, 0) 0 [(0, .ref (w.1 i0))] []
  unfold wp_X3_measureRoutes at hw
  refine z_iconst C 0 (by decide) dX3_measureRoutes_0 ?_
  refine z_istore_n C [(1, .int 0), (0, .ref (w.1 i0))] dX3_measureRoutes_1 (by decide) rfl ?_
  obtain ⟨I23, u23, hI23, hs23⟩ := hw
  have lp23 : ∀ (n23 : Nat) (τ21 : TS) (x22 : Int32), u23 τ21 x22 < n23 → I23 τ21 x22 → Zt w g τ21 (0, 0) 2 [(0, .ref (w.1 i0)), (1, .int x22)] [] := by
    intro n23
    induction n23 with
    | zero => intro τ21 x22 hlt23; exact absurd hlt23 (Nat.not_lt_zero _)
    | succ n23 ih23 =>
      intro τ21 x22 hlt23 hh23
      have hw := hs23 τ21 x22 hh23
      refine z_iload_n C 1 (by rfl) dX3_measureRoutes_2 ?_
      refine z_aload_n C 0 (by rfl) dX3_measureRoutes_3 ?_
      refine z_get C (Cn := RX3) (T := TX3) (N := 9) (ci := 3) h0.2 0 (tE3 h0.1) in_X3_measureRoutes_X3 rfl (by decide) mw_X3_measureRoutes_0 rfl rfl dX3_measureRoutes_4 ?_
      refine z_icmp_ge (tgt := 28) C dX3_measureRoutes_7 (by decide) (fun c24 => ?_) (fun c24 => ?_)
      · have hw := hw.1 c24
        exact hR _ _ _ dX3_measureRoutes_28 hw
      · have hw := hw.2 c24
        refine z_aload_n C 0 (by rfl) dX3_measureRoutes_10 ?_
        refine z_iload_n C 1 (by rfl) dX3_measureRoutes_11 ?_
        refine z_iconst C (-1) (by decide) dX3_measureRoutes_12 ?_
        refine z_aload_n C 0 (by rfl) dX3_measureRoutes_13 ?_
        refine z_get C (Cn := RX3) (T := TX3) (N := 9) (ci := 3) h0.2 7 (tE3 h0.1) in_X3_measureRoutes_X3 rfl (by decide) mw_X3_measureRoutes_1 rfl rfl dX3_measureRoutes_14 ?_
        refine z_iload_n C 1 (by rfl) dX3_measureRoutes_17 ?_
        obtain ⟨s25, hw⟩ := hw
        refine z_aald_q4 C (tR3_7 h0).2 (tE14 (tR3_7 h0).1) s25 (if_pos (tp_lt s25)) dX3_measureRoutes_18 ?_
        refine zv_v C (As := [.int x22, .int (-1), .ref (w.1 (8 + (Int32.toNatClampNeg x22)))]) (bytes := cX3_spread) (maxL := 9) (F1 := 1) (L1 := 23) (c_X3_spread w _ i0 x22 (-1) (8 + (Int32.toNatClampNeg x22)) _ h0 (tR14 (tR3_7 h0) (tp_lt s25)) hw) h0.2 (tE3 h0.1) rfl 3 gX3_measureRoutes_X3_spread rfl (by decide +kernel) ⟨Nat.le_of_ble_eq_true rfl, Nat.le_of_ble_eq_true rfl⟩ rfl (Nat.le_of_ble_eq_true rfl) ⟨Nat.le_of_ble_eq_true rfl, Nat.le_of_ble_eq_true rfl⟩ rfl dX3_measureRoutes_19 (fun τ26 hw => ?_)
        obtain ⟨x27, ex27⟩ : ∃ z : Int32, z = x22 + 1 := ⟨_, rfl⟩
        have hw := hw x27 ex27
        refine z_iinc C 1 x27 [(1, .int x27), (0, .ref (w.1 i0))] dX3_measureRoutes_22 (by rfl) (by rw [ex27]; rfl) (by decide) rfl ?_
        refine z_goto (tgt := 2) C dX3_measureRoutes_25 (by decide) ?_
        refine z_sub [1, 0] [(0, .ref (w.1 i0)), (1, .int x27)] rfl ?_
        exact ih23 τ26 x27 (Nat.lt_of_lt_of_le hw.2 (Nat.le_of_lt_succ hlt23)) hw.1
  refine z_sub [1, 0] [(0, .ref (w.1 i0)), (1, .int 0)] rfl ?_
  exact lp23 _ τ 0 (Nat.lt_succ_self _) hI23
def wp_X3_layNode (τ : TS) (i0 : Nat) (K : TS → Int32 → Prop) : Prop :=
  ∀ τ21 : TS, τ21 = tp_up τ i0 0 ((τ i0 0) + 1) → wp_X3_measureRoutes τ21 i0 (fun τ22 => K τ22 ((τ22 i0 0) - 1))
theorem mw_X3_layNode_0 : Cond.fieldLink RX3 36 "TidePost$Net" "nodes" "I" ∈ wsX3_layNode := List.mem_of_getElem? (i := 1) rfl
theorem in_X3_layNode_X3 : ∀ x ∈ wsX30, x ∈ wsX3_layNode := fun _ h => List.mem_cons_of_mem _ (List.mem_append_right _ h)
set_option maxHeartbeats 4000000 in
set_option maxRecDepth 100000 in
theorem c_X3_layNode (w : WPar) (τ : TS) (i0 : Nat) (K : TS → Int32 → Prop) (h0 : tp_is w i0 3) (hw : wp_X3_layNode τ i0 K) : MI w yX3_layNode wsX3_layNode 3 72 [.ref (w.1 i0)] τ K := by
  refine tp_enterI (cc := cX3_layNode) (maxL := 1) (own := RX3) (by decide) rfl rfl (Nat.le_of_ble_eq_true rfl) (fun g C hR => ?_)
  show Zt w g τ (0, 0) 0 [(0, .ref (w.1 i0))] []
  unfold wp_X3_layNode at hw
  refine z_aload_n C 0 (by rfl) dX3_layNode_0 ?_
  refine z_dup C rfl dX3_layNode_1 ?_
  refine z_get C (Cn := RX3) (T := TX3) (N := 9) (ci := 3) h0.2 0 (tE3 h0.1) in_X3_layNode_X3 rfl (by decide) mw_X3_layNode_0 rfl rfl dX3_layNode_2 ?_
  refine z_iconst C 1 (by decide) dX3_layNode_5 ?_
  refine z_iadd C dX3_layNode_6 ?_
  refine z_put C (Cn := RX3) (T := TX3) (N := 9) (ci := 3) h0.2 0 (tE3 h0.1) (tS3_0 h0.1 _) in_X3_layNode_X3 tyX3 tyX3_ok nmX3 rfl (by decide) mw_X3_layNode_0 rfl rfl (tyX3_ok 0 (by decide)) rfl rfl (Nat.le_of_ble_eq_true rfl) dX3_layNode_7 (fun τ21 eτ21 => ?_)
  have hw := hw τ21 eτ21
  refine z_aload_n C 0 (by rfl) dX3_layNode_10 ?_
  refine zv_v C (As := []) (bytes := cX3_measureRoutes) (maxL := 2) (F1 := 2) (L1 := 51) (c_X3_measureRoutes w _ i0 _ h0 hw) h0.2 (tE3 h0.1) rfl 0 gX3_layNode_X3_measureRoutes rfl (by decide +kernel) ⟨Nat.le_of_ble_eq_true rfl, Nat.le_of_ble_eq_true rfl⟩ rfl (Nat.le_of_ble_eq_true rfl) ⟨Nat.le_of_ble_eq_true rfl, Nat.le_of_ble_eq_true rfl⟩ rfl dX3_layNode_11 (fun τ22 hw => ?_)
  refine z_aload_n C 0 (by rfl) dX3_layNode_14 ?_
  refine z_get C (Cn := RX3) (T := TX3) (N := 9) (ci := 3) h0.2 0 (tE3 h0.1) in_X3_layNode_X3 rfl (by decide) mw_X3_layNode_0 rfl rfl dX3_layNode_15 ?_
  refine z_iconst C 1 (by decide) dX3_layNode_18 ?_
  refine z_isub C dX3_layNode_19 ?_
  exact hR _ _ _ _ dX3_layNode_20 hw
def wp_X3_layLink (τ : TS) (i0 : Nat) (x1 : Int32) (x2 : Int32) (x3 : Int32) (x4 : Int32) (K : TS → Int32 → Prop) : Prop :=
  ∀ x21 : Int32, x21 = (τ i0 1) → vp_in x21 12 ∧ (∀ τ23 : TS, τ23 = tp_up τ 2 (Int32.toNatClampNeg x21) x1 → vp_in x21 12 ∧ (∀ τ25 : TS, τ25 = tp_up τ23 3 (Int32.toNatClampNeg x21) x2 → vp_in x21 12 ∧ (∀ τ27 : TS, τ27 = tp_up τ25 4 (Int32.toNatClampNeg x21) x3 → vp_in x21 12 ∧ (∀ τ29 : TS, τ29 = tp_up τ27 5 (Int32.toNatClampNeg x21) x4 → vp_in x21 12 ∧ (∀ τ31 : TS, τ31 = tp_up τ29 6 (Int32.toNatClampNeg x21) 1 → ∀ τ32 : TS, τ32 = tp_up τ31 i0 1 ((τ31 i0 1) + 1) → wp_X3_measureRoutes τ32 i0 (fun τ33 => K τ33 x21))))))
theorem mw_X3_layLink_0 : Cond.fieldLink RX3 43 "TidePost$Net" "links" "I" ∈ wsX3_layLink := List.mem_of_getElem? (i := 1) rfl
theorem mw_X3_layLink_1 : Cond.fieldLink RX3 9 "TidePost$Net" "firsts" "[I" ∈ wsX3_layLink := List.mem_of_getElem? (i := 2) rfl
theorem mw_X3_layLink_2 : Cond.fieldLink RX3 15 "TidePost$Net" "seconds" "[I" ∈ wsX3_layLink := List.mem_of_getElem? (i := 3) rfl
theorem mw_X3_layLink_3 : Cond.fieldLink RX3 18 "TidePost$Net" "delays" "[I" ∈ wsX3_layLink := List.mem_of_getElem? (i := 4) rfl
theorem mw_X3_layLink_4 : Cond.fieldLink RX3 21 "TidePost$Net" "rooms" "[I" ∈ wsX3_layLink := List.mem_of_getElem? (i := 5) rfl
theorem mw_X3_layLink_5 : Cond.fieldLink RX3 24 "TidePost$Net" "up" "[Z" ∈ wsX3_layLink := List.mem_of_getElem? (i := 6) rfl
theorem in_X3_layLink_X3 : ∀ x ∈ wsX30, x ∈ wsX3_layLink := fun _ h => List.mem_cons_of_mem _ (List.mem_append_right _ h)
set_option maxHeartbeats 4000000 in
set_option maxRecDepth 100000 in
theorem c_X3_layLink (w : WPar) (τ : TS) (i0 : Nat) (x1 : Int32) (x2 : Int32) (x3 : Int32) (x4 : Int32) (K : TS → Int32 → Prop) (h0 : tp_is w i0 3) (hw : wp_X3_layLink τ i0 x1 x2 x3 x4 K) : MI w yX3_layLink wsX3_layLink 3 72 [.ref (w.1 i0), .int x1, .int x2, .int x3, .int x4] τ K := by
  refine tp_enterI (cc := cX3_layLink) (maxL := 6) (own := RX3) (by decide) rfl rfl (Nat.le_of_ble_eq_true rfl) (fun g C hR => ?_)
  show Zt w g τ (0, 0) 0 [(0, .ref (w.1 i0)), (1, .int x1), (2, .int x2), (3, .int x3), (4, .int x4)] []
  unfold wp_X3_layLink at hw
  refine z_aload_n C 0 (by rfl) dX3_layLink_0 ?_
  refine z_get C (Cn := RX3) (T := TX3) (N := 9) (ci := 3) h0.2 1 (tE3 h0.1) in_X3_layLink_X3 rfl (by decide) mw_X3_layLink_0 rfl rfl dX3_layLink_1 ?_
  refine z_top (fun x21 ex21 => ?_)
  have hw := hw x21 ex21
  refine z_istore C [(5, .int x21), (0, .ref (w.1 i0)), (1, .int x1), (2, .int x2), (3, .int x3), (4, .int x4)] dX3_layLink_4 (by decide) rfl ?_
  refine z_aload_n C 1 (by rfl) dX3_layLink_6 ?_
  refine z_get C (Cn := RX3) (T := TX3) (N := 9) (ci := 3) h0.2 2 (tE3 h0.1) in_X3_layLink_X3 rfl (by decide) mw_X3_layLink_1 rfl rfl dX3_layLink_7 ?_
  refine z_iload C 0 (by rfl) dX3_layLink_10 ?_
  refine z_iload_n C 2 (by rfl) dX3_layLink_12 ?_
  obtain ⟨s22, hw⟩ := hw
  refine z_iast C (tR3_2 h0).2 (fun _ => tE11 (tR3_2 h0).1) s22 dX3_layLink_13 (fun τ23 eτ23 => ?_)
  have hw := hw τ23 eτ23
  refine z_aload_n C 1 (by rfl) dX3_layLink_14 ?_
  refine z_get C (Cn := RX3) (T := TX3) (N := 9) (ci := 3) h0.2 3 (tE3 h0.1) in_X3_layLink_X3 rfl (by decide) mw_X3_layLink_2 rfl rfl dX3_layLink_15 ?_
  refine z_iload C 0 (by rfl) dX3_layLink_18 ?_
  refine z_iload_n C 3 (by rfl) dX3_layLink_20 ?_
  obtain ⟨s24, hw⟩ := hw
  refine z_iast C (tR3_3 h0).2 (fun _ => tE11 (tR3_3 h0).1) s24 dX3_layLink_21 (fun τ25 eτ25 => ?_)
  have hw := hw τ25 eτ25
  refine z_aload_n C 1 (by rfl) dX3_layLink_22 ?_
  refine z_get C (Cn := RX3) (T := TX3) (N := 9) (ci := 3) h0.2 4 (tE3 h0.1) in_X3_layLink_X3 rfl (by decide) mw_X3_layLink_3 rfl rfl dX3_layLink_23 ?_
  refine z_iload C 0 (by rfl) dX3_layLink_26 ?_
  refine z_iload_n C 4 (by rfl) dX3_layLink_28 ?_
  obtain ⟨s26, hw⟩ := hw
  refine z_iast C (tR3_4 h0).2 (fun _ => tE11 (tR3_4 h0).1) s26 dX3_layLink_29 (fun τ27 eτ27 => ?_)
  have hw := hw τ27 eτ27
  refine z_aload_n C 1 (by rfl) dX3_layLink_30 ?_
  refine z_get C (Cn := RX3) (T := TX3) (N := 9) (ci := 3) h0.2 5 (tE3 h0.1) in_X3_layLink_X3 rfl (by decide) mw_X3_layLink_4 rfl rfl dX3_layLink_31 ?_
  refine z_iload C 0 (by rfl) dX3_layLink_34 ?_
  refine z_iload C 5 (by rfl) dX3_layLink_36 ?_
  obtain ⟨s28, hw⟩ := hw
  refine z_iast C (tR3_5 h0).2 (fun _ => tE11 (tR3_5 h0).1) s28 dX3_layLink_38 (fun τ29 eτ29 => ?_)
  have hw := hw τ29 eτ29
  refine z_aload_n C 1 (by rfl) dX3_layLink_39 ?_
  refine z_get C (Cn := RX3) (T := TX3) (N := 9) (ci := 3) h0.2 6 (tE3 h0.1) in_X3_layLink_X3 rfl (by decide) mw_X3_layLink_5 rfl rfl dX3_layLink_40 ?_
  refine z_iload C 0 (by rfl) dX3_layLink_43 ?_
  refine z_iconst C 1 (by decide) dX3_layLink_45 ?_
  obtain ⟨s30, hw⟩ := hw
  refine z_zast C (tR3_6 h0).2 (fun _ => tE12 (tR3_6 h0).1) s30 tp_z1.2.2 dX3_layLink_46 (fun τ31 eτ31 => ?_)
  have hw := hw τ31 eτ31
  refine z_aload_n C 1 (by rfl) dX3_layLink_47 ?_
  refine z_dup C rfl dX3_layLink_48 ?_
  refine z_get C (Cn := RX3) (T := TX3) (N := 9) (ci := 3) h0.2 1 (tE3 h0.1) in_X3_layLink_X3 rfl (by decide) mw_X3_layLink_0 rfl rfl dX3_layLink_49 ?_
  refine z_iconst C 1 (by decide) dX3_layLink_52 ?_
  refine z_iadd C dX3_layLink_53 ?_
  refine z_put C (Cn := RX3) (T := TX3) (N := 9) (ci := 3) h0.2 1 (tE3 h0.1) (tS3_1 h0.1 _) in_X3_layLink_X3 tyX3 tyX3_ok nmX3 rfl (by decide) mw_X3_layLink_0 rfl rfl (tyX3_ok 1 (by decide)) rfl rfl (Nat.le_of_ble_eq_true rfl) dX3_layLink_54 (fun τ32 eτ32 => ?_)
  have hw := hw τ32 eτ32
  refine z_aload_n C 1 (by rfl) dX3_layLink_57 ?_
  refine zv_v C (As := []) (bytes := cX3_measureRoutes) (maxL := 2) (F1 := 2) (L1 := 51) (c_X3_measureRoutes w _ i0 _ h0 hw) h0.2 (tE3 h0.1) rfl 0 gX3_layLink_X3_measureRoutes rfl (by decide +kernel) ⟨Nat.le_of_ble_eq_true rfl, Nat.le_of_ble_eq_true rfl⟩ rfl (Nat.le_of_ble_eq_true rfl) ⟨Nat.le_of_ble_eq_true rfl, Nat.le_of_ble_eq_true rfl⟩ rfl dX3_layLink_58 (fun τ33 hw => ?_)
  refine z_iload C 0 (by rfl) dX3_layLink_61 ?_
  exact hR _ _ _ _ dX3_layLink_63 hw
def wp_X3_flip (τ : TS) (i0 : Nat) (x1 : Int32) (K : TS → Prop) : Prop :=
  vp_in x1 12 ∧ (((¬ (τ 6 (Int32.toNatClampNeg x1)) = 0) → (vp_in x1 12 ∧ (∀ τ24 : TS, τ24 = tp_up τ 6 (Int32.toNatClampNeg x1) 0 → wp_X3_measureRoutes τ24 i0 (fun τ25 => K τ25)))) ∧ (((τ 6 (Int32.toNatClampNeg x1)) = 0) → (vp_in x1 12 ∧ (∀ τ27 : TS, τ27 = tp_up τ 6 (Int32.toNatClampNeg x1) 1 → wp_X3_measureRoutes τ27 i0 (fun τ28 => K τ28)))))
theorem mw_X3_flip_0 : Cond.fieldLink RX3 24 "TidePost$Net" "up" "[Z" ∈ wsX3_flip := List.mem_of_getElem? (i := 1) rfl
theorem in_X3_flip_X3 : ∀ x ∈ wsX30, x ∈ wsX3_flip := fun _ h => List.mem_cons_of_mem _ (List.mem_append_right _ h)
set_option maxHeartbeats 4000000 in
set_option maxRecDepth 100000 in
theorem c_X3_flip (w : WPar) (τ : TS) (i0 : Nat) (x1 : Int32) (K : TS → Prop) (h0 : tp_is w i0 3) (hw : wp_X3_flip τ i0 x1 K) : MV w yX3_flip wsX3_flip 3 72 [.ref (w.1 i0), .int x1] τ K := by
  refine tp_enterV (cc := cX3_flip) (maxL := 2) (own := RX3) (by decide) rfl rfl (Nat.le_of_ble_eq_true rfl) (fun g C hR => ?_)
  show Zt w g τ (0, 0) 0 [(0, .ref (w.1 i0)), (1, .int x1)] []
  unfold wp_X3_flip at hw
  refine z_aload_n C 0 (by rfl) dX3_flip_0 ?_
  refine z_get C (Cn := RX3) (T := TX3) (N := 9) (ci := 3) h0.2 6 (tE3 h0.1) in_X3_flip_X3 rfl (by decide) mw_X3_flip_0 rfl rfl dX3_flip_1 ?_
  refine z_iload_n C 1 (by rfl) dX3_flip_4 ?_
  refine z_aload_n C 0 (by rfl) dX3_flip_5 ?_
  refine z_get C (Cn := RX3) (T := TX3) (N := 9) (ci := 3) h0.2 6 (tE3 h0.1) in_X3_flip_X3 rfl (by decide) mw_X3_flip_0 rfl rfl dX3_flip_6 ?_
  refine z_iload_n C 1 (by rfl) dX3_flip_9 ?_
  obtain ⟨s21, hw⟩ := hw
  refine z_zald C (tR3_6 h0).2 (tE12 (tR3_6 h0).1) s21 dX3_flip_10 ?_
  refine z_if_ne (tgt := 18) C dX3_flip_11 (by decide) (fun c22 => ?_) (fun c22 => ?_)
  · have hw := hw.1 c22
    refine z_iconst C 0 (by decide) dX3_flip_18 ?_
    obtain ⟨s23, hw⟩ := hw
    refine z_zast C (tR3_6 h0).2 (fun _ => tE12 (tR3_6 h0).1) s23 tp_z0.2.2 dX3_flip_19 (fun τ24 eτ24 => ?_)
    have hw := hw τ24 eτ24
    refine z_aload_n C 0 (by rfl) dX3_flip_20 ?_
    refine zv_v C (As := []) (bytes := cX3_measureRoutes) (maxL := 2) (F1 := 2) (L1 := 51) (c_X3_measureRoutes w _ i0 _ h0 hw) h0.2 (tE3 h0.1) rfl 0 gX3_flip_X3_measureRoutes rfl (by decide +kernel) ⟨Nat.le_of_ble_eq_true rfl, Nat.le_of_ble_eq_true rfl⟩ rfl (Nat.le_of_ble_eq_true rfl) ⟨Nat.le_of_ble_eq_true rfl, Nat.le_of_ble_eq_true rfl⟩ rfl dX3_flip_21 (fun τ25 hw => ?_)
    exact hR _ _ _ dX3_flip_24 hw
  · have hw := hw.2 c22
    refine z_iconst C 1 (by decide) dX3_flip_14 ?_
    refine z_goto (tgt := 19) C dX3_flip_15 (by decide) ?_
    obtain ⟨s26, hw⟩ := hw
    refine z_zast C (tR3_6 h0).2 (fun _ => tE12 (tR3_6 h0).1) s26 tp_z1.2.2 dX3_flip_19 (fun τ27 eτ27 => ?_)
    have hw := hw τ27 eτ27
    refine z_aload_n C 0 (by rfl) dX3_flip_20 ?_
    refine zv_v C (As := []) (bytes := cX3_measureRoutes) (maxL := 2) (F1 := 2) (L1 := 51) (c_X3_measureRoutes w _ i0 _ h0 hw) h0.2 (tE3 h0.1) rfl 0 gX3_flip_X3_measureRoutes rfl (by decide +kernel) ⟨Nat.le_of_ble_eq_true rfl, Nat.le_of_ble_eq_true rfl⟩ rfl (Nat.le_of_ble_eq_true rfl) ⟨Nat.le_of_ble_eq_true rfl, Nat.le_of_ble_eq_true rfl⟩ rfl dX3_flip_21 (fun τ28 hw => ?_)
    exact hR _ _ _ dX3_flip_24 hw
