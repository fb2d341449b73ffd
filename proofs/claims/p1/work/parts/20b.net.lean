def wp_X3_spread (τ : TS) (i0 : Nat) (x1 : Int32) (x2 : Int32) (j3 : Nat) (K : TS → Prop) : Prop :=
  ∃ (I23 : TS → Int32 → Prop) (u23 : TS → Int32 → Nat), I23 τ 0 ∧ ∀ (τ21 : TS) (x22 : Int32), I23 τ21 x22 → (((8 ≤ x22) → (∃ (I28 : TS → Int32 → Int32 → Prop) (u28 : TS → Int32 → Int32 → Nat), I28 τ21 1 0 ∧ ∀ (τ25 : TS) (x26 : Int32) (x27 : Int32), I28 τ25 x26 x27 → ((((τ25 i0 0) ≤ x27) → (K τ25)) ∧ ((¬ (τ25 i0 0) ≤ x27) → (((x26 = 0) → (K τ25)) ∧ ((¬ x26 = 0) → (∃ (I34 : TS → Int32 → Int32 → Prop) (u34 : TS → Int32 → Int32 → Nat), I34 τ25 0 0 ∧ ∀ (τ31 : TS) (x32 : Int32) (x33 : Int32), I34 τ31 x32 x33 → ((((τ31 i0 1) ≤ x33) → (∀ x36 : Int32, x36 = x27 + 1 → I28 τ31 x32 x36 ∧ u28 τ31 x32 x36 < u28 τ25 x26 x27)) ∧ ((¬ (τ31 i0 1) ≤ x33) → (vp_in x33 12 ∧ ((((τ31 6 (Int32.toNatClampNeg x33)) = 0) → (∀ x39 : Int32, x39 = x33 + 1 → I34 τ31 x32 x39 ∧ u34 τ31 x32 x39 < u34 τ31 x32 x33)) ∧ ((¬ (τ31 6 (Int32.toNatClampNeg x33)) = 0) → (((x33 = x2) → (∀ x41 : Int32, x41 = x33 + 1 → I34 τ31 x32 x41 ∧ u34 τ31 x32 x41 < u34 τ31 x32 x33)) ∧ ((¬ x33 = x2) → (vp_in x33 12 ∧ (vp_in x33 12 ∧ (vp_in x33 12 ∧ (False)))))))))))))))))) ∧ ((¬ 8 ≤ x22) → (((¬ x22 = x1) → (vp_in x22 8 ∧ (∀ τ47 : TS, τ47 = tp_up τ21 j3 (Int32.toNatClampNeg x22) (-1) → ∀ x48 : Int32, x48 = x22 + 1 → I23 τ47 x48 ∧ u23 τ47 x48 < u23 τ21 x22))) ∧ ((x22 = x1) → (vp_in x22 8 ∧ (∀ τ50 : TS, τ50 = tp_up τ21 j3 (Int32.toNatClampNeg x22) 0 → ∀ x51 : Int32, x51 = x22 + 1 → I23 τ50 x51 ∧ u23 τ50 x51 < u23 τ21 x22))))))
theorem mw_X3_spread_0 : Cond.fieldLink RX3 36 "TidePost$Net" "nodes" "I" ∈ wsX3_spread := List.mem_of_getElem? (i := 1) rfl
theorem mw_X3_spread_1 : Cond.fieldLink RX3 43 "TidePost$Net" "links" "I" ∈ wsX3_spread := List.mem_of_getElem? (i := 2) rfl
theorem mw_X3_spread_2 : Cond.fieldLink RX3 24 "TidePost$Net" "up" "[Z" ∈ wsX3_spread := List.mem_of_getElem? (i := 3) rfl
theorem mw_X3_spread_3 : Cond.fieldLink RX3 9 "TidePost$Net" "firsts" "[I" ∈ wsX3_spread := List.mem_of_getElem? (i := 4) rfl
theorem mw_X3_spread_4 : Cond.fieldLink RX3 15 "TidePost$Net" "seconds" "[I" ∈ wsX3_spread := List.mem_of_getElem? (i := 5) rfl
theorem mw_X3_spread_5 : Cond.fieldLink RX3 18 "TidePost$Net" "delays" "[I" ∈ wsX3_spread := List.mem_of_getElem? (i := 6) rfl
theorem in_X3_spread_X3 : ∀ x ∈ wsX30, x ∈ wsX3_spread := fun _ h => List.mem_cons_of_mem _ (List.mem_append_right _ h)
set_option maxHeartbeats 4000000 in
set_option maxRecDepth 100000 in
theorem c_X3_spread (w : WPar) (τ : TS) (i0 : Nat) (x1 : Int32) (x2 : Int32) (j3 : Nat) (K : TS → Prop) (h0 : tp_is w i0 3) (h3 : tp_is w j3 13) (hw : wp_X3_spread τ i0 x1 x2 j3 K) : MV w yX3_spread wsX3_spread 0 0 [.ref (w.1 i0), .int x1, .int x2, .ref (w.1 j3)] τ K := by
  refine tp_enterV (cc := cX3_spread) (maxL := 9) (own := RX3) (by decide) rfl rfl (Nat.le_of_ble_eq_true rfl) (fun g C hR => ?_)
  show Zt w g τ (0, 0) 0 [(0, .ref (w.1 i0)), (1, .int x1), (2, .int x2), (3, .ref (w.1 j3))] []
  unfold wp_X3_spread at hw
  refine z_iconst C 0 (by decide) dX3_spread_0 ?_
  refine z_istore C [(4, .int 0), (0, .ref (w.1 i0)), (1, .int x1), (2, .int x2), (3, .ref (w.1 j3))] dX3_spread_1 (by decide) rfl ?_
  obtain ⟨I23, u23, hI23, hs23⟩ := hw
  have lp23 : ∀ (n23 : Nat) (τ21 : TS) (x22 : Int32), u23 τ21 x22 < n23 → I23 τ21 x22 → Zt w g τ21 (0, 0) 3 [(0, .ref (w.1 i0)), (1, .int x1), (2, .int x2), (3, .ref (w.1 j3)), (4, .int x22)] [] := by
    intro n23
    induction n23 with
    | zero => intro τ21 x22 hlt23; exact absurd hlt23 (Nat.not_lt_zero _)
    | succ n23 ih23 =>
      intro τ21 x22 hlt23 hh23
      have hw := hs23 τ21 x22 hh23
      refine z_iload C 4 (by rfl) dX3_spread_3 ?_
      refine z_aload_n C 3 (by rfl) dX3_spread_5 ?_
      refine z_alen C 0 8 h3.2 (tE13 h3.1) rfl rfl dX3_spread_6 ?_
      refine z_icmp_ge (tgt := 31) C dX3_spread_7 (by decide) (fun c24 => ?_) (fun c24 => ?_)
      · have hw := hw.1 c24
        refine z_iconst C 1 (by decide) dX3_spread_31 ?_
        refine z_istore C [(4, .int 1), (0, .ref (w.1 i0)), (1, .int x1), (2, .int x2), (3, .ref (w.1 j3))] dX3_spread_32 (by decide) rfl ?_
        refine z_iconst C 0 (by decide) dX3_spread_34 ?_
        refine z_istore C [(5, .int 0), (4, .int 1), (0, .ref (w.1 i0)), (1, .int x1), (2, .int x2), (3, .ref (w.1 j3))] dX3_spread_35 (by decide) rfl ?_
        obtain ⟨I28, u28, hI28, hs28⟩ := hw
        have lp28 : ∀ (n28 : Nat) (τ25 : TS) (x26 : Int32) (x27 : Int32), u28 τ25 x26 x27 < n28 → I28 τ25 x26 x27 → Zt w g τ25 (0, 0) 37 [(0, .ref (w.1 i0)), (2, .int x2), (3, .ref (w.1 j3)), (4, .int x26), (5, .int x27)] [] := by
          intro n28
          induction n28 with
          | zero => intro τ25 x26 x27 hlt28; exact absurd hlt28 (Nat.not_lt_zero _)
          | succ n28 ih28 =>
            intro τ25 x26 x27 hlt28 hh28
            have hw := hs28 τ25 x26 x27 hh28
            refine z_iload C 4 (by rfl) dX3_spread_37 ?_
            refine z_aload_n C 0 (by rfl) dX3_spread_39 ?_
            refine z_get C (Cn := RX3) (T := TX3) (N := 9) (ci := 3) h0.2 0 (tE3 h0.1) in_X3_spread_X3 rfl (by decide) mw_X3_spread_0 rfl rfl dX3_spread_40 ?_
            refine z_icmp_ge (tgt := 170) C dX3_spread_43 (by decide) (fun c29 => ?_) (fun c29 => ?_)
            · have hw := hw.1 c29
              exact hR _ _ _ dX3_spread_170 hw
            · have hw := hw.2 c29
              refine z_iload C 3 (by rfl) dX3_spread_46 ?_
              refine z_if_eq (tgt := 170) C dX3_spread_48 (by decide) (fun c30 => ?_) (fun c30 => ?_)
              · have hw := hw.1 c30
                exact hR _ _ _ dX3_spread_170 hw
              · have hw := hw.2 c30
                refine z_iconst C 0 (by decide) dX3_spread_51 ?_
                refine z_istore C [(4, .int 0), (0, .ref (w.1 i0)), (2, .int x2), (3, .ref (w.1 j3)), (5, .int x27)] dX3_spread_52 (by decide) rfl ?_
                refine z_iconst C 0 (by decide) dX3_spread_54 ?_
                refine z_istore C [(6, .int 0), (4, .int 0), (0, .ref (w.1 i0)), (2, .int x2), (3, .ref (w.1 j3)), (5, .int x27)] dX3_spread_55 (by decide) rfl ?_
                obtain ⟨I34, u34, hI34, hs34⟩ := hw
                have lp34 : ∀ (n34 : Nat) (τ31 : TS) (x32 : Int32) (x33 : Int32), u34 τ31 x32 x33 < n34 → I34 τ31 x32 x33 → Zt w g τ31 (0, 0) 57 [(0, .ref (w.1 i0)), (2, .int x2), (3, .ref (w.1 j3)), (4, .int x32), (5, .int x27), (6, .int x33)] [] := by
                  intro n34
                  induction n34 with
                  | zero => intro τ31 x32 x33 hlt34; exact absurd hlt34 (Nat.not_lt_zero _)
                  | succ n34 ih34 =>
                    intro τ31 x32 x33 hlt34 hh34
                    have hw := hs34 τ31 x32 x33 hh34
                    refine z_iload C 5 (by rfl) dX3_spread_57 ?_
                    refine z_aload_n C 0 (by rfl) dX3_spread_59 ?_
                    refine z_get C (Cn := RX3) (T := TX3) (N := 9) (ci := 3) h0.2 1 (tE3 h0.1) in_X3_spread_X3 rfl (by decide) mw_X3_spread_1 rfl rfl dX3_spread_60 ?_
                    refine z_icmp_ge (tgt := 164) C dX3_spread_63 (by decide) (fun c35 => ?_) (fun c35 => ?_)
                    · have hw := hw.1 c35
                      obtain ⟨x36, ex36⟩ : ∃ z : Int32, z = x27 + 1 := ⟨_, rfl⟩
                      have hw := hw x36 ex36
                      refine z_iinc C 4 x36 [(5, .int x36), (0, .ref (w.1 i0)), (2, .int x2), (3, .ref (w.1 j3)), (4, .int x32), (6, .int x33)] dX3_spread_164 (by rfl) (by rw [ex36]; rfl) (by decide) rfl ?_
                      refine z_goto (tgt := 37) C dX3_spread_167 (by decide) ?_
                      refine z_sub [1, 2, 3, 4, 0] [(0, .ref (w.1 i0)), (2, .int x2), (3, .ref (w.1 j3)), (4, .int x32), (5, .int x36)] rfl ?_
                      exact ih28 τ31 x32 x36 (Nat.lt_of_lt_of_le hw.2 (Nat.le_of_lt_succ hlt28)) hw.1
                    · have hw := hw.2 c35
                      refine z_aload_n C 0 (by rfl) dX3_spread_66 ?_
                      refine z_get C (Cn := RX3) (T := TX3) (N := 9) (ci := 3) h0.2 6 (tE3 h0.1) in_X3_spread_X3 rfl (by decide) mw_X3_spread_2 rfl rfl dX3_spread_67 ?_
                      refine z_iload C 5 (by rfl) dX3_spread_70 ?_
                      obtain ⟨s37, hw⟩ := hw
                      refine z_zald C (tR3_6 h0).2 (tE12 (tR3_6 h0).1) s37 dX3_spread_72 ?_
                      refine z_if_eq (tgt := 158) C dX3_spread_73 (by decide) (fun c38 => ?_) (fun c38 => ?_)
                      · have hw := hw.1 c38
                        obtain ⟨x39, ex39⟩ : ∃ z : Int32, z = x33 + 1 := ⟨_, rfl⟩
                        have hw := hw x39 ex39
                        refine z_iinc C 5 x39 [(6, .int x39), (0, .ref (w.1 i0)), (2, .int x2), (3, .ref (w.1 j3)), (4, .int x32), (5, .int x27)] dX3_spread_158 (by rfl) (by rw [ex39]; rfl) (by decide) rfl ?_
                        refine z_goto (tgt := 57) C dX3_spread_161 (by decide) ?_
                        refine z_sub [1, 2, 3, 4, 5, 0] [(0, .ref (w.1 i0)), (2, .int x2), (3, .ref (w.1 j3)), (4, .int x32), (5, .int x27), (6, .int x39)] rfl ?_
                        exact ih34 τ31 x32 x39 (Nat.lt_of_lt_of_le hw.2 (Nat.le_of_lt_succ hlt34)) hw.1
                      · have hw := hw.2 c38
                        refine z_iload C 5 (by rfl) dX3_spread_76 ?_
                        refine z_iload_n C 1 (by rfl) dX3_spread_78 ?_
                        refine z_icmp_eq (tgt := 158) C dX3_spread_79 (by decide) (fun c40 => ?_) (fun c40 => ?_)
                        · have hw := hw.1 c40
                          obtain ⟨x41, ex41⟩ : ∃ z : Int32, z = x33 + 1 := ⟨_, rfl⟩
                          have hw := hw x41 ex41
                          refine z_iinc C 5 x41 [(6, .int x41), (0, .ref (w.1 i0)), (2, .int x2), (3, .ref (w.1 j3)), (4, .int x32), (5, .int x27)] dX3_spread_158 (by rfl) (by rw [ex41]; rfl) (by decide) rfl ?_
                          refine z_goto (tgt := 57) C dX3_spread_161 (by decide) ?_
                          refine z_sub [1, 2, 3, 4, 5, 0] [(0, .ref (w.1 i0)), (2, .int x2), (3, .ref (w.1 j3)), (4, .int x32), (5, .int x27), (6, .int x41)] rfl ?_
                          exact ih34 τ31 x32 x41 (Nat.lt_of_lt_of_le hw.2 (Nat.le_of_lt_succ hlt34)) hw.1
                        · have hw := hw.2 c40
                          refine z_aload_n C 2 (by rfl) dX3_spread_82 ?_
                          refine z_aload_n C 0 (by rfl) dX3_spread_83 ?_
                          refine z_get C (Cn := RX3) (T := TX3) (N := 9) (ci := 3) h0.2 2 (tE3 h0.1) in_X3_spread_X3 rfl (by decide) mw_X3_spread_3 rfl rfl dX3_spread_84 ?_
                          refine z_iload C 5 (by rfl) dX3_spread_87 ?_
                          obtain ⟨s42, hw⟩ := hw
                          refine z_iald C (tR3_2 h0).2 (tE11 (tR3_2 h0).1) s42 dX3_spread_89 ?_
                          refine z_aload_n C 0 (by rfl) dX3_spread_90 ?_
                          refine z_get C (Cn := RX3) (T := TX3) (N := 9) (ci := 3) h0.2 3 (tE3 h0.1) in_X3_spread_X3 rfl (by decide) mw_X3_spread_4 rfl rfl dX3_spread_91 ?_
                          refine z_iload C 5 (by rfl) dX3_spread_94 ?_
                          obtain ⟨s43, hw⟩ := hw
                          refine z_iald C (tR3_3 h0).2 (tE11 (tR3_3 h0).1) s43 dX3_spread_96 ?_
                          refine z_aload_n C 0 (by rfl) dX3_spread_97 ?_
                          refine z_get C (Cn := RX3) (T := TX3) (N := 9) (ci := 3) h0.2 4 (tE3 h0.1) in_X3_spread_X3 rfl (by decide) mw_X3_spread_5 rfl rfl dX3_spread_98 ?_
                          refine z_iload C 5 (by rfl) dX3_spread_101 ?_
                          obtain ⟨s44, hw⟩ := hw
                          refine z_iald C (tR3_4 h0).2 (tE11 (tR3_4 h0).1) s44 dX3_spread_103 ?_
                          exact hw.elim
                refine z_sub [2, 3, 4, 1, 5, 0] [(0, .ref (w.1 i0)), (2, .int x2), (3, .ref (w.1 j3)), (4, .int 0), (5, .int x27), (6, .int 0)] rfl ?_
                exact lp34 _ τ25 0 0 (Nat.lt_succ_self _) hI34
        refine z_sub [2, 4, 5, 1, 0] [(0, .ref (w.1 i0)), (2, .int x2), (3, .ref (w.1 j3)), (4, .int 1), (5, .int 0)] rfl ?_
        exact lp28 _ τ21 1 0 (Nat.lt_succ_self _) hI28
      · have hw := hw.2 c24
        refine z_aload_n C 3 (by rfl) dX3_spread_10 ?_
        refine z_iload C 4 (by rfl) dX3_spread_11 ?_
        refine z_iload C 4 (by rfl) dX3_spread_13 ?_
        refine z_iload_n C 1 (by rfl) dX3_spread_15 ?_
        refine z_icmp_ne (tgt := 23) C dX3_spread_16 (by decide) (fun c45 => ?_) (fun c45 => ?_)
        · have hw := hw.1 c45
          refine z_iconst C (-1) (by decide) dX3_spread_23 ?_
          obtain ⟨s46, hw⟩ := hw
          refine z_iast C h3.2 (fun _ => tE13 h3.1) s46 dX3_spread_24 (fun τ47 eτ47 => ?_)
          have hw := hw τ47 eτ47
          obtain ⟨x48, ex48⟩ : ∃ z : Int32, z = x22 + 1 := ⟨_, rfl⟩
          have hw := hw x48 ex48
          refine z_iinc C 4 x48 [(4, .int x48), (0, .ref (w.1 i0)), (1, .int x1), (2, .int x2), (3, .ref (w.1 j3))] dX3_spread_25 (by rfl) (by rw [ex48]; rfl) (by decide) rfl ?_
          refine z_goto (tgt := 3) C dX3_spread_28 (by decide) ?_
          refine z_sub [1, 2, 3, 4, 0] [(0, .ref (w.1 i0)), (1, .int x1), (2, .int x2), (3, .ref (w.1 j3)), (4, .int x48)] rfl ?_
          exact ih23 τ47 x48 (Nat.lt_of_lt_of_le hw.2 (Nat.le_of_lt_succ hlt23)) hw.1
        · have hw := hw.2 c45
          refine z_iconst C 0 (by decide) dX3_spread_19 ?_
          refine z_goto (tgt := 24) C dX3_spread_20 (by decide) ?_
          obtain ⟨s49, hw⟩ := hw
          refine z_iast C h3.2 (fun _ => tE13 h3.1) s49 dX3_spread_24 (fun τ50 eτ50 => ?_)
          have hw := hw τ50 eτ50
          obtain ⟨x51, ex51⟩ : ∃ z : Int32, z = x22 + 1 := ⟨_, rfl⟩
          have hw := hw x51 ex51
          refine z_iinc C 4 x51 [(4, .int x51), (0, .ref (w.1 i0)), (1, .int x1), (2, .int x2), (3, .ref (w.1 j3))] dX3_spread_25 (by rfl) (by rw [ex51]; rfl) (by decide) rfl ?_
          refine z_goto (tgt := 3) C dX3_spread_28 (by decide) ?_
          refine z_sub [1, 2, 3, 4, 0] [(0, .ref (w.1 i0)), (1, .int x1), (2, .int x2), (3, .ref (w.1 j3)), (4, .int x51)] rfl ?_
          exact ih23 τ50 x51 (Nat.lt_of_lt_of_le hw.2 (Nat.le_of_lt_succ hlt23)) hw.1
  refine z_sub [1, 2, 3, 4, 0] [(0, .ref (w.1 i0)), (1, .int x1), (2, .int x2), (3, .ref (w.1 j3)), (4, .int 0)] rfl ?_
  exact lp23 _ τ 0 (Nat.lt_succ_self _) hI23
def wp_X3_measureRoutes (τ : TS) (i0 : Nat) (K : TS → Prop) : Prop :=
  ∃ (I23 : TS → Int32 → Prop) (u23 : TS → Int32 → Nat), I23 τ 0 ∧ ∀ (τ21 : TS) (x22 : Int32), I23 τ21 x22 → ((((τ21 i0 0) ≤ x22) → (K τ21)) ∧ ((¬ (τ21 i0 0) ≤ x22) → (vp_in x22 8 ∧ (wp_X3_spread τ21 i0 x22 (-1) (8 + (Int32.toNatClampNeg x22)) (fun τ26 => ∀ x27 : Int32, x27 = x22 + 1 → I23 τ26 x27 ∧ u23 τ26 x27 < u23 τ21 x22)))))
theorem mw_X3_measureRoutes_0 : Cond.fieldLink RX3 36 "TidePost$Net" "nodes" "I" ∈ wsX3_measureRoutes := List.mem_of_getElem? (i := 1) rfl
theorem mw_X3_measureRoutes_1 : Cond.fieldLink RX3 30 "TidePost$Net" "distances" "[[I" ∈ wsX3_measureRoutes := List.mem_of_getElem? (i := 2) rfl
theorem in_X3_measureRoutes_X3 : ∀ x ∈ wsX30, x ∈ wsX3_measureRoutes := fun _ h => List.mem_cons_of_mem _ (List.mem_append_right _ h)
set_option maxHeartbeats 4000000 in
set_option maxRecDepth 100000 in
theorem c_X3_measureRoutes (w : WPar) (τ : TS) (i0 : Nat) (K : TS → Prop) (h0 : tp_is w i0 3) (hw : wp_X3_measureRoutes τ i0 K) : MV w yX3_measureRoutes wsX3_measureRoutes 1 28 [.ref (w.1 i0)] τ K := by
  refine tp_enterV (cc := cX3_measureRoutes) (maxL := 2) (own := RX3) (by decide) rfl rfl (Nat.le_of_ble_eq_true rfl) (fun g C hR => ?_)
  show Zt w g τ (0, 0) 0 [(0, .ref (w.1 i0))] []
  unfold wp_X3_measureRoutes at hw
  refine z_iconst C 0 (by decide) dX3_measureRoutes_0 ?_
  refine z_istore_n C [(1, .int 0), (0, .ref (w.1 i0))] dX3_measureRoutes_1 (by decide) rfl ?_
  obtain ⟨I23, u23, hI23, hs23⟩ := hw
  have lp23 : ∀ (n23 : Nat) (τ21 : TS) (x22 : Int32), u23 τ21 x22 < n23 → I23 τ21 x22 → Zt w g τ21 (0, 0) 2 [(0, .ref (w.1 i0)), (1, .int x22)] [] := by
    intro n23
    induction n23 with
    | zero => intro τ21 x22 hlt23; exact absurd hlt23 (Nat.not_lt_zero _)
    | succ n23 ih23 =>
      intro τ21 x22 hlt23 hh23
      have hw := hs23 τ21 x22 hh23
      refine z_iload_n C 1 (by rfl) dX3_measureRoutes_2 ?_
      refine z_aload_n C 0 (by rfl) dX3_measureRoutes_3 ?_
      refine z_get C (Cn := RX3) (T := TX3) (N := 9) (ci := 3) h0.2 0 (tE3 h0.1) in_X3_measureRoutes_X3 rfl (by decide) mw_X3_measureRoutes_0 rfl rfl dX3_measureRoutes_4 ?_
      refine z_icmp_ge (tgt := 28) C dX3_measureRoutes_7 (by decide) (fun c24 => ?_) (fun c24 => ?_)
      · have hw := hw.1 c24
        exact hR _ _ _ dX3_measureRoutes_28 hw
      · have hw := hw.2 c24
        refine z_aload_n C 0 (by rfl) dX3_measureRoutes_10 ?_
        refine z_iload_n C 1 (by rfl) dX3_measureRoutes_11 ?_
        refine z_iconst C (-1) (by decide) dX3_measureRoutes_12 ?_
        refine z_aload_n C 0 (by rfl) dX3_measureRoutes_13 ?_
        refine z_get C (Cn := RX3) (T := TX3) (N := 9) (ci := 3) h0.2 7 (tE3 h0.1) in_X3_measureRoutes_X3 rfl (by decide) mw_X3_measureRoutes_1 rfl rfl dX3_measureRoutes_14 ?_
        refine z_iload_n C 1 (by rfl) dX3_measureRoutes_17 ?_
        obtain ⟨s25, hw⟩ := hw
        refine z_aald_q4 C (tR3_7 h0).2 (tE14 (tR3_7 h0).1) s25 (if_pos (tp_lt s25)) dX3_measureRoutes_18 ?_
        refine zv_v C (As := [.int x22, .int (-1), .ref (w.1 (8 + (Int32.toNatClampNeg x22)))]) (bytes := cX3_spread) (maxL := 9) (F1 := 0) (L1 := 0) (c_X3_spread w _ i0 x22 (-1) (8 + (Int32.toNatClampNeg x22)) _ h0 (tR14 (tR3_7 h0) (tp_lt s25)) hw) h0.2 (tE3 h0.1) rfl 3 gX3_measureRoutes_X3_spread rfl (by decide +kernel) ⟨Nat.le_of_ble_eq_true rfl, Nat.le_of_ble_eq_true rfl⟩ rfl (Nat.le_of_ble_eq_true rfl) ⟨Nat.le_of_ble_eq_true rfl, Nat.le_of_ble_eq_true rfl⟩ rfl dX3_measureRoutes_19 (fun τ26 hw => ?_)
        obtain ⟨x27, ex27⟩ : ∃ z : Int32, z = x22 + 1 := ⟨_, rfl⟩
        have hw := hw x27 ex27
        refine z_iinc C 1 x27 [(1, .int x27), (0, .ref (w.1 i0))] dX3_measureRoutes_22 (by rfl) (by rw [ex27]; rfl) (by decide) rfl ?_
        refine z_goto (tgt := 2) C dX3_measureRoutes_25 (by decide) ?_
        refine z_sub [1, 0] [(0, .ref (w.1 i0)), (1, .int x27)] rfl ?_
        exact ih23 τ26 x27 (Nat.lt_of_lt_of_le hw.2 (Nat.le_of_lt_succ hlt23)) hw.1
  refine z_sub [1, 0] [(0, .ref (w.1 i0)), (1, .int 0)] rfl ?_
  exact lp23 _ τ 0 (Nat.lt_succ_self _) hI23
def wp_X3_layNode (τ : TS) (i0 : Nat) (K : TS → Int32 → Prop) : Prop :=
  ∀ τ21 : TS, τ21 = tp_up τ i0 0 ((τ i0 0) + 1) → wp_X3_measureRoutes τ21 i0 (fun τ22 => K τ22 ((τ22 i0 0) - 1))
theorem mw_X3_layNode_0 : Cond.fieldLink RX3 36 "TidePost$Net" "nodes" "I" ∈ wsX3_layNode := List.mem_of_getElem? (i := 1) rfl
theorem in_X3_layNode_X3 : ∀ x ∈ wsX30, x ∈ wsX3_layNode := fun _ h => List.mem_cons_of_mem _ (List.mem_append_right _ h)
set_option maxHeartbeats 4000000 in
set_option maxRecDepth 100000 in
theorem c_X3_layNode (w : WPar) (τ : TS) (i0 : Nat) (K : TS → Int32 → Prop) (h0 : tp_is w i0 3) (hw : wp_X3_layNode τ i0 K) : MI w yX3_layNode wsX3_layNode 2 49 [.ref (w.1 i0)] τ K := by
  refine tp_enterI (cc := cX3_layNode) (maxL := 1) (own := RX3) (by decide) rfl rfl (Nat.le_of_ble_eq_true rfl) (fun g C hR => ?_)
  show Zt w g τ (0, 0) 0 [(0, .ref (w.1 i0))] []
  unfold wp_X3_layNode at hw
  refine z_aload_n C 0 (by rfl) dX3_layNode_0 ?_
  refine z_dup C rfl dX3_layNode_1 ?_
  refine z_get C (Cn := RX3) (T := TX3) (N := 9) (ci := 3) h0.2 0 (tE3 h0.1) in_X3_layNode_X3 rfl (by decide) mw_X3_layNode_0 rfl rfl dX3_layNode_2 ?_
  refine z_iconst C 1 (by decide) dX3_layNode_5 ?_
  refine z_iadd C dX3_layNode_6 ?_
  refine z_put C (Cn := RX3) (T := TX3) (N := 9) (ci := 3) h0.2 0 (tE3 h0.1) (tS3_0 h0.1 _) in_X3_layNode_X3 tyX3 tyX3_ok nmX3 rfl (by decide) mw_X3_layNode_0 rfl rfl (tyX3_ok 0 (by decide)) rfl rfl (Nat.le_of_ble_eq_true rfl) dX3_layNode_7 (fun τ21 eτ21 => ?_)
  have hw := hw τ21 eτ21
  refine z_aload_n C 0 (by rfl) dX3_layNode_10 ?_
  refine zv_v C (As := []) (bytes := cX3_measureRoutes) (maxL := 2) (F1 := 1) (L1 := 28) (c_X3_measureRoutes w _ i0 _ h0 hw) h0.2 (tE3 h0.1) rfl 0 gX3_layNode_X3_measureRoutes rfl (by decide +kernel) ⟨Nat.le_of_ble_eq_true rfl, Nat.le_of_ble_eq_true rfl⟩ rfl (Nat.le_of_ble_eq_true rfl) ⟨Nat.le_of_ble_eq_true rfl, Nat.le_of_ble_eq_true rfl⟩ rfl dX3_layNode_11 (fun τ22 hw => ?_)
  refine z_aload_n C 0 (by rfl) dX3_layNode_14 ?_
  refine z_get C (Cn := RX3) (T := TX3) (N := 9) (ci := 3) h0.2 0 (tE3 h0.1) in_X3_layNode_X3 rfl (by decide) mw_X3_layNode_0 rfl rfl dX3_layNode_15 ?_
  refine z_iconst C 1 (by decide) dX3_layNode_18 ?_
  refine z_isub C dX3_layNode_19 ?_
  exact hR _ _ _ _ dX3_layNode_20 hw
