def wp_X0_spare (τ : TS) (i0 : Nat) (K : TS → Int32 → Prop) : Prop :=
  ∀ x1 : Int32, x1 = (if 0 < (((τ i0 2) + (τ i0 0)) - (τ i0 1)) then (((τ i0 2) + (τ i0 0)) - (τ i0 1)) else 0) → K τ x1
theorem mw_X0_spare_0 : Cond.fieldLink RX0 15 "TidePost$Callee" "read" "I" ∈ wsX0_spare := List.mem_of_getElem? (i := 1) rfl
theorem mw_X0_spare_1 : Cond.fieldLink RX0 19 "TidePost$Callee" "buffer" "I" ∈ wsX0_spare := List.mem_of_getElem? (i := 2) rfl
theorem mw_X0_spare_2 : Cond.fieldLink RX0 22 "TidePost$Callee" "wanted" "I" ∈ wsX0_spare := List.mem_of_getElem? (i := 3) rfl
theorem mw_X0_spare_3 : Cond.methodLink RX0 25 Lib.Math.max.name ∈ wsX0_spare := List.mem_of_getElem? (i := 4) rfl
theorem mw_X0_spare_4 : Cond.static Lib.Math.max.name ∈ wsX0_spare := List.mem_of_getElem? (i := 5) rfl
theorem mw_X0_spare_5 : Cond.initialized "java/lang/Math" ∈ wsX0_spare := List.mem_of_getElem? (i := 6) rfl
theorem mw_X0_spare_6 : Cond.code Lib.Math.max.name Lib.Math.max.code 2 (some .int) ∈ wsX0_spare := List.mem_of_getElem? (i := 7) rfl
theorem in_X0_spare_X0 : ∀ x ∈ wsX00, x ∈ wsX0_spare := fun _ h => List.mem_cons_of_mem _ (List.mem_append_right _ h)
set_option maxHeartbeats 4000000 in
set_option maxRecDepth 100000 in
theorem c_X0_spare (w : WPar) (τ : TS) (i0 : Nat) (K : TS → Int32 → Prop) (h0 : tp_is i0 0) (hw : wp_X0_spare τ i0 K) : MI w yX0_spare wsX0_spare 1 13 [.ref (w.1 i0)] τ K := by
  refine tp_enterI (cc := cX0_spare) (maxL := 1) (own := RX0) (by decide) rfl rfl (Nat.le_of_ble_eq_true rfl) (fun g C hR => ?_)
  show Zt w g τ (0, 0) 0 [(0, .ref (w.1 i0))] []
  unfold wp_X0_spare at hw
  refine z_iconst C 0 (by decide) dX0_spare_0 ?_
  refine z_aload_n C 0 (by rfl) dX0_spare_1 ?_
  refine z_get C (Cn := RX0) (T := TX0) (N := 4) (ci := 0) h0.2 2 (tE0 h0.1) in_X0_spare_X0 rfl (by decide) mw_X0_spare_0 rfl rfl dX0_spare_2 ?_
  refine z_aload_n C 0 (by rfl) dX0_spare_5 ?_
  refine z_get C (Cn := RX0) (T := TX0) (N := 4) (ci := 0) h0.2 0 (tE0 h0.1) in_X0_spare_X0 rfl (by decide) mw_X0_spare_1 rfl rfl dX0_spare_6 ?_
  refine z_iadd C dX0_spare_9 ?_
  refine z_aload_n C 0 (by rfl) dX0_spare_10 ?_
  refine z_get C (Cn := RX0) (T := TX0) (N := 4) (ci := 0) h0.2 1 (tE0 h0.1) in_X0_spare_X0 rfl (by decide) mw_X0_spare_2 rfl rfl dX0_spare_11 ?_
  refine z_isub C dX0_spare_14 ?_
  refine z_max C mw_X0_spare_3 mw_X0_spare_4 mw_X0_spare_5 mw_X0_spare_6 (Nat.le_of_ble_eq_true rfl) (Nat.le_of_ble_eq_true rfl) (Nat.zero_le _) (Nat.zero_le _) dX0_spare_15 ?_
  refine z_top (fun x1 ex1 => ?_)
  have hw := hw x1 ex1
  exact hR _ _ _ _ dX0_spare_18 hw
def wp_X0_take (τ : TS) (i0 : Nat) (x1 : Int32) (x2 : Int32) (K : TS → Int32 → Prop) : Prop :=
  ((x1 < (τ i0 1)) → (K τ 1)) ∧ ((¬ x1 < (τ i0 1)) → (((201 ≤ x1) → (K τ 1)) ∧ ((¬ 201 ≤ x1) → (vp_in x1 201 ∧ ((((τ (i0 + 1) (Int32.toNatClampNeg x1)) = 0) → (∃ J5 : Prop, (J5  → (vp_in x1 201 ∧ (∀ τ7 : TS, τ7 = tp_up τ (i0 + 1) (Int32.toNatClampNeg x1) 1 → ∃ (I9 : TS → Prop) (u9 : TS → Nat), I9 τ7 ∧ ∀ (τ8 : TS), I9 τ8 → (((201 ≤ (τ8 i0 1)) → (K τ8 1)) ∧ ((¬ 201 ≤ (τ8 i0 1)) → (vp_in (τ8 i0 1) 201 ∧ ((((τ8 (i0 + 1) (Int32.toNatClampNeg (τ8 i0 1))) = 0) → (K τ8 1)) ∧ ((¬ (τ8 (i0 + 1) (Int32.toNatClampNeg (τ8 i0 1))) = 0) → (vp_in (τ8 i0 1) 201 ∧ (∀ τ14 : TS, τ14 = tp_up τ8 (i0 + 1) (Int32.toNatClampNeg (τ8 i0 1)) 0 → ∀ τ15 : TS, τ15 = tp_up τ14 i0 1 ((τ14 i0 1) + 1) → I9 τ15 ∧ u9 τ15 < u9 τ8)))))))))) ∧ (((x2 = 0) → J5) ∧ ((¬ x2 = 0) → (((x1 < ((τ i0 2) + (τ i0 0))) → J5) ∧ ((¬ x1 < ((τ i0 2) + (τ i0 0))) → (K τ 0))))))) ∧ ((¬ (τ (i0 + 1) (Int32.toNatClampNeg x1)) = 0) → (K τ 1)))))))
theorem mw_X0_take_0 : Cond.fieldLink RX0 22 "TidePost$Callee" "wanted" "I" ∈ wsX0_take := List.mem_of_getElem? (i := 1) rfl
theorem mw_X0_take_1 : Cond.fieldLink RX0 9 "TidePost$Callee" "held" "[Z" ∈ wsX0_take := List.mem_of_getElem? (i := 2) rfl
theorem mw_X0_take_2 : Cond.fieldLink RX0 15 "TidePost$Callee" "read" "I" ∈ wsX0_take := List.mem_of_getElem? (i := 3) rfl
theorem mw_X0_take_3 : Cond.fieldLink RX0 19 "TidePost$Callee" "buffer" "I" ∈ wsX0_take := List.mem_of_getElem? (i := 4) rfl
theorem in_X0_take_X0 : ∀ x ∈ wsX00, x ∈ wsX0_take := fun _ h => List.mem_cons_of_mem _ (List.mem_append_right _ h)
set_option maxHeartbeats 4000000 in
set_option maxRecDepth 100000 in
theorem c_X0_take (w : WPar) (τ : TS) (i0 : Nat) (x1 : Int32) (x2 : Int32) (K : TS → Int32 → Prop) (h0 : tp_is i0 0) (hw : wp_X0_take τ i0 x1 x2 K) : MI w yX0_take wsX0_take 0 0 [.ref (w.1 i0), .int x1, .int x2] τ K := by
  refine tp_enterZ (cc := cX0_take) (maxL := 3) (own := RX0) (by decide) rfl rfl (Nat.le_of_ble_eq_true rfl) (fun g C hR => ?_)
  show Zt w g τ (0, 0) 0 [(0, .ref (w.1 i0)), (1, .int x1), (2, .int x2)] []
  unfold wp_X0_take at hw
  refine z_iload_n C 1 (by rfl) dX0_take_0 ?_
  refine z_aload_n C 0 (by rfl) dX0_take_1 ?_
  refine z_get C (Cn := RX0) (T := TX0) (N := 4) (ci := 0) h0.2 1 (tE0 h0.1) in_X0_take_X0 rfl (by decide) mw_X0_take_0 rfl rfl dX0_take_2 ?_
  refine z_icmp_lt (tgt := 26) C dX0_take_5 (by decide) (fun c1 => ?_) (fun c1 => ?_)
  · have hw := hw.1 c1
    refine z_iconst C 1 (by decide) dX0_take_26 ?_
    exact hR _ _ _ _ dX0_take_27 rfl hw
  · have hw := hw.2 c1
    refine z_iload_n C 1 (by rfl) dX0_take_8 ?_
    refine z_aload_n C 0 (by rfl) dX0_take_9 ?_
    refine z_get C (Cn := RX0) (T := TX0) (N := 4) (ci := 0) h0.2 3 (tE0 h0.1) in_X0_take_X0 rfl (by decide) mw_X0_take_1 rfl rfl dX0_take_10 ?_
    refine z_alen C 1 201 (tR0_3 h0).2 (tE10 (tR0_3 h0).1) rfl rfl dX0_take_13 ?_
    refine z_icmp_ge (tgt := 26) C dX0_take_14 (by decide) (fun c2 => ?_) (fun c2 => ?_)
    · have hw := hw.1 c2
      refine z_iconst C 1 (by decide) dX0_take_26 ?_
      exact hR _ _ _ _ dX0_take_27 rfl hw
    · have hw := hw.2 c2
      refine z_aload_n C 0 (by rfl) dX0_take_17 ?_
      refine z_get C (Cn := RX0) (T := TX0) (N := 4) (ci := 0) h0.2 3 (tE0 h0.1) in_X0_take_X0 rfl (by decide) mw_X0_take_1 rfl rfl dX0_take_18 ?_
      refine z_iload_n C 1 (by rfl) dX0_take_21 ?_
      obtain ⟨s3, hw⟩ := hw
      refine z_zald C (tR0_3 h0).2 (tE10 (tR0_3 h0).1) s3 dX0_take_22 ?_
      refine z_if_eq (tgt := 28) C dX0_take_23 (by decide) (fun c4 => ?_) (fun c4 => ?_)
      · have hw := hw.1 c4
        refine z_iload_n C 2 (by rfl) dX0_take_28 ?_
        obtain ⟨J5, hJ5, hw⟩ := hw
        have jn5 : J5  → Zt w g τ (0, 0) 47 [(0, .ref (w.1 i0)), (1, .int x1)] [] := by
          intro  hj5
          have hw := hJ5  hj5
          refine z_aload_n C 0 (by rfl) dX0_take_47 ?_
          refine z_get C (Cn := RX0) (T := TX0) (N := 4) (ci := 0) h0.2 3 (tE0 h0.1) in_X0_take_X0 rfl (by decide) mw_X0_take_1 rfl rfl dX0_take_48 ?_
          refine z_iload_n C 1 (by rfl) dX0_take_51 ?_
          refine z_iconst C 1 (by decide) dX0_take_52 ?_
          obtain ⟨s6, hw⟩ := hw
          refine z_zast C (tR0_3 h0).2 (fun _ => tE10 (tR0_3 h0).1) s6 tp_z1.2.2 dX0_take_53 (fun τ7 eτ7 => ?_)
          have hw := hw τ7 eτ7
          obtain ⟨I9, u9, hI9, hs9⟩ := hw
          have lp9 : ∀ (n9 : Nat) (τ8 : TS), u9 τ8 < n9 → I9 τ8 → Zt w g τ8 (0, 0) 54 [(0, .ref (w.1 i0))] [] := by
            intro n9
            induction n9 with
            | zero => intro τ8 hlt9; exact absurd hlt9 (Nat.not_lt_zero _)
            | succ n9 ih9 =>
              intro τ8 hlt9 hh9
              have hw := hs9 τ8 hh9
              refine z_aload_n C 0 (by rfl) dX0_take_54 ?_
              refine z_get C (Cn := RX0) (T := TX0) (N := 4) (ci := 0) h0.2 1 (tE0 h0.1) in_X0_take_X0 rfl (by decide) mw_X0_take_0 rfl rfl dX0_take_55 ?_
              refine z_aload_n C 0 (by rfl) dX0_take_58 ?_
              refine z_get C (Cn := RX0) (T := TX0) (N := 4) (ci := 0) h0.2 3 (tE0 h0.1) in_X0_take_X0 rfl (by decide) mw_X0_take_1 rfl rfl dX0_take_59 ?_
              refine z_alen C 1 201 (tR0_3 h0).2 (tE10 (tR0_3 h0).1) rfl rfl dX0_take_62 ?_
              refine z_icmp_ge (tgt := 101) C dX0_take_63 (by decide) (fun c10 => ?_) (fun c10 => ?_)
              · have hw := hw.1 c10
                refine z_iconst C 1 (by decide) dX0_take_101 ?_
                exact hR _ _ _ _ dX0_take_102 rfl hw
              · have hw := hw.2 c10
                refine z_aload_n C 0 (by rfl) dX0_take_66 ?_
                refine z_get C (Cn := RX0) (T := TX0) (N := 4) (ci := 0) h0.2 3 (tE0 h0.1) in_X0_take_X0 rfl (by decide) mw_X0_take_1 rfl rfl dX0_take_67 ?_
                refine z_aload_n C 0 (by rfl) dX0_take_70 ?_
                refine z_get C (Cn := RX0) (T := TX0) (N := 4) (ci := 0) h0.2 1 (tE0 h0.1) in_X0_take_X0 rfl (by decide) mw_X0_take_0 rfl rfl dX0_take_71 ?_
                obtain ⟨s11, hw⟩ := hw
                refine z_zald C (tR0_3 h0).2 (tE10 (tR0_3 h0).1) s11 dX0_take_74 ?_
                refine z_if_eq (tgt := 101) C dX0_take_75 (by decide) (fun c12 => ?_) (fun c12 => ?_)
                · have hw := hw.1 c12
                  refine z_iconst C 1 (by decide) dX0_take_101 ?_
                  exact hR _ _ _ _ dX0_take_102 rfl hw
                · have hw := hw.2 c12
                  refine z_aload_n C 0 (by rfl) dX0_take_78 ?_
                  refine z_get C (Cn := RX0) (T := TX0) (N := 4) (ci := 0) h0.2 3 (tE0 h0.1) in_X0_take_X0 rfl (by decide) mw_X0_take_1 rfl rfl dX0_take_79 ?_
                  refine z_aload_n C 0 (by rfl) dX0_take_82 ?_
                  refine z_get C (Cn := RX0) (T := TX0) (N := 4) (ci := 0) h0.2 1 (tE0 h0.1) in_X0_take_X0 rfl (by decide) mw_X0_take_0 rfl rfl dX0_take_83 ?_
                  refine z_iconst C 0 (by decide) dX0_take_86 ?_
                  obtain ⟨s13, hw⟩ := hw
                  refine z_zast C (tR0_3 h0).2 (fun _ => tE10 (tR0_3 h0).1) s13 tp_z0.2.2 dX0_take_87 (fun τ14 eτ14 => ?_)
                  have hw := hw τ14 eτ14
                  refine z_aload_n C 0 (by rfl) dX0_take_88 ?_
                  refine z_dup C rfl dX0_take_89 ?_
                  refine z_get C (Cn := RX0) (T := TX0) (N := 4) (ci := 0) h0.2 1 (tE0 h0.1) in_X0_take_X0 rfl (by decide) mw_X0_take_0 rfl rfl dX0_take_90 ?_
                  refine z_iconst C 1 (by decide) dX0_take_93 ?_
                  refine z_iadd C dX0_take_94 ?_
                  refine z_put C (Cn := RX0) (T := TX0) (N := 4) (ci := 0) h0.2 1 (tE0 h0.1) (tS0_1 h0.1 _) in_X0_take_X0 tyX0 tyX0_ok nmX0 rfl (by decide) mw_X0_take_0 rfl rfl (tyX0_ok 1 (by decide)) rfl rfl (Nat.le_of_ble_eq_true rfl) dX0_take_95 (fun τ15 eτ15 => ?_)
                  have hw := hw τ15 eτ15
                  refine z_goto (tgt := 54) C dX0_take_98 (by decide) ?_
                  exact ih9 τ15 (Nat.lt_of_lt_of_le hw.2 (Nat.le_of_lt_succ hlt9)) hw.1
          refine z_sub [0] [(0, .ref (w.1 i0))] rfl ?_
          exact lp9 _ τ7 (Nat.lt_succ_self _) hI9
        refine z_if_eq (tgt := 47) C dX0_take_29 (by decide) (fun c16 => ?_) (fun c16 => ?_)
        · have hw := hw.1 c16
          refine z_sub [0, 1] [(0, .ref (w.1 i0)), (1, .int x1)] rfl ?_
          exact jn5 hw
        · have hw := hw.2 c16
          refine z_iload_n C 1 (by rfl) dX0_take_32 ?_
          refine z_aload_n C 0 (by rfl) dX0_take_33 ?_
          refine z_get C (Cn := RX0) (T := TX0) (N := 4) (ci := 0) h0.2 2 (tE0 h0.1) in_X0_take_X0 rfl (by decide) mw_X0_take_2 rfl rfl dX0_take_34 ?_
          refine z_aload_n C 0 (by rfl) dX0_take_37 ?_
          refine z_get C (Cn := RX0) (T := TX0) (N := 4) (ci := 0) h0.2 0 (tE0 h0.1) in_X0_take_X0 rfl (by decide) mw_X0_take_3 rfl rfl dX0_take_38 ?_
          refine z_iadd C dX0_take_41 ?_
          refine z_icmp_lt (tgt := 47) C dX0_take_42 (by decide) (fun c17 => ?_) (fun c17 => ?_)
          · have hw := hw.1 c17
            refine z_sub [0, 1] [(0, .ref (w.1 i0)), (1, .int x1)] rfl ?_
            exact jn5 hw
          · have hw := hw.2 c17
            refine z_iconst C 0 (by decide) dX0_take_45 ?_
            exact hR _ _ _ _ dX0_take_46 rfl hw
      · have hw := hw.2 c4
        refine z_iconst C 1 (by decide) dX0_take_26 ?_
        exact hR _ _ _ _ dX0_take_27 rfl hw
def wp_X5_begin (τ : TS) (i0 : Nat) (K : TS → Prop) : Prop :=
  ∀ τ1 : TS, τ1 = tp_up τ i0 0 0 → ∀ τ2 : TS, τ2 = tp_up τ1 i0 1 0 → ∀ τ3 : TS, τ3 = tp_up τ2 i0 2 12 → ∀ τ4 : TS, τ4 = tp_up τ3 i0 3 (-1) → ∀ τ5 : TS, τ5 = tp_up τ4 i0 4 0 → K τ5
theorem mw_X5_begin_0 : Cond.fieldLink RX5 9 "TidePost$Timing" "round" "I" ∈ wsX5_begin := List.mem_of_getElem? (i := 1) rfl
theorem mw_X5_begin_1 : Cond.fieldLink RX5 15 "TidePost$Timing" "swing" "I" ∈ wsX5_begin := List.mem_of_getElem? (i := 2) rfl
theorem mw_X5_begin_2 : Cond.fieldLink RX5 18 "TidePost$Timing" "timeout" "I" ∈ wsX5_begin := List.mem_of_getElem? (i := 3) rfl
theorem mw_X5_begin_3 : Cond.fieldLink RX5 21 "TidePost$Timing" "measured" "I" ∈ wsX5_begin := List.mem_of_getElem? (i := 4) rfl
theorem mw_X5_begin_4 : Cond.fieldLink RX5 24 "TidePost$Timing" "measuredAt" "I" ∈ wsX5_begin := List.mem_of_getElem? (i := 5) rfl
theorem in_X5_begin_X5 : ∀ x ∈ wsX50, x ∈ wsX5_begin := fun _ h => List.mem_cons_of_mem _ (List.mem_append_right _ h)
set_option maxHeartbeats 4000000 in
set_option maxRecDepth 100000 in
theorem c_X5_begin (w : WPar) (τ : TS) (i0 : Nat) (K : TS → Prop) (h0 : tp_is i0 4) (hw : wp_X5_begin τ i0 K) : MV w yX5_begin wsX5_begin 0 0 [.ref (w.1 i0)] τ K := by
  refine tp_enterV (cc := cX5_begin) (maxL := 1) (own := RX5) (by decide) rfl rfl (Nat.le_of_ble_eq_true rfl) (fun g C hR => ?_)
  show Zt w g τ (0, 0) 0 [(0, .ref (w.1 i0))] []
  unfold wp_X5_begin at hw
  refine z_aload_n C 0 (by rfl) dX5_begin_0 ?_
  refine z_iconst C 0 (by decide) dX5_begin_1 ?_
  refine z_put C (Cn := RX5) (T := TX5) (N := 5) (ci := 4) h0.2 0 (tE4 h0.1) (tS4_0 h0.1 _) in_X5_begin_X5 tyX5 tyX5_ok nmX5 rfl (by decide) mw_X5_begin_0 rfl rfl (tyX5_ok 0 (by decide)) rfl rfl (Nat.le_of_ble_eq_true rfl) dX5_begin_2 (fun τ1 eτ1 => ?_)
  have hw := hw τ1 eτ1
  refine z_aload_n C 0 (by rfl) dX5_begin_5 ?_
  refine z_iconst C 0 (by decide) dX5_begin_6 ?_
  refine z_put C (Cn := RX5) (T := TX5) (N := 5) (ci := 4) h0.2 1 (tE4 h0.1) (tS4_1 h0.1 _) in_X5_begin_X5 tyX5 tyX5_ok nmX5 rfl (by decide) mw_X5_begin_1 rfl rfl (tyX5_ok 1 (by decide)) rfl rfl (Nat.le_of_ble_eq_true rfl) dX5_begin_7 (fun τ2 eτ2 => ?_)
  have hw := hw τ2 eτ2
  refine z_aload_n C 0 (by rfl) dX5_begin_10 ?_
  refine z_bipush C 12 (by decide) dX5_begin_11 ?_
  refine z_put C (Cn := RX5) (T := TX5) (N := 5) (ci := 4) h0.2 2 (tE4 h0.1) (tS4_2 h0.1 _) in_X5_begin_X5 tyX5 tyX5_ok nmX5 rfl (by decide) mw_X5_begin_2 rfl rfl (tyX5_ok 2 (by decide)) rfl rfl (Nat.le_of_ble_eq_true rfl) dX5_begin_13 (fun τ3 eτ3 => ?_)
  have hw := hw τ3 eτ3
  refine z_aload_n C 0 (by rfl) dX5_begin_16 ?_
  refine z_iconst C (-1) (by decide) dX5_begin_17 ?_
  refine z_put C (Cn := RX5) (T := TX5) (N := 5) (ci := 4) h0.2 3 (tE4 h0.1) (tS4_3 h0.1 _) in_X5_begin_X5 tyX5 tyX5_ok nmX5 rfl (by decide) mw_X5_begin_3 rfl rfl (tyX5_ok 3 (by decide)) rfl rfl (Nat.le_of_ble_eq_true rfl) dX5_begin_18 (fun τ4 eτ4 => ?_)
  have hw := hw τ4 eτ4
  refine z_aload_n C 0 (by rfl) dX5_begin_21 ?_
  refine z_iconst C 0 (by decide) dX5_begin_22 ?_
  refine z_put C (Cn := RX5) (T := TX5) (N := 5) (ci := 4) h0.2 4 (tE4 h0.1) (tS4_4 h0.1 _) in_X5_begin_X5 tyX5 tyX5_ok nmX5 rfl (by decide) mw_X5_begin_4 rfl rfl (tyX5_ok 4 (by decide)) rfl rfl (Nat.le_of_ble_eq_true rfl) dX5_begin_23 (fun τ5 eτ5 => ?_)
  have hw := hw τ5 eτ5
  exact hR _ _ _ dX5_begin_26 hw
def wp_X5_sent (τ : TS) (i0 : Nat) (x1 : Int32) (x2 : Int32) (K : TS → Prop) : Prop :=
  ((¬ (τ i0 3) = (-1)) → (K τ)) ∧ (((τ i0 3) = (-1)) → (∀ τ2 : TS, τ2 = tp_up τ i0 3 x1 → ∀ τ3 : TS, τ3 = tp_up τ2 i0 4 x2 → K τ3))
theorem mw_X5_sent_0 : Cond.fieldLink RX5 21 "TidePost$Timing" "measured" "I" ∈ wsX5_sent := List.mem_of_getElem? (i := 1) rfl
theorem mw_X5_sent_1 : Cond.fieldLink RX5 24 "TidePost$Timing" "measuredAt" "I" ∈ wsX5_sent := List.mem_of_getElem? (i := 2) rfl
theorem in_X5_sent_X5 : ∀ x ∈ wsX50, x ∈ wsX5_sent := fun _ h => List.mem_cons_of_mem _ (List.mem_append_right _ h)
set_option maxHeartbeats 4000000 in
set_option maxRecDepth 100000 in
theorem c_X5_sent (w : WPar) (τ : TS) (i0 : Nat) (x1 : Int32) (x2 : Int32) (K : TS → Prop) (h0 : tp_is i0 4) (hw : wp_X5_sent τ i0 x1 x2 K) : MV w yX5_sent wsX5_sent 0 0 [.ref (w.1 i0), .int x1, .int x2] τ K := by
  refine tp_enterV (cc := cX5_sent) (maxL := 3) (own := RX5) (by decide) rfl rfl (Nat.le_of_ble_eq_true rfl) (fun g C hR => ?_)
  show Zt w g τ (0, 0) 0 [(0, .ref (w.1 i0)), (1, .int x1), (2, .int x2)] []
  unfold wp_X5_sent at hw
  refine z_aload_n C 0 (by rfl) dX5_sent_0 ?_
  refine z_get C (Cn := RX5) (T := TX5) (N := 5) (ci := 4) h0.2 3 (tE4 h0.1) in_X5_sent_X5 rfl (by decide) mw_X5_sent_0 rfl rfl dX5_sent_1 ?_
  refine z_iconst C (-1) (by decide) dX5_sent_4 ?_
  refine z_icmp_ne (tgt := 18) C dX5_sent_5 (by decide) (fun c1 => ?_) (fun c1 => ?_)
  · have hw := hw.1 c1
    exact hR _ _ _ dX5_sent_18 hw
  · have hw := hw.2 c1
    refine z_aload_n C 0 (by rfl) dX5_sent_8 ?_
    refine z_iload_n C 1 (by rfl) dX5_sent_9 ?_
    refine z_put C (Cn := RX5) (T := TX5) (N := 5) (ci := 4) h0.2 3 (tE4 h0.1) (tS4_3 h0.1 _) in_X5_sent_X5 tyX5 tyX5_ok nmX5 rfl (by decide) mw_X5_sent_0 rfl rfl (tyX5_ok 3 (by decide)) rfl rfl (Nat.le_of_ble_eq_true rfl) dX5_sent_10 (fun τ2 eτ2 => ?_)
    have hw := hw τ2 eτ2
    refine z_aload_n C 0 (by rfl) dX5_sent_13 ?_
    refine z_iload_n C 2 (by rfl) dX5_sent_14 ?_
    refine z_put C (Cn := RX5) (T := TX5) (N := 5) (ci := 4) h0.2 4 (tE4 h0.1) (tS4_4 h0.1 _) in_X5_sent_X5 tyX5 tyX5_ok nmX5 rfl (by decide) mw_X5_sent_1 rfl rfl (tyX5_ok 4 (by decide)) rfl rfl (Nat.le_of_ble_eq_true rfl) dX5_sent_15 (fun τ3 eτ3 => ?_)
    have hw := hw τ3 eτ3
    exact hR _ _ _ dX5_sent_18 hw
def wp_X5_sentTwice (τ : TS) (i0 : Nat) (x1 : Int32) (K : TS → Prop) : Prop :=
  ((¬ (τ i0 3) = x1) → (K τ)) ∧ (((τ i0 3) = x1) → (∀ τ2 : TS, τ2 = tp_up τ i0 3 (-1) → K τ2))
theorem mw_X5_sentTwice_0 : Cond.fieldLink RX5 21 "TidePost$Timing" "measured" "I" ∈ wsX5_sentTwice := List.mem_of_getElem? (i := 1) rfl
theorem in_X5_sentTwice_X5 : ∀ x ∈ wsX50, x ∈ wsX5_sentTwice := fun _ h => List.mem_cons_of_mem _ (List.mem_append_right _ h)
set_option maxHeartbeats 4000000 in
set_option maxRecDepth 100000 in
theorem c_X5_sentTwice (w : WPar) (τ : TS) (i0 : Nat) (x1 : Int32) (K : TS → Prop) (h0 : tp_is i0 4) (hw : wp_X5_sentTwice τ i0 x1 K) : MV w yX5_sentTwice wsX5_sentTwice 0 0 [.ref (w.1 i0), .int x1] τ K := by
  refine tp_enterV (cc := cX5_sentTwice) (maxL := 2) (own := RX5) (by decide) rfl rfl (Nat.le_of_ble_eq_true rfl) (fun g C hR => ?_)
  show Zt w g τ (0, 0) 0 [(0, .ref (w.1 i0)), (1, .int x1)] []
  unfold wp_X5_sentTwice at hw
  refine z_aload_n C 0 (by rfl) dX5_sentTwice_0 ?_
  refine z_get C (Cn := RX5) (T := TX5) (N := 5) (ci := 4) h0.2 3 (tE4 h0.1) in_X5_sentTwice_X5 rfl (by decide) mw_X5_sentTwice_0 rfl rfl dX5_sentTwice_1 ?_
  refine z_iload_n C 1 (by rfl) dX5_sentTwice_4 ?_
  refine z_icmp_ne (tgt := 13) C dX5_sentTwice_5 (by decide) (fun c1 => ?_) (fun c1 => ?_)
  · have hw := hw.1 c1
    exact hR _ _ _ dX5_sentTwice_13 hw
  · have hw := hw.2 c1
    refine z_aload_n C 0 (by rfl) dX5_sentTwice_8 ?_
    refine z_iconst C (-1) (by decide) dX5_sentTwice_9 ?_
    refine z_put C (Cn := RX5) (T := TX5) (N := 5) (ci := 4) h0.2 3 (tE4 h0.1) (tS4_3 h0.1 _) in_X5_sentTwice_X5 tyX5 tyX5_ok nmX5 rfl (by decide) mw_X5_sentTwice_0 rfl rfl (tyX5_ok 3 (by decide)) rfl rfl (Nat.le_of_ble_eq_true rfl) dX5_sentTwice_10 (fun τ2 eτ2 => ?_)
    have hw := hw τ2 eτ2
    exact hR _ _ _ dX5_sentTwice_13 hw
def wp_X5_answered (τ : TS) (i0 : Nat) (x1 : Int32) (x2 : Int32) (K : TS → Prop) : Prop :=
  (((τ i0 3) = (-1)) → (K τ)) ∧ ((¬ (τ i0 3) = (-1)) → ((((τ i0 3) < x1) → (∀ x3 : Int32, x3 = (x2 - (τ i0 4)) → ((¬ (τ i0 0) = 0) → (∀ x5 : Int32, x5 = (x3 - ((τ i0 0) / 8)) → ∀ x6 : Int32, x6 = (if 0 ≤ x5 then x5 else 0 - x5) → ∀ τ7 : TS, τ7 = tp_up τ i0 1 (((τ i0 1) + x6) - ((τ i0 1) / 4)) → ∀ τ8 : TS, τ8 = tp_up τ7 i0 0 ((τ7 i0 0) + x5) → ∀ x9 : Int32, x9 = (if 3 < (((τ8 i0 0) / 8) + (τ8 i0 1)) then (((τ8 i0 0) / 8) + (τ8 i0 1)) else 3) → ∀ x10 : Int32, x10 = (if x9 < 60 then x9 else 60) → ∀ τ11 : TS, τ11 = tp_up τ8 i0 2 x10 → ∀ τ12 : TS, τ12 = tp_up τ11 i0 3 (-1) → K τ12)) ∧ (((τ i0 0) = 0) → (∀ τ13 : TS, τ13 = tp_up τ i0 0 (8 * x3) → ∀ τ14 : TS, τ14 = tp_up τ13 i0 1 (2 * x3) → ∀ x15 : Int32, x15 = (if 3 < (((τ14 i0 0) / 8) + (τ14 i0 1)) then (((τ14 i0 0) / 8) + (τ14 i0 1)) else 3) → ∀ x16 : Int32, x16 = (if x15 < 60 then x15 else 60) → ∀ τ17 : TS, τ17 = tp_up τ14 i0 2 x16 → ∀ τ18 : TS, τ18 = tp_up τ17 i0 3 (-1) → K τ18)))) ∧ ((¬ (τ i0 3) < x1) → (K τ))))
theorem mw_X5_answered_0 : Cond.fieldLink RX5 21 "TidePost$Timing" "measured" "I" ∈ wsX5_answered := List.mem_of_getElem? (i := 1) rfl
theorem mw_X5_answered_1 : Cond.fieldLink RX5 24 "TidePost$Timing" "measuredAt" "I" ∈ wsX5_answered := List.mem_of_getElem? (i := 2) rfl
theorem mw_X5_answered_2 : Cond.fieldLink RX5 9 "TidePost$Timing" "round" "I" ∈ wsX5_answered := List.mem_of_getElem? (i := 3) rfl
theorem mw_X5_answered_3 : Cond.fieldLink RX5 15 "TidePost$Timing" "swing" "I" ∈ wsX5_answered := List.mem_of_getElem? (i := 4) rfl
theorem mw_X5_answered_4 : Cond.methodLink RX5 27 Lib.Math.abs.name ∈ wsX5_answered := List.mem_of_getElem? (i := 5) rfl
theorem mw_X5_answered_5 : Cond.static Lib.Math.abs.name ∈ wsX5_answered := List.mem_of_getElem? (i := 6) rfl
theorem mw_X5_answered_6 : Cond.initialized "java/lang/Math" ∈ wsX5_answered := List.mem_of_getElem? (i := 7) rfl
theorem mw_X5_answered_7 : Cond.code Lib.Math.abs.name Lib.Math.abs.code 1 (some .int) ∈ wsX5_answered := List.mem_of_getElem? (i := 8) rfl
theorem mw_X5_answered_8 : Cond.methodLink RX5 33 Lib.Math.max.name ∈ wsX5_answered := List.mem_of_getElem? (i := 9) rfl
theorem mw_X5_answered_9 : Cond.static Lib.Math.max.name ∈ wsX5_answered := List.mem_of_getElem? (i := 10) rfl
theorem mw_X5_answered_10 : Cond.code Lib.Math.max.name Lib.Math.max.code 2 (some .int) ∈ wsX5_answered := List.mem_of_getElem? (i := 11) rfl
theorem mw_X5_answered_11 : Cond.methodLink RX5 37 Lib.Math.min.name ∈ wsX5_answered := List.mem_of_getElem? (i := 12) rfl
theorem mw_X5_answered_12 : Cond.static Lib.Math.min.name ∈ wsX5_answered := List.mem_of_getElem? (i := 13) rfl
theorem mw_X5_answered_13 : Cond.code Lib.Math.min.name Lib.Math.min.code 2 (some .int) ∈ wsX5_answered := List.mem_of_getElem? (i := 14) rfl
theorem mw_X5_answered_14 : Cond.fieldLink RX5 18 "TidePost$Timing" "timeout" "I" ∈ wsX5_answered := List.mem_of_getElem? (i := 15) rfl
theorem in_X5_answered_X5 : ∀ x ∈ wsX50, x ∈ wsX5_answered := fun _ h => List.mem_cons_of_mem _ (List.mem_append_right _ h)
set_option maxHeartbeats 4000000 in
set_option maxRecDepth 100000 in
theorem c_X5_answered (w : WPar) (τ : TS) (i0 : Nat) (x1 : Int32) (x2 : Int32) (K : TS → Prop) (h0 : tp_is i0 4) (hw : wp_X5_answered τ i0 x1 x2 K) : MV w yX5_answered wsX5_answered 1 15 [.ref (w.1 i0), .int x1, .int x2] τ K := by
  refine tp_enterV (cc := cX5_answered) (maxL := 5) (own := RX5) (by decide) rfl rfl (Nat.le_of_ble_eq_true rfl) (fun g C hR => ?_)
  show Zt w g τ (0, 0) 0 [(0, .ref (w.1 i0)), (1, .int x1), (2, .int x2)] []
  unfold wp_X5_answered at hw
  refine z_aload_n C 0 (by rfl) dX5_answered_0 ?_
  refine z_get C (Cn := RX5) (T := TX5) (N := 5) (ci := 4) h0.2 3 (tE4 h0.1) in_X5_answered_X5 rfl (by decide) mw_X5_answered_0 rfl rfl dX5_answered_1 ?_
  refine z_iconst C (-1) (by decide) dX5_answered_4 ?_
  refine z_icmp_eq (tgt := 16) C dX5_answered_5 (by decide) (fun c1 => ?_) (fun c1 => ?_)
  · have hw := hw.1 c1
    exact hR _ _ _ dX5_answered_16 hw
  · have hw := hw.2 c1
    refine z_aload_n C 0 (by rfl) dX5_answered_8 ?_
    refine z_get C (Cn := RX5) (T := TX5) (N := 5) (ci := 4) h0.2 3 (tE4 h0.1) in_X5_answered_X5 rfl (by decide) mw_X5_answered_0 rfl rfl dX5_answered_9 ?_
    refine z_iload_n C 1 (by rfl) dX5_answered_12 ?_
    refine z_icmp_lt (tgt := 17) C dX5_answered_13 (by decide) (fun c2 => ?_) (fun c2 => ?_)
    · have hw := hw.1 c2
      refine z_iload_n C 2 (by rfl) dX5_answered_17 ?_
      refine z_aload_n C 0 (by rfl) dX5_answered_18 ?_
      refine z_get C (Cn := RX5) (T := TX5) (N := 5) (ci := 4) h0.2 4 (tE4 h0.1) in_X5_answered_X5 rfl (by decide) mw_X5_answered_1 rfl rfl dX5_answered_19 ?_
      refine z_isub C dX5_answered_22 ?_
      refine z_top (fun x3 ex3 => ?_)
      have hw := hw x3 ex3
      refine z_istore_n C [(3, .int x3), (0, .ref (w.1 i0)), (1, .int x1), (2, .int x2)] dX5_answered_23 (by decide) rfl ?_
      refine z_aload_n C 1 (by rfl) dX5_answered_24 ?_
      refine z_get C (Cn := RX5) (T := TX5) (N := 5) (ci := 4) h0.2 0 (tE4 h0.1) in_X5_answered_X5 rfl (by decide) mw_X5_answered_2 rfl rfl dX5_answered_25 ?_
      refine z_if_ne (tgt := 49) C dX5_answered_28 (by decide) (fun c4 => ?_) (fun c4 => ?_)
      · have hw := hw.1 c4
        refine z_iload_n C 0 (by rfl) dX5_answered_49 ?_
        refine z_aload_n C 1 (by rfl) dX5_answered_50 ?_
        refine z_get C (Cn := RX5) (T := TX5) (N := 5) (ci := 4) h0.2 0 (tE4 h0.1) in_X5_answered_X5 rfl (by decide) mw_X5_answered_2 rfl rfl dX5_answered_51 ?_
        refine z_bipush C 8 (by decide) dX5_answered_54 ?_
        refine z_idiv C (by decide) dX5_answered_56 ?_
        refine z_isub C dX5_answered_57 ?_
        refine z_top (fun x5 ex5 => ?_)
        have hw := hw x5 ex5
        refine z_istore C [(4, .int x5), (3, .int x3), (0, .ref (w.1 i0)), (1, .int x1), (2, .int x2)] dX5_answered_58 (by decide) rfl ?_
        refine z_aload_n C 2 (by rfl) dX5_answered_60 ?_
        refine z_aload_n C 2 (by rfl) dX5_answered_61 ?_
        refine z_get C (Cn := RX5) (T := TX5) (N := 5) (ci := 4) h0.2 1 (tE4 h0.1) in_X5_answered_X5 rfl (by decide) mw_X5_answered_3 rfl rfl dX5_answered_62 ?_
        refine z_iload C 0 (by rfl) dX5_answered_65 ?_
        refine z_abs C mw_X5_answered_4 mw_X5_answered_5 mw_X5_answered_6 mw_X5_answered_7 (Nat.le_of_ble_eq_true rfl) (Nat.le_of_ble_eq_true rfl) (Nat.zero_le _) (Nat.zero_le _) dX5_answered_67 ?_
        refine z_top (fun x6 ex6 => ?_)
        have hw := hw x6 ex6
        refine z_iadd C dX5_answered_70 ?_
        refine z_aload_n C 2 (by rfl) dX5_answered_71 ?_
        refine z_get C (Cn := RX5) (T := TX5) (N := 5) (ci := 4) h0.2 1 (tE4 h0.1) in_X5_answered_X5 rfl (by decide) mw_X5_answered_3 rfl rfl dX5_answered_72 ?_
        refine z_iconst C 4 (by decide) dX5_answered_75 ?_
        refine z_idiv C (by decide) dX5_answered_76 ?_
        refine z_isub C dX5_answered_77 ?_
        refine z_put C (Cn := RX5) (T := TX5) (N := 5) (ci := 4) h0.2 1 (tE4 h0.1) (tS4_1 h0.1 _) in_X5_answered_X5 tyX5 tyX5_ok nmX5 rfl (by decide) mw_X5_answered_3 rfl rfl (tyX5_ok 1 (by decide)) rfl rfl (Nat.le_of_ble_eq_true rfl) dX5_answered_78 (fun τ7 eτ7 => ?_)
        have hw := hw τ7 eτ7
        refine z_aload_n C 2 (by rfl) dX5_answered_81 ?_
        refine z_aload_n C 2 (by rfl) dX5_answered_82 ?_
        refine z_get C (Cn := RX5) (T := TX5) (N := 5) (ci := 4) h0.2 0 (tE4 h0.1) in_X5_answered_X5 rfl (by decide) mw_X5_answered_2 rfl rfl dX5_answered_83 ?_
        refine z_iload C 0 (by rfl) dX5_answered_86 ?_
        refine z_iadd C dX5_answered_88 ?_
        refine z_put C (Cn := RX5) (T := TX5) (N := 5) (ci := 4) h0.2 0 (tE4 h0.1) (tS4_0 h0.1 _) in_X5_answered_X5 tyX5 tyX5_ok nmX5 rfl (by decide) mw_X5_answered_2 rfl rfl (tyX5_ok 0 (by decide)) rfl rfl (Nat.le_of_ble_eq_true rfl) dX5_answered_89 (fun τ8 eτ8 => ?_)
        have hw := hw τ8 eτ8
        refine z_aload_n C 2 (by rfl) dX5_answered_92 ?_
        refine z_bipush C 60 (by decide) dX5_answered_93 ?_
        refine z_iconst C 3 (by decide) dX5_answered_95 ?_
        refine z_aload_n C 2 (by rfl) dX5_answered_96 ?_
        refine z_get C (Cn := RX5) (T := TX5) (N := 5) (ci := 4) h0.2 0 (tE4 h0.1) in_X5_answered_X5 rfl (by decide) mw_X5_answered_2 rfl rfl dX5_answered_97 ?_
        refine z_bipush C 8 (by decide) dX5_answered_100 ?_
        refine z_idiv C (by decide) dX5_answered_102 ?_
        refine z_aload_n C 2 (by rfl) dX5_answered_103 ?_
        refine z_get C (Cn := RX5) (T := TX5) (N := 5) (ci := 4) h0.2 1 (tE4 h0.1) in_X5_answered_X5 rfl (by decide) mw_X5_answered_3 rfl rfl dX5_answered_104 ?_
        refine z_iadd C dX5_answered_107 ?_
        refine z_max C mw_X5_answered_8 mw_X5_answered_9 mw_X5_answered_6 mw_X5_answered_10 (Nat.le_of_ble_eq_true rfl) (Nat.le_of_ble_eq_true rfl) (Nat.zero_le _) (Nat.zero_le _) dX5_answered_108 ?_
        refine z_top (fun x9 ex9 => ?_)
        have hw := hw x9 ex9
        refine z_min C mw_X5_answered_11 mw_X5_answered_12 mw_X5_answered_6 mw_X5_answered_13 (Nat.le_of_ble_eq_true rfl) (Nat.le_of_ble_eq_true rfl) (Nat.zero_le _) (Nat.zero_le _) dX5_answered_111 ?_
        refine z_top (fun x10 ex10 => ?_)
        have hw := hw x10 ex10
        refine z_put C (Cn := RX5) (T := TX5) (N := 5) (ci := 4) h0.2 2 (tE4 h0.1) (tS4_2 h0.1 _) in_X5_answered_X5 tyX5 tyX5_ok nmX5 rfl (by decide) mw_X5_answered_14 rfl rfl (tyX5_ok 2 (by decide)) rfl rfl (Nat.le_of_ble_eq_true rfl) dX5_answered_114 (fun τ11 eτ11 => ?_)
        have hw := hw τ11 eτ11
        refine z_aload_n C 2 (by rfl) dX5_answered_117 ?_
        refine z_iconst C (-1) (by decide) dX5_answered_118 ?_
        refine z_put C (Cn := RX5) (T := TX5) (N := 5) (ci := 4) h0.2 3 (tE4 h0.1) (tS4_3 h0.1 _) in_X5_answered_X5 tyX5 tyX5_ok nmX5 rfl (by decide) mw_X5_answered_0 rfl rfl (tyX5_ok 3 (by decide)) rfl rfl (Nat.le_of_ble_eq_true rfl) dX5_answered_119 (fun τ12 eτ12 => ?_)
        have hw := hw τ12 eτ12
        exact hR _ _ _ dX5_answered_122 hw
      · have hw := hw.2 c4
        refine z_aload_n C 1 (by rfl) dX5_answered_31 ?_
        refine z_bipush C 8 (by decide) dX5_answered_32 ?_
        refine z_iload_n C 0 (by rfl) dX5_answered_34 ?_
        refine z_imul C dX5_answered_35 ?_
        refine z_put C (Cn := RX5) (T := TX5) (N := 5) (ci := 4) h0.2 0 (tE4 h0.1) (tS4_0 h0.1 _) in_X5_answered_X5 tyX5 tyX5_ok nmX5 rfl (by decide) mw_X5_answered_2 rfl rfl (tyX5_ok 0 (by decide)) rfl rfl (Nat.le_of_ble_eq_true rfl) dX5_answered_36 (fun τ13 eτ13 => ?_)
        have hw := hw τ13 eτ13
        refine z_aload_n C 1 (by rfl) dX5_answered_39 ?_
        refine z_iconst C 2 (by decide) dX5_answered_40 ?_
        refine z_iload_n C 0 (by rfl) dX5_answered_41 ?_
        refine z_imul C dX5_answered_42 ?_
        refine z_put C (Cn := RX5) (T := TX5) (N := 5) (ci := 4) h0.2 1 (tE4 h0.1) (tS4_1 h0.1 _) in_X5_answered_X5 tyX5 tyX5_ok nmX5 rfl (by decide) mw_X5_answered_3 rfl rfl (tyX5_ok 1 (by decide)) rfl rfl (Nat.le_of_ble_eq_true rfl) dX5_answered_43 (fun τ14 eτ14 => ?_)
        have hw := hw τ14 eτ14
        refine z_goto (tgt := 92) C dX5_answered_46 (by decide) ?_
        refine z_aload_n C 1 (by rfl) dX5_answered_92 ?_
        refine z_bipush C 60 (by decide) dX5_answered_93 ?_
        refine z_iconst C 3 (by decide) dX5_answered_95 ?_
        refine z_aload_n C 1 (by rfl) dX5_answered_96 ?_
        refine z_get C (Cn := RX5) (T := TX5) (N := 5) (ci := 4) h0.2 0 (tE4 h0.1) in_X5_answered_X5 rfl (by decide) mw_X5_answered_2 rfl rfl dX5_answered_97 ?_
        refine z_bipush C 8 (by decide) dX5_answered_100 ?_
        refine z_idiv C (by decide) dX5_answered_102 ?_
        refine z_aload_n C 1 (by rfl) dX5_answered_103 ?_
        refine z_get C (Cn := RX5) (T := TX5) (N := 5) (ci := 4) h0.2 1 (tE4 h0.1) in_X5_answered_X5 rfl (by decide) mw_X5_answered_3 rfl rfl dX5_answered_104 ?_
        refine z_iadd C dX5_answered_107 ?_
        refine z_max C mw_X5_answered_8 mw_X5_answered_9 mw_X5_answered_6 mw_X5_answered_10 (Nat.le_of_ble_eq_true rfl) (Nat.le_of_ble_eq_true rfl) (Nat.zero_le _) (Nat.zero_le _) dX5_answered_108 ?_
        refine z_top (fun x15 ex15 => ?_)
        have hw := hw x15 ex15
        refine z_min C mw_X5_answered_11 mw_X5_answered_12 mw_X5_answered_6 mw_X5_answered_13 (Nat.le_of_ble_eq_true rfl) (Nat.le_of_ble_eq_true rfl) (Nat.zero_le _) (Nat.zero_le _) dX5_answered_111 ?_
        refine z_top (fun x16 ex16 => ?_)
        have hw := hw x16 ex16
        refine z_put C (Cn := RX5) (T := TX5) (N := 5) (ci := 4) h0.2 2 (tE4 h0.1) (tS4_2 h0.1 _) in_X5_answered_X5 tyX5 tyX5_ok nmX5 rfl (by decide) mw_X5_answered_14 rfl rfl (tyX5_ok 2 (by decide)) rfl rfl (Nat.le_of_ble_eq_true rfl) dX5_answered_114 (fun τ17 eτ17 => ?_)
        have hw := hw τ17 eτ17
        refine z_aload_n C 1 (by rfl) dX5_answered_117 ?_
        refine z_iconst C (-1) (by decide) dX5_answered_118 ?_
        refine z_put C (Cn := RX5) (T := TX5) (N := 5) (ci := 4) h0.2 3 (tE4 h0.1) (tS4_3 h0.1 _) in_X5_answered_X5 tyX5 tyX5_ok nmX5 rfl (by decide) mw_X5_answered_0 rfl rfl (tyX5_ok 3 (by decide)) rfl rfl (Nat.le_of_ble_eq_true rfl) dX5_answered_119 (fun τ18 eτ18 => ?_)
        have hw := hw τ18 eτ18
        exact hR _ _ _ dX5_answered_122 hw
    · have hw := hw.2 c2
      exact hR _ _ _ dX5_answered_16 hw
def wp_X5_backOff (τ : TS) (i0 : Nat) (K : TS → Prop) : Prop :=
  ∀ x1 : Int32, x1 = (if (2 * (τ i0 2)) < 60 then (2 * (τ i0 2)) else 60) → ∀ τ2 : TS, τ2 = tp_up τ i0 2 x1 → ∀ τ3 : TS, τ3 = tp_up τ2 i0 3 (-1) → K τ3
theorem mw_X5_backOff_0 : Cond.fieldLink RX5 18 "TidePost$Timing" "timeout" "I" ∈ wsX5_backOff := List.mem_of_getElem? (i := 1) rfl
theorem mw_X5_backOff_1 : Cond.methodLink RX5 37 Lib.Math.min.name ∈ wsX5_backOff := List.mem_of_getElem? (i := 2) rfl
theorem mw_X5_backOff_2 : Cond.static Lib.Math.min.name ∈ wsX5_backOff := List.mem_of_getElem? (i := 3) rfl
theorem mw_X5_backOff_3 : Cond.initialized "java/lang/Math" ∈ wsX5_backOff := List.mem_of_getElem? (i := 4) rfl
theorem mw_X5_backOff_4 : Cond.code Lib.Math.min.name Lib.Math.min.code 2 (some .int) ∈ wsX5_backOff := List.mem_of_getElem? (i := 5) rfl
theorem mw_X5_backOff_5 : Cond.fieldLink RX5 21 "TidePost$Timing" "measured" "I" ∈ wsX5_backOff := List.mem_of_getElem? (i := 6) rfl
theorem in_X5_backOff_X5 : ∀ x ∈ wsX50, x ∈ wsX5_backOff := fun _ h => List.mem_cons_of_mem _ (List.mem_append_right _ h)
set_option maxHeartbeats 4000000 in
set_option maxRecDepth 100000 in
theorem c_X5_backOff (w : WPar) (τ : TS) (i0 : Nat) (K : TS → Prop) (h0 : tp_is i0 4) (hw : wp_X5_backOff τ i0 K) : MV w yX5_backOff wsX5_backOff 1 14 [.ref (w.1 i0)] τ K := by
  refine tp_enterV (cc := cX5_backOff) (maxL := 1) (own := RX5) (by decide) rfl rfl (Nat.le_of_ble_eq_true rfl) (fun g C hR => ?_)
  show Zt w g τ (0, 0) 0 [(0, .ref (w.1 i0))] []
  unfold wp_X5_backOff at hw
  refine z_aload_n C 0 (by rfl) dX5_backOff_0 ?_
  refine z_bipush C 60 (by decide) dX5_backOff_1 ?_
  refine z_iconst C 2 (by decide) dX5_backOff_3 ?_
  refine z_aload_n C 0 (by rfl) dX5_backOff_4 ?_
  refine z_get C (Cn := RX5) (T := TX5) (N := 5) (ci := 4) h0.2 2 (tE4 h0.1) in_X5_backOff_X5 rfl (by decide) mw_X5_backOff_0 rfl rfl dX5_backOff_5 ?_
  refine z_imul C dX5_backOff_8 ?_
  refine z_min C mw_X5_backOff_1 mw_X5_backOff_2 mw_X5_backOff_3 mw_X5_backOff_4 (Nat.le_of_ble_eq_true rfl) (Nat.le_of_ble_eq_true rfl) (Nat.zero_le _) (Nat.zero_le _) dX5_backOff_9 ?_
  refine z_top (fun x1 ex1 => ?_)
  have hw := hw x1 ex1
  refine z_put C (Cn := RX5) (T := TX5) (N := 5) (ci := 4) h0.2 2 (tE4 h0.1) (tS4_2 h0.1 _) in_X5_backOff_X5 tyX5 tyX5_ok nmX5 rfl (by decide) mw_X5_backOff_0 rfl rfl (tyX5_ok 2 (by decide)) rfl rfl (Nat.le_of_ble_eq_true rfl) dX5_backOff_12 (fun τ2 eτ2 => ?_)
  have hw := hw τ2 eτ2
  refine z_aload_n C 0 (by rfl) dX5_backOff_15 ?_
  refine z_iconst C (-1) (by decide) dX5_backOff_16 ?_
  refine z_put C (Cn := RX5) (T := TX5) (N := 5) (ci := 4) h0.2 3 (tE4 h0.1) (tS4_3 h0.1 _) in_X5_backOff_X5 tyX5 tyX5_ok nmX5 rfl (by decide) mw_X5_backOff_5 rfl rfl (tyX5_ok 3 (by decide)) rfl rfl (Nat.le_of_ble_eq_true rfl) dX5_backOff_17 (fun τ3 eτ3 => ?_)
  have hw := hw τ3 eτ3
  exact hR _ _ _ dX5_backOff_20 hw
def wp_X4_of (τ : TS) (x0 : Int32) (x1 : Int32) (x2 : Int32) (x3 : Int32) (K : TS → Int32 → Prop) : Prop :=
  K τ ((((x0 <<< (15 &&& 31)) ||| (x1 <<< (13 &&& 31))) ||| (x2 <<< (5 &&& 31))) ||| x3)
set_option maxHeartbeats 4000000 in
set_option maxRecDepth 100000 in
theorem c_X4_of (w : WPar) (τ : TS) (x0 : Int32) (x1 : Int32) (x2 : Int32) (x3 : Int32) (K : TS → Int32 → Prop)  (hw : wp_X4_of τ x0 x1 x2 x3 K) : MI w yX4_of wsX4_of 0 0 [.int x0, .int x1, .int x2, .int x3] τ K := by
  refine tp_enterI (cc := cX4_of) (maxL := 4) (own := RX4) (by decide) rfl rfl (Nat.le_of_ble_eq_true rfl) (fun g C hR => ?_)
  show Zt w g τ (0, 0) 0 [(0, .int x0), (1, .int x1), (2, .int x2), (3, .int x3)] []
  unfold wp_X4_of at hw
  refine z_iload_n C 0 (by rfl) dX4_of_0 ?_
  refine z_bipush C 15 (by decide) dX4_of_1 ?_
  refine z_ishl C dX4_of_3 ?_
  refine z_iload_n C 1 (by rfl) dX4_of_4 ?_
  refine z_bipush C 13 (by decide) dX4_of_5 ?_
  refine z_ishl C dX4_of_7 ?_
  refine z_ior C dX4_of_8 ?_
  refine z_iload_n C 2 (by rfl) dX4_of_9 ?_
  refine z_iconst C 5 (by decide) dX4_of_10 ?_
  refine z_ishl C dX4_of_11 ?_
  refine z_ior C dX4_of_12 ?_
  refine z_iload_n C 3 (by rfl) dX4_of_13 ?_
  refine z_ior C dX4_of_14 ?_
  exact hR _ _ _ _ dX4_of_15 hw
def wp_X4_hopsOf (τ : TS) (x0 : Int32) (K : TS → Int32 → Prop) : Prop :=
  K τ (x0 >>> (18 &&& 31))
set_option maxHeartbeats 4000000 in
set_option maxRecDepth 100000 in
theorem c_X4_hopsOf (w : WPar) (τ : TS) (x0 : Int32) (K : TS → Int32 → Prop)  (hw : wp_X4_hopsOf τ x0 K) : MI w yX4_hopsOf wsX4_hopsOf 0 0 [.int x0] τ K := by
  refine tp_enterI (cc := cX4_hopsOf) (maxL := 1) (own := RX4) (by decide) rfl rfl (Nat.le_of_ble_eq_true rfl) (fun g C hR => ?_)
  show Zt w g τ (0, 0) 0 [(0, .int x0)] []
  unfold wp_X4_hopsOf at hw
  refine z_iload_n C 0 (by rfl) dX4_hopsOf_0 ?_
  refine z_bipush C 18 (by decide) dX4_hopsOf_1 ?_
  refine z_ishr C dX4_hopsOf_3 ?_
  exact hR _ _ _ _ dX4_hopsOf_4 hw
def wp_X4_connectionOf (τ : TS) (x0 : Int32) (K : TS → Int32 → Prop) : Prop :=
  K τ ((x0 >>> (15 &&& 31)) &&& 7)
set_option maxHeartbeats 4000000 in
set_option maxRecDepth 100000 in
theorem c_X4_connectionOf (w : WPar) (τ : TS) (x0 : Int32) (K : TS → Int32 → Prop)  (hw : wp_X4_connectionOf τ x0 K) : MI w yX4_connectionOf wsX4_connectionOf 0 0 [.int x0] τ K := by
  refine tp_enterI (cc := cX4_connectionOf) (maxL := 1) (own := RX4) (by decide) rfl rfl (Nat.le_of_ble_eq_true rfl) (fun g C hR => ?_)
  show Zt w g τ (0, 0) 0 [(0, .int x0)] []
  unfold wp_X4_connectionOf at hw
  refine z_iload_n C 0 (by rfl) dX4_connectionOf_0 ?_
  refine z_bipush C 15 (by decide) dX4_connectionOf_1 ?_
  refine z_ishr C dX4_connectionOf_3 ?_
  refine z_bipush C 7 (by decide) dX4_connectionOf_4 ?_
  refine z_iand C dX4_connectionOf_6 ?_
  exact hR _ _ _ _ dX4_connectionOf_7 hw
def wp_X4_kindOf (τ : TS) (x0 : Int32) (K : TS → Int32 → Prop) : Prop :=
  K τ ((x0 >>> (13 &&& 31)) &&& 3)
set_option maxHeartbeats 4000000 in
set_option maxRecDepth 100000 in
theorem c_X4_kindOf (w : WPar) (τ : TS) (x0 : Int32) (K : TS → Int32 → Prop)  (hw : wp_X4_kindOf τ x0 K) : MI w yX4_kindOf wsX4_kindOf 0 0 [.int x0] τ K := by
  refine tp_enterI (cc := cX4_kindOf) (maxL := 1) (own := RX4) (by decide) rfl rfl (Nat.le_of_ble_eq_true rfl) (fun g C hR => ?_)
  show Zt w g τ (0, 0) 0 [(0, .int x0)] []
  unfold wp_X4_kindOf at hw
  refine z_iload_n C 0 (by rfl) dX4_kindOf_0 ?_
  refine z_bipush C 13 (by decide) dX4_kindOf_1 ?_
  refine z_ishr C dX4_kindOf_3 ?_
  refine z_iconst C 3 (by decide) dX4_kindOf_4 ?_
  refine z_iand C dX4_kindOf_5 ?_
  exact hR _ _ _ _ dX4_kindOf_6 hw
def wp_X4_numberOf (τ : TS) (x0 : Int32) (K : TS → Int32 → Prop) : Prop :=
  K τ ((x0 >>> (5 &&& 31)) &&& 255)
set_option maxHeartbeats 4000000 in
set_option maxRecDepth 100000 in
theorem c_X4_numberOf (w : WPar) (τ : TS) (x0 : Int32) (K : TS → Int32 → Prop)  (hw : wp_X4_numberOf τ x0 K) : MI w yX4_numberOf wsX4_numberOf 0 0 [.int x0] τ K := by
  refine tp_enterI (cc := cX4_numberOf) (maxL := 1) (own := RX4) (by decide) rfl rfl (Nat.le_of_ble_eq_true rfl) (fun g C hR => ?_)
  show Zt w g τ (0, 0) 0 [(0, .int x0)] []
  unfold wp_X4_numberOf at hw
  refine z_iload_n C 0 (by rfl) dX4_numberOf_0 ?_
  refine z_iconst C 5 (by decide) dX4_numberOf_1 ?_
  refine z_ishr C dX4_numberOf_2 ?_
  refine z_sipush C 255 (by decide) dX4_numberOf_3 ?_
  refine z_iand C dX4_numberOf_6 ?_
  exact hR _ _ _ _ dX4_numberOf_7 hw
def wp_X4_roomOf (τ : TS) (x0 : Int32) (K : TS → Int32 → Prop) : Prop :=
  K τ (x0 &&& 31)
set_option maxHeartbeats 4000000 in
set_option maxRecDepth 100000 in
theorem c_X4_roomOf (w : WPar) (τ : TS) (x0 : Int32) (K : TS → Int32 → Prop)  (hw : wp_X4_roomOf τ x0 K) : MI w yX4_roomOf wsX4_roomOf 0 0 [.int x0] τ K := by
  refine tp_enterI (cc := cX4_roomOf) (maxL := 1) (own := RX4) (by decide) rfl rfl (Nat.le_of_ble_eq_true rfl) (fun g C hR => ?_)
  show Zt w g τ (0, 0) 0 [(0, .int x0)] []
  unfold wp_X4_roomOf at hw
  refine z_iload_n C 0 (by rfl) dX4_roomOf_0 ?_
  refine z_bipush C 31 (by decide) dX4_roomOf_1 ?_
  refine z_iand C dX4_roomOf_3 ?_
  exact hR _ _ _ _ dX4_roomOf_4 hw
def wp_J9_floorMod_7cf53 (τ : TS) (x0 : Int32) (x1 : Int32) (K : TS → Int32 → Prop) : Prop :=
  ¬ x1 = 0 ∧ (∀ x2 : Int32, x2 = (x0 - x0 / x1 * x1) → ((0 ≤ (x0 ^^^ x1)) → (K τ x2)) ∧ ((¬ 0 ≤ (x0 ^^^ x1)) → (((x2 = 0) → (K τ x2)) ∧ ((¬ x2 = 0) → (K τ (x2 + x1))))))
set_option maxHeartbeats 4000000 in
set_option maxRecDepth 100000 in
theorem c_J9_floorMod_7cf53 (w : WPar) (τ : TS) (x0 : Int32) (x1 : Int32) (K : TS → Int32 → Prop)  (hw : wp_J9_floorMod_7cf53 τ x0 x1 K) : MI w yJ9_floorMod_7cf53 wsJ9_floorMod_7cf53 0 0 [.int x0, .int x1] τ K := by
  refine tp_enterIF (cc := cJ9_floorMod_7cf53) (maxL := 3) (own := RJ9) (by decide +kernel) rfl rfl (Nat.le_of_ble_eq_true rfl) (fun g C hR => ?_)
  show Zt w g τ (0, 0) 0 [(0, .int x0), (1, .int x1)] []
  unfold wp_J9_floorMod_7cf53 at hw
  refine z_iload_n C 0 (by rfl) dJ9_floorMod_7cf53_0 ?_
  refine z_iload_n C 1 (by rfl) dJ9_floorMod_7cf53_1 ?_
  obtain ⟨s1, hw⟩ := hw
  refine z_irem C s1 dJ9_floorMod_7cf53_2 ?_
  refine z_top (fun x2 ex2 => ?_)
  have hw := hw x2 ex2
  refine z_istore_n C [(2, .int x2), (0, .int x0), (1, .int x1)] dJ9_floorMod_7cf53_3 (by decide) rfl ?_
  refine z_iload_n C 1 (by rfl) dJ9_floorMod_7cf53_4 ?_
  refine z_iload_n C 2 (by rfl) dJ9_floorMod_7cf53_5 ?_
  refine z_ixor C dJ9_floorMod_7cf53_6 ?_
  refine z_if_ge (tgt := 18) C dJ9_floorMod_7cf53_7 (by decide) (fun c3 => ?_) (fun c3 => ?_)
  · have hw := hw.1 c3
    refine z_iload_n C 0 (by rfl) dJ9_floorMod_7cf53_18 ?_
    exact hR _ _ _ _ dJ9_floorMod_7cf53_19 hw
  · have hw := hw.2 c3
    refine z_iload_n C 0 (by rfl) dJ9_floorMod_7cf53_10 ?_
    refine z_if_eq (tgt := 18) C dJ9_floorMod_7cf53_11 (by decide) (fun c4 => ?_) (fun c4 => ?_)
    · have hw := hw.1 c4
      refine z_iload_n C 0 (by rfl) dJ9_floorMod_7cf53_18 ?_
      exact hR _ _ _ _ dJ9_floorMod_7cf53_19 hw
    · have hw := hw.2 c4
      refine z_iload_n C 0 (by rfl) dJ9_floorMod_7cf53_14 ?_
      refine z_iload_n C 2 (by rfl) dJ9_floorMod_7cf53_15 ?_
      refine z_iadd C dJ9_floorMod_7cf53_16 ?_
      exact hR _ _ _ _ dJ9_floorMod_7cf53_17 hw
def wp_X7_join (τ : TS) (i0 : Nat) (x1 : Int32) (x2 : Int32) (K : TS → Int32 → Prop) : Prop :=
  ((x2 ≤ (τ i0 2)) → (K τ 0)) ∧ ((¬ x2 ≤ (τ i0 2)) → ((((τ i0 2) < 20) → (∀ x3 : Int32, x3 = (((τ i0 1) + (τ i0 2)) - ((τ i0 1) + (τ i0 2)) / 20 * 20) → vp_in x3 20 ∧ (∀ τ5 : TS, τ5 = tp_up τ (i0 + 1) (Int32.toNatClampNeg x3) x1 → ∀ τ6 : TS, τ6 = tp_up τ5 i0 2 ((τ5 i0 2) + 1) → K τ6 1))) ∧ ((¬ (τ i0 2) < 20) → (K τ 0))))
theorem mw_X7_join_0 : Cond.fieldLink RX7 18 "TidePost$Way" "queued" "I" ∈ wsX7_join := List.mem_of_getElem? (i := 1) rfl
theorem mw_X7_join_1 : Cond.fieldLink RX7 9 "TidePost$Way" "queue" "[I" ∈ wsX7_join := List.mem_of_getElem? (i := 2) rfl
theorem mw_X7_join_2 : Cond.fieldLink RX7 22 "TidePost$Way" "head" "I" ∈ wsX7_join := List.mem_of_getElem? (i := 3) rfl
theorem in_X7_join_X7 : ∀ x ∈ wsX70, x ∈ wsX7_join := fun _ h => List.mem_cons_of_mem _ (List.mem_append_right _ h)
set_option maxHeartbeats 4000000 in
set_option maxRecDepth 100000 in
theorem c_X7_join (w : WPar) (τ : TS) (i0 : Nat) (x1 : Int32) (x2 : Int32) (K : TS → Int32 → Prop) (h0 : tp_is i0 6) (hw : wp_X7_join τ i0 x1 x2 K) : MI w yX7_join wsX7_join 0 0 [.ref (w.1 i0), .int x1, .int x2] τ K := by
  refine tp_enterZ (cc := cX7_join) (maxL := 3) (own := RX7) (by decide) rfl rfl (Nat.le_of_ble_eq_true rfl) (fun g C hR => ?_)
  show Zt w g τ (0, 0) 0 [(0, .ref (w.1 i0)), (1, .int x1), (2, .int x2)] []
  unfold wp_X7_join at hw
  refine z_aload_n C 0 (by rfl) dX7_join_0 ?_
  refine z_get C (Cn := RX7) (T := TX7) (N := 7) (ci := 6) h0.2 2 (tE6 h0.1) in_X7_join_X7 rfl (by decide) mw_X7_join_0 rfl rfl dX7_join_1 ?_
  refine z_iload_n C 2 (by rfl) dX7_join_4 ?_
  refine z_icmp_ge (tgt := 17) C dX7_join_5 (by decide) (fun c1 => ?_) (fun c1 => ?_)
  · have hw := hw.1 c1
    refine z_iconst C 0 (by decide) dX7_join_17 ?_
    exact hR _ _ _ _ dX7_join_18 rfl hw
  · have hw := hw.2 c1
    refine z_aload_n C 0 (by rfl) dX7_join_8 ?_
    refine z_get C (Cn := RX7) (T := TX7) (N := 7) (ci := 6) h0.2 2 (tE6 h0.1) in_X7_join_X7 rfl (by decide) mw_X7_join_0 rfl rfl dX7_join_9 ?_
    refine z_bipush C 20 (by decide) dX7_join_12 ?_
    refine z_icmp_lt (tgt := 19) C dX7_join_14 (by decide) (fun c2 => ?_) (fun c2 => ?_)
    · have hw := hw.1 c2
      refine z_aload_n C 0 (by rfl) dX7_join_19 ?_
      refine z_get C (Cn := RX7) (T := TX7) (N := 7) (ci := 6) h0.2 0 (tE6 h0.1) in_X7_join_X7 rfl (by decide) mw_X7_join_1 rfl rfl dX7_join_20 ?_
      refine z_aload_n C 0 (by rfl) dX7_join_23 ?_
      refine z_get C (Cn := RX7) (T := TX7) (N := 7) (ci := 6) h0.2 1 (tE6 h0.1) in_X7_join_X7 rfl (by decide) mw_X7_join_2 rfl rfl dX7_join_24 ?_
      refine z_aload_n C 0 (by rfl) dX7_join_27 ?_
      refine z_get C (Cn := RX7) (T := TX7) (N := 7) (ci := 6) h0.2 2 (tE6 h0.1) in_X7_join_X7 rfl (by decide) mw_X7_join_0 rfl rfl dX7_join_28 ?_
      refine z_iadd C dX7_join_31 ?_
      refine z_bipush C 20 (by decide) dX7_join_32 ?_
      refine z_irem C (by decide) dX7_join_34 ?_
      refine z_top (fun x3 ex3 => ?_)
      have hw := hw x3 ex3
      refine z_iload_n C 1 (by rfl) dX7_join_35 ?_
      obtain ⟨s4, hw⟩ := hw
      refine z_iast C (tR6_0 h0).2 (fun _ => tE8 (tR6_0 h0).1) s4 dX7_join_36 (fun τ5 eτ5 => ?_)
      have hw := hw τ5 eτ5
      refine z_aload_n C 0 (by rfl) dX7_join_37 ?_
      refine z_dup C rfl dX7_join_38 ?_
      refine z_get C (Cn := RX7) (T := TX7) (N := 7) (ci := 6) h0.2 2 (tE6 h0.1) in_X7_join_X7 rfl (by decide) mw_X7_join_0 rfl rfl dX7_join_39 ?_
      refine z_iconst C 1 (by decide) dX7_join_42 ?_
      refine z_iadd C dX7_join_43 ?_
      refine z_put C (Cn := RX7) (T := TX7) (N := 7) (ci := 6) h0.2 2 (tE6 h0.1) (tS6_2 h0.1 _) in_X7_join_X7 tyX7 tyX7_ok nmX7 rfl (by decide) mw_X7_join_0 rfl rfl (tyX7_ok 2 (by decide)) rfl rfl (Nat.le_of_ble_eq_true rfl) dX7_join_44 (fun τ6 eτ6 => ?_)
      have hw := hw τ6 eτ6
      refine z_iconst C 1 (by decide) dX7_join_47 ?_
      exact hR _ _ _ _ dX7_join_48 rfl hw
    · have hw := hw.2 c2
      refine z_iconst C 0 (by decide) dX7_join_17 ?_
      exact hR _ _ _ _ dX7_join_18 rfl hw
def wp_X7_takeOff (τ : TS) (i0 : Nat) (x1 : Int32) (K : TS → Int32 → Prop) : Prop :=
  ((¬ (τ i0 2) = 0) → (vp_in (τ i0 1) 20 ∧ (∀ x3 : Int32, x3 = (τ (i0 + 1) (Int32.toNatClampNeg (τ i0 1))) → ∀ x4 : Int32, x4 = (((τ i0 1) + 1) - ((τ i0 1) + 1) / 20 * 20) → ∀ τ5 : TS, τ5 = tp_up τ i0 1 x4 → ∀ τ6 : TS, τ6 = tp_up τ5 i0 2 ((τ5 i0 2) - 1) → (((τ6 i0 6) ≤ 0) → (wp_J9_floorMod_7cf53 τ6 x1 10 (fun τ8 x9 => vp_in x9 10 ∧ (∀ τ11 : TS, τ11 = tp_up τ8 (i0 + 2) (Int32.toNatClampNeg x9) (x3 + 262144) → ∀ τ12 : TS, τ12 = tp_up τ11 i0 4 ((τ11 i0 4) + 1) → ∀ τ13 : TS, τ13 = tp_up τ12 i0 5 ((τ12 i0 5) + 1) → K τ13 0)))) ∧ ((¬ (τ6 i0 6) ≤ 0) → (∀ τ14 : TS, τ14 = tp_up τ6 i0 6 ((τ6 i0 6) - 1) → K τ14 1))))) ∧ (((τ i0 2) = 0) → (K τ 0))
theorem mw_X7_takeOff_0 : Cond.fieldLink RX7 18 "TidePost$Way" "queued" "I" ∈ wsX7_takeOff := List.mem_of_getElem? (i := 1) rfl
theorem mw_X7_takeOff_1 : Cond.fieldLink RX7 9 "TidePost$Way" "queue" "[I" ∈ wsX7_takeOff := List.mem_of_getElem? (i := 2) rfl
theorem mw_X7_takeOff_2 : Cond.fieldLink RX7 22 "TidePost$Way" "head" "I" ∈ wsX7_takeOff := List.mem_of_getElem? (i := 3) rfl
theorem mw_X7_takeOff_3 : Cond.fieldLink RX7 25 "TidePost$Way" "toLose" "I" ∈ wsX7_takeOff := List.mem_of_getElem? (i := 4) rfl
theorem mw_X7_takeOff_4 : Cond.fieldLink RX7 15 "TidePost$Way" "flight" "[I" ∈ wsX7_takeOff := List.mem_of_getElem? (i := 5) rfl
theorem mw_X7_takeOff_5 : Cond.constant RX7 36 (262144) ∈ wsX7_takeOff := List.mem_of_getElem? (i := 6) rfl
theorem mw_X7_takeOff_6 : Cond.fieldLink RX7 37 "TidePost$Way" "flying" "I" ∈ wsX7_takeOff := List.mem_of_getElem? (i := 7) rfl
theorem mw_X7_takeOff_7 : Cond.fieldLink RX7 40 "TidePost$Way" "flown" "I" ∈ wsX7_takeOff := List.mem_of_getElem? (i := 8) rfl
theorem in_X7_takeOff_X7 : ∀ x ∈ wsX70, x ∈ wsX7_takeOff := fun _ h => List.mem_cons_of_mem _ (List.mem_append_right _ h)
set_option maxHeartbeats 4000000 in
set_option maxRecDepth 100000 in
theorem c_X7_takeOff (w : WPar) (τ : TS) (i0 : Nat) (x1 : Int32) (K : TS → Int32 → Prop) (h0 : tp_is i0 6) (hw : wp_X7_takeOff τ i0 x1 K) : MI w yX7_takeOff wsX7_takeOff 1 22 [.ref (w.1 i0), .int x1] τ K := by
  refine tp_enterZ (cc := cX7_takeOff) (maxL := 3) (own := RX7) (by decide) rfl rfl (Nat.le_of_ble_eq_true rfl) (fun g C hR => ?_)
  show Zt w g τ (0, 0) 0 [(0, .ref (w.1 i0)), (1, .int x1)] []
  unfold wp_X7_takeOff at hw
  refine z_aload_n C 0 (by rfl) dX7_takeOff_0 ?_
  refine z_get C (Cn := RX7) (T := TX7) (N := 7) (ci := 6) h0.2 2 (tE6 h0.1) in_X7_takeOff_X7 rfl (by decide) mw_X7_takeOff_0 rfl rfl dX7_takeOff_1 ?_
  refine z_if_ne (tgt := 9) C dX7_takeOff_4 (by decide) (fun c1 => ?_) (fun c1 => ?_)
  · have hw := hw.1 c1
    refine z_aload_n C 0 (by rfl) dX7_takeOff_9 ?_
    refine z_get C (Cn := RX7) (T := TX7) (N := 7) (ci := 6) h0.2 0 (tE6 h0.1) in_X7_takeOff_X7 rfl (by decide) mw_X7_takeOff_1 rfl rfl dX7_takeOff_10 ?_
    refine z_aload_n C 0 (by rfl) dX7_takeOff_13 ?_
    refine z_get C (Cn := RX7) (T := TX7) (N := 7) (ci := 6) h0.2 1 (tE6 h0.1) in_X7_takeOff_X7 rfl (by decide) mw_X7_takeOff_2 rfl rfl dX7_takeOff_14 ?_
    obtain ⟨s2, hw⟩ := hw
    refine z_iald C (tR6_0 h0).2 (tE8 (tR6_0 h0).1) s2 dX7_takeOff_17 ?_
    refine z_top (fun x3 ex3 => ?_)
    have hw := hw x3 ex3
    refine z_istore_n C [(2, .int x3), (0, .ref (w.1 i0)), (1, .int x1)] dX7_takeOff_18 (by decide) rfl ?_
    refine z_aload_n C 1 (by rfl) dX7_takeOff_19 ?_
    refine z_aload_n C 1 (by rfl) dX7_takeOff_20 ?_
    refine z_get C (Cn := RX7) (T := TX7) (N := 7) (ci := 6) h0.2 1 (tE6 h0.1) in_X7_takeOff_X7 rfl (by decide) mw_X7_takeOff_2 rfl rfl dX7_takeOff_21 ?_
    refine z_iconst C 1 (by decide) dX7_takeOff_24 ?_
    refine z_iadd C dX7_takeOff_25 ?_
    refine z_bipush C 20 (by decide) dX7_takeOff_26 ?_
    refine z_irem C (by decide) dX7_takeOff_28 ?_
    refine z_top (fun x4 ex4 => ?_)
    have hw := hw x4 ex4
    refine z_put C (Cn := RX7) (T := TX7) (N := 7) (ci := 6) h0.2 1 (tE6 h0.1) (tS6_1 h0.1 _) in_X7_takeOff_X7 tyX7 tyX7_ok nmX7 rfl (by decide) mw_X7_takeOff_2 rfl rfl (tyX7_ok 1 (by decide)) rfl rfl (Nat.le_of_ble_eq_true rfl) dX7_takeOff_29 (fun τ5 eτ5 => ?_)
    have hw := hw τ5 eτ5
    refine z_aload_n C 1 (by rfl) dX7_takeOff_32 ?_
    refine z_dup C rfl dX7_takeOff_33 ?_
    refine z_get C (Cn := RX7) (T := TX7) (N := 7) (ci := 6) h0.2 2 (tE6 h0.1) in_X7_takeOff_X7 rfl (by decide) mw_X7_takeOff_0 rfl rfl dX7_takeOff_34 ?_
    refine z_iconst C 1 (by decide) dX7_takeOff_37 ?_
    refine z_isub C dX7_takeOff_38 ?_
    refine z_put C (Cn := RX7) (T := TX7) (N := 7) (ci := 6) h0.2 2 (tE6 h0.1) (tS6_2 h0.1 _) in_X7_takeOff_X7 tyX7 tyX7_ok nmX7 rfl (by decide) mw_X7_takeOff_0 rfl rfl (tyX7_ok 2 (by decide)) rfl rfl (Nat.le_of_ble_eq_true rfl) dX7_takeOff_39 (fun τ6 eτ6 => ?_)
    have hw := hw τ6 eτ6
    refine z_aload_n C 1 (by rfl) dX7_takeOff_42 ?_
    refine z_get C (Cn := RX7) (T := TX7) (N := 7) (ci := 6) h0.2 6 (tE6 h0.1) in_X7_takeOff_X7 rfl (by decide) mw_X7_takeOff_3 rfl rfl dX7_takeOff_43 ?_
    refine z_if_le (tgt := 61) C dX7_takeOff_46 (by decide) (fun c7 => ?_) (fun c7 => ?_)
    · have hw := hw.1 c7
      refine z_aload_n C 1 (by rfl) dX7_takeOff_61 ?_
      refine z_get C (Cn := RX7) (T := TX7) (N := 7) (ci := 6) h0.2 3 (tE6 h0.1) in_X7_takeOff_X7 rfl (by decide) mw_X7_takeOff_4 rfl rfl dX7_takeOff_62 ?_
      refine z_iload_n C 2 (by rfl) dX7_takeOff_65 ?_
      refine z_bipush C 10 (by decide) dX7_takeOff_66 ?_
      refine zs_i C (As := [.int x1, .int 10]) (bytes := cJ9_floorMod_7cf53) (maxL := 3) (F1 := 0) (L1 := 0) (c_J9_floorMod_7cf53 w _ x1 10 _  hw) 2 gX7_takeOff_J9_floorMod_7cf53 rfl (by decide +kernel) ⟨Nat.le_of_ble_eq_true rfl, Nat.le_of_ble_eq_true rfl⟩ rfl (Nat.le_of_ble_eq_true rfl) ⟨Nat.zero_le _, Nat.zero_le _⟩ rfl dX7_takeOff_68 (fun x9 τ8 hw => ?_)
      refine z_iload_n C 0 (by rfl) dX7_takeOff_71 ?_
      refine z_ldc C 262144 mw_X7_takeOff_5 dX7_takeOff_72 ?_
      refine z_iadd C dX7_takeOff_74 ?_
      obtain ⟨s10, hw⟩ := hw
      refine z_iast C (tR6_3 h0).2 (fun _ => tE9 (tR6_3 h0).1) s10 dX7_takeOff_75 (fun τ11 eτ11 => ?_)
      have hw := hw τ11 eτ11
      refine z_aload_n C 1 (by rfl) dX7_takeOff_76 ?_
      refine z_dup C rfl dX7_takeOff_77 ?_
      refine z_get C (Cn := RX7) (T := TX7) (N := 7) (ci := 6) h0.2 4 (tE6 h0.1) in_X7_takeOff_X7 rfl (by decide) mw_X7_takeOff_6 rfl rfl dX7_takeOff_78 ?_
      refine z_iconst C 1 (by decide) dX7_takeOff_81 ?_
      refine z_iadd C dX7_takeOff_82 ?_
      refine z_put C (Cn := RX7) (T := TX7) (N := 7) (ci := 6) h0.2 4 (tE6 h0.1) (tS6_4 h0.1 _) in_X7_takeOff_X7 tyX7 tyX7_ok nmX7 rfl (by decide) mw_X7_takeOff_6 rfl rfl (tyX7_ok 4 (by decide)) rfl rfl (Nat.le_of_ble_eq_true rfl) dX7_takeOff_83 (fun τ12 eτ12 => ?_)
      have hw := hw τ12 eτ12
      refine z_aload_n C 1 (by rfl) dX7_takeOff_86 ?_
      refine z_dup C rfl dX7_takeOff_87 ?_
      refine z_get C (Cn := RX7) (T := TX7) (N := 7) (ci := 6) h0.2 5 (tE6 h0.1) in_X7_takeOff_X7 rfl (by decide) mw_X7_takeOff_7 rfl rfl dX7_takeOff_88 ?_
      refine z_iconst C 1 (by decide) dX7_takeOff_91 ?_
      refine z_iadd C dX7_takeOff_92 ?_
      refine z_put C (Cn := RX7) (T := TX7) (N := 7) (ci := 6) h0.2 5 (tE6 h0.1) (tS6_5 h0.1 _) in_X7_takeOff_X7 tyX7 tyX7_ok nmX7 rfl (by decide) mw_X7_takeOff_7 rfl rfl (tyX7_ok 5 (by decide)) rfl rfl (Nat.le_of_ble_eq_true rfl) dX7_takeOff_93 (fun τ13 eτ13 => ?_)
      have hw := hw τ13 eτ13
      refine z_iconst C 0 (by decide) dX7_takeOff_96 ?_
      exact hR _ _ _ _ dX7_takeOff_97 rfl hw
    · have hw := hw.2 c7
      refine z_aload_n C 1 (by rfl) dX7_takeOff_49 ?_
      refine z_dup C rfl dX7_takeOff_50 ?_
      refine z_get C (Cn := RX7) (T := TX7) (N := 7) (ci := 6) h0.2 6 (tE6 h0.1) in_X7_takeOff_X7 rfl (by decide) mw_X7_takeOff_3 rfl rfl dX7_takeOff_51 ?_
      refine z_iconst C 1 (by decide) dX7_takeOff_54 ?_
      refine z_isub C dX7_takeOff_55 ?_
      refine z_put C (Cn := RX7) (T := TX7) (N := 7) (ci := 6) h0.2 6 (tE6 h0.1) (tS6_6 h0.1 _) in_X7_takeOff_X7 tyX7 tyX7_ok nmX7 rfl (by decide) mw_X7_takeOff_3 rfl rfl (tyX7_ok 6 (by decide)) rfl rfl (Nat.le_of_ble_eq_true rfl) dX7_takeOff_56 (fun τ14 eτ14 => ?_)
      have hw := hw τ14 eτ14
      refine z_iconst C 1 (by decide) dX7_takeOff_59 ?_
      exact hR _ _ _ _ dX7_takeOff_60 rfl hw
  · have hw := hw.2 c1
    refine z_iconst C 0 (by decide) dX7_takeOff_7 ?_
    exact hR _ _ _ _ dX7_takeOff_8 rfl hw
def wp_X7_land (τ : TS) (i0 : Nat) (x1 : Int32) (K : TS → Int32 → Prop) : Prop :=
  wp_J9_floorMod_7cf53 τ x1 10 (fun τ1 x2 => vp_in x2 10 ∧ (∀ x4 : Int32, x4 = (τ1 (i0 + 2) (Int32.toNatClampNeg x2)) → ((x4 = (-1)) → (K τ1 x4)) ∧ ((¬ x4 = (-1)) → (vp_in x2 10 ∧ (∀ τ7 : TS, τ7 = tp_up τ1 (i0 + 2) (Int32.toNatClampNeg x2) (-1) → ∀ τ8 : TS, τ8 = tp_up τ7 i0 4 ((τ7 i0 4) - 1) → K τ8 x4)))))
theorem mw_X7_land_0 : Cond.fieldLink RX7 15 "TidePost$Way" "flight" "[I" ∈ wsX7_land := List.mem_of_getElem? (i := 1) rfl
theorem mw_X7_land_1 : Cond.fieldLink RX7 37 "TidePost$Way" "flying" "I" ∈ wsX7_land := List.mem_of_getElem? (i := 2) rfl
theorem in_X7_land_X7 : ∀ x ∈ wsX70, x ∈ wsX7_land := fun _ h => List.mem_cons_of_mem _ (List.mem_append_right _ h)
set_option maxHeartbeats 4000000 in
set_option maxRecDepth 100000 in
theorem c_X7_land (w : WPar) (τ : TS) (i0 : Nat) (x1 : Int32) (K : TS → Int32 → Prop) (h0 : tp_is i0 6) (hw : wp_X7_land τ i0 x1 K) : MI w yX7_land wsX7_land 1 22 [.ref (w.1 i0), .int x1] τ K := by
  refine tp_enterI (cc := cX7_land) (maxL := 4) (own := RX7) (by decide) rfl rfl (Nat.le_of_ble_eq_true rfl) (fun g C hR => ?_)
  show Zt w g τ (0, 0) 0 [(0, .ref (w.1 i0)), (1, .int x1)] []
  unfold wp_X7_land at hw
  refine z_iload_n C 1 (by rfl) dX7_land_0 ?_
  refine z_bipush C 10 (by decide) dX7_land_1 ?_
  refine zs_i C (As := [.int x1, .int 10]) (bytes := cJ9_floorMod_7cf53) (maxL := 3) (F1 := 0) (L1 := 0) (c_J9_floorMod_7cf53 w _ x1 10 _  hw) 2 gX7_land_J9_floorMod_7cf53 rfl (by decide +kernel) ⟨Nat.le_of_ble_eq_true rfl, Nat.le_of_ble_eq_true rfl⟩ rfl (Nat.le_of_ble_eq_true rfl) ⟨Nat.zero_le _, Nat.zero_le _⟩ rfl dX7_land_3 (fun x2 τ1 hw => ?_)
  refine z_istore_n C [(2, .int x2), (0, .ref (w.1 i0)), (1, .int x1)] dX7_land_6 (by decide) rfl ?_
  refine z_aload_n C 1 (by rfl) dX7_land_7 ?_
  refine z_get C (Cn := RX7) (T := TX7) (N := 7) (ci := 6) h0.2 3 (tE6 h0.1) in_X7_land_X7 rfl (by decide) mw_X7_land_0 rfl rfl dX7_land_8 ?_
  refine z_iload_n C 0 (by rfl) dX7_land_11 ?_
  obtain ⟨s3, hw⟩ := hw
  refine z_iald C (tR6_3 h0).2 (tE9 (tR6_3 h0).1) s3 dX7_land_12 ?_
  refine z_top (fun x4 ex4 => ?_)
  have hw := hw x4 ex4
  refine z_istore_n C [(3, .int x4), (2, .int x2), (0, .ref (w.1 i0)), (1, .int x1)] dX7_land_13 (by decide) rfl ?_
  refine z_iload_n C 0 (by rfl) dX7_land_14 ?_
  refine z_iconst C (-1) (by decide) dX7_land_15 ?_
  refine z_icmp_eq (tgt := 36) C dX7_land_16 (by decide) (fun c5 => ?_) (fun c5 => ?_)
  · have hw := hw.1 c5
    refine z_iload_n C 0 (by rfl) dX7_land_36 ?_
    exact hR _ _ _ _ dX7_land_37 hw
  · have hw := hw.2 c5
    refine z_aload_n C 2 (by rfl) dX7_land_19 ?_
    refine z_get C (Cn := RX7) (T := TX7) (N := 7) (ci := 6) h0.2 3 (tE6 h0.1) in_X7_land_X7 rfl (by decide) mw_X7_land_0 rfl rfl dX7_land_20 ?_
    refine z_iload_n C 1 (by rfl) dX7_land_23 ?_
    refine z_iconst C (-1) (by decide) dX7_land_24 ?_
    obtain ⟨s6, hw⟩ := hw
    refine z_iast C (tR6_3 h0).2 (fun _ => tE9 (tR6_3 h0).1) s6 dX7_land_25 (fun τ7 eτ7 => ?_)
    have hw := hw τ7 eτ7
    refine z_aload_n C 2 (by rfl) dX7_land_26 ?_
    refine z_dup C rfl dX7_land_27 ?_
    refine z_get C (Cn := RX7) (T := TX7) (N := 7) (ci := 6) h0.2 4 (tE6 h0.1) in_X7_land_X7 rfl (by decide) mw_X7_land_1 rfl rfl dX7_land_28 ?_
    refine z_iconst C 1 (by decide) dX7_land_31 ?_
    refine z_isub C dX7_land_32 ?_
    refine z_put C (Cn := RX7) (T := TX7) (N := 7) (ci := 6) h0.2 4 (tE6 h0.1) (tS6_4 h0.1 _) in_X7_land_X7 tyX7 tyX7_ok nmX7 rfl (by decide) mw_X7_land_1 rfl rfl (tyX7_ok 4 (by decide)) rfl rfl (Nat.le_of_ble_eq_true rfl) dX7_land_33 (fun τ8 eτ8 => ?_)
    have hw := hw τ8 eτ8
    refine z_iload_n C 0 (by rfl) dX7_land_36 ?_
    exact hR _ _ _ _ dX7_land_37 hw
def wp_X7_drop (τ : TS) (i0 : Nat) (K : TS → Int32 → Prop) : Prop :=
  ∀ x1 : Int32, x1 = ((τ i0 2) + (τ i0 4)) → ∀ τ2 : TS, τ2 = tp_up τ i0 2 0 → ∀ τ3 : TS, τ3 = tp_up τ2 i0 4 0 → ∃ (I6 : TS → Int32 → Prop) (u6 : TS → Int32 → Nat), I6 τ3 0 ∧ ∀ (τ4 : TS) (x5 : Int32), I6 τ4 x5 → (((10 ≤ x5) → (K τ4 x1)) ∧ ((¬ 10 ≤ x5) → (vp_in x5 10 ∧ (∀ τ9 : TS, τ9 = tp_up τ4 (i0 + 2) (Int32.toNatClampNeg x5) (-1) → ∀ x10 : Int32, x10 = x5 + 1 → I6 τ9 x10 ∧ u6 τ9 x10 < u6 τ4 x5))))
theorem mw_X7_drop_0 : Cond.fieldLink RX7 18 "TidePost$Way" "queued" "I" ∈ wsX7_drop := List.mem_of_getElem? (i := 1) rfl
theorem mw_X7_drop_1 : Cond.fieldLink RX7 37 "TidePost$Way" "flying" "I" ∈ wsX7_drop := List.mem_of_getElem? (i := 2) rfl
theorem mw_X7_drop_2 : Cond.fieldLink RX7 15 "TidePost$Way" "flight" "[I" ∈ wsX7_drop := List.mem_of_getElem? (i := 3) rfl
theorem in_X7_drop_X7 : ∀ x ∈ wsX70, x ∈ wsX7_drop := fun _ h => List.mem_cons_of_mem _ (List.mem_append_right _ h)
set_option maxHeartbeats 4000000 in
set_option maxRecDepth 100000 in
theorem c_X7_drop (w : WPar) (τ : TS) (i0 : Nat) (K : TS → Int32 → Prop) (h0 : tp_is i0 6) (hw : wp_X7_drop τ i0 K) : MI w yX7_drop wsX7_drop 0 0 [.ref (w.1 i0)] τ K := by
  refine tp_enterI (cc := cX7_drop) (maxL := 3) (own := RX7) (by decide) rfl rfl (Nat.le_of_ble_eq_true rfl) (fun g C hR => ?_)
  show Zt w g τ (0, 0) 0 [(0, .ref (w.1 i0))] []
  unfold wp_X7_drop at hw
  refine z_aload_n C 0 (by rfl) dX7_drop_0 ?_
  refine z_get C (Cn := RX7) (T := TX7) (N := 7) (ci := 6) h0.2 2 (tE6 h0.1) in_X7_drop_X7 rfl (by decide) mw_X7_drop_0 rfl rfl dX7_drop_1 ?_
  refine z_aload_n C 0 (by rfl) dX7_drop_4 ?_
  refine z_get C (Cn := RX7) (T := TX7) (N := 7) (ci := 6) h0.2 4 (tE6 h0.1) in_X7_drop_X7 rfl (by decide) mw_X7_drop_1 rfl rfl dX7_drop_5 ?_
  refine z_iadd C dX7_drop_8 ?_
  refine z_top (fun x1 ex1 => ?_)
  have hw := hw x1 ex1
  refine z_istore_n C [(1, .int x1), (0, .ref (w.1 i0))] dX7_drop_9 (by decide) rfl ?_
  refine z_aload_n C 1 (by rfl) dX7_drop_10 ?_
  refine z_iconst C 0 (by decide) dX7_drop_11 ?_
  refine z_put C (Cn := RX7) (T := TX7) (N := 7) (ci := 6) h0.2 2 (tE6 h0.1) (tS6_2 h0.1 _) in_X7_drop_X7 tyX7 tyX7_ok nmX7 rfl (by decide) mw_X7_drop_0 rfl rfl (tyX7_ok 2 (by decide)) rfl rfl (Nat.le_of_ble_eq_true rfl) dX7_drop_12 (fun τ2 eτ2 => ?_)
  have hw := hw τ2 eτ2
  refine z_aload_n C 1 (by rfl) dX7_drop_15 ?_
  refine z_iconst C 0 (by decide) dX7_drop_16 ?_
  refine z_put C (Cn := RX7) (T := TX7) (N := 7) (ci := 6) h0.2 4 (tE6 h0.1) (tS6_4 h0.1 _) in_X7_drop_X7 tyX7 tyX7_ok nmX7 rfl (by decide) mw_X7_drop_1 rfl rfl (tyX7_ok 4 (by decide)) rfl rfl (Nat.le_of_ble_eq_true rfl) dX7_drop_17 (fun τ3 eτ3 => ?_)
  have hw := hw τ3 eτ3
  refine z_iconst C 0 (by decide) dX7_drop_20 ?_
  refine z_istore_n C [(2, .int 0), (1, .int x1), (0, .ref (w.1 i0))] dX7_drop_21 (by decide) rfl ?_
  obtain ⟨I6, u6, hI6, hs6⟩ := hw
  have lp6 : ∀ (n6 : Nat) (τ4 : TS) (x5 : Int32), u6 τ4 x5 < n6 → I6 τ4 x5 → Zt w g τ4 (0, 0) 22 [(0, .ref (w.1 i0)), (1, .int x1), (2, .int x5)] [] := by
    intro n6
    induction n6 with
    | zero => intro τ4 x5 hlt6; exact absurd hlt6 (Nat.not_lt_zero _)
    | succ n6 ih6 =>
      intro τ4 x5 hlt6 hh6
      have hw := hs6 τ4 x5 hh6
      refine z_iload_n C 2 (by rfl) dX7_drop_22 ?_
      refine z_bipush C 10 (by decide) dX7_drop_23 ?_
      refine z_icmp_ge (tgt := 41) C dX7_drop_25 (by decide) (fun c7 => ?_) (fun c7 => ?_)
      · have hw := hw.1 c7
        refine z_iload_n C 1 (by rfl) dX7_drop_41 ?_
        exact hR _ _ _ _ dX7_drop_42 hw
      · have hw := hw.2 c7
        refine z_aload_n C 0 (by rfl) dX7_drop_28 ?_
        refine z_get C (Cn := RX7) (T := TX7) (N := 7) (ci := 6) h0.2 3 (tE6 h0.1) in_X7_drop_X7 rfl (by decide) mw_X7_drop_2 rfl rfl dX7_drop_29 ?_
        refine z_iload_n C 2 (by rfl) dX7_drop_32 ?_
        refine z_iconst C (-1) (by decide) dX7_drop_33 ?_
        obtain ⟨s8, hw⟩ := hw
        refine z_iast C (tR6_3 h0).2 (fun _ => tE9 (tR6_3 h0).1) s8 dX7_drop_34 (fun τ9 eτ9 => ?_)
        have hw := hw τ9 eτ9
        obtain ⟨x10, ex10⟩ : ∃ z : Int32, z = x5 + 1 := ⟨_, rfl⟩
        have hw := hw x10 ex10
        refine z_iinc C 2 x10 [(2, .int x10), (0, .ref (w.1 i0)), (1, .int x1)] dX7_drop_35 (by rfl) (by rw [ex10]; rfl) (by decide) rfl ?_
        refine z_goto (tgt := 22) C dX7_drop_38 (by decide) ?_
        refine z_sub [1, 2, 0] [(0, .ref (w.1 i0)), (1, .int x1), (2, .int x10)] rfl ?_
        exact ih6 τ9 x10 (Nat.lt_of_lt_of_le hw.2 (Nat.le_of_lt_succ hlt6)) hw.1
  refine z_sub [2, 1, 0] [(0, .ref (w.1 i0)), (1, .int x1), (2, .int 0)] rfl ?_
  exact lp6 _ τ3 0 (Nat.lt_succ_self _) hI6
