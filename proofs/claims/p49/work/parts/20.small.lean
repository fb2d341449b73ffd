def wp_X0_spare (τ : TS) (i0 : Nat) (K : TS → Int32 → Prop) : Prop :=
  ∀ x21 : Int32, x21 = (if 0 < (((τ i0 2) + (τ i0 0)) - (τ i0 1)) then (((τ i0 2) + (τ i0 0)) - (τ i0 1)) else 0) → K τ x21
theorem mw_X0_spare_0 : Cond.fieldLink RX0 15 "TidePost$Callee" "read" "I" ∈ wsX0_spare := List.mem_of_getElem? (i := 1) rfl
theorem mw_X0_spare_1 : Cond.fieldLink RX0 19 "TidePost$Callee" "buffer" "I" ∈ wsX0_spare := List.mem_of_getElem? (i := 2) rfl
theorem mw_X0_spare_2 : Cond.fieldLink RX0 22 "TidePost$Callee" "wanted" "I" ∈ wsX0_spare := List.mem_of_getElem? (i := 3) rfl
theorem mw_X0_spare_3 : Cond.methodLink RX0 25 Lib.Math.max.name ∈ wsX0_spare := List.mem_of_getElem? (i := 4) rfl
theorem mw_X0_spare_4 : Cond.static Lib.Math.max.name ∈ wsX0_spare := List.mem_of_getElem? (i := 5) rfl
theorem mw_X0_spare_5 : Cond.initialized "java/lang/Math" ∈ wsX0_spare := List.mem_of_getElem? (i := 6) rfl
theorem mw_X0_spare_6 : Cond.code Lib.Math.max.name Lib.Math.max.code 2 (some .int) ∈ wsX0_spare := List.mem_of_getElem? (i := 7) rfl
theorem in_X0_spare_X0 : ∀ x ∈ wsX00, x ∈ wsX0_spare := fun _ h => List.mem_cons_of_mem _ (List.mem_append_right _ h)
set_option maxHeartbeats 4000000 in
set_option maxRecDepth 100000 in
theorem c_X0_spare (w : WPar) (τ : TS) (i0 : Nat) (K : TS → Int32 → Prop) (h0 : tp_is w i0 0) (hw : wp_X0_spare τ i0 K) : MI w yX0_spare wsX0_spare 1 13 [.ref (w.1 i0)] τ K := by
  refine tp_enterI (cc := cX0_spare) (maxL := 1) (own := RX0) (by decide) rfl rfl (Nat.le_of_ble_eq_true rfl) (fun g C hR => ?_)
  show Zt w g τ (0, 0) 0 [(0, .ref (w.1 i0))] []
  unfold wp_X0_spare at hw
  refine z_iconst C 0 (by decide) dX0_spare_0 ?_
  refine z_aload_n C 0 (by rfl) dX0_spare_1 ?_
  refine z_get C (Cn := RX0) (T := TX0) (N := 4) (ci := 0) h0.2 2 (tE0 h0.1) in_X0_spare_X0 rfl (by decide) mw_X0_spare_0 rfl rfl dX0_spare_2 ?_
  refine z_aload_n C 0 (by rfl) dX0_spare_5 ?_
  refine z_get C (Cn := RX0) (T := TX0) (N := 4) (ci := 0) h0.2 0 (tE0 h0.1) in_X0_spare_X0 rfl (by decide) mw_X0_spare_1 rfl rfl dX0_spare_6 ?_
  refine z_iadd C dX0_spare_9 ?_
  refine z_aload_n C 0 (by rfl) dX0_spare_10 ?_
  refine z_get C (Cn := RX0) (T := TX0) (N := 4) (ci := 0) h0.2 1 (tE0 h0.1) in_X0_spare_X0 rfl (by decide) mw_X0_spare_2 rfl rfl dX0_spare_11 ?_
  refine z_isub C dX0_spare_14 ?_
  refine z_max C mw_X0_spare_3 mw_X0_spare_4 mw_X0_spare_5 mw_X0_spare_6 (Nat.le_of_ble_eq_true rfl) (Nat.le_of_ble_eq_true rfl) (Nat.le_of_ble_eq_true rfl) (Nat.le_of_ble_eq_true rfl) dX0_spare_15 ?_
  refine z_top (fun x21 ex21 => ?_)
  have hw := hw x21 ex21
  exact hR _ _ _ _ dX0_spare_18 hw
def wp_X0_take (τ : TS) (i0 : Nat) (x1 : Int32) (x2 : Int32) (K : TS → Int32 → Prop) : Prop :=
  ((x1 < (τ i0 1)) → (K τ 1)) ∧ ((¬ x1 < (τ i0 1)) → (((201 ≤ x1) → (K τ 1)) ∧ ((¬ 201 ≤ x1) → (vp_in x1 201 ∧ ((((τ (i0 + 1) (Int32.toNatClampNeg x1)) = 0) → (∃ J25 : Prop, (J25  → (vp_in x1 201 ∧ (∀ τ27 : TS, τ27 = tp_up τ (i0 + 1) (Int32.toNatClampNeg x1) 1 → ∃ (I29 : TS → Prop) (u29 : TS → Nat), I29 τ27 ∧ ∀ (τ28 : TS), I29 τ28 → (((201 ≤ (τ28 i0 1)) → (K τ28 1)) ∧ ((¬ 201 ≤ (τ28 i0 1)) → (vp_in (τ28 i0 1) 201 ∧ ((((τ28 (i0 + 1) (Int32.toNatClampNeg (τ28 i0 1))) = 0) → (K τ28 1)) ∧ ((¬ (τ28 (i0 + 1) (Int32.toNatClampNeg (τ28 i0 1))) = 0) → (vp_in (τ28 i0 1) 201 ∧ (∀ τ34 : TS, τ34 = tp_up τ28 (i0 + 1) (Int32.toNatClampNeg (τ28 i0 1)) 0 → ∀ τ35 : TS, τ35 = tp_up τ34 i0 1 ((τ34 i0 1) + 1) → I29 τ35 ∧ u29 τ35 < u29 τ28)))))))))) ∧ (((x2 = 0) → J25) ∧ ((¬ x2 = 0) → (((x1 < ((τ i0 2) + (τ i0 0))) → J25) ∧ ((¬ x1 < ((τ i0 2) + (τ i0 0))) → (K τ 0))))))) ∧ ((¬ (τ (i0 + 1) (Int32.toNatClampNeg x1)) = 0) → (K τ 1)))))))
theorem mw_X0_take_0 : Cond.fieldLink RX0 22 "TidePost$Callee" "wanted" "I" ∈ wsX0_take := List.mem_of_getElem? (i := 1) rfl
theorem mw_X0_take_1 : Cond.fieldLink RX0 9 "TidePost$Callee" "held" "[Z" ∈ wsX0_take := List.mem_of_getElem? (i := 2) rfl
theorem mw_X0_take_2 : Cond.fieldLink RX0 15 "TidePost$Callee" "read" "I" ∈ wsX0_take := List.mem_of_getElem? (i := 3) rfl
theorem mw_X0_take_3 : Cond.fieldLink RX0 19 "TidePost$Callee" "buffer" "I" ∈ wsX0_take := List.mem_of_getElem? (i := 4) rfl
theorem in_X0_take_X0 : ∀ x ∈ wsX00, x ∈ wsX0_take := fun _ h => List.mem_cons_of_mem _ (List.mem_append_right _ h)
set_option maxHeartbeats 4000000 in
set_option maxRecDepth 100000 in
theorem c_X0_take (w : WPar) (τ : TS) (i0 : Nat) (x1 : Int32) (x2 : Int32) (K : TS → Int32 → Prop) (h0 : tp_is w i0 0) (hw : wp_X0_take τ i0 x1 x2 K) : MI w yX0_take wsX0_take 0 0 [.ref (w.1 i0), .int x1, .int x2] τ K := by
  refine tp_enterZ (cc := cX0_take) (maxL := 3) (own := RX0) (by decide) rfl rfl (Nat.le_of_ble_eq_true rfl) (fun g C hR => ?_)
  show Zt w g τ (0, 0) 0 [(0, .ref (w.1 i0)), (1, .int x1), (2, .int x2)] []
  unfold wp_X0_take at hw
  refine z_iload_n C 1 (by rfl) dX0_take_0 ?_
  refine z_aload_n C 0 (by rfl) dX0_take_1 ?_
  refine z_get C (Cn := RX0) (T := TX0) (N := 4) (ci := 0) h0.2 1 (tE0 h0.1) in_X0_take_X0 rfl (by decide) mw_X0_take_0 rfl rfl dX0_take_2 ?_
  refine z_icmp_lt (tgt := 26) C dX0_take_5 (by decide) (fun c21 => ?_) (fun c21 => ?_)
  · have hw := hw.1 c21
    refine z_iconst C 1 (by decide) dX0_take_26 ?_
    exact hR _ _ _ _ dX0_take_27 rfl hw
  · have hw := hw.2 c21
    refine z_iload_n C 1 (by rfl) dX0_take_8 ?_
    refine z_aload_n C 0 (by rfl) dX0_take_9 ?_
    refine z_get C (Cn := RX0) (T := TX0) (N := 4) (ci := 0) h0.2 3 (tE0 h0.1) in_X0_take_X0 rfl (by decide) mw_X0_take_1 rfl rfl dX0_take_10 ?_
    refine z_alen C 1 201 (tR0_3 h0).2 (tE10 (tR0_3 h0).1) rfl rfl dX0_take_13 ?_
    refine z_icmp_ge (tgt := 26) C dX0_take_14 (by decide) (fun c22 => ?_) (fun c22 => ?_)
    · have hw := hw.1 c22
      refine z_iconst C 1 (by decide) dX0_take_26 ?_
      exact hR _ _ _ _ dX0_take_27 rfl hw
    · have hw := hw.2 c22
      refine z_aload_n C 0 (by rfl) dX0_take_17 ?_
      refine z_get C (Cn := RX0) (T := TX0) (N := 4) (ci := 0) h0.2 3 (tE0 h0.1) in_X0_take_X0 rfl (by decide) mw_X0_take_1 rfl rfl dX0_take_18 ?_
      refine z_iload_n C 1 (by rfl) dX0_take_21 ?_
      obtain ⟨s23, hw⟩ := hw
      refine z_zald C (tR0_3 h0).2 (tE10 (tR0_3 h0).1) s23 dX0_take_22 ?_
      refine z_if_eq (tgt := 28) C dX0_take_23 (by decide) (fun c24 => ?_) (fun c24 => ?_)
      · have hw := hw.1 c24
        refine z_iload_n C 2 (by rfl) dX0_take_28 ?_
        obtain ⟨J25, hJ25, hw⟩ := hw
        have jn25 : J25  → Zt w g τ (0, 0) 47 [(0, .ref (w.1 i0)), (1, .int x1)] [] := by
          intro  hj25
          have hw := hJ25  hj25
          refine z_aload_n C 0 (by rfl) dX0_take_47 ?_
          refine z_get C (Cn := RX0) (T := TX0) (N := 4) (ci := 0) h0.2 3 (tE0 h0.1) in_X0_take_X0 rfl (by decide) mw_X0_take_1 rfl rfl dX0_take_48 ?_
          refine z_iload_n C 1 (by rfl) dX0_take_51 ?_
          refine z_iconst C 1 (by decide) dX0_take_52 ?_
          obtain ⟨s26, hw⟩ := hw
          refine z_zast C (tR0_3 h0).2 (fun _ => tE10 (tR0_3 h0).1) s26 tp_z1.2.2 dX0_take_53 (fun τ27 eτ27 => ?_)
          have hw := hw τ27 eτ27
          obtain ⟨I29, u29, hI29, hs29⟩ := hw
          have lp29 : ∀ (n29 : Nat) (τ28 : TS), u29 τ28 < n29 → I29 τ28 → Zt w g τ28 (0, 0) 54 [(0, .ref (w.1 i0))] [] := by
            intro n29
            induction n29 with
            | zero => intro τ28 hlt29; exact absurd hlt29 (Nat.not_lt_zero _)
            | succ n29 ih29 =>
              intro τ28 hlt29 hh29
              have hw := hs29 τ28 hh29
              refine z_aload_n C 0 (by rfl) dX0_take_54 ?_
              refine z_get C (Cn := RX0) (T := TX0) (N := 4) (ci := 0) h0.2 1 (tE0 h0.1) in_X0_take_X0 rfl (by decide) mw_X0_take_0 rfl rfl dX0_take_55 ?_
              refine z_aload_n C 0 (by rfl) dX0_take_58 ?_
              refine z_get C (Cn := RX0) (T := TX0) (N := 4) (ci := 0) h0.2 3 (tE0 h0.1) in_X0_take_X0 rfl (by decide) mw_X0_take_1 rfl rfl dX0_take_59 ?_
              refine z_alen C 1 201 (tR0_3 h0).2 (tE10 (tR0_3 h0).1) rfl rfl dX0_take_62 ?_
              refine z_icmp_ge (tgt := 101) C dX0_take_63 (by decide) (fun c30 => ?_) (fun c30 => ?_)
              · have hw := hw.1 c30
                refine z_iconst C 1 (by decide) dX0_take_101 ?_
                exact hR _ _ _ _ dX0_take_102 rfl hw
              · have hw := hw.2 c30
                refine z_aload_n C 0 (by rfl) dX0_take_66 ?_
                refine z_get C (Cn := RX0) (T := TX0) (N := 4) (ci := 0) h0.2 3 (tE0 h0.1) in_X0_take_X0 rfl (by decide) mw_X0_take_1 rfl rfl dX0_take_67 ?_
                refine z_aload_n C 0 (by rfl) dX0_take_70 ?_
                refine z_get C (Cn := RX0) (T := TX0) (N := 4) (ci := 0) h0.2 1 (tE0 h0.1) in_X0_take_X0 rfl (by decide) mw_X0_take_0 rfl rfl dX0_take_71 ?_
                obtain ⟨s31, hw⟩ := hw
                refine z_zald C (tR0_3 h0).2 (tE10 (tR0_3 h0).1) s31 dX0_take_74 ?_
                refine z_if_eq (tgt := 101) C dX0_take_75 (by decide) (fun c32 => ?_) (fun c32 => ?_)
                · have hw := hw.1 c32
                  refine z_iconst C 1 (by decide) dX0_take_101 ?_
                  exact hR _ _ _ _ dX0_take_102 rfl hw
                · have hw := hw.2 c32
                  refine z_aload_n C 0 (by rfl) dX0_take_78 ?_
                  refine z_get C (Cn := RX0) (T := TX0) (N := 4) (ci := 0) h0.2 3 (tE0 h0.1) in_X0_take_X0 rfl (by decide) mw_X0_take_1 rfl rfl dX0_take_79 ?_
                  refine z_aload_n C 0 (by rfl) dX0_take_82 ?_
                  refine z_get C (Cn := RX0) (T := TX0) (N := 4) (ci := 0) h0.2 1 (tE0 h0.1) in_X0_take_X0 rfl (by decide) mw_X0_take_0 rfl rfl dX0_take_83 ?_
                  refine z_iconst C 0 (by decide) dX0_take_86 ?_
                  obtain ⟨s33, hw⟩ := hw
                  refine z_zast C (tR0_3 h0).2 (fun _ => tE10 (tR0_3 h0).1) s33 tp_z0.2.2 dX0_take_87 (fun τ34 eτ34 => ?_)
                  have hw := hw τ34 eτ34
                  refine z_aload_n C 0 (by rfl) dX0_take_88 ?_
                  refine z_dup C rfl dX0_take_89 ?_
                  refine z_get C (Cn := RX0) (T := TX0) (N := 4) (ci := 0) h0.2 1 (tE0 h0.1) in_X0_take_X0 rfl (by decide) mw_X0_take_0 rfl rfl dX0_take_90 ?_
                  refine z_iconst C 1 (by decide) dX0_take_93 ?_
                  refine z_iadd C dX0_take_94 ?_
                  refine z_put C (Cn := RX0) (T := TX0) (N := 4) (ci := 0) h0.2 1 (tE0 h0.1) (tS0_1 h0.1 _) in_X0_take_X0 tyX0 tyX0_ok nmX0 rfl (by decide) mw_X0_take_0 rfl rfl (tyX0_ok 1 (by decide)) rfl rfl (Nat.le_of_ble_eq_true rfl) dX0_take_95 (fun τ35 eτ35 => ?_)
                  have hw := hw τ35 eτ35
                  refine z_goto (tgt := 54) C dX0_take_98 (by decide) ?_
                  exact ih29 τ35 (Nat.lt_of_lt_of_le hw.2 (Nat.le_of_lt_succ hlt29)) hw.1
          refine z_sub [0] [(0, .ref (w.1 i0))] rfl ?_
          exact lp29 _ τ27 (Nat.lt_succ_self _) hI29
        refine z_if_eq (tgt := 47) C dX0_take_29 (by decide) (fun c36 => ?_) (fun c36 => ?_)
        · have hw := hw.1 c36
          refine z_sub [0, 1] [(0, .ref (w.1 i0)), (1, .int x1)] rfl ?_
          exact jn25 hw
        · have hw := hw.2 c36
          refine z_iload_n C 1 (by rfl) dX0_take_32 ?_
          refine z_aload_n C 0 (by rfl) dX0_take_33 ?_
          refine z_get C (Cn := RX0) (T := TX0) (N := 4) (ci := 0) h0.2 2 (tE0 h0.1) in_X0_take_X0 rfl (by decide) mw_X0_take_2 rfl rfl dX0_take_34 ?_
          refine z_aload_n C 0 (by rfl) dX0_take_37 ?_
          refine z_get C (Cn := RX0) (T := TX0) (N := 4) (ci := 0) h0.2 0 (tE0 h0.1) in_X0_take_X0 rfl (by decide) mw_X0_take_3 rfl rfl dX0_take_38 ?_
          refine z_iadd C dX0_take_41 ?_
          refine z_icmp_lt (tgt := 47) C dX0_take_42 (by decide) (fun c37 => ?_) (fun c37 => ?_)
          · have hw := hw.1 c37
            refine z_sub [0, 1] [(0, .ref (w.1 i0)), (1, .int x1)] rfl ?_
            exact jn25 hw
          · have hw := hw.2 c37
            refine z_iconst C 0 (by decide) dX0_take_45 ?_
            exact hR _ _ _ _ dX0_take_46 rfl hw
      · have hw := hw.2 c24
        refine z_iconst C 1 (by decide) dX0_take_26 ?_
        exact hR _ _ _ _ dX0_take_27 rfl hw
def wp_X5_begin (τ : TS) (i0 : Nat) (K : TS → Prop) : Prop :=
  ∀ τ21 : TS, τ21 = tp_up τ i0 0 0 → ∀ τ22 : TS, τ22 = tp_up τ21 i0 1 0 → ∀ τ23 : TS, τ23 = tp_up τ22 i0 2 12 → ∀ τ24 : TS, τ24 = tp_up τ23 i0 3 (-1) → ∀ τ25 : TS, τ25 = tp_up τ24 i0 4 0 → K τ25
theorem mw_X5_begin_0 : Cond.fieldLink RX5 9 "TidePost$Timing" "round" "I" ∈ wsX5_begin := List.mem_of_getElem? (i := 1) rfl
theorem mw_X5_begin_1 : Cond.fieldLink RX5 15 "TidePost$Timing" "swing" "I" ∈ wsX5_begin := List.mem_of_getElem? (i := 2) rfl
theorem mw_X5_begin_2 : Cond.fieldLink RX5 18 "TidePost$Timing" "timeout" "I" ∈ wsX5_begin := List.mem_of_getElem? (i := 3) rfl
theorem mw_X5_begin_3 : Cond.fieldLink RX5 21 "TidePost$Timing" "measured" "I" ∈ wsX5_begin := List.mem_of_getElem? (i := 4) rfl
theorem mw_X5_begin_4 : Cond.fieldLink RX5 24 "TidePost$Timing" "measuredAt" "I" ∈ wsX5_begin := List.mem_of_getElem? (i := 5) rfl
theorem in_X5_begin_X5 : ∀ x ∈ wsX50, x ∈ wsX5_begin := fun _ h => List.mem_cons_of_mem _ (List.mem_append_right _ h)
set_option maxHeartbeats 4000000 in
set_option maxRecDepth 100000 in
theorem c_X5_begin (w : WPar) (τ : TS) (i0 : Nat) (K : TS → Prop) (h0 : tp_is w i0 4) (hw : wp_X5_begin τ i0 K) : MV w yX5_begin wsX5_begin 0 0 [.ref (w.1 i0)] τ K := by
  refine tp_enterV (cc := cX5_begin) (maxL := 1) (own := RX5) (by decide) rfl rfl (Nat.le_of_ble_eq_true rfl) (fun g C hR => ?_)
  show Zt w g τ (0, 0) 0 [(0, .ref (w.1 i0))] []
  unfold wp_X5_begin at hw
  refine z_aload_n C 0 (by rfl) dX5_begin_0 ?_
  refine z_iconst C 0 (by decide) dX5_begin_1 ?_
  refine z_put C (Cn := RX5) (T := TX5) (N := 5) (ci := 4) h0.2 0 (tE4 h0.1) (tS4_0 h0.1 _) in_X5_begin_X5 tyX5 tyX5_ok nmX5 rfl (by decide) mw_X5_begin_0 rfl rfl (tyX5_ok 0 (by decide)) rfl rfl (Nat.le_of_ble_eq_true rfl) dX5_begin_2 (fun τ21 eτ21 => ?_)
  have hw := hw τ21 eτ21
  refine z_aload_n C 0 (by rfl) dX5_begin_5 ?_
  refine z_iconst C 0 (by decide) dX5_begin_6 ?_
  refine z_put C (Cn := RX5) (T := TX5) (N := 5) (ci := 4) h0.2 1 (tE4 h0.1) (tS4_1 h0.1 _) in_X5_begin_X5 tyX5 tyX5_ok nmX5 rfl (by decide) mw_X5_begin_1 rfl rfl (tyX5_ok 1 (by decide)) rfl rfl (Nat.le_of_ble_eq_true rfl) dX5_begin_7 (fun τ22 eτ22 => ?_)
  have hw := hw τ22 eτ22
  refine z_aload_n C 0 (by rfl) dX5_begin_10 ?_
  refine z_bipush C 12 (by decide) dX5_begin_11 ?_
  refine z_put C (Cn := RX5) (T := TX5) (N := 5) (ci := 4) h0.2 2 (tE4 h0.1) (tS4_2 h0.1 _) in_X5_begin_X5 tyX5 tyX5_ok nmX5 rfl (by decide) mw_X5_begin_2 rfl rfl (tyX5_ok 2 (by decide)) rfl rfl (Nat.le_of_ble_eq_true rfl) dX5_begin_13 (fun τ23 eτ23 => ?_)
  have hw := hw τ23 eτ23
  refine z_aload_n C 0 (by rfl) dX5_begin_16 ?_
  refine z_iconst C (-1) (by decide) dX5_begin_17 ?_
  refine z_put C (Cn := RX5) (T := TX5) (N := 5) (ci := 4) h0.2 3 (tE4 h0.1) (tS4_3 h0.1 _) in_X5_begin_X5 tyX5 tyX5_ok nmX5 rfl (by decide) mw_X5_begin_3 rfl rfl (tyX5_ok 3 (by decide)) rfl rfl (Nat.le_of_ble_eq_true rfl) dX5_begin_18 (fun τ24 eτ24 => ?_)
  have hw := hw τ24 eτ24
  refine z_aload_n C 0 (by rfl) dX5_begin_21 ?_
  refine z_iconst C 0 (by decide) dX5_begin_22 ?_
  refine z_put C (Cn := RX5) (T := TX5) (N := 5) (ci := 4) h0.2 4 (tE4 h0.1) (tS4_4 h0.1 _) in_X5_begin_X5 tyX5 tyX5_ok nmX5 rfl (by decide) mw_X5_begin_4 rfl rfl (tyX5_ok 4 (by decide)) rfl rfl (Nat.le_of_ble_eq_true rfl) dX5_begin_23 (fun τ25 eτ25 => ?_)
  have hw := hw τ25 eτ25
  exact hR _ _ _ dX5_begin_26 hw
def wp_X5_sent (τ : TS) (i0 : Nat) (x1 : Int32) (x2 : Int32) (K : TS → Prop) : Prop :=
  ((¬ (τ i0 3) = (-1)) → (K τ)) ∧ (((τ i0 3) = (-1)) → (∀ τ22 : TS, τ22 = tp_up τ i0 3 x1 → ∀ τ23 : TS, τ23 = tp_up τ22 i0 4 x2 → K τ23))
theorem mw_X5_sent_0 : Cond.fieldLink RX5 21 "TidePost$Timing" "measured" "I" ∈ wsX5_sent := List.mem_of_getElem? (i := 1) rfl
theorem mw_X5_sent_1 : Cond.fieldLink RX5 24 "TidePost$Timing" "measuredAt" "I" ∈ wsX5_sent := List.mem_of_getElem? (i := 2) rfl
theorem in_X5_sent_X5 : ∀ x ∈ wsX50, x ∈ wsX5_sent := fun _ h => List.mem_cons_of_mem _ (List.mem_append_right _ h)
set_option maxHeartbeats 4000000 in
set_option maxRecDepth 100000 in
theorem c_X5_sent (w : WPar) (τ : TS) (i0 : Nat) (x1 : Int32) (x2 : Int32) (K : TS → Prop) (h0 : tp_is w i0 4) (hw : wp_X5_sent τ i0 x1 x2 K) : MV w yX5_sent wsX5_sent 0 0 [.ref (w.1 i0), .int x1, .int x2] τ K := by
  refine tp_enterV (cc := cX5_sent) (maxL := 3) (own := RX5) (by decide) rfl rfl (Nat.le_of_ble_eq_true rfl) (fun g C hR => ?_)
  show Zt w g τ (0, 0) 0 [(0, .ref (w.1 i0)), (1, .int x1), (2, .int x2)] []
  unfold wp_X5_sent at hw
  refine z_aload_n C 0 (by rfl) dX5_sent_0 ?_
  refine z_get C (Cn := RX5) (T := TX5) (N := 5) (ci := 4) h0.2 3 (tE4 h0.1) in_X5_sent_X5 rfl (by decide) mw_X5_sent_0 rfl rfl dX5_sent_1 ?_
  refine z_iconst C (-1) (by decide) dX5_sent_4 ?_
  refine z_icmp_ne (tgt := 18) C dX5_sent_5 (by decide) (fun c21 => ?_) (fun c21 => ?_)
  · have hw := hw.1 c21
    exact hR _ _ _ dX5_sent_18 hw
  · have hw := hw.2 c21
    refine z_aload_n C 0 (by rfl) dX5_sent_8 ?_
    refine z_iload_n C 1 (by rfl) dX5_sent_9 ?_
    refine z_put C (Cn := RX5) (T := TX5) (N := 5) (ci := 4) h0.2 3 (tE4 h0.1) (tS4_3 h0.1 _) in_X5_sent_X5 tyX5 tyX5_ok nmX5 rfl (by decide) mw_X5_sent_0 rfl rfl (tyX5_ok 3 (by decide)) rfl rfl (Nat.le_of_ble_eq_true rfl) dX5_sent_10 (fun τ22 eτ22 => ?_)
    have hw := hw τ22 eτ22
    refine z_aload_n C 0 (by rfl) dX5_sent_13 ?_
    refine z_iload_n C 2 (by rfl) dX5_sent_14 ?_
    refine z_put C (Cn := RX5) (T := TX5) (N := 5) (ci := 4) h0.2 4 (tE4 h0.1) (tS4_4 h0.1 _) in_X5_sent_X5 tyX5 tyX5_ok nmX5 rfl (by decide) mw_X5_sent_1 rfl rfl (tyX5_ok 4 (by decide)) rfl rfl (Nat.le_of_ble_eq_true rfl) dX5_sent_15 (fun τ23 eτ23 => ?_)
    have hw := hw τ23 eτ23
    exact hR _ _ _ dX5_sent_18 hw
def wp_X5_sentTwice (τ : TS) (i0 : Nat) (x1 : Int32) (K : TS → Prop) : Prop :=
  ((¬ (τ i0 3) = x1) → (K τ)) ∧ (((τ i0 3) = x1) → (∀ τ22 : TS, τ22 = tp_up τ i0 3 (-1) → K τ22))
theorem mw_X5_sentTwice_0 : Cond.fieldLink RX5 21 "TidePost$Timing" "measured" "I" ∈ wsX5_sentTwice := List.mem_of_getElem? (i := 1) rfl
theorem in_X5_sentTwice_X5 : ∀ x ∈ wsX50, x ∈ wsX5_sentTwice := fun _ h => List.mem_cons_of_mem _ (List.mem_append_right _ h)
set_option maxHeartbeats 4000000 in
set_option maxRecDepth 100000 in
theorem c_X5_sentTwice (w : WPar) (τ : TS) (i0 : Nat) (x1 : Int32) (K : TS → Prop) (h0 : tp_is w i0 4) (hw : wp_X5_sentTwice τ i0 x1 K) : MV w yX5_sentTwice wsX5_sentTwice 0 0 [.ref (w.1 i0), .int x1] τ K := by
  refine tp_enterV (cc := cX5_sentTwice) (maxL := 2) (own := RX5) (by decide) rfl rfl (Nat.le_of_ble_eq_true rfl) (fun g C hR => ?_)
  show Zt w g τ (0, 0) 0 [(0, .ref (w.1 i0)), (1, .int x1)] []
  unfold wp_X5_sentTwice at hw
  refine z_aload_n C 0 (by rfl) dX5_sentTwice_0 ?_
  refine z_get C (Cn := RX5) (T := TX5) (N := 5) (ci := 4) h0.2 3 (tE4 h0.1) in_X5_sentTwice_X5 rfl (by decide) mw_X5_sentTwice_0 rfl rfl dX5_sentTwice_1 ?_
  refine z_iload_n C 1 (by rfl) dX5_sentTwice_4 ?_
  refine z_icmp_ne (tgt := 13) C dX5_sentTwice_5 (by decide) (fun c21 => ?_) (fun c21 => ?_)
  · have hw := hw.1 c21
    exact hR _ _ _ dX5_sentTwice_13 hw
  · have hw := hw.2 c21
    refine z_aload_n C 0 (by rfl) dX5_sentTwice_8 ?_
    refine z_iconst C (-1) (by decide) dX5_sentTwice_9 ?_
    refine z_put C (Cn := RX5) (T := TX5) (N := 5) (ci := 4) h0.2 3 (tE4 h0.1) (tS4_3 h0.1 _) in_X5_sentTwice_X5 tyX5 tyX5_ok nmX5 rfl (by decide) mw_X5_sentTwice_0 rfl rfl (tyX5_ok 3 (by decide)) rfl rfl (Nat.le_of_ble_eq_true rfl) dX5_sentTwice_10 (fun τ22 eτ22 => ?_)
    have hw := hw τ22 eτ22
    exact hR _ _ _ dX5_sentTwice_13 hw
def wp_X5_answered (τ : TS) (i0 : Nat) (x1 : Int32) (x2 : Int32) (K : TS → Prop) : Prop :=
  (((τ i0 3) = (-1)) → (K τ)) ∧ ((¬ (τ i0 3) = (-1)) → ((((τ i0 3) < x1) → (∀ x23 : Int32, x23 = (x2 - (τ i0 4)) → ((¬ (τ i0 0) = 0) → (∀ x25 : Int32, x25 = (x23 - ((τ i0 0) / 8)) → ∀ x26 : Int32, x26 = (if 0 ≤ x25 then x25 else 0 - x25) → ∀ τ27 : TS, τ27 = tp_up τ i0 1 (((τ i0 1) + x26) - ((τ i0 1) / 4)) → ∀ τ28 : TS, τ28 = tp_up τ27 i0 0 ((τ27 i0 0) + x25) → ∀ x29 : Int32, x29 = (if 3 < (((τ28 i0 0) / 8) + (τ28 i0 1)) then (((τ28 i0 0) / 8) + (τ28 i0 1)) else 3) → ∀ x30 : Int32, x30 = (if x29 < 60 then x29 else 60) → ∀ τ31 : TS, τ31 = tp_up τ28 i0 2 x30 → ∀ τ32 : TS, τ32 = tp_up τ31 i0 3 (-1) → K τ32)) ∧ (((τ i0 0) = 0) → (∀ τ33 : TS, τ33 = tp_up τ i0 0 (8 * x23) → ∀ τ34 : TS, τ34 = tp_up τ33 i0 1 (2 * x23) → ∀ x35 : Int32, x35 = (if 3 < (((τ34 i0 0) / 8) + (τ34 i0 1)) then (((τ34 i0 0) / 8) + (τ34 i0 1)) else 3) → ∀ x36 : Int32, x36 = (if x35 < 60 then x35 else 60) → ∀ τ37 : TS, τ37 = tp_up τ34 i0 2 x36 → ∀ τ38 : TS, τ38 = tp_up τ37 i0 3 (-1) → K τ38)))) ∧ ((¬ (τ i0 3) < x1) → (K τ))))
theorem mw_X5_answered_0 : Cond.fieldLink RX5 21 "TidePost$Timing" "measured" "I" ∈ wsX5_answered := List.mem_of_getElem? (i := 1) rfl
theorem mw_X5_answered_1 : Cond.fieldLink RX5 24 "TidePost$Timing" "measuredAt" "I" ∈ wsX5_answered := List.mem_of_getElem? (i := 2) rfl
theorem mw_X5_answered_2 : Cond.fieldLink RX5 9 "TidePost$Timing" "round" "I" ∈ wsX5_answered := List.mem_of_getElem? (i := 3) rfl
theorem mw_X5_answered_3 : Cond.fieldLink RX5 15 "TidePost$Timing" "swing" "I" ∈ wsX5_answered := List.mem_of_getElem? (i := 4) rfl
theorem mw_X5_answered_4 : Cond.methodLink RX5 27 Lib.Math.abs.name ∈ wsX5_answered := List.mem_of_getElem? (i := 5) rfl
theorem mw_X5_answered_5 : Cond.static Lib.Math.abs.name ∈ wsX5_answered := List.mem_of_getElem? (i := 6) rfl
theorem mw_X5_answered_6 : Cond.initialized "java/lang/Math" ∈ wsX5_answered := List.mem_of_getElem? (i := 7) rfl
theorem mw_X5_answered_7 : Cond.code Lib.Math.abs.name Lib.Math.abs.code 1 (some .int) ∈ wsX5_answered := List.mem_of_getElem? (i := 8) rfl
theorem mw_X5_answered_8 : Cond.methodLink RX5 33 Lib.Math.max.name ∈ wsX5_answered := List.mem_of_getElem? (i := 9) rfl
theorem mw_X5_answered_9 : Cond.static Lib.Math.max.name ∈ wsX5_answered := List.mem_of_getElem? (i := 10) rfl
theorem mw_X5_answered_10 : Cond.code Lib.Math.max.name Lib.Math.max.code 2 (some .int) ∈ wsX5_answered := List.mem_of_getElem? (i := 11) rfl
theorem mw_X5_answered_11 : Cond.methodLink RX5 37 Lib.Math.min.name ∈ wsX5_answered := List.mem_of_getElem? (i := 12) rfl
theorem mw_X5_answered_12 : Cond.static Lib.Math.min.name ∈ wsX5_answered := List.mem_of_getElem? (i := 13) rfl
theorem mw_X5_answered_13 : Cond.code Lib.Math.min.name Lib.Math.min.code 2 (some .int) ∈ wsX5_answered := List.mem_of_getElem? (i := 14) rfl
theorem mw_X5_answered_14 : Cond.fieldLink RX5 18 "TidePost$Timing" "timeout" "I" ∈ wsX5_answered := List.mem_of_getElem? (i := 15) rfl
theorem in_X5_answered_X5 : ∀ x ∈ wsX50, x ∈ wsX5_answered := fun _ h => List.mem_cons_of_mem _ (List.mem_append_right _ h)
set_option maxHeartbeats 4000000 in
set_option maxRecDepth 100000 in
theorem c_X5_answered (w : WPar) (τ : TS) (i0 : Nat) (x1 : Int32) (x2 : Int32) (K : TS → Prop) (h0 : tp_is w i0 4) (hw : wp_X5_answered τ i0 x1 x2 K) : MV w yX5_answered wsX5_answered 1 15 [.ref (w.1 i0), .int x1, .int x2] τ K := by
  refine tp_enterV (cc := cX5_answered) (maxL := 5) (own := RX5) (by decide) rfl rfl (Nat.le_of_ble_eq_true rfl) (fun g C hR => ?_)
  show Zt w g τ (0, 0) 0 [(0, .ref (w.1 i0)), (1, .int x1), (2, .int x2)] []
  unfold wp_X5_answered at hw
  refine z_aload_n C 0 (by rfl) dX5_answered_0 ?_
  refine z_get C (Cn := RX5) (T := TX5) (N := 5) (ci := 4) h0.2 3 (tE4 h0.1) in_X5_answered_X5 rfl (by decide) mw_X5_answered_0 rfl rfl dX5_answered_1 ?_
  refine z_iconst C (-1) (by decide) dX5_answered_4 ?_
  refine z_icmp_eq (tgt := 16) C dX5_answered_5 (by decide) (fun c21 => ?_) (fun c21 => ?_)
  · have hw := hw.1 c21
    exact hR _ _ _ dX5_answered_16 hw
  · have hw := hw.2 c21
    refine z_aload_n C 0 (by rfl) dX5_answered_8 ?_
    refine z_get C (Cn := RX5) (T := TX5) (N := 5) (ci := 4) h0.2 3 (tE4 h0.1) in_X5_answered_X5 rfl (by decide) mw_X5_answered_0 rfl rfl dX5_answered_9 ?_
    refine z_iload_n C 1 (by rfl) dX5_answered_12 ?_
    refine z_icmp_lt (tgt := 17) C dX5_answered_13 (by decide) (fun c22 => ?_) (fun c22 => ?_)
    · have hw := hw.1 c22
      refine z_iload_n C 2 (by rfl) dX5_answered_17 ?_
      refine z_aload_n C 0 (by rfl) dX5_answered_18 ?_
      refine z_get C (Cn := RX5) (T := TX5) (N := 5) (ci := 4) h0.2 4 (tE4 h0.1) in_X5_answered_X5 rfl (by decide) mw_X5_answered_1 rfl rfl dX5_answered_19 ?_
      refine z_isub C dX5_answered_22 ?_
      refine z_top (fun x23 ex23 => ?_)
      have hw := hw x23 ex23
      refine z_istore_n C [(3, .int x23), (0, .ref (w.1 i0)), (1, .int x1), (2, .int x2)] dX5_answered_23 (by decide) rfl ?_
      refine z_aload_n C 1 (by rfl) dX5_answered_24 ?_
      refine z_get C (Cn := RX5) (T := TX5) (N := 5) (ci := 4) h0.2 0 (tE4 h0.1) in_X5_answered_X5 rfl (by decide) mw_X5_answered_2 rfl rfl dX5_answered_25 ?_
      refine z_if_ne (tgt := 49) C dX5_answered_28 (by decide) (fun c24 => ?_) (fun c24 => ?_)
      · have hw := hw.1 c24
        refine z_iload_n C 0 (by rfl) dX5_answered_49 ?_
        refine z_aload_n C 1 (by rfl) dX5_answered_50 ?_
        refine z_get C (Cn := RX5) (T := TX5) (N := 5) (ci := 4) h0.2 0 (tE4 h0.1) in_X5_answered_X5 rfl (by decide) mw_X5_answered_2 rfl rfl dX5_answered_51 ?_
        refine z_bipush C 8 (by decide) dX5_answered_54 ?_
        refine z_idiv C (by decide) dX5_answered_56 ?_
        refine z_isub C dX5_answered_57 ?_
        refine z_top (fun x25 ex25 => ?_)
        have hw := hw x25 ex25
        refine z_istore C [(4, .int x25), (3, .int x23), (0, .ref (w.1 i0)), (1, .int x1), (2, .int x2)] dX5_answered_58 (by decide) rfl ?_
        refine z_aload_n C 2 (by rfl) dX5_answered_60 ?_
        refine z_aload_n C 2 (by rfl) dX5_answered_61 ?_
        refine z_get C (Cn := RX5) (T := TX5) (N := 5) (ci := 4) h0.2 1 (tE4 h0.1) in_X5_answered_X5 rfl (by decide) mw_X5_answered_3 rfl rfl dX5_answered_62 ?_
        refine z_iload C 0 (by rfl) dX5_answered_65 ?_
        refine z_abs C mw_X5_answered_4 mw_X5_answered_5 mw_X5_answered_6 mw_X5_answered_7 (Nat.le_of_ble_eq_true rfl) (Nat.le_of_ble_eq_true rfl) (Nat.le_of_ble_eq_true rfl) (Nat.le_of_ble_eq_true rfl) dX5_answered_67 ?_
        refine z_top (fun x26 ex26 => ?_)
        have hw := hw x26 ex26
        refine z_iadd C dX5_answered_70 ?_
        refine z_aload_n C 2 (by rfl) dX5_answered_71 ?_
        refine z_get C (Cn := RX5) (T := TX5) (N := 5) (ci := 4) h0.2 1 (tE4 h0.1) in_X5_answered_X5 rfl (by decide) mw_X5_answered_3 rfl rfl dX5_answered_72 ?_
        refine z_iconst C 4 (by decide) dX5_answered_75 ?_
        refine z_idiv C (by decide) dX5_answered_76 ?_
        refine z_isub C dX5_answered_77 ?_
        refine z_put C (Cn := RX5) (T := TX5) (N := 5) (ci := 4) h0.2 1 (tE4 h0.1) (tS4_1 h0.1 _) in_X5_answered_X5 tyX5 tyX5_ok nmX5 rfl (by decide) mw_X5_answered_3 rfl rfl (tyX5_ok 1 (by decide)) rfl rfl (Nat.le_of_ble_eq_true rfl) dX5_answered_78 (fun τ27 eτ27 => ?_)
        have hw := hw τ27 eτ27
        refine z_aload_n C 2 (by rfl) dX5_answered_81 ?_
        refine z_aload_n C 2 (by rfl) dX5_answered_82 ?_
        refine z_get C (Cn := RX5) (T := TX5) (N := 5) (ci := 4) h0.2 0 (tE4 h0.1) in_X5_answered_X5 rfl (by decide) mw_X5_answered_2 rfl rfl dX5_answered_83 ?_
        refine z_iload C 0 (by rfl) dX5_answered_86 ?_
        refine z_iadd C dX5_answered_88 ?_
        refine z_put C (Cn := RX5) (T := TX5) (N := 5) (ci := 4) h0.2 0 (tE4 h0.1) (tS4_0 h0.1 _) in_X5_answered_X5 tyX5 tyX5_ok nmX5 rfl (by decide) mw_X5_answered_2 rfl rfl (tyX5_ok 0 (by decide)) rfl rfl (Nat.le_of_ble_eq_true rfl) dX5_answered_89 (fun τ28 eτ28 => ?_)
        have hw := hw τ28 eτ28
        refine z_aload_n C 2 (by rfl) dX5_answered_92 ?_
        refine z_bipush C 60 (by decide) dX5_answered_93 ?_
        refine z_iconst C 3 (by decide) dX5_answered_95 ?_
        refine z_aload_n C 2 (by rfl) dX5_answered_96 ?_
        refine z_get C (Cn := RX5) (T := TX5) (N := 5) (ci := 4) h0.2 0 (tE4 h0.1) in_X5_answered_X5 rfl (by decide) mw_X5_answered_2 rfl rfl dX5_answered_97 ?_
        refine z_bipush C 8 (by decide) dX5_answered_100 ?_
        refine z_idiv C (by decide) dX5_answered_102 ?_
        refine z_aload_n C 2 (by rfl) dX5_answered_103 ?_
        refine z_get C (Cn := RX5) (T := TX5) (N := 5) (ci := 4) h0.2 1 (tE4 h0.1) in_X5_answered_X5 rfl (by decide) mw_X5_answered_3 rfl rfl dX5_answered_104 ?_
        refine z_iadd C dX5_answered_107 ?_
        refine z_max C mw_X5_answered_8 mw_X5_answered_9 mw_X5_answered_6 mw_X5_answered_10 (Nat.le_of_ble_eq_true rfl) (Nat.le_of_ble_eq_true rfl) (Nat.le_of_ble_eq_true rfl) (Nat.le_of_ble_eq_true rfl) dX5_answered_108 ?_
        refine z_top (fun x29 ex29 => ?_)
        have hw := hw x29 ex29
        refine z_min C mw_X5_answered_11 mw_X5_answered_12 mw_X5_answered_6 mw_X5_answered_13 (Nat.le_of_ble_eq_true rfl) (Nat.le_of_ble_eq_true rfl) (Nat.le_of_ble_eq_true rfl) (Nat.le_of_ble_eq_true rfl) dX5_answered_111 ?_
        refine z_top (fun x30 ex30 => ?_)
        have hw := hw x30 ex30
        refine z_put C (Cn := RX5) (T := TX5) (N := 5) (ci := 4) h0.2 2 (tE4 h0.1) (tS4_2 h0.1 _) in_X5_answered_X5 tyX5 tyX5_ok nmX5 rfl (by decide) mw_X5_answered_14 rfl rfl (tyX5_ok 2 (by decide)) rfl rfl (Nat.le_of_ble_eq_true rfl) dX5_answered_114 (fun τ31 eτ31 => ?_)
        have hw := hw τ31 eτ31
        refine z_aload_n C 2 (by rfl) dX5_answered_117 ?_
        refine z_iconst C (-1) (by decide) dX5_answered_118 ?_
        refine z_put C (Cn := RX5) (T := TX5) (N := 5) (ci := 4) h0.2 3 (tE4 h0.1) (tS4_3 h0.1 _) in_X5_answered_X5 tyX5 tyX5_ok nmX5 rfl (by decide) mw_X5_answered_0 rfl rfl (tyX5_ok 3 (by decide)) rfl rfl (Nat.le_of_ble_eq_true rfl) dX5_answered_119 (fun τ32 eτ32 => ?_)
        have hw := hw τ32 eτ32
        exact hR _ _ _ dX5_answered_122 hw
      · have hw := hw.2 c24
        refine z_aload_n C 1 (by rfl) dX5_answered_31 ?_
        refine z_bipush C 8 (by decide) dX5_answered_32 ?_
        refine z_iload_n C 0 (by rfl) dX5_answered_34 ?_
        refine z_imul C dX5_answered_35 ?_
        refine z_put C (Cn := RX5) (T := TX5) (N := 5) (ci := 4) h0.2 0 (tE4 h0.1) (tS4_0 h0.1 _) in_X5_answered_X5 tyX5 tyX5_ok nmX5 rfl (by decide) mw_X5_answered_2 rfl rfl (tyX5_ok 0 (by decide)) rfl rfl (Nat.le_of_ble_eq_true rfl) dX5_answered_36 (fun τ33 eτ33 => ?_)
        have hw := hw τ33 eτ33
        refine z_aload_n C 1 (by rfl) dX5_answered_39 ?_
        refine z_iconst C 2 (by decide) dX5_answered_40 ?_
        refine z_iload_n C 0 (by rfl) dX5_answered_41 ?_
        refine z_imul C dX5_answered_42 ?_
        refine z_put C (Cn := RX5) (T := TX5) (N := 5) (ci := 4) h0.2 1 (tE4 h0.1) (tS4_1 h0.1 _) in_X5_answered_X5 tyX5 tyX5_ok nmX5 rfl (by decide) mw_X5_answered_3 rfl rfl (tyX5_ok 1 (by decide)) rfl rfl (Nat.le_of_ble_eq_true rfl) dX5_answered_43 (fun τ34 eτ34 => ?_)
        have hw := hw τ34 eτ34
        refine z_goto (tgt := 92) C dX5_answered_46 (by decide) ?_
        refine z_aload_n C 1 (by rfl) dX5_answered_92 ?_
        refine z_bipush C 60 (by decide) dX5_answered_93 ?_
        refine z_iconst C 3 (by decide) dX5_answered_95 ?_
        refine z_aload_n C 1 (by rfl) dX5_answered_96 ?_
        refine z_get C (Cn := RX5) (T := TX5) (N := 5) (ci := 4) h0.2 0 (tE4 h0.1) in_X5_answered_X5 rfl (by decide) mw_X5_answered_2 rfl rfl dX5_answered_97 ?_
        refine z_bipush C 8 (by decide) dX5_answered_100 ?_
        refine z_idiv C (by decide) dX5_answered_102 ?_
        refine z_aload_n C 1 (by rfl) dX5_answered_103 ?_
        refine z_get C (Cn := RX5) (T := TX5) (N := 5) (ci := 4) h0.2 1 (tE4 h0.1) in_X5_answered_X5 rfl (by decide) mw_X5_answered_3 rfl rfl dX5_answered_104 ?_
        refine z_iadd C dX5_answered_107 ?_
        refine z_max C mw_X5_answered_8 mw_X5_answered_9 mw_X5_answered_6 mw_X5_answered_10 (Nat.le_of_ble_eq_true rfl) (Nat.le_of_ble_eq_true rfl) (Nat.le_of_ble_eq_true rfl) (Nat.le_of_ble_eq_true rfl) dX5_answered_108 ?_
        refine z_top (fun x35 ex35 => ?_)
        have hw := hw x35 ex35
        refine z_min C mw_X5_answered_11 mw_X5_answered_12 mw_X5_answered_6 mw_X5_answered_13 (Nat.le_of_ble_eq_true rfl) (Nat.le_of_ble_eq_true rfl) (Nat.le_of_ble_eq_true rfl) (Nat.le_of_ble_eq_true rfl) dX5_answered_111 ?_
        refine z_top (fun x36 ex36 => ?_)
        have hw := hw x36 ex36
        refine z_put C (Cn := RX5) (T := TX5) (N := 5) (ci := 4) h0.2 2 (tE4 h0.1) (tS4_2 h0.1 _) in_X5_answered_X5 tyX5 tyX5_ok nmX5 rfl (by decide) mw_X5_answered_14 rfl rfl (tyX5_ok 2 (by decide)) rfl rfl (Nat.le_of_ble_eq_true rfl) dX5_answered_114 (fun τ37 eτ37 => ?_)
        have hw := hw τ37 eτ37
        refine z_aload_n C 1 (by rfl) dX5_answered_117 ?_
        refine z_iconst C (-1) (by decide) dX5_answered_118 ?_
        refine z_put C (Cn := RX5) (T := TX5) (N := 5) (ci := 4) h0.2 3 (tE4 h0.1) (tS4_3 h0.1 _) in_X5_answered_X5 tyX5 tyX5_ok nmX5 rfl (by decide) mw_X5_answered_0 rfl rfl (tyX5_ok 3 (by decide)) rfl rfl (Nat.le_of_ble_eq_true rfl) dX5_answered_119 (fun τ38 eτ38 => ?_)
        have hw := hw τ38 eτ38
        exact hR _ _ _ dX5_answered_122 hw
    · have hw := hw.2 c22
      exact hR _ _ _ dX5_answered_16 hw
def wp_X5_backOff (τ : TS) (i0 : Nat) (K : TS → Prop) : Prop :=
  ∀ x21 : Int32, x21 = (if (2 * (τ i0 2)) < 60 then (2 * (τ i0 2)) else 60) → ∀ τ22 : TS, τ22 = tp_up τ i0 2 x21 → ∀ τ23 : TS, τ23 = tp_up τ22 i0 3 (-1) → K τ23
theorem mw_X5_backOff_0 : Cond.fieldLink RX5 18 "TidePost$Timing" "timeout" "I" ∈ wsX5_backOff := List.mem_of_getElem? (i := 1) rfl
theorem mw_X5_backOff_1 : Cond.methodLink RX5 37 Lib.Math.min.name ∈ wsX5_backOff := List.mem_of_getElem? (i := 2) rfl
theorem mw_X5_backOff_2 : Cond.static Lib.Math.min.name ∈ wsX5_backOff := List.mem_of_getElem? (i := 3) rfl
theorem mw_X5_backOff_3 : Cond.initialized "java/lang/Math" ∈ wsX5_backOff := List.mem_of_getElem? (i := 4) rfl
theorem mw_X5_backOff_4 : Cond.code Lib.Math.min.name Lib.Math.min.code 2 (some .int) ∈ wsX5_backOff := List.mem_of_getElem? (i := 5) rfl
theorem mw_X5_backOff_5 : Cond.fieldLink RX5 21 "TidePost$Timing" "measured" "I" ∈ wsX5_backOff := List.mem_of_getElem? (i := 6) rfl
theorem in_X5_backOff_X5 : ∀ x ∈ wsX50, x ∈ wsX5_backOff := fun _ h => List.mem_cons_of_mem _ (List.mem_append_right _ h)
set_option maxHeartbeats 4000000 in
set_option maxRecDepth 100000 in
theorem c_X5_backOff (w : WPar) (τ : TS) (i0 : Nat) (K : TS → Prop) (h0 : tp_is w i0 4) (hw : wp_X5_backOff τ i0 K) : MV w yX5_backOff wsX5_backOff 1 14 [.ref (w.1 i0)] τ K := by
  refine tp_enterV (cc := cX5_backOff) (maxL := 1) (own := RX5) (by decide) rfl rfl (Nat.le_of_ble_eq_true rfl) (fun g C hR => ?_)
  show Zt w g τ (0, 0) 0 [(0, .ref (w.1 i0))] []
  unfold wp_X5_backOff at hw
  refine z_aload_n C 0 (by rfl) dX5_backOff_0 ?_
  refine z_bipush C 60 (by decide) dX5_backOff_1 ?_
  refine z_iconst C 2 (by decide) dX5_backOff_3 ?_
  refine z_aload_n C 0 (by rfl) dX5_backOff_4 ?_
  refine z_get C (Cn := RX5) (T := TX5) (N := 5) (ci := 4) h0.2 2 (tE4 h0.1) in_X5_backOff_X5 rfl (by decide) mw_X5_backOff_0 rfl rfl dX5_backOff_5 ?_
  refine z_imul C dX5_backOff_8 ?_
  refine z_min C mw_X5_backOff_1 mw_X5_backOff_2 mw_X5_backOff_3 mw_X5_backOff_4 (Nat.le_of_ble_eq_true rfl) (Nat.le_of_ble_eq_true rfl) (Nat.le_of_ble_eq_true rfl) (Nat.le_of_ble_eq_true rfl) dX5_backOff_9 ?_
  refine z_top (fun x21 ex21 => ?_)
  have hw := hw x21 ex21
  refine z_put C (Cn := RX5) (T := TX5) (N := 5) (ci := 4) h0.2 2 (tE4 h0.1) (tS4_2 h0.1 _) in_X5_backOff_X5 tyX5 tyX5_ok nmX5 rfl (by decide) mw_X5_backOff_0 rfl rfl (tyX5_ok 2 (by decide)) rfl rfl (Nat.le_of_ble_eq_true rfl) dX5_backOff_12 (fun τ22 eτ22 => ?_)
  have hw := hw τ22 eτ22
  refine z_aload_n C 0 (by rfl) dX5_backOff_15 ?_
  refine z_iconst C (-1) (by decide) dX5_backOff_16 ?_
  refine z_put C (Cn := RX5) (T := TX5) (N := 5) (ci := 4) h0.2 3 (tE4 h0.1) (tS4_3 h0.1 _) in_X5_backOff_X5 tyX5 tyX5_ok nmX5 rfl (by decide) mw_X5_backOff_5 rfl rfl (tyX5_ok 3 (by decide)) rfl rfl (Nat.le_of_ble_eq_true rfl) dX5_backOff_17 (fun τ23 eτ23 => ?_)
  have hw := hw τ23 eτ23
  exact hR _ _ _ dX5_backOff_20 hw
def wp_X4_of (τ : TS) (x0 : Int32) (x1 : Int32) (x2 : Int32) (x3 : Int32) (K : TS → Int32 → Prop) : Prop :=
  K τ ((((x0 <<< (15 &&& 31)) ||| (x1 <<< (13 &&& 31))) ||| (x2 <<< (5 &&& 31))) ||| x3)
set_option maxHeartbeats 4000000 in
set_option maxRecDepth 100000 in
theorem c_X4_of (w : WPar) (τ : TS) (x0 : Int32) (x1 : Int32) (x2 : Int32) (x3 : Int32) (K : TS → Int32 → Prop)  (hw : wp_X4_of τ x0 x1 x2 x3 K) : MI w yX4_of wsX4_of 0 0 [.int x0, .int x1, .int x2, .int x3] τ K := by
  refine tp_enterI (cc := cX4_of) (maxL := 4) (own := RX4) (by decide) rfl rfl (Nat.le_of_ble_eq_true rfl) (fun g C hR => ?_)
  show Zt w g τ (0, 0) 0 [(0, .int x0), (1, .int x1), (2, .int x2), (3, .int x3)] []
  unfold wp_X4_of at hw
  refine z_iload_n C 0 (by rfl) dX4_of_0 ?_
  refine z_bipush C 15 (by decide) dX4_of_1 ?_
  refine z_ishl C dX4_of_3 ?_
  refine z_iload_n C 1 (by rfl) dX4_of_4 ?_
  refine z_bipush C 13 (by decide) dX4_of_5 ?_
  refine z_ishl C dX4_of_7 ?_
  refine z_ior C dX4_of_8 ?_
  refine z_iload_n C 2 (by rfl) dX4_of_9 ?_
  refine z_iconst C 5 (by decide) dX4_of_10 ?_
  refine z_ishl C dX4_of_11 ?_
  refine z_ior C dX4_of_12 ?_
  refine z_iload_n C 3 (by rfl) dX4_of_13 ?_
  refine z_ior C dX4_of_14 ?_
  exact hR _ _ _ _ dX4_of_15 hw
def wp_X4_hopsOf (τ : TS) (x0 : Int32) (K : TS → Int32 → Prop) : Prop :=
  K τ (x0 >>> (18 &&& 31))
set_option maxHeartbeats 4000000 in
set_option maxRecDepth 100000 in
theorem c_X4_hopsOf (w : WPar) (τ : TS) (x0 : Int32) (K : TS → Int32 → Prop)  (hw : wp_X4_hopsOf τ x0 K) : MI w yX4_hopsOf wsX4_hopsOf 0 0 [.int x0] τ K := by
  refine tp_enterI (cc := cX4_hopsOf) (maxL := 1) (own := RX4) (by decide) rfl rfl (Nat.le_of_ble_eq_true rfl) (fun g C hR => ?_)
  show Zt w g τ (0, 0) 0 [(0, .int x0)] []
  unfold wp_X4_hopsOf at hw
  refine z_iload_n C 0 (by rfl) dX4_hopsOf_0 ?_
  refine z_bipush C 18 (by decide) dX4_hopsOf_1 ?_
  refine z_ishr C dX4_hopsOf_3 ?_
  exact hR _ _ _ _ dX4_hopsOf_4 hw
def wp_X4_connectionOf (τ : TS) (x0 : Int32) (K : TS → Int32 → Prop) : Prop :=
  K τ ((x0 >>> (15 &&& 31)) &&& 7)
set_option maxHeartbeats 4000000 in
set_option maxRecDepth 100000 in
theorem c_X4_connectionOf (w : WPar) (τ : TS) (x0 : Int32) (K : TS → Int32 → Prop)  (hw : wp_X4_connectionOf τ x0 K) : MI w yX4_connectionOf wsX4_connectionOf 0 0 [.int x0] τ K := by
  refine tp_enterI (cc := cX4_connectionOf) (maxL := 1) (own := RX4) (by decide) rfl rfl (Nat.le_of_ble_eq_true rfl) (fun g C hR => ?_)
  show Zt w g τ (0, 0) 0 [(0, .int x0)] []
  unfold wp_X4_connectionOf at hw
  refine z_iload_n C 0 (by rfl) dX4_connectionOf_0 ?_
  refine z_bipush C 15 (by decide) dX4_connectionOf_1 ?_
  refine z_ishr C dX4_connectionOf_3 ?_
  refine z_bipush C 7 (by decide) dX4_connectionOf_4 ?_
  refine z_iand C dX4_connectionOf_6 ?_
  exact hR _ _ _ _ dX4_connectionOf_7 hw
def wp_X4_kindOf (τ : TS) (x0 : Int32) (K : TS → Int32 → Prop) : Prop :=
  K τ ((x0 >>> (13 &&& 31)) &&& 3)
set_option maxHeartbeats 4000000 in
set_option maxRecDepth 100000 in
theorem c_X4_kindOf (w : WPar) (τ : TS) (x0 : Int32) (K : TS → Int32 → Prop)  (hw : wp_X4_kindOf τ x0 K) : MI w yX4_kindOf wsX4_kindOf 0 0 [.int x0] τ K := by
  refine tp_enterI (cc := cX4_kindOf) (maxL := 1) (own := RX4) (by decide) rfl rfl (Nat.le_of_ble_eq_true rfl) (fun g C hR => ?_)
  show Zt w g τ (0, 0) 0 [(0, .int x0)] []
  unfold wp_X4_kindOf at hw
  refine z_iload_n C 0 (by rfl) dX4_kindOf_0 ?_
  refine z_bipush C 13 (by decide) dX4_kindOf_1 ?_
  refine z_ishr C dX4_kindOf_3 ?_
  refine z_iconst C 3 (by decide) dX4_kindOf_4 ?_
  refine z_iand C dX4_kindOf_5 ?_
  exact hR _ _ _ _ dX4_kindOf_6 hw
def wp_X4_numberOf (τ : TS) (x0 : Int32) (K : TS → Int32 → Prop) : Prop :=
  K τ ((x0 >>> (5 &&& 31)) &&& 255)
set_option maxHeartbeats 4000000 in
set_option maxRecDepth 100000 in
theorem c_X4_numberOf (w : WPar) (τ : TS) (x0 : Int32) (K : TS → Int32 → Prop)  (hw : wp_X4_numberOf τ x0 K) : MI w yX4_numberOf wsX4_numberOf 0 0 [.int x0] τ K := by
  refine tp_enterI (cc := cX4_numberOf) (maxL := 1) (own := RX4) (by decide) rfl rfl (Nat.le_of_ble_eq_true rfl) (fun g C hR => ?_)
  show Zt w g τ (0, 0) 0 [(0, .int x0)] []
  unfold wp_X4_numberOf at hw
  refine z_iload_n C 0 (by rfl) dX4_numberOf_0 ?_
  refine z_iconst C 5 (by decide) dX4_numberOf_1 ?_
  refine z_ishr C dX4_numberOf_2 ?_
  refine z_sipush C 255 (by decide) dX4_numberOf_3 ?_
  refine z_iand C dX4_numberOf_6 ?_
  exact hR _ _ _ _ dX4_numberOf_7 hw
def wp_X4_roomOf (τ : TS) (x0 : Int32) (K : TS → Int32 → Prop) : Prop :=
  K τ (x0 &&& 31)
set_option maxHeartbeats 4000000 in
set_option maxRecDepth 100000 in
theorem c_X4_roomOf (w : WPar) (τ : TS) (x0 : Int32) (K : TS → Int32 → Prop)  (hw : wp_X4_roomOf τ x0 K) : MI w yX4_roomOf wsX4_roomOf 0 0 [.int x0] τ K := by
  refine tp_enterI (cc := cX4_roomOf) (maxL := 1) (own := RX4) (by decide) rfl rfl (Nat.le_of_ble_eq_true rfl) (fun g C hR => ?_)
  show Zt w g τ (0, 0) 0 [(0, .int x0)] []
  unfold wp_X4_roomOf at hw
  refine z_iload_n C 0 (by rfl) dX4_roomOf_0 ?_
  refine z_bipush C 31 (by decide) dX4_roomOf_1 ?_
  refine z_iand C dX4_roomOf_3 ?_
  exact hR _ _ _ _ dX4_roomOf_4 hw
def wp_J9_floorMod_7cf53 (τ : TS) (x0 : Int32) (x1 : Int32) (K : TS → Int32 → Prop) : Prop :=
  ¬ x1 = 0 ∧ (∀ x22 : Int32, x22 = (x0 - x0 / x1 * x1) → ((0 ≤ (x0 ^^^ x1)) → (K τ x22)) ∧ ((¬ 0 ≤ (x0 ^^^ x1)) → (((x22 = 0) → (K τ x22)) ∧ ((¬ x22 = 0) → (K τ (x22 + x1))))))
set_option maxHeartbeats 4000000 in
set_option maxRecDepth 100000 in
theorem c_J9_floorMod_7cf53 (w : WPar) (τ : TS) (x0 : Int32) (x1 : Int32) (K : TS → Int32 → Prop)  (hw : wp_J9_floorMod_7cf53 τ x0 x1 K) : MI w yJ9_floorMod_7cf53 wsJ9_floorMod_7cf53 0 0 [.int x0, .int x1] τ K := by
  refine tp_enterIF (cc := cJ9_floorMod_7cf53) (maxL := 3) (own := RJ9) (by decide +kernel) rfl rfl (Nat.le_of_ble_eq_true rfl) (fun g C hR => ?_)
  show Zt w g τ (0, 0) 0 [(0, .int x0), (1, .int x1)] []
  unfold wp_J9_floorMod_7cf53 at hw
  refine z_iload_n C 0 (by rfl) dJ9_floorMod_7cf53_0 ?_
  refine z_iload_n C 1 (by rfl) dJ9_floorMod_7cf53_1 ?_
  obtain ⟨s21, hw⟩ := hw
  refine z_irem C s21 dJ9_floorMod_7cf53_2 ?_
  refine z_top (fun x22 ex22 => ?_)
  have hw := hw x22 ex22
  refine z_istore_n C [(2, .int x22), (0, .int x0), (1, .int x1)] dJ9_floorMod_7cf53_3 (by decide) rfl ?_
  refine z_iload_n C 1 (by rfl) dJ9_floorMod_7cf53_4 ?_
  refine z_iload_n C 2 (by rfl) dJ9_floorMod_7cf53_5 ?_
  refine z_ixor C dJ9_floorMod_7cf53_6 ?_
  refine z_if_ge (tgt := 18) C dJ9_floorMod_7cf53_7 (by decide) (fun c23 => ?_) (fun c23 => ?_)
  · have hw := hw.1 c23
    refine z_iload_n C 0 (by rfl) dJ9_floorMod_7cf53_18 ?_
    exact hR _ _ _ _ dJ9_floorMod_7cf53_19 hw
  · have hw := hw.2 c23
    refine z_iload_n C 0 (by rfl) dJ9_floorMod_7cf53_10 ?_
    refine z_if_eq (tgt := 18) C dJ9_floorMod_7cf53_11 (by decide) (fun c24 => ?_) (fun c24 => ?_)
    · have hw := hw.1 c24
      refine z_iload_n C 0 (by rfl) dJ9_floorMod_7cf53_18 ?_
      exact hR _ _ _ _ dJ9_floorMod_7cf53_19 hw
    · have hw := hw.2 c24
      refine z_iload_n C 0 (by rfl) dJ9_floorMod_7cf53_14 ?_
      refine z_iload_n C 2 (by rfl) dJ9_floorMod_7cf53_15 ?_
      refine z_iadd C dJ9_floorMod_7cf53_16 ?_
      exact hR _ _ _ _ dJ9_floorMod_7cf53_17 hw
def wp_X7_join (τ : TS) (i0 : Nat) (x1 : Int32) (x2 : Int32) (K : TS → Int32 → Prop) : Prop :=
  ((x2 ≤ (τ i0 2)) → (K τ 0)) ∧ ((¬ x2 ≤ (τ i0 2)) → ((((τ i0 2) < 20) → (∀ x23 : Int32, x23 = (((τ i0 1) + (τ i0 2)) - ((τ i0 1) + (τ i0 2)) / 20 * 20) → vp_in x23 20 ∧ (∀ τ25 : TS, τ25 = tp_up τ (i0 + 1) (Int32.toNatClampNeg x23) x1 → ∀ τ26 : TS, τ26 = tp_up τ25 i0 2 ((τ25 i0 2) + 1) → K τ26 1))) ∧ ((¬ (τ i0 2) < 20) → (K τ 0))))
theorem mw_X7_join_0 : Cond.fieldLink RX7 18 "TidePost$Way" "queued" "I" ∈ wsX7_join := List.mem_of_getElem? (i := 1) rfl
theorem mw_X7_join_1 : Cond.fieldLink RX7 9 "TidePost$Way" "queue" "[I" ∈ wsX7_join := List.mem_of_getElem? (i := 2) rfl
theorem mw_X7_join_2 : Cond.fieldLink RX7 22 "TidePost$Way" "head" "I" ∈ wsX7_join := List.mem_of_getElem? (i := 3) rfl
theorem in_X7_join_X7 : ∀ x ∈ wsX70, x ∈ wsX7_join := fun _ h => List.mem_cons_of_mem _ (List.mem_append_right _ h)
set_option maxHeartbeats 4000000 in
set_option maxRecDepth 100000 in
theorem c_X7_join (w : WPar) (τ : TS) (i0 : Nat) (x1 : Int32) (x2 : Int32) (K : TS → Int32 → Prop) (h0 : tp_is w i0 6) (hw : wp_X7_join τ i0 x1 x2 K) : MI w yX7_join wsX7_join 0 0 [.ref (w.1 i0), .int x1, .int x2] τ K := by
  refine tp_enterZ (cc := cX7_join) (maxL := 3) (own := RX7) (by decide) rfl rfl (Nat.le_of_ble_eq_true rfl) (fun g C hR => ?_)
  show Zt w g τ (0, 0) 0 [(0, .ref (w.1 i0)), (1, .int x1), (2, .int x2)] []
  unfold wp_X7_join at hw
  refine z_aload_n C 0 (by rfl) dX7_join_0 ?_
  refine z_get C (Cn := RX7) (T := TX7) (N := 7) (ci := 6) h0.2 2 (tE6 h0.1) in_X7_join_X7 rfl (by decide) mw_X7_join_0 rfl rfl dX7_join_1 ?_
  refine z_iload_n C 2 (by rfl) dX7_join_4 ?_
  refine z_icmp_ge (tgt := 17) C dX7_join_5 (by decide) (fun c21 => ?_) (fun c21 => ?_)
  · have hw := hw.1 c21
    refine z_iconst C 0 (by decide) dX7_join_17 ?_
    exact hR _ _ _ _ dX7_join_18 rfl hw
  · have hw := hw.2 c21
    refine z_aload_n C 0 (by rfl) dX7_join_8 ?_
    refine z_get C (Cn := RX7) (T := TX7) (N := 7) (ci := 6) h0.2 2 (tE6 h0.1) in_X7_join_X7 rfl (by decide) mw_X7_join_0 rfl rfl dX7_join_9 ?_
    refine z_bipush C 20 (by decide) dX7_join_12 ?_
    refine z_icmp_lt (tgt := 19) C dX7_join_14 (by decide) (fun c22 => ?_) (fun c22 => ?_)
    · have hw := hw.1 c22
      refine z_aload_n C 0 (by rfl) dX7_join_19 ?_
      refine z_get C (Cn := RX7) (T := TX7) (N := 7) (ci := 6) h0.2 0 (tE6 h0.1) in_X7_join_X7 rfl (by decide) mw_X7_join_1 rfl rfl dX7_join_20 ?_
      refine z_aload_n C 0 (by rfl) dX7_join_23 ?_
      refine z_get C (Cn := RX7) (T := TX7) (N := 7) (ci := 6) h0.2 1 (tE6 h0.1) in_X7_join_X7 rfl (by decide) mw_X7_join_2 rfl rfl dX7_join_24 ?_
      refine z_aload_n C 0 (by rfl) dX7_join_27 ?_
      refine z_get C (Cn := RX7) (T := TX7) (N := 7) (ci := 6) h0.2 2 (tE6 h0.1) in_X7_join_X7 rfl (by decide) mw_X7_join_0 rfl rfl dX7_join_28 ?_
      refine z_iadd C dX7_join_31 ?_
      refine z_bipush C 20 (by decide) dX7_join_32 ?_
      refine z_irem C (by decide) dX7_join_34 ?_
      refine z_top (fun x23 ex23 => ?_)
      have hw := hw x23 ex23
      refine z_iload_n C 1 (by rfl) dX7_join_35 ?_
      obtain ⟨s24, hw⟩ := hw
      refine z_iast C (tR6_0 h0).2 (fun _ => tE8 (tR6_0 h0).1) s24 dX7_join_36 (fun τ25 eτ25 => ?_)
      have hw := hw τ25 eτ25
      refine z_aload_n C 0 (by rfl) dX7_join_37 ?_
      refine z_dup C rfl dX7_join_38 ?_
      refine z_get C (Cn := RX7) (T := TX7) (N := 7) (ci := 6) h0.2 2 (tE6 h0.1) in_X7_join_X7 rfl (by decide) mw_X7_join_0 rfl rfl dX7_join_39 ?_
      refine z_iconst C 1 (by decide) dX7_join_42 ?_
      refine z_iadd C dX7_join_43 ?_
      refine z_put C (Cn := RX7) (T := TX7) (N := 7) (ci := 6) h0.2 2 (tE6 h0.1) (tS6_2 h0.1 _) in_X7_join_X7 tyX7 tyX7_ok nmX7 rfl (by decide) mw_X7_join_0 rfl rfl (tyX7_ok 2 (by decide)) rfl rfl (Nat.le_of_ble_eq_true rfl) dX7_join_44 (fun τ26 eτ26 => ?_)
      have hw := hw τ26 eτ26
      refine z_iconst C 1 (by decide) dX7_join_47 ?_
      exact hR _ _ _ _ dX7_join_48 rfl hw
    · have hw := hw.2 c22
      refine z_iconst C 0 (by decide) dX7_join_17 ?_
      exact hR _ _ _ _ dX7_join_18 rfl hw
def wp_X7_takeOff (τ : TS) (i0 : Nat) (x1 : Int32) (K : TS → Int32 → Prop) : Prop :=
  ((¬ (τ i0 2) = 0) → (vp_in (τ i0 1) 20 ∧ (∀ x23 : Int32, x23 = (τ (i0 + 1) (Int32.toNatClampNeg (τ i0 1))) → ∀ x24 : Int32, x24 = (((τ i0 1) + 1) - ((τ i0 1) + 1) / 20 * 20) → ∀ τ25 : TS, τ25 = tp_up τ i0 1 x24 → ∀ τ26 : TS, τ26 = tp_up τ25 i0 2 ((τ25 i0 2) - 1) → (((τ26 i0 6) ≤ 0) → (wp_J9_floorMod_7cf53 τ26 x1 10 (fun τ28 x29 => vp_in x29 10 ∧ (∀ τ31 : TS, τ31 = tp_up τ28 (i0 + 2) (Int32.toNatClampNeg x29) (x23 + 262144) → ∀ τ32 : TS, τ32 = tp_up τ31 i0 4 ((τ31 i0 4) + 1) → ∀ τ33 : TS, τ33 = tp_up τ32 i0 5 ((τ32 i0 5) + 1) → K τ33 0)))) ∧ ((¬ (τ26 i0 6) ≤ 0) → (∀ τ34 : TS, τ34 = tp_up τ26 i0 6 ((τ26 i0 6) - 1) → K τ34 1))))) ∧ (((τ i0 2) = 0) → (K τ 0))
theorem mw_X7_takeOff_0 : Cond.fieldLink RX7 18 "TidePost$Way" "queued" "I" ∈ wsX7_takeOff := List.mem_of_getElem? (i := 1) rfl
theorem mw_X7_takeOff_1 : Cond.fieldLink RX7 9 "TidePost$Way" "queue" "[I" ∈ wsX7_takeOff := List.mem_of_getElem? (i := 2) rfl
theorem mw_X7_takeOff_2 : Cond.fieldLink RX7 22 "TidePost$Way" "head" "I" ∈ wsX7_takeOff := List.mem_of_getElem? (i := 3) rfl
theorem mw_X7_takeOff_3 : Cond.fieldLink RX7 25 "TidePost$Way" "toLose" "I" ∈ wsX7_takeOff := List.mem_of_getElem? (i := 4) rfl
theorem mw_X7_takeOff_4 : Cond.fieldLink RX7 15 "TidePost$Way" "flight" "[I" ∈ wsX7_takeOff := List.mem_of_getElem? (i := 5) rfl
theorem mw_X7_takeOff_5 : Cond.constant RX7 36 (262144) ∈ wsX7_takeOff := List.mem_of_getElem? (i := 6) rfl
theorem mw_X7_takeOff_6 : Cond.fieldLink RX7 37 "TidePost$Way" "flying" "I" ∈ wsX7_takeOff := List.mem_of_getElem? (i := 7) rfl
theorem mw_X7_takeOff_7 : Cond.fieldLink RX7 40 "TidePost$Way" "flown" "I" ∈ wsX7_takeOff := List.mem_of_getElem? (i := 8) rfl
theorem in_X7_takeOff_X7 : ∀ x ∈ wsX70, x ∈ wsX7_takeOff := fun _ h => List.mem_cons_of_mem _ (List.mem_append_right _ h)
set_option maxHeartbeats 4000000 in
set_option maxRecDepth 100000 in
theorem c_X7_takeOff (w : WPar) (τ : TS) (i0 : Nat) (x1 : Int32) (K : TS → Int32 → Prop) (h0 : tp_is w i0 6) (hw : wp_X7_takeOff τ i0 x1 K) : MI w yX7_takeOff wsX7_takeOff 1 22 [.ref (w.1 i0), .int x1] τ K := by
  refine tp_enterZ (cc := cX7_takeOff) (maxL := 3) (own := RX7) (by decide) rfl rfl (Nat.le_of_ble_eq_true rfl) (fun g C hR => ?_)
  show Zt w g τ (0, 0) 0 [(0, .ref (w.1 i0)), (1, .int x1)] []
  unfold wp_X7_takeOff at hw
  refine z_aload_n C 0 (by rfl) dX7_takeOff_0 ?_
  refine z_get C (Cn := RX7) (T := TX7) (N := 7) (ci := 6) h0.2 2 (tE6 h0.1) in_X7_takeOff_X7 rfl (by decide) mw_X7_takeOff_0 rfl rfl dX7_takeOff_1 ?_
  refine z_if_ne (tgt := 9) C dX7_takeOff_4 (by decide) (fun c21 => ?_) (fun c21 => ?_)
  · have hw := hw.1 c21
    refine z_aload_n C 0 (by rfl) dX7_takeOff_9 ?_
    refine z_get C (Cn := RX7) (T := TX7) (N := 7) (ci := 6) h0.2 0 (tE6 h0.1) in_X7_takeOff_X7 rfl (by decide) mw_X7_takeOff_1 rfl rfl dX7_takeOff_10 ?_
    refine z_aload_n C 0 (by rfl) dX7_takeOff_13 ?_
    refine z_get C (Cn := RX7) (T := TX7) (N := 7) (ci := 6) h0.2 1 (tE6 h0.1) in_X7_takeOff_X7 rfl (by decide) mw_X7_takeOff_2 rfl rfl dX7_takeOff_14 ?_
    obtain ⟨s22, hw⟩ := hw
    refine z_iald C (tR6_0 h0).2 (tE8 (tR6_0 h0).1) s22 dX7_takeOff_17 ?_
    refine z_top (fun x23 ex23 => ?_)
    have hw := hw x23 ex23
    refine z_istore_n C [(2, .int x23), (0, .ref (w.1 i0)), (1, .int x1)] dX7_takeOff_18 (by decide) rfl ?_
    refine z_aload_n C 1 (by rfl) dX7_takeOff_19 ?_
    refine z_aload_n C 1 (by rfl) dX7_takeOff_20 ?_
    refine z_get C (Cn := RX7) (T := TX7) (N := 7) (ci := 6) h0.2 1 (tE6 h0.1) in_X7_takeOff_X7 rfl (by decide) mw_X7_takeOff_2 rfl rfl dX7_takeOff_21 ?_
    refine z_iconst C 1 (by decide) dX7_takeOff_24 ?_
    refine z_iadd C dX7_takeOff_25 ?_
    refine z_bipush C 20 (by decide) dX7_takeOff_26 ?_
    refine z_irem C (by decide) dX7_takeOff_28 ?_
    refine z_top (fun x24 ex24 => ?_)
    have hw := hw x24 ex24
    refine z_put C (Cn := RX7) (T := TX7) (N := 7) (ci := 6) h0.2 1 (tE6 h0.1) (tS6_1 h0.1 _) in_X7_takeOff_X7 tyX7 tyX7_ok nmX7 rfl (by decide) mw_X7_takeOff_2 rfl rfl (tyX7_ok 1 (by decide)) rfl rfl (Nat.le_of_ble_eq_true rfl) dX7_takeOff_29 (fun τ25 eτ25 => ?_)
    have hw := hw τ25 eτ25
    refine z_aload_n C 1 (by rfl) dX7_takeOff_32 ?_
    refine z_dup C rfl dX7_takeOff_33 ?_
    refine z_get C (Cn := RX7) (T := TX7) (N := 7) (ci := 6) h0.2 2 (tE6 h0.1) in_X7_takeOff_X7 rfl (by decide) mw_X7_takeOff_0 rfl rfl dX7_takeOff_34 ?_
    refine z_iconst C 1 (by decide) dX7_takeOff_37 ?_
    refine z_isub C dX7_takeOff_38 ?_
    refine z_put C (Cn := RX7) (T := TX7) (N := 7) (ci := 6) h0.2 2 (tE6 h0.1) (tS6_2 h0.1 _) in_X7_takeOff_X7 tyX7 tyX7_ok nmX7 rfl (by decide) mw_X7_takeOff_0 rfl rfl (tyX7_ok 2 (by decide)) rfl rfl (Nat.le_of_ble_eq_true rfl) dX7_takeOff_39 (fun τ26 eτ26 => ?_)
    have hw := hw τ26 eτ26
    refine z_aload_n C 1 (by rfl) dX7_takeOff_42 ?_
    refine z_get C (Cn := RX7) (T := TX7) (N := 7) (ci := 6) h0.2 6 (tE6 h0.1) in_X7_takeOff_X7 rfl (by decide) mw_X7_takeOff_3 rfl rfl dX7_takeOff_43 ?_
    refine z_if_le (tgt := 61) C dX7_takeOff_46 (by decide) (fun c27 => ?_) (fun c27 => ?_)
    · have hw := hw.1 c27
      refine z_aload_n C 1 (by rfl) dX7_takeOff_61 ?_
      refine z_get C (Cn := RX7) (T := TX7) (N := 7) (ci := 6) h0.2 3 (tE6 h0.1) in_X7_takeOff_X7 rfl (by decide) mw_X7_takeOff_4 rfl rfl dX7_takeOff_62 ?_
      refine z_iload_n C 2 (by rfl) dX7_takeOff_65 ?_
      refine z_bipush C 10 (by decide) dX7_takeOff_66 ?_
      refine zs_i C (As := [.int x1, .int 10]) (bytes := cJ9_floorMod_7cf53) (maxL := 3) (F1 := 0) (L1 := 0) (c_J9_floorMod_7cf53 w _ x1 10 _  hw) 2 gX7_takeOff_J9_floorMod_7cf53 rfl (by decide +kernel) ⟨Nat.le_of_ble_eq_true rfl, Nat.le_of_ble_eq_true rfl⟩ rfl (Nat.le_of_ble_eq_true rfl) ⟨Nat.le_of_ble_eq_true rfl, Nat.le_of_ble_eq_true rfl⟩ rfl dX7_takeOff_68 (fun x29 τ28 hw => ?_)
      refine z_iload_n C 0 (by rfl) dX7_takeOff_71 ?_
      refine z_ldc C 262144 mw_X7_takeOff_5 dX7_takeOff_72 ?_
      refine z_iadd C dX7_takeOff_74 ?_
      obtain ⟨s30, hw⟩ := hw
      refine z_iast C (tR6_3 h0).2 (fun _ => tE9 (tR6_3 h0).1) s30 dX7_takeOff_75 (fun τ31 eτ31 => ?_)
      have hw := hw τ31 eτ31
      refine z_aload_n C 1 (by rfl) dX7_takeOff_76 ?_
      refine z_dup C rfl dX7_takeOff_77 ?_
      refine z_get C (Cn := RX7) (T := TX7) (N := 7) (ci := 6) h0.2 4 (tE6 h0.1) in_X7_takeOff_X7 rfl (by decide) mw_X7_takeOff_6 rfl rfl dX7_takeOff_78 ?_
      refine z_iconst C 1 (by decide) dX7_takeOff_81 ?_
      refine z_iadd C dX7_takeOff_82 ?_
      refine z_put C (Cn := RX7) (T := TX7) (N := 7) (ci := 6) h0.2 4 (tE6 h0.1) (tS6_4 h0.1 _) in_X7_takeOff_X7 tyX7 tyX7_ok nmX7 rfl (by decide) mw_X7_takeOff_6 rfl rfl (tyX7_ok 4 (by decide)) rfl rfl (Nat.le_of_ble_eq_true rfl) dX7_takeOff_83 (fun τ32 eτ32 => ?_)
      have hw := hw τ32 eτ32
      refine z_aload_n C 1 (by rfl) dX7_takeOff_86 ?_
      refine z_dup C rfl dX7_takeOff_87 ?_
      refine z_get C (Cn := RX7) (T := TX7) (N := 7) (ci := 6) h0.2 5 (tE6 h0.1) in_X7_takeOff_X7 rfl (by decide) mw_X7_takeOff_7 rfl rfl dX7_takeOff_88 ?_
      refine z_iconst C 1 (by decide) dX7_takeOff_91 ?_
      refine z_iadd C dX7_takeOff_92 ?_
      refine z_put C (Cn := RX7) (T := TX7) (N := 7) (ci := 6) h0.2 5 (tE6 h0.1) (tS6_5 h0.1 _) in_X7_takeOff_X7 tyX7 tyX7_ok nmX7 rfl (by decide) mw_X7_takeOff_7 rfl rfl (tyX7_ok 5 (by decide)) rfl rfl (Nat.le_of_ble_eq_true rfl) dX7_takeOff_93 (fun τ33 eτ33 => ?_)
      have hw := hw τ33 eτ33
      refine z_iconst C 0 (by decide) dX7_takeOff_96 ?_
      exact hR _ _ _ _ dX7_takeOff_97 rfl hw
    · have hw := hw.2 c27
      refine z_aload_n C 1 (by rfl) dX7_takeOff_49 ?_
      refine z_dup C rfl dX7_takeOff_50 ?_
      refine z_get C (Cn := RX7) (T := TX7) (N := 7) (ci := 6) h0.2 6 (tE6 h0.1) in_X7_takeOff_X7 rfl (by decide) mw_X7_takeOff_3 rfl rfl dX7_takeOff_51 ?_
      refine z_iconst C 1 (by decide) dX7_takeOff_54 ?_
      refine z_isub C dX7_takeOff_55 ?_
      refine z_put C (Cn := RX7) (T := TX7) (N := 7) (ci := 6) h0.2 6 (tE6 h0.1) (tS6_6 h0.1 _) in_X7_takeOff_X7 tyX7 tyX7_ok nmX7 rfl (by decide) mw_X7_takeOff_3 rfl rfl (tyX7_ok 6 (by decide)) rfl rfl (Nat.le_of_ble_eq_true rfl) dX7_takeOff_56 (fun τ34 eτ34 => ?_)
      have hw := hw τ34 eτ34
      refine z_iconst C 1 (by decide) dX7_takeOff_59 ?_
      exact hR _ _ _ _ dX7_takeOff_60 rfl hw
  · have hw := hw.2 c21
    refine z_iconst C 0 (by decide) dX7_takeOff_7 ?_
    exact hR _ _ _ _ dX7_takeOff_8 rfl hw
def wp_X7_land (τ : TS) (i0 : Nat) (x1 : Int32) (K : TS → Int32 → Prop) : Prop :=
  wp_J9_floorMod_7cf53 τ x1 10 (fun τ21 x22 => vp_in x22 10 ∧ (∀ x24 : Int32, x24 = (τ21 (i0 + 2) (Int32.toNatClampNeg x22)) → ((x24 = (-1)) → (K τ21 x24)) ∧ ((¬ x24 = (-1)) → (vp_in x22 10 ∧ (∀ τ27 : TS, τ27 = tp_up τ21 (i0 + 2) (Int32.toNatClampNeg x22) (-1) → ∀ τ28 : TS, τ28 = tp_up τ27 i0 4 ((τ27 i0 4) - 1) → K τ28 x24)))))
theorem mw_X7_land_0 : Cond.fieldLink RX7 15 "TidePost$Way" "flight" "[I" ∈ wsX7_land := List.mem_of_getElem? (i := 1) rfl
theorem mw_X7_land_1 : Cond.fieldLink RX7 37 "TidePost$Way" "flying" "I" ∈ wsX7_land := List.mem_of_getElem? (i := 2) rfl
theorem in_X7_land_X7 : ∀ x ∈ wsX70, x ∈ wsX7_land := fun _ h => List.mem_cons_of_mem _ (List.mem_append_right _ h)
set_option maxHeartbeats 4000000 in
set_option maxRecDepth 100000 in
theorem c_X7_land (w : WPar) (τ : TS) (i0 : Nat) (x1 : Int32) (K : TS → Int32 → Prop) (h0 : tp_is w i0 6) (hw : wp_X7_land τ i0 x1 K) : MI w yX7_land wsX7_land 1 22 [.ref (w.1 i0), .int x1] τ K := by
  refine tp_enterI (cc := cX7_land) (maxL := 4) (own := RX7) (by decide) rfl rfl (Nat.le_of_ble_eq_true rfl) (fun g C hR => ?_)
  show Zt w g τ (0, 0) 0 [(0, .ref (w.1 i0)), (1, .int x1)] []
  unfold wp_X7_land at hw
  refine z_iload_n C 1 (by rfl) dX7_land_0 ?_
  refine z_bipush C 10 (by decide) dX7_land_1 ?_
  refine zs_i C (As := [.int x1, .int 10]) (bytes := cJ9_floorMod_7cf53) (maxL := 3) (F1 := 0) (L1 := 0) (c_J9_floorMod_7cf53 w _ x1 10 _  hw) 2 gX7_land_J9_floorMod_7cf53 rfl (by decide +kernel) ⟨Nat.le_of_ble_eq_true rfl, Nat.le_of_ble_eq_true rfl⟩ rfl (Nat.le_of_ble_eq_true rfl) ⟨Nat.le_of_ble_eq_true rfl, Nat.le_of_ble_eq_true rfl⟩ rfl dX7_land_3 (fun x22 τ21 hw => ?_)
  refine z_istore_n C [(2, .int x22), (0, .ref (w.1 i0)), (1, .int x1)] dX7_land_6 (by decide) rfl ?_
  refine z_aload_n C 1 (by rfl) dX7_land_7 ?_
  refine z_get C (Cn := RX7) (T := TX7) (N := 7) (ci := 6) h0.2 3 (tE6 h0.1) in_X7_land_X7 rfl (by decide) mw_X7_land_0 rfl rfl dX7_land_8 ?_
  refine z_iload_n C 0 (by rfl) dX7_land_11 ?_
  obtain ⟨s23, hw⟩ := hw
  refine z_iald C (tR6_3 h0).2 (tE9 (tR6_3 h0).1) s23 dX7_land_12 ?_
  refine z_top (fun x24 ex24 => ?_)
  have hw := hw x24 ex24
  refine z_istore_n C [(3, .int x24), (2, .int x22), (0, .ref (w.1 i0)), (1, .int x1)] dX7_land_13 (by decide) rfl ?_
  refine z_iload_n C 0 (by rfl) dX7_land_14 ?_
  refine z_iconst C (-1) (by decide) dX7_land_15 ?_
  refine z_icmp_eq (tgt := 36) C dX7_land_16 (by decide) (fun c25 => ?_) (fun c25 => ?_)
  · have hw := hw.1 c25
    refine z_iload_n C 0 (by rfl) dX7_land_36 ?_
    exact hR _ _ _ _ dX7_land_37 hw
  · have hw := hw.2 c25
    refine z_aload_n C 2 (by rfl) dX7_land_19 ?_
    refine z_get C (Cn := RX7) (T := TX7) (N := 7) (ci := 6) h0.2 3 (tE6 h0.1) in_X7_land_X7 rfl (by decide) mw_X7_land_0 rfl rfl dX7_land_20 ?_
    refine z_iload_n C 1 (by rfl) dX7_land_23 ?_
    refine z_iconst C (-1) (by decide) dX7_land_24 ?_
    obtain ⟨s26, hw⟩ := hw
    refine z_iast C (tR6_3 h0).2 (fun _ => tE9 (tR6_3 h0).1) s26 dX7_land_25 (fun τ27 eτ27 => ?_)
    have hw := hw τ27 eτ27
    refine z_aload_n C 2 (by rfl) dX7_land_26 ?_
    refine z_dup C rfl dX7_land_27 ?_
    refine z_get C (Cn := RX7) (T := TX7) (N := 7) (ci := 6) h0.2 4 (tE6 h0.1) in_X7_land_X7 rfl (by decide) mw_X7_land_1 rfl rfl dX7_land_28 ?_
    refine z_iconst C 1 (by decide) dX7_land_31 ?_
    refine z_isub C dX7_land_32 ?_
    refine z_put C (Cn := RX7) (T := TX7) (N := 7) (ci := 6) h0.2 4 (tE6 h0.1) (tS6_4 h0.1 _) in_X7_land_X7 tyX7 tyX7_ok nmX7 rfl (by decide) mw_X7_land_1 rfl rfl (tyX7_ok 4 (by decide)) rfl rfl (Nat.le_of_ble_eq_true rfl) dX7_land_33 (fun τ28 eτ28 => ?_)
    have hw := hw τ28 eτ28
    refine z_iload_n C 0 (by rfl) dX7_land_36 ?_
    exact hR _ _ _ _ dX7_land_37 hw
def wp_X7_drop (τ : TS) (i0 : Nat) (K : TS → Int32 → Prop) : Prop :=
  ∀ x21 : Int32, x21 = ((τ i0 2) + (τ i0 4)) → ∀ τ22 : TS, τ22 = tp_up τ i0 2 0 → ∀ τ23 : TS, τ23 = tp_up τ22 i0 4 0 → ∃ (I26 : TS → Int32 → Prop) (u26 : TS → Int32 → Nat), I26 τ23 0 ∧ ∀ (τ24 : TS) (x25 : Int32), I26 τ24 x25 → (((10 ≤ x25) → (K τ24 x21)) ∧ ((¬ 10 ≤ x25) → (vp_in x25 10 ∧ (∀ τ29 : TS, τ29 = tp_up τ24 (i0 + 2) (Int32.toNatClampNeg x25) (-1) → ∀ x30 : Int32, x30 = x25 + 1 → I26 τ29 x30 ∧ u26 τ29 x30 < u26 τ24 x25))))
theorem mw_X7_drop_0 : Cond.fieldLink RX7 18 "TidePost$Way" "queued" "I" ∈ wsX7_drop := List.mem_of_getElem? (i := 1) rfl
theorem mw_X7_drop_1 : Cond.fieldLink RX7 37 "TidePost$Way" "flying" "I" ∈ wsX7_drop := List.mem_of_getElem? (i := 2) rfl
theorem mw_X7_drop_2 : Cond.fieldLink RX7 15 "TidePost$Way" "flight" "[I" ∈ wsX7_drop := List.mem_of_getElem? (i := 3) rfl
theorem in_X7_drop_X7 : ∀ x ∈ wsX70, x ∈ wsX7_drop := fun _ h => List.mem_cons_of_mem _ (List.mem_append_right _ h)
set_option maxHeartbeats 4000000 in
set_option maxRecDepth 100000 in
theorem c_X7_drop (w : WPar) (τ : TS) (i0 : Nat) (K : TS → Int32 → Prop) (h0 : tp_is w i0 6) (hw : wp_X7_drop τ i0 K) : MI w yX7_drop wsX7_drop 0 0 [.ref (w.1 i0)] τ K := by
  refine tp_enterI (cc := cX7_drop) (maxL := 3) (own := RX7) (by decide) rfl rfl (Nat.le_of_ble_eq_true rfl) (fun g C hR => ?_)
  show Zt w g τ (0, 0) 0 [(0, .ref (w.1 i0))] []
  unfold wp_X7_drop at hw
  refine z_aload_n C 0 (by rfl) dX7_drop_0 ?_
  refine z_get C (Cn := RX7) (T := TX7) (N := 7) (ci := 6) h0.2 2 (tE6 h0.1) in_X7_drop_X7 rfl (by decide) mw_X7_drop_0 rfl rfl dX7_drop_1 ?_
  refine z_aload_n C 0 (by rfl) dX7_drop_4 ?_
  refine z_get C (Cn := RX7) (T := TX7) (N := 7) (ci := 6) h0.2 4 (tE6 h0.1) in_X7_drop_X7 rfl (by decide) mw_X7_drop_1 rfl rfl dX7_drop_5 ?_
  refine z_iadd C dX7_drop_8 ?_
  refine z_top (fun x21 ex21 => ?_)
  have hw := hw x21 ex21
  refine z_istore_n C [(1, .int x21), (0, .ref (w.1 i0))] dX7_drop_9 (by decide) rfl ?_
  refine z_aload_n C 1 (by rfl) dX7_drop_10 ?_
  refine z_iconst C 0 (by decide) dX7_drop_11 ?_
  refine z_put C (Cn := RX7) (T := TX7) (N := 7) (ci := 6) h0.2 2 (tE6 h0.1) (tS6_2 h0.1 _) in_X7_drop_X7 tyX7 tyX7_ok nmX7 rfl (by decide) mw_X7_drop_0 rfl rfl (tyX7_ok 2 (by decide)) rfl rfl (Nat.le_of_ble_eq_true rfl) dX7_drop_12 (fun τ22 eτ22 => ?_)
  have hw := hw τ22 eτ22
  refine z_aload_n C 1 (by rfl) dX7_drop_15 ?_
  refine z_iconst C 0 (by decide) dX7_drop_16 ?_
  refine z_put C (Cn := RX7) (T := TX7) (N := 7) (ci := 6) h0.2 4 (tE6 h0.1) (tS6_4 h0.1 _) in_X7_drop_X7 tyX7 tyX7_ok nmX7 rfl (by decide) mw_X7_drop_1 rfl rfl (tyX7_ok 4 (by decide)) rfl rfl (Nat.le_of_ble_eq_true rfl) dX7_drop_17 (fun τ23 eτ23 => ?_)
  have hw := hw τ23 eτ23
  refine z_iconst C 0 (by decide) dX7_drop_20 ?_
  refine z_istore_n C [(2, .int 0), (1, .int x21), (0, .ref (w.1 i0))] dX7_drop_21 (by decide) rfl ?_
  obtain ⟨I26, u26, hI26, hs26⟩ := hw
  have lp26 : ∀ (n26 : Nat) (τ24 : TS) (x25 : Int32), u26 τ24 x25 < n26 → I26 τ24 x25 → Zt w g τ24 (0, 0) 22 [(0, .ref (w.1 i0)), (1, .int x21), (2, .int x25)] [] := by
    intro n26
    induction n26 with
    | zero => intro τ24 x25 hlt26; exact absurd hlt26 (Nat.not_lt_zero _)
    | succ n26 ih26 =>
      intro τ24 x25 hlt26 hh26
      have hw := hs26 τ24 x25 hh26
      refine z_iload_n C 2 (by rfl) dX7_drop_22 ?_
      refine z_bipush C 10 (by decide) dX7_drop_23 ?_
      refine z_icmp_ge (tgt := 41) C dX7_drop_25 (by decide) (fun c27 => ?_) (fun c27 => ?_)
      · have hw := hw.1 c27
        refine z_iload_n C 1 (by rfl) dX7_drop_41 ?_
        exact hR _ _ _ _ dX7_drop_42 hw
      · have hw := hw.2 c27
        refine z_aload_n C 0 (by rfl) dX7_drop_28 ?_
        refine z_get C (Cn := RX7) (T := TX7) (N := 7) (ci := 6) h0.2 3 (tE6 h0.1) in_X7_drop_X7 rfl (by decide) mw_X7_drop_2 rfl rfl dX7_drop_29 ?_
        refine z_iload_n C 2 (by rfl) dX7_drop_32 ?_
        refine z_iconst C (-1) (by decide) dX7_drop_33 ?_
        obtain ⟨s28, hw⟩ := hw
        refine z_iast C (tR6_3 h0).2 (fun _ => tE9 (tR6_3 h0).1) s28 dX7_drop_34 (fun τ29 eτ29 => ?_)
        have hw := hw τ29 eτ29
        obtain ⟨x30, ex30⟩ : ∃ z : Int32, z = x25 + 1 := ⟨_, rfl⟩
        have hw := hw x30 ex30
        refine z_iinc C 2 x30 [(2, .int x30), (0, .ref (w.1 i0)), (1, .int x21)] dX7_drop_35 (by rfl) (by rw [ex30]; rfl) (by decide) rfl ?_
        refine z_goto (tgt := 22) C dX7_drop_38 (by decide) ?_
        refine z_sub [1, 2, 0] [(0, .ref (w.1 i0)), (1, .int x21), (2, .int x30)] rfl ?_
        exact ih26 τ29 x30 (Nat.lt_of_lt_of_le hw.2 (Nat.le_of_lt_succ hlt26)) hw.1
  refine z_sub [2, 1, 0] [(0, .ref (w.1 i0)), (1, .int x21), (2, .int 0)] rfl ?_
  exact lp26 _ τ23 0 (Nat.lt_succ_self _) hI26
