def wp_X1_begin (τ : TS) (i0 : Nat) (x1 : Int32) (x2 : Int32) (K : TS → Prop) : Prop :=
  ∀ τ21 : TS, τ21 = tp_up τ i0 0 0 → ∀ τ22 : TS, τ22 = tp_up τ21 i0 5 8 → ∀ τ23 : TS, τ23 = tp_up τ22 i0 6 128 → ∀ τ24 : TS, τ24 = tp_up τ23 i0 7 x1 → ∀ τ25 : TS, τ25 = tp_up τ24 i0 9 (-1) → wp_X5_begin τ25 (i0 + 1) (fun τ26 => ∀ τ27 : TS, τ27 = tp_up τ26 i0 10 (x2 + (τ26 (i0 + 1) 2)) → K τ27)
theorem mw_X1_begin_0 : Cond.fieldLink RX1 18 "TidePost$Caller" "state" "I" ∈ wsX1_begin := List.mem_of_getElem? (i := 1) rfl
theorem mw_X1_begin_1 : Cond.fieldLink RX1 22 "TidePost$Caller" "window" "I" ∈ wsX1_begin := List.mem_of_getElem? (i := 2) rfl
theorem mw_X1_begin_2 : Cond.fieldLink RX1 25 "TidePost$Caller" "threshold" "I" ∈ wsX1_begin := List.mem_of_getElem? (i := 3) rfl
theorem mw_X1_begin_3 : Cond.fieldLink RX1 28 "TidePost$Caller" "room" "I" ∈ wsX1_begin := List.mem_of_getElem? (i := 4) rfl
theorem mw_X1_begin_4 : Cond.fieldLink RX1 31 "TidePost$Caller" "recover" "I" ∈ wsX1_begin := List.mem_of_getElem? (i := 5) rfl
theorem mw_X1_begin_5 : Cond.fieldLink RX1 12 "TidePost$Caller" "timing" "LTidePost$Timing;" ∈ wsX1_begin := List.mem_of_getElem? (i := 6) rfl
theorem mw_X1_begin_6 : Cond.fieldLink RX1 37 "TidePost$Timing" "timeout" "I" ∈ wsX1_begin := List.mem_of_getElem? (i := 7) rfl
theorem mw_X1_begin_7 : Cond.fieldLink RX1 40 "TidePost$Caller" "timer" "I" ∈ wsX1_begin := List.mem_of_getElem? (i := 8) rfl
theorem in_X1_begin_X1 : ∀ x ∈ wsX10, x ∈ wsX1_begin := fun _ h => List.mem_cons_of_mem _ (List.mem_append_left _ (List.mem_append_right _ h))
theorem in_X1_begin_X5 : ∀ x ∈ wsX50, x ∈ wsX1_begin := fun _ h => List.mem_cons_of_mem _ (List.mem_append_right _ h)
set_option maxHeartbeats 4000000 in
set_option maxRecDepth 100000 in
theorem c_X1_begin (w : WPar) (τ : TS) (i0 : Nat) (x1 : Int32) (x2 : Int32) (K : TS → Prop) (h0 : tp_is w i0 1) (hw : wp_X1_begin τ i0 x1 x2 K) : MV w yX1_begin wsX1_begin 1 20 [.ref (w.1 i0), .int x1, .int x2] τ K := by
  refine tp_enterV (cc := cX1_begin) (maxL := 3) (own := RX1) (by decide) rfl rfl (Nat.le_of_ble_eq_true rfl) (fun g C hR => ?_)
  show Zt w g τ (0, 0) 0 [(0, .ref (w.1 i0)), (1, .int x1), (2, .int x2)] []
  unfold wp_X1_begin at hw
  refine z_aload_n C 0 (by rfl) dX1_begin_0 ?_
  refine z_iconst C 0 (by decide) dX1_begin_1 ?_
  refine z_put C (Cn := RX1) (T := TX1) (N := 14) (ci := 1) h0.2 0 (tE1 h0.1) (tS1_0 h0.1 _) in_X1_begin_X1 tyX1 tyX1_ok nmX1 rfl (by decide) mw_X1_begin_0 rfl rfl (tyX1_ok 0 (by decide)) rfl rfl (Nat.le_of_ble_eq_true rfl) dX1_begin_2 (fun τ21 eτ21 => ?_)
  have hw := hw τ21 eτ21
  refine z_aload_n C 0 (by rfl) dX1_begin_5 ?_
  refine z_bipush C 8 (by decide) dX1_begin_6 ?_
  refine z_put C (Cn := RX1) (T := TX1) (N := 14) (ci := 1) h0.2 5 (tE1 h0.1) (tS1_5 h0.1 _) in_X1_begin_X1 tyX1 tyX1_ok nmX1 rfl (by decide) mw_X1_begin_1 rfl rfl (tyX1_ok 5 (by decide)) rfl rfl (Nat.le_of_ble_eq_true rfl) dX1_begin_8 (fun τ22 eτ22 => ?_)
  have hw := hw τ22 eτ22
  refine z_aload_n C 0 (by rfl) dX1_begin_11 ?_
  refine z_sipush C 128 (by decide) dX1_begin_12 ?_
  refine z_put C (Cn := RX1) (T := TX1) (N := 14) (ci := 1) h0.2 6 (tE1 h0.1) (tS1_6 h0.1 _) in_X1_begin_X1 tyX1 tyX1_ok nmX1 rfl (by decide) mw_X1_begin_2 rfl rfl (tyX1_ok 6 (by decide)) rfl rfl (Nat.le_of_ble_eq_true rfl) dX1_begin_15 (fun τ23 eτ23 => ?_)
  have hw := hw τ23 eτ23
  refine z_aload_n C 0 (by rfl) dX1_begin_18 ?_
  refine z_iload_n C 1 (by rfl) dX1_begin_19 ?_
  refine z_put C (Cn := RX1) (T := TX1) (N := 14) (ci := 1) h0.2 7 (tE1 h0.1) (tS1_7 h0.1 _) in_X1_begin_X1 tyX1 tyX1_ok nmX1 rfl (by decide) mw_X1_begin_3 rfl rfl (tyX1_ok 7 (by decide)) rfl rfl (Nat.le_of_ble_eq_true rfl) dX1_begin_20 (fun τ24 eτ24 => ?_)
  have hw := hw τ24 eτ24
  refine z_aload_n C 0 (by rfl) dX1_begin_23 ?_
  refine z_iconst C (-1) (by decide) dX1_begin_24 ?_
  refine z_put C (Cn := RX1) (T := TX1) (N := 14) (ci := 1) h0.2 9 (tE1 h0.1) (tS1_9 h0.1 _) in_X1_begin_X1 tyX1 tyX1_ok nmX1 rfl (by decide) mw_X1_begin_4 rfl rfl (tyX1_ok 9 (by decide)) rfl rfl (Nat.le_of_ble_eq_true rfl) dX1_begin_25 (fun τ25 eτ25 => ?_)
  have hw := hw τ25 eτ25
  refine z_aload_n C 0 (by rfl) dX1_begin_28 ?_
  refine z_get C (Cn := RX1) (T := TX1) (N := 14) (ci := 1) h0.2 13 (tE1 h0.1) in_X1_begin_X1 rfl (by decide) mw_X1_begin_5 rfl rfl dX1_begin_29 ?_
  refine zv_v C (As := []) (bytes := cX5_begin) (maxL := 1) (F1 := 0) (L1 := 0) (c_X5_begin w _ (i0 + 1) _ (tR1_13 h0) hw) (tR1_13 h0).2 (tE4 (tR1_13 h0).1) rfl 0 gX1_begin_X5_begin rfl (by decide +kernel) ⟨Nat.le_of_ble_eq_true rfl, Nat.le_of_ble_eq_true rfl⟩ rfl (Nat.le_of_ble_eq_true rfl) ⟨Nat.le_of_ble_eq_true rfl, Nat.le_of_ble_eq_true rfl⟩ rfl dX1_begin_32 (fun τ26 hw => ?_)
  refine z_aload_n C 0 (by rfl) dX1_begin_35 ?_
  refine z_iload_n C 2 (by rfl) dX1_begin_36 ?_
  refine z_aload_n C 0 (by rfl) dX1_begin_37 ?_
  refine z_get C (Cn := RX1) (T := TX1) (N := 14) (ci := 1) h0.2 13 (tE1 h0.1) in_X1_begin_X1 rfl (by decide) mw_X1_begin_5 rfl rfl dX1_begin_38 ?_
  refine z_get C (Cn := RX5) (T := TX5) (N := 5) (ci := 4) (tR1_13 h0).2 2 (tE4 (tR1_13 h0).1) in_X1_begin_X5 rfl (by decide) mw_X1_begin_6 rfl rfl dX1_begin_41 ?_
  refine z_iadd C dX1_begin_44 ?_
  refine z_put C (Cn := RX1) (T := TX1) (N := 14) (ci := 1) h0.2 10 (tE1 h0.1) (tS1_10 h0.1 _) in_X1_begin_X1 tyX1 tyX1_ok nmX1 rfl (by decide) mw_X1_begin_7 rfl rfl (tyX1_ok 10 (by decide)) rfl rfl (Nat.le_of_ble_eq_true rfl) dX1_begin_45 (fun τ27 eτ27 => ?_)
  have hw := hw τ27 eτ27
  exact hR _ _ _ dX1_begin_48 hw
def wp_X1_things (τ : TS) (i0 : Nat) (K : TS → Int32 → Prop) : Prop :=
  (((τ i0 2) = 0) → (K τ (τ i0 1))) ∧ ((¬ (τ i0 2) = 0) → (K τ ((τ i0 1) + 1)))
theorem mw_X1_things_0 : Cond.fieldLink RX1 43 "TidePost$Caller" "toldToClose" "Z" ∈ wsX1_things := List.mem_of_getElem? (i := 1) rfl
theorem mw_X1_things_1 : Cond.fieldLink RX1 47 "TidePost$Caller" "given" "I" ∈ wsX1_things := List.mem_of_getElem? (i := 2) rfl
theorem in_X1_things_X1 : ∀ x ∈ wsX10, x ∈ wsX1_things := fun _ h => List.mem_cons_of_mem _ (List.mem_append_right _ h)
set_option maxHeartbeats 4000000 in
set_option maxRecDepth 100000 in
theorem c_X1_things (w : WPar) (τ : TS) (i0 : Nat) (K : TS → Int32 → Prop) (h0 : tp_is w i0 1) (hw : wp_X1_things τ i0 K) : MI w yX1_things wsX1_things 0 0 [.ref (w.1 i0)] τ K := by
  refine tp_enterI (cc := cX1_things) (maxL := 1) (own := RX1) (by decide) rfl rfl (Nat.le_of_ble_eq_true rfl) (fun g C hR => ?_)
  show Zt w g τ (0, 0) 0 [(0, .ref (w.1 i0))] []
  unfold wp_X1_things at hw
  refine z_aload_n C 0 (by rfl) dX1_things_0 ?_
  refine z_get C (Cn := RX1) (T := TX1) (N := 14) (ci := 1) h0.2 2 (tE1 h0.1) in_X1_things_X1 rfl (by decide) mw_X1_things_0 rfl rfl dX1_things_1 ?_
  refine z_if_eq (tgt := 16) C dX1_things_4 (by decide) (fun c21 => ?_) (fun c21 => ?_)
  · have hw := hw.1 c21
    refine z_aload_n C 0 (by rfl) dX1_things_16 ?_
    refine z_get C (Cn := RX1) (T := TX1) (N := 14) (ci := 1) h0.2 1 (tE1 h0.1) in_X1_things_X1 rfl (by decide) mw_X1_things_1 rfl rfl dX1_things_17 ?_
    exact hR _ _ _ _ dX1_things_20 hw
  · have hw := hw.2 c21
    refine z_aload_n C 0 (by rfl) dX1_things_7 ?_
    refine z_get C (Cn := RX1) (T := TX1) (N := 14) (ci := 1) h0.2 1 (tE1 h0.1) in_X1_things_X1 rfl (by decide) mw_X1_things_1 rfl rfl dX1_things_8 ?_
    refine z_iconst C 1 (by decide) dX1_things_11 ?_
    refine z_iadd C dX1_things_12 ?_
    refine z_goto (tgt := 20) C dX1_things_13 (by decide) ?_
    exact hR _ _ _ _ dX1_things_20 hw
def wp_X1_maySend (τ : TS) (i0 : Nat) (K : TS → Int32 → Prop) : Prop :=
  ∀ x21 : Int32, x21 = ((τ i0 4) - (τ i0 3)) → ((¬ (τ i0 0) = 1) → (K τ 0)) ∧ (((τ i0 0) = 1) → (wp_X1_things τ i0 (fun τ23 x24 => ((x24 ≤ (τ i0 4)) → (K τ23 0)) ∧ ((¬ x24 ≤ (τ i0 4)) → ((((x21 * 8) < (τ23 i0 5)) → ((((τ23 i0 4) < (τ23 i0 1)) → (((x21 < (τ23 i0 7)) → (K τ23 1)) ∧ ((¬ x21 < (τ23 i0 7)) → (((¬ x21 = 0) → (K τ23 0)) ∧ ((x21 = 0) → (K τ23 1)))))) ∧ ((¬ (τ23 i0 4) < (τ23 i0 1)) → (K τ23 1)))) ∧ ((¬ (x21 * 8) < (τ23 i0 5)) → (K τ23 0)))))))
theorem mw_X1_maySend_0 : Cond.fieldLink RX1 50 "TidePost$Caller" "next" "I" ∈ wsX1_maySend := List.mem_of_getElem? (i := 1) rfl
theorem mw_X1_maySend_1 : Cond.fieldLink RX1 53 "TidePost$Caller" "base" "I" ∈ wsX1_maySend := List.mem_of_getElem? (i := 2) rfl
theorem mw_X1_maySend_2 : Cond.fieldLink RX1 18 "TidePost$Caller" "state" "I" ∈ wsX1_maySend := List.mem_of_getElem? (i := 3) rfl
theorem mw_X1_maySend_3 : Cond.fieldLink RX1 22 "TidePost$Caller" "window" "I" ∈ wsX1_maySend := List.mem_of_getElem? (i := 4) rfl
theorem mw_X1_maySend_4 : Cond.fieldLink RX1 47 "TidePost$Caller" "given" "I" ∈ wsX1_maySend := List.mem_of_getElem? (i := 5) rfl
theorem mw_X1_maySend_5 : Cond.fieldLink RX1 28 "TidePost$Caller" "room" "I" ∈ wsX1_maySend := List.mem_of_getElem? (i := 6) rfl
theorem in_X1_maySend_X1 : ∀ x ∈ wsX10, x ∈ wsX1_maySend := fun _ h => List.mem_cons_of_mem _ (List.mem_append_right _ h)
set_option maxHeartbeats 4000000 in
set_option maxRecDepth 100000 in
theorem c_X1_maySend (w : WPar) (τ : TS) (i0 : Nat) (K : TS → Int32 → Prop) (h0 : tp_is w i0 1) (hw : wp_X1_maySend τ i0 K) : MI w yX1_maySend wsX1_maySend 1 20 [.ref (w.1 i0)] τ K := by
  refine tp_enterZ (cc := cX1_maySend) (maxL := 3) (own := RX1) (by decide) rfl rfl (Nat.le_of_ble_eq_true rfl) (fun g C hR => ?_)
  show Zt w g τ (0, 0) 0 [(0, .ref (w.1 i0))] []
  unfold wp_X1_maySend at hw
  refine z_aload_n C 0 (by rfl) dX1_maySend_0 ?_
  refine z_get C (Cn := RX1) (T := TX1) (N := 14) (ci := 1) h0.2 4 (tE1 h0.1) in_X1_maySend_X1 rfl (by decide) mw_X1_maySend_0 rfl rfl dX1_maySend_1 ?_
  refine z_aload_n C 0 (by rfl) dX1_maySend_4 ?_
  refine z_get C (Cn := RX1) (T := TX1) (N := 14) (ci := 1) h0.2 3 (tE1 h0.1) in_X1_maySend_X1 rfl (by decide) mw_X1_maySend_1 rfl rfl dX1_maySend_5 ?_
  refine z_isub C dX1_maySend_8 ?_
  refine z_top (fun x21 ex21 => ?_)
  have hw := hw x21 ex21
  refine z_istore_n C [(1, .int x21), (0, .ref (w.1 i0))] dX1_maySend_9 (by decide) rfl ?_
  refine z_aload_n C 1 (by rfl) dX1_maySend_10 ?_
  refine z_get C (Cn := RX1) (T := TX1) (N := 14) (ci := 1) h0.2 0 (tE1 h0.1) in_X1_maySend_X1 rfl (by decide) mw_X1_maySend_2 rfl rfl dX1_maySend_11 ?_
  refine z_iconst C 1 (by decide) dX1_maySend_14 ?_
  refine z_icmp_ne (tgt := 40) C dX1_maySend_15 (by decide) (fun c22 => ?_) (fun c22 => ?_)
  · have hw := hw.1 c22
    refine z_iconst C 0 (by decide) dX1_maySend_40 ?_
    exact hR _ _ _ _ dX1_maySend_41 rfl hw
  · have hw := hw.2 c22
    refine z_aload_n C 1 (by rfl) dX1_maySend_18 ?_
    refine z_get C (Cn := RX1) (T := TX1) (N := 14) (ci := 1) h0.2 4 (tE1 h0.1) in_X1_maySend_X1 rfl (by decide) mw_X1_maySend_0 rfl rfl dX1_maySend_19 ?_
    refine z_aload_n C 1 (by rfl) dX1_maySend_22 ?_
    refine zv_i C (As := []) (bytes := cX1_things) (maxL := 1) (F1 := 0) (L1 := 0) (c_X1_things w _ i0 _ h0 hw) h0.2 (tE1 h0.1) rfl 0 gX1_maySend_X1_things rfl (by decide +kernel) ⟨Nat.le_of_ble_eq_true rfl, Nat.le_of_ble_eq_true rfl⟩ rfl (Nat.le_of_ble_eq_true rfl) ⟨Nat.le_of_ble_eq_true rfl, Nat.le_of_ble_eq_true rfl⟩ rfl dX1_maySend_23 (fun x24 τ23 hw => ?_)
    refine z_icmp_ge (tgt := 40) C dX1_maySend_26 (by decide) (fun c25 => ?_) (fun c25 => ?_)
    · have hw := hw.1 c25
      refine z_iconst C 0 (by decide) dX1_maySend_40 ?_
      exact hR _ _ _ _ dX1_maySend_41 rfl hw
    · have hw := hw.2 c25
      refine z_iload_n C 0 (by rfl) dX1_maySend_29 ?_
      refine z_bipush C 8 (by decide) dX1_maySend_30 ?_
      refine z_imul C dX1_maySend_32 ?_
      refine z_aload_n C 1 (by rfl) dX1_maySend_33 ?_
      refine z_get C (Cn := RX1) (T := TX1) (N := 14) (ci := 1) h0.2 5 (tE1 h0.1) in_X1_maySend_X1 rfl (by decide) mw_X1_maySend_3 rfl rfl dX1_maySend_34 ?_
      refine z_icmp_lt (tgt := 42) C dX1_maySend_37 (by decide) (fun c26 => ?_) (fun c26 => ?_)
      · have hw := hw.1 c26
        refine z_aload_n C 1 (by rfl) dX1_maySend_42 ?_
        refine z_get C (Cn := RX1) (T := TX1) (N := 14) (ci := 1) h0.2 4 (tE1 h0.1) in_X1_maySend_X1 rfl (by decide) mw_X1_maySend_0 rfl rfl dX1_maySend_43 ?_
        refine z_aload_n C 1 (by rfl) dX1_maySend_46 ?_
        refine z_get C (Cn := RX1) (T := TX1) (N := 14) (ci := 1) h0.2 1 (tE1 h0.1) in_X1_maySend_X1 rfl (by decide) mw_X1_maySend_4 rfl rfl dX1_maySend_47 ?_
        refine z_icmp_lt (tgt := 57) C dX1_maySend_50 (by decide) (fun c27 => ?_) (fun c27 => ?_)
        · have hw := hw.1 c27
          refine z_iconst C 0 (by decide) dX1_maySend_57 ?_
          refine z_istore_n C [(2, .int 0), (1, .int x21), (0, .ref (w.1 i0))] dX1_maySend_58 (by decide) rfl ?_
          refine z_iload_n C 0 (by rfl) dX1_maySend_59 ?_
          refine z_if_ne (tgt := 75) C dX1_maySend_60 (by decide) (fun c28 => ?_) (fun c28 => ?_)
          · exact absurd (by decide) c28
          · have hw := hw
            refine z_iload_n C 1 (by rfl) dX1_maySend_63 ?_
            refine z_aload_n C 2 (by rfl) dX1_maySend_64 ?_
            refine z_get C (Cn := RX1) (T := TX1) (N := 14) (ci := 1) h0.2 7 (tE1 h0.1) in_X1_maySend_X1 rfl (by decide) mw_X1_maySend_5 rfl rfl dX1_maySend_65 ?_
            refine z_icmp_lt (tgt := 75) C dX1_maySend_68 (by decide) (fun c29 => ?_) (fun c29 => ?_)
            · have hw := hw.1 c29
              refine z_iconst C 1 (by decide) dX1_maySend_75 ?_
              refine z_goto (tgt := 80) C dX1_maySend_76 (by decide) ?_
              exact hR _ _ _ _ dX1_maySend_80 rfl hw
            · have hw := hw.2 c29
              refine z_iload_n C 1 (by rfl) dX1_maySend_71 ?_
              refine z_if_ne (tgt := 79) C dX1_maySend_72 (by decide) (fun c30 => ?_) (fun c30 => ?_)
              · have hw := hw.1 c30
                refine z_iconst C 0 (by decide) dX1_maySend_79 ?_
                exact hR _ _ _ _ dX1_maySend_80 rfl hw
              · have hw := hw.2 c30
                refine z_iconst C 1 (by decide) dX1_maySend_75 ?_
                refine z_goto (tgt := 80) C dX1_maySend_76 (by decide) ?_
                exact hR _ _ _ _ dX1_maySend_80 rfl hw
        · have hw := hw.2 c27
          refine z_iconst C 1 (by decide) dX1_maySend_53 ?_
          refine z_goto (tgt := 58) C dX1_maySend_54 (by decide) ?_
          refine z_istore_n C [(2, .int 1), (1, .int x21), (0, .ref (w.1 i0))] dX1_maySend_58 (by decide) rfl ?_
          refine z_iload_n C 0 (by rfl) dX1_maySend_59 ?_
          refine z_if_ne (tgt := 75) C dX1_maySend_60 (by decide) (fun c31 => ?_) (fun c31 => ?_)
          · have hw := hw
            refine z_iconst C 1 (by decide) dX1_maySend_75 ?_
            refine z_goto (tgt := 80) C dX1_maySend_76 (by decide) ?_
            exact hR _ _ _ _ dX1_maySend_80 rfl hw
          · exact absurd c31 (by decide)
      · have hw := hw.2 c26
        refine z_iconst C 0 (by decide) dX1_maySend_40 ?_
        exact hR _ _ _ _ dX1_maySend_41 rfl hw
def wp_X1_sent (τ : TS) (i0 : Nat) (x1 : Int32) (K : TS → Prop) : Prop :=
  wp_X5_sent τ (i0 + 1) (τ i0 4) x1 (fun τ21 => ∀ τ22 : TS, τ22 = tp_up τ21 i0 4 ((τ21 i0 4) + 1) → ((¬ (τ22 i0 10) = (-1)) → (K τ22)) ∧ (((τ22 i0 10) = (-1)) → (∀ τ24 : TS, τ24 = tp_up τ22 i0 10 (x1 + (τ22 (i0 + 1) 2)) → K τ24)))
theorem mw_X1_sent_0 : Cond.fieldLink RX1 12 "TidePost$Caller" "timing" "LTidePost$Timing;" ∈ wsX1_sent := List.mem_of_getElem? (i := 1) rfl
theorem mw_X1_sent_1 : Cond.fieldLink RX1 50 "TidePost$Caller" "next" "I" ∈ wsX1_sent := List.mem_of_getElem? (i := 2) rfl
theorem mw_X1_sent_2 : Cond.fieldLink RX1 40 "TidePost$Caller" "timer" "I" ∈ wsX1_sent := List.mem_of_getElem? (i := 3) rfl
theorem mw_X1_sent_3 : Cond.fieldLink RX1 37 "TidePost$Timing" "timeout" "I" ∈ wsX1_sent := List.mem_of_getElem? (i := 4) rfl
theorem in_X1_sent_X1 : ∀ x ∈ wsX10, x ∈ wsX1_sent := fun _ h => List.mem_cons_of_mem _ (List.mem_append_left _ (List.mem_append_right _ h))
theorem in_X1_sent_X5 : ∀ x ∈ wsX50, x ∈ wsX1_sent := fun _ h => List.mem_cons_of_mem _ (List.mem_append_right _ h)
set_option maxHeartbeats 4000000 in
set_option maxRecDepth 100000 in
theorem c_X1_sent (w : WPar) (τ : TS) (i0 : Nat) (x1 : Int32) (K : TS → Prop) (h0 : tp_is w i0 1) (hw : wp_X1_sent τ i0 x1 K) : MV w yX1_sent wsX1_sent 1 22 [.ref (w.1 i0), .int x1] τ K := by
  refine tp_enterV (cc := cX1_sent) (maxL := 2) (own := RX1) (by decide) rfl rfl (Nat.le_of_ble_eq_true rfl) (fun g C hR => ?_)
  show Zt w g τ (0, 0) 0 [(0, .ref (w.1 i0)), (1, .int x1)] []
  unfold wp_X1_sent at hw
  refine z_aload_n C 0 (by rfl) dX1_sent_0 ?_
  refine z_get C (Cn := RX1) (T := TX1) (N := 14) (ci := 1) h0.2 13 (tE1 h0.1) in_X1_sent_X1 rfl (by decide) mw_X1_sent_0 rfl rfl dX1_sent_1 ?_
  refine z_aload_n C 0 (by rfl) dX1_sent_4 ?_
  refine z_get C (Cn := RX1) (T := TX1) (N := 14) (ci := 1) h0.2 4 (tE1 h0.1) in_X1_sent_X1 rfl (by decide) mw_X1_sent_1 rfl rfl dX1_sent_5 ?_
  refine z_iload_n C 1 (by rfl) dX1_sent_8 ?_
  refine zv_v C (As := [.int (τ i0 4), .int x1]) (bytes := cX5_sent) (maxL := 3) (F1 := 0) (L1 := 0) (c_X5_sent w _ (i0 + 1) (τ i0 4) x1 _ (tR1_13 h0) hw) (tR1_13 h0).2 (tE4 (tR1_13 h0).1) rfl 2 gX1_sent_X5_sent rfl (by decide +kernel) ⟨Nat.le_of_ble_eq_true rfl, Nat.le_of_ble_eq_true rfl⟩ rfl (Nat.le_of_ble_eq_true rfl) ⟨Nat.le_of_ble_eq_true rfl, Nat.le_of_ble_eq_true rfl⟩ rfl dX1_sent_9 (fun τ21 hw => ?_)
  refine z_aload_n C 0 (by rfl) dX1_sent_12 ?_
  refine z_dup C rfl dX1_sent_13 ?_
  refine z_get C (Cn := RX1) (T := TX1) (N := 14) (ci := 1) h0.2 4 (tE1 h0.1) in_X1_sent_X1 rfl (by decide) mw_X1_sent_1 rfl rfl dX1_sent_14 ?_
  refine z_iconst C 1 (by decide) dX1_sent_17 ?_
  refine z_iadd C dX1_sent_18 ?_
  refine z_put C (Cn := RX1) (T := TX1) (N := 14) (ci := 1) h0.2 4 (tE1 h0.1) (tS1_4 h0.1 _) in_X1_sent_X1 tyX1 tyX1_ok nmX1 rfl (by decide) mw_X1_sent_1 rfl rfl (tyX1_ok 4 (by decide)) rfl rfl (Nat.le_of_ble_eq_true rfl) dX1_sent_19 (fun τ22 eτ22 => ?_)
  have hw := hw τ22 eτ22
  refine z_aload_n C 0 (by rfl) dX1_sent_22 ?_
  refine z_get C (Cn := RX1) (T := TX1) (N := 14) (ci := 1) h0.2 10 (tE1 h0.1) in_X1_sent_X1 rfl (by decide) mw_X1_sent_2 rfl rfl dX1_sent_23 ?_
  refine z_iconst C (-1) (by decide) dX1_sent_26 ?_
  refine z_icmp_ne (tgt := 43) C dX1_sent_27 (by decide) (fun c23 => ?_) (fun c23 => ?_)
  · have hw := hw.1 c23
    exact hR _ _ _ dX1_sent_43 hw
  · have hw := hw.2 c23
    refine z_aload_n C 0 (by rfl) dX1_sent_30 ?_
    refine z_iload_n C 1 (by rfl) dX1_sent_31 ?_
    refine z_aload_n C 0 (by rfl) dX1_sent_32 ?_
    refine z_get C (Cn := RX1) (T := TX1) (N := 14) (ci := 1) h0.2 13 (tE1 h0.1) in_X1_sent_X1 rfl (by decide) mw_X1_sent_0 rfl rfl dX1_sent_33 ?_
    refine z_get C (Cn := RX5) (T := TX5) (N := 5) (ci := 4) (tR1_13 h0).2 2 (tE4 (tR1_13 h0).1) in_X1_sent_X5 rfl (by decide) mw_X1_sent_3 rfl rfl dX1_sent_36 ?_
    refine z_iadd C dX1_sent_39 ?_
    refine z_put C (Cn := RX1) (T := TX1) (N := 14) (ci := 1) h0.2 10 (tE1 h0.1) (tS1_10 h0.1 _) in_X1_sent_X1 tyX1 tyX1_ok nmX1 rfl (by decide) mw_X1_sent_2 rfl rfl (tyX1_ok 10 (by decide)) rfl rfl (Nat.le_of_ble_eq_true rfl) dX1_sent_40 (fun τ24 eτ24 => ?_)
    have hw := hw τ24 eτ24
    exact hR _ _ _ dX1_sent_43 hw
def wp_X1_growWindow (τ : TS) (i0 : Nat) (K : TS → Prop) : Prop :=
  (((τ i0 5) < (τ i0 6)) → (∀ x22 : Int32, x22 = (if ((τ i0 5) + 8) < 256 then ((τ i0 5) + 8) else 256) → ∀ τ23 : TS, τ23 = tp_up τ i0 5 x22 → K τ23)) ∧ ((¬ (τ i0 5) < (τ i0 6)) → ((((τ i0 5) ≤ 0) → (∀ x25 : Int32, x25 = (if ((τ i0 5) + 8) < 256 then ((τ i0 5) + 8) else 256) → ∀ τ26 : TS, τ26 = tp_up τ i0 5 x25 → K τ26)) ∧ ((¬ (τ i0 5) ≤ 0) → (¬ (τ i0 5) = 0 ∧ (∀ x28 : Int32, x28 = (if 1 < (64 / (τ i0 5)) then (64 / (τ i0 5)) else 1) → ∀ x29 : Int32, x29 = (if ((τ i0 5) + x28) < 256 then ((τ i0 5) + x28) else 256) → ∀ τ30 : TS, τ30 = tp_up τ i0 5 x29 → K τ30)))))
theorem mw_X1_growWindow_0 : Cond.fieldLink RX1 22 "TidePost$Caller" "window" "I" ∈ wsX1_growWindow := List.mem_of_getElem? (i := 1) rfl
theorem mw_X1_growWindow_1 : Cond.fieldLink RX1 25 "TidePost$Caller" "threshold" "I" ∈ wsX1_growWindow := List.mem_of_getElem? (i := 2) rfl
theorem mw_X1_growWindow_6 : Cond.methodLink RX1 90 Lib.Math.min.name ∈ wsX1_growWindow := List.mem_of_getElem? (i := 7) rfl
theorem mw_X1_growWindow_7 : Cond.static Lib.Math.min.name ∈ wsX1_growWindow := List.mem_of_getElem? (i := 8) rfl
theorem mw_X1_growWindow_4 : Cond.initialized "java/lang/Math" ∈ wsX1_growWindow := List.mem_of_getElem? (i := 5) rfl
theorem mw_X1_growWindow_8 : Cond.code Lib.Math.min.name Lib.Math.min.code 2 (some .int) ∈ wsX1_growWindow := List.mem_of_getElem? (i := 9) rfl
theorem mw_X1_growWindow_2 : Cond.methodLink RX1 84 Lib.Math.max.name ∈ wsX1_growWindow := List.mem_of_getElem? (i := 3) rfl
theorem mw_X1_growWindow_3 : Cond.static Lib.Math.max.name ∈ wsX1_growWindow := List.mem_of_getElem? (i := 4) rfl
theorem mw_X1_growWindow_5 : Cond.code Lib.Math.max.name Lib.Math.max.code 2 (some .int) ∈ wsX1_growWindow := List.mem_of_getElem? (i := 6) rfl
theorem in_X1_growWindow_X1 : ∀ x ∈ wsX10, x ∈ wsX1_growWindow := fun _ h => List.mem_cons_of_mem _ (List.mem_append_right _ h)
set_option maxHeartbeats 4000000 in
set_option maxRecDepth 100000 in
theorem c_X1_growWindow (w : WPar) (τ : TS) (i0 : Nat) (K : TS → Prop) (h0 : tp_is w i0 1) (hw : wp_X1_growWindow τ i0 K) : MV w yX1_growWindow wsX1_growWindow 1 14 [.ref (w.1 i0)] τ K := by
  refine tp_enterV (cc := cX1_growWindow) (maxL := 2) (own := RX1) (by decide) rfl rfl (Nat.le_of_ble_eq_true rfl) (fun g C hR => ?_)
  show Zt w g τ (0, 0) 0 [(0, .ref (w.1 i0))] []
  unfold wp_X1_growWindow at hw
  refine z_bipush C 8 (by decide) dX1_growWindow_0 ?_
  refine z_istore_n C [(1, .int 8), (0, .ref (w.1 i0))] dX1_growWindow_2 (by decide) rfl ?_
  refine z_aload_n C 1 (by rfl) dX1_growWindow_3 ?_
  refine z_get C (Cn := RX1) (T := TX1) (N := 14) (ci := 1) h0.2 5 (tE1 h0.1) in_X1_growWindow_X1 rfl (by decide) mw_X1_growWindow_0 rfl rfl dX1_growWindow_4 ?_
  refine z_aload_n C 1 (by rfl) dX1_growWindow_7 ?_
  refine z_get C (Cn := RX1) (T := TX1) (N := 14) (ci := 1) h0.2 6 (tE1 h0.1) in_X1_growWindow_X1 rfl (by decide) mw_X1_growWindow_1 rfl rfl dX1_growWindow_8 ?_
  refine z_icmp_lt (tgt := 33) C dX1_growWindow_11 (by decide) (fun c21 => ?_) (fun c21 => ?_)
  · have hw := hw.1 c21
    refine z_aload_n C 1 (by rfl) dX1_growWindow_33 ?_
    refine z_sipush C 256 (by decide) dX1_growWindow_34 ?_
    refine z_aload_n C 1 (by rfl) dX1_growWindow_37 ?_
    refine z_get C (Cn := RX1) (T := TX1) (N := 14) (ci := 1) h0.2 5 (tE1 h0.1) in_X1_growWindow_X1 rfl (by decide) mw_X1_growWindow_0 rfl rfl dX1_growWindow_38 ?_
    refine z_iload_n C 0 (by rfl) dX1_growWindow_41 ?_
    refine z_iadd C dX1_growWindow_42 ?_
    refine z_min C mw_X1_growWindow_6 mw_X1_growWindow_7 mw_X1_growWindow_4 mw_X1_growWindow_8 (Nat.le_of_ble_eq_true rfl) (Nat.le_of_ble_eq_true rfl) (Nat.le_of_ble_eq_true rfl) (Nat.le_of_ble_eq_true rfl) dX1_growWindow_43 ?_
    refine z_top (fun x22 ex22 => ?_)
    have hw := hw x22 ex22
    refine z_put C (Cn := RX1) (T := TX1) (N := 14) (ci := 1) h0.2 5 (tE1 h0.1) (tS1_5 h0.1 _) in_X1_growWindow_X1 tyX1 tyX1_ok nmX1 rfl (by decide) mw_X1_growWindow_0 rfl rfl (tyX1_ok 5 (by decide)) rfl rfl (Nat.le_of_ble_eq_true rfl) dX1_growWindow_46 (fun τ23 eτ23 => ?_)
    have hw := hw τ23 eτ23
    exact hR _ _ _ dX1_growWindow_49 hw
  · have hw := hw.2 c21
    refine z_aload_n C 1 (by rfl) dX1_growWindow_14 ?_
    refine z_get C (Cn := RX1) (T := TX1) (N := 14) (ci := 1) h0.2 5 (tE1 h0.1) in_X1_growWindow_X1 rfl (by decide) mw_X1_growWindow_0 rfl rfl dX1_growWindow_15 ?_
    refine z_if_le (tgt := 33) C dX1_growWindow_18 (by decide) (fun c24 => ?_) (fun c24 => ?_)
    · have hw := hw.1 c24
      refine z_aload_n C 1 (by rfl) dX1_growWindow_33 ?_
      refine z_sipush C 256 (by decide) dX1_growWindow_34 ?_
      refine z_aload_n C 1 (by rfl) dX1_growWindow_37 ?_
      refine z_get C (Cn := RX1) (T := TX1) (N := 14) (ci := 1) h0.2 5 (tE1 h0.1) in_X1_growWindow_X1 rfl (by decide) mw_X1_growWindow_0 rfl rfl dX1_growWindow_38 ?_
      refine z_iload_n C 0 (by rfl) dX1_growWindow_41 ?_
      refine z_iadd C dX1_growWindow_42 ?_
      refine z_min C mw_X1_growWindow_6 mw_X1_growWindow_7 mw_X1_growWindow_4 mw_X1_growWindow_8 (Nat.le_of_ble_eq_true rfl) (Nat.le_of_ble_eq_true rfl) (Nat.le_of_ble_eq_true rfl) (Nat.le_of_ble_eq_true rfl) dX1_growWindow_43 ?_
      refine z_top (fun x25 ex25 => ?_)
      have hw := hw x25 ex25
      refine z_put C (Cn := RX1) (T := TX1) (N := 14) (ci := 1) h0.2 5 (tE1 h0.1) (tS1_5 h0.1 _) in_X1_growWindow_X1 tyX1 tyX1_ok nmX1 rfl (by decide) mw_X1_growWindow_0 rfl rfl (tyX1_ok 5 (by decide)) rfl rfl (Nat.le_of_ble_eq_true rfl) dX1_growWindow_46 (fun τ26 eτ26 => ?_)
      have hw := hw τ26 eτ26
      exact hR _ _ _ dX1_growWindow_49 hw
    · have hw := hw.2 c24
      refine z_iconst C 1 (by decide) dX1_growWindow_21 ?_
      refine z_bipush C 64 (by decide) dX1_growWindow_22 ?_
      refine z_aload_n C 1 (by rfl) dX1_growWindow_24 ?_
      refine z_get C (Cn := RX1) (T := TX1) (N := 14) (ci := 1) h0.2 5 (tE1 h0.1) in_X1_growWindow_X1 rfl (by decide) mw_X1_growWindow_0 rfl rfl dX1_growWindow_25 ?_
      obtain ⟨s27, hw⟩ := hw
      refine z_idiv C s27 dX1_growWindow_28 ?_
      refine z_max C mw_X1_growWindow_2 mw_X1_growWindow_3 mw_X1_growWindow_4 mw_X1_growWindow_5 (Nat.le_of_ble_eq_true rfl) (Nat.le_of_ble_eq_true rfl) (Nat.le_of_ble_eq_true rfl) (Nat.le_of_ble_eq_true rfl) dX1_growWindow_29 ?_
      refine z_top (fun x28 ex28 => ?_)
      have hw := hw x28 ex28
      refine z_istore_n C [(1, .int x28), (0, .ref (w.1 i0))] dX1_growWindow_32 (by decide) rfl ?_
      refine z_aload_n C 1 (by rfl) dX1_growWindow_33 ?_
      refine z_sipush C 256 (by decide) dX1_growWindow_34 ?_
      refine z_aload_n C 1 (by rfl) dX1_growWindow_37 ?_
      refine z_get C (Cn := RX1) (T := TX1) (N := 14) (ci := 1) h0.2 5 (tE1 h0.1) in_X1_growWindow_X1 rfl (by decide) mw_X1_growWindow_0 rfl rfl dX1_growWindow_38 ?_
      refine z_iload_n C 0 (by rfl) dX1_growWindow_41 ?_
      refine z_iadd C dX1_growWindow_42 ?_
      refine z_min C mw_X1_growWindow_6 mw_X1_growWindow_7 mw_X1_growWindow_4 mw_X1_growWindow_8 (Nat.le_of_ble_eq_true rfl) (Nat.le_of_ble_eq_true rfl) (Nat.le_of_ble_eq_true rfl) (Nat.le_of_ble_eq_true rfl) dX1_growWindow_43 ?_
      refine z_top (fun x29 ex29 => ?_)
      have hw := hw x29 ex29
      refine z_put C (Cn := RX1) (T := TX1) (N := 14) (ci := 1) h0.2 5 (tE1 h0.1) (tS1_5 h0.1 _) in_X1_growWindow_X1 tyX1 tyX1_ok nmX1 rfl (by decide) mw_X1_growWindow_0 rfl rfl (tyX1_ok 5 (by decide)) rfl rfl (Nat.le_of_ble_eq_true rfl) dX1_growWindow_46 (fun τ30 eτ30 => ?_)
      have hw := hw τ30 eτ30
      exact hR _ _ _ dX1_growWindow_49 hw
def wp_X1_advance (τ : TS) (i0 : Nat) (x1 : Int32) (x2 : Int32) (x3 : Int32) (K : TS → Int32 → Prop) : Prop :=
  wp_X5_answered τ (i0 + 1) x1 x3 (fun τ21 => ∀ τ22 : TS, τ22 = tp_up τ21 i0 3 x1 → ∀ τ23 : TS, τ23 = tp_up τ22 i0 7 x2 → ∀ τ24 : TS, τ24 = tp_up τ23 i0 8 0 → ∃ J25 : Int32 → Prop, (∀ (x26 : Int32), J25 x26 → (∃ J27 : TS → Prop, (∀ (τ28 : TS), J27 τ28 → (((¬ (τ28 i0 3) = (τ28 i0 4)) → (∀ τ30 : TS, τ30 = tp_up τ28 i0 10 (x3 + (τ28 (i0 + 1) 2)) → (((τ30 i0 3) ≤ (τ30 i0 1)) → (tp_z x26 ∧ K τ30 x26)) ∧ ((¬ (τ30 i0 3) ≤ (τ30 i0 1)) → (∀ τ32 : TS, τ32 = tp_up τ30 i0 0 2 → tp_z x26 ∧ K τ32 x26)))) ∧ (((τ28 i0 3) = (τ28 i0 4)) → (∀ τ33 : TS, τ33 = tp_up τ28 i0 10 (-1) → (((τ33 i0 3) ≤ (τ33 i0 1)) → (tp_z x26 ∧ K τ33 x26)) ∧ ((¬ (τ33 i0 3) ≤ (τ33 i0 1)) → (∀ τ35 : TS, τ35 = tp_up τ33 i0 0 2 → tp_z x26 ∧ K τ35 x26)))))) ∧ (((¬ x26 = 0) → (J27 τ24)) ∧ ((x26 = 0) → (∀ τ37 : TS, τ37 = tp_up τ24 i0 9 (-1) → wp_X1_growWindow τ37 i0 (fun τ38 => J27 τ38)))))) ∧ ((((τ24 i0 9) < x1) → (J25 0)) ∧ ((¬ (τ24 i0 9) < x1) → (J25 1))))
theorem mw_X1_advance_0 : Cond.fieldLink RX1 12 "TidePost$Caller" "timing" "LTidePost$Timing;" ∈ wsX1_advance := List.mem_of_getElem? (i := 1) rfl
theorem mw_X1_advance_1 : Cond.fieldLink RX1 53 "TidePost$Caller" "base" "I" ∈ wsX1_advance := List.mem_of_getElem? (i := 2) rfl
theorem mw_X1_advance_2 : Cond.fieldLink RX1 28 "TidePost$Caller" "room" "I" ∈ wsX1_advance := List.mem_of_getElem? (i := 3) rfl
theorem mw_X1_advance_3 : Cond.fieldLink RX1 78 "TidePost$Caller" "like" "I" ∈ wsX1_advance := List.mem_of_getElem? (i := 4) rfl
theorem mw_X1_advance_4 : Cond.fieldLink RX1 31 "TidePost$Caller" "recover" "I" ∈ wsX1_advance := List.mem_of_getElem? (i := 5) rfl
theorem mw_X1_advance_5 : Cond.fieldLink RX1 50 "TidePost$Caller" "next" "I" ∈ wsX1_advance := List.mem_of_getElem? (i := 6) rfl
theorem mw_X1_advance_6 : Cond.fieldLink RX1 37 "TidePost$Timing" "timeout" "I" ∈ wsX1_advance := List.mem_of_getElem? (i := 7) rfl
theorem mw_X1_advance_7 : Cond.fieldLink RX1 40 "TidePost$Caller" "timer" "I" ∈ wsX1_advance := List.mem_of_getElem? (i := 8) rfl
theorem mw_X1_advance_8 : Cond.fieldLink RX1 47 "TidePost$Caller" "given" "I" ∈ wsX1_advance := List.mem_of_getElem? (i := 9) rfl
theorem mw_X1_advance_9 : Cond.fieldLink RX1 18 "TidePost$Caller" "state" "I" ∈ wsX1_advance := List.mem_of_getElem? (i := 10) rfl
theorem in_X1_advance_X1 : ∀ x ∈ wsX10, x ∈ wsX1_advance := fun _ h => List.mem_cons_of_mem _ (List.mem_append_left _ (List.mem_append_right _ h))
theorem in_X1_advance_X5 : ∀ x ∈ wsX50, x ∈ wsX1_advance := fun _ h => List.mem_cons_of_mem _ (List.mem_append_right _ h)
set_option maxHeartbeats 4000000 in
set_option maxRecDepth 100000 in
theorem c_X1_advance (w : WPar) (τ : TS) (i0 : Nat) (x1 : Int32) (x2 : Int32) (x3 : Int32) (K : TS → Int32 → Prop) (h0 : tp_is w i0 1) (hw : wp_X1_advance τ i0 x1 x2 x3 K) : MI w yX1_advance wsX1_advance 2 39 [.ref (w.1 i0), .int x1, .int x2, .int x3] τ K := by
  refine tp_enterZ (cc := cX1_advance) (maxL := 5) (own := RX1) (by decide) rfl rfl (Nat.le_of_ble_eq_true rfl) (fun g C hR => ?_)
  show Zt w g τ (0, 0) 0 [(0, .ref (w.1 i0)), (1, .int x1), (2, .int x2), (3, .int x3)] []
  unfold wp_X1_advance at hw
  refine z_aload_n C 0 (by rfl) dX1_advance_0 ?_
  refine z_get C (Cn := RX1) (T := TX1) (N := 14) (ci := 1) h0.2 13 (tE1 h0.1) in_X1_advance_X1 rfl (by decide) mw_X1_advance_0 rfl rfl dX1_advance_1 ?_
  refine z_iload_n C 1 (by rfl) dX1_advance_4 ?_
  refine z_iload_n C 3 (by rfl) dX1_advance_5 ?_
  refine zv_v C (As := [.int x1, .int x3]) (bytes := cX5_answered) (maxL := 5) (F1 := 1) (L1 := 15) (c_X5_answered w _ (i0 + 1) x1 x3 _ (tR1_13 h0) hw) (tR1_13 h0).2 (tE4 (tR1_13 h0).1) rfl 2 gX1_advance_X5_answered rfl (by decide +kernel) ⟨Nat.le_of_ble_eq_true rfl, Nat.le_of_ble_eq_true rfl⟩ rfl (Nat.le_of_ble_eq_true rfl) ⟨Nat.le_of_ble_eq_true rfl, Nat.le_of_ble_eq_true rfl⟩ rfl dX1_advance_6 (fun τ21 hw => ?_)
  refine z_aload_n C 0 (by rfl) dX1_advance_9 ?_
  refine z_iload_n C 1 (by rfl) dX1_advance_10 ?_
  refine z_put C (Cn := RX1) (T := TX1) (N := 14) (ci := 1) h0.2 3 (tE1 h0.1) (tS1_3 h0.1 _) in_X1_advance_X1 tyX1 tyX1_ok nmX1 rfl (by decide) mw_X1_advance_1 rfl rfl (tyX1_ok 3 (by decide)) rfl rfl (Nat.le_of_ble_eq_true rfl) dX1_advance_11 (fun τ22 eτ22 => ?_)
  have hw := hw τ22 eτ22
  refine z_aload_n C 0 (by rfl) dX1_advance_14 ?_
  refine z_iload_n C 2 (by rfl) dX1_advance_15 ?_
  refine z_put C (Cn := RX1) (T := TX1) (N := 14) (ci := 1) h0.2 7 (tE1 h0.1) (tS1_7 h0.1 _) in_X1_advance_X1 tyX1 tyX1_ok nmX1 rfl (by decide) mw_X1_advance_2 rfl rfl (tyX1_ok 7 (by decide)) rfl rfl (Nat.le_of_ble_eq_true rfl) dX1_advance_16 (fun τ23 eτ23 => ?_)
  have hw := hw τ23 eτ23
  refine z_aload_n C 0 (by rfl) dX1_advance_19 ?_
  refine z_iconst C 0 (by decide) dX1_advance_20 ?_
  refine z_put C (Cn := RX1) (T := TX1) (N := 14) (ci := 1) h0.2 8 (tE1 h0.1) (tS1_8 h0.1 _) in_X1_advance_X1 tyX1 tyX1_ok nmX1 rfl (by decide) mw_X1_advance_3 rfl rfl (tyX1_ok 8 (by decide)) rfl rfl (Nat.le_of_ble_eq_true rfl) dX1_advance_21 (fun τ24 eτ24 => ?_)
  have hw := hw τ24 eτ24
  refine z_iload_n C 1 (by rfl) dX1_advance_24 ?_
  refine z_aload_n C 0 (by rfl) dX1_advance_25 ?_
  refine z_get C (Cn := RX1) (T := TX1) (N := 14) (ci := 1) h0.2 9 (tE1 h0.1) in_X1_advance_X1 rfl (by decide) mw_X1_advance_4 rfl rfl dX1_advance_26 ?_
  obtain ⟨J25, hJ25, hw⟩ := hw
  have jn25 : ∀ (x26 : Int32), J25 x26 → Zt w g τ24 (0, 0) 37 [(0, .ref (w.1 i0)), (3, .int x3)] [.int x26] := by
    intro x26 hj25
    have hw := hJ25 x26 hj25
    refine z_istore C [(4, .int x26), (0, .ref (w.1 i0)), (3, .int x3)] dX1_advance_37 (by decide) rfl ?_
    refine z_iload C 0 (by rfl) dX1_advance_39 ?_
    obtain ⟨J27, hJ27, hw⟩ := hw
    have jn27 : ∀ (τ28 : TS), J27 τ28 → Zt w g τ28 (0, 0) 53 [(0, .ref (w.1 i0)), (3, .int x3), (4, .int x26)] [] := by
      intro τ28 hj27
      have hw := hJ27 τ28 hj27
      refine z_aload_n C 0 (by rfl) dX1_advance_53 ?_
      refine z_aload_n C 0 (by rfl) dX1_advance_54 ?_
      refine z_get C (Cn := RX1) (T := TX1) (N := 14) (ci := 1) h0.2 3 (tE1 h0.1) in_X1_advance_X1 rfl (by decide) mw_X1_advance_1 rfl rfl dX1_advance_55 ?_
      refine z_aload_n C 0 (by rfl) dX1_advance_58 ?_
      refine z_get C (Cn := RX1) (T := TX1) (N := 14) (ci := 1) h0.2 4 (tE1 h0.1) in_X1_advance_X1 rfl (by decide) mw_X1_advance_5 rfl rfl dX1_advance_59 ?_
      refine z_icmp_ne (tgt := 69) C dX1_advance_62 (by decide) (fun c29 => ?_) (fun c29 => ?_)
      · have hw := hw.1 c29
        refine z_iload_n C 1 (by rfl) dX1_advance_69 ?_
        refine z_aload_n C 0 (by rfl) dX1_advance_70 ?_
        refine z_get C (Cn := RX1) (T := TX1) (N := 14) (ci := 1) h0.2 13 (tE1 h0.1) in_X1_advance_X1 rfl (by decide) mw_X1_advance_0 rfl rfl dX1_advance_71 ?_
        refine z_get C (Cn := RX5) (T := TX5) (N := 5) (ci := 4) (tR1_13 h0).2 2 (tE4 (tR1_13 h0).1) in_X1_advance_X5 rfl (by decide) mw_X1_advance_6 rfl rfl dX1_advance_74 ?_
        refine z_iadd C dX1_advance_77 ?_
        refine z_put C (Cn := RX1) (T := TX1) (N := 14) (ci := 1) h0.2 10 (tE1 h0.1) (tS1_10 h0.1 _) in_X1_advance_X1 tyX1 tyX1_ok nmX1 rfl (by decide) mw_X1_advance_7 rfl rfl (tyX1_ok 10 (by decide)) rfl rfl (Nat.le_of_ble_eq_true rfl) dX1_advance_78 (fun τ30 eτ30 => ?_)
        have hw := hw τ30 eτ30
        refine z_aload_n C 0 (by rfl) dX1_advance_81 ?_
        refine z_get C (Cn := RX1) (T := TX1) (N := 14) (ci := 1) h0.2 3 (tE1 h0.1) in_X1_advance_X1 rfl (by decide) mw_X1_advance_1 rfl rfl dX1_advance_82 ?_
        refine z_aload_n C 0 (by rfl) dX1_advance_85 ?_
        refine z_get C (Cn := RX1) (T := TX1) (N := 14) (ci := 1) h0.2 1 (tE1 h0.1) in_X1_advance_X1 rfl (by decide) mw_X1_advance_8 rfl rfl dX1_advance_86 ?_
        refine z_icmp_le (tgt := 97) C dX1_advance_89 (by decide) (fun c31 => ?_) (fun c31 => ?_)
        · have hw := hw.1 c31
          refine z_iload C 2 (by rfl) dX1_advance_97 ?_
          exact hR _ _ _ _ dX1_advance_99 hw.1.1 hw.2
        · have hw := hw.2 c31
          refine z_aload_n C 0 (by rfl) dX1_advance_92 ?_
          refine z_iconst C 2 (by decide) dX1_advance_93 ?_
          refine z_put C (Cn := RX1) (T := TX1) (N := 14) (ci := 1) h0.2 0 (tE1 h0.1) (tS1_0 h0.1 _) in_X1_advance_X1 tyX1 tyX1_ok nmX1 rfl (by decide) mw_X1_advance_9 rfl rfl (tyX1_ok 0 (by decide)) rfl rfl (Nat.le_of_ble_eq_true rfl) dX1_advance_94 (fun τ32 eτ32 => ?_)
          have hw := hw τ32 eτ32
          refine z_iload C 2 (by rfl) dX1_advance_97 ?_
          exact hR _ _ _ _ dX1_advance_99 hw.1.1 hw.2
      · have hw := hw.2 c29
        refine z_iconst C (-1) (by decide) dX1_advance_65 ?_
        refine z_goto (tgt := 78) C dX1_advance_66 (by decide) ?_
        refine z_put C (Cn := RX1) (T := TX1) (N := 14) (ci := 1) h0.2 10 (tE1 h0.1) (tS1_10 h0.1 _) in_X1_advance_X1 tyX1 tyX1_ok nmX1 rfl (by decide) mw_X1_advance_7 rfl rfl (tyX1_ok 10 (by decide)) rfl rfl (Nat.le_of_ble_eq_true rfl) dX1_advance_78 (fun τ33 eτ33 => ?_)
        have hw := hw τ33 eτ33
        refine z_aload_n C 0 (by rfl) dX1_advance_81 ?_
        refine z_get C (Cn := RX1) (T := TX1) (N := 14) (ci := 1) h0.2 3 (tE1 h0.1) in_X1_advance_X1 rfl (by decide) mw_X1_advance_1 rfl rfl dX1_advance_82 ?_
        refine z_aload_n C 0 (by rfl) dX1_advance_85 ?_
        refine z_get C (Cn := RX1) (T := TX1) (N := 14) (ci := 1) h0.2 1 (tE1 h0.1) in_X1_advance_X1 rfl (by decide) mw_X1_advance_8 rfl rfl dX1_advance_86 ?_
        refine z_icmp_le (tgt := 97) C dX1_advance_89 (by decide) (fun c34 => ?_) (fun c34 => ?_)
        · have hw := hw.1 c34
          refine z_iload C 2 (by rfl) dX1_advance_97 ?_
          exact hR _ _ _ _ dX1_advance_99 hw.1.1 hw.2
        · have hw := hw.2 c34
          refine z_aload_n C 0 (by rfl) dX1_advance_92 ?_
          refine z_iconst C 2 (by decide) dX1_advance_93 ?_
          refine z_put C (Cn := RX1) (T := TX1) (N := 14) (ci := 1) h0.2 0 (tE1 h0.1) (tS1_0 h0.1 _) in_X1_advance_X1 tyX1 tyX1_ok nmX1 rfl (by decide) mw_X1_advance_9 rfl rfl (tyX1_ok 0 (by decide)) rfl rfl (Nat.le_of_ble_eq_true rfl) dX1_advance_94 (fun τ35 eτ35 => ?_)
          have hw := hw τ35 eτ35
          refine z_iload C 2 (by rfl) dX1_advance_97 ?_
          exact hR _ _ _ _ dX1_advance_99 hw.1.1 hw.2
    refine z_if_ne (tgt := 53) C dX1_advance_41 (by decide) (fun c36 => ?_) (fun c36 => ?_)
    · have hw := hw.1 c36
      refine z_sub [1, 2, 0] [(0, .ref (w.1 i0)), (3, .int x3), (4, .int x26)] rfl ?_
      exact jn27 τ24 hw
    · have hw := hw.2 c36
      refine z_aload_n C 1 (by rfl) dX1_advance_44 ?_
      refine z_iconst C (-1) (by decide) dX1_advance_45 ?_
      refine z_put C (Cn := RX1) (T := TX1) (N := 14) (ci := 1) h0.2 9 (tE1 h0.1) (tS1_9 h0.1 _) in_X1_advance_X1 tyX1 tyX1_ok nmX1 rfl (by decide) mw_X1_advance_4 rfl rfl (tyX1_ok 9 (by decide)) rfl rfl (Nat.le_of_ble_eq_true rfl) dX1_advance_46 (fun τ37 eτ37 => ?_)
      have hw := hw τ37 eτ37
      refine z_aload_n C 1 (by rfl) dX1_advance_49 ?_
      refine zv_v C (As := []) (bytes := cX1_growWindow) (maxL := 2) (F1 := 1) (L1 := 14) (c_X1_growWindow w _ i0 _ h0 hw) h0.2 (tE1 h0.1) rfl 0 gX1_advance_X1_growWindow rfl (by decide +kernel) ⟨Nat.le_of_ble_eq_true rfl, Nat.le_of_ble_eq_true rfl⟩ rfl (Nat.le_of_ble_eq_true rfl) ⟨Nat.le_of_ble_eq_true rfl, Nat.le_of_ble_eq_true rfl⟩ rfl dX1_advance_50 (fun τ38 hw => ?_)
      refine z_sub [1, 2, 0] [(0, .ref (w.1 i0)), (3, .int x3), (4, .int x26)] rfl ?_
      exact jn27 τ38 hw
  refine z_icmp_gt (tgt := 36) C dX1_advance_29 (by decide) (fun c39 => ?_) (fun c39 => ?_)
  · have hw := hw.1 c39
    refine z_iconst C 0 (by decide) dX1_advance_36 ?_
    refine z_sub [0, 3] [(0, .ref (w.1 i0)), (3, .int x3)] rfl ?_
    exact jn25 0 hw
  · have hw := hw.2 c39
    refine z_iconst C 1 (by decide) dX1_advance_32 ?_
    refine z_goto (tgt := 37) C dX1_advance_33 (by decide) ?_
    refine z_sub [0, 3] [(0, .ref (w.1 i0)), (3, .int x3)] rfl ?_
    exact jn25 1 hw
def wp_X1_startRecovery (τ : TS) (i0 : Nat) (K : TS → Prop) : Prop :=
  ∀ τ21 : TS, τ21 = tp_up τ i0 9 ((τ i0 4) - 1) → ∀ x22 : Int32, x22 = (if 16 < (((τ21 i0 4) - (τ21 i0 3)) * 4) then (((τ21 i0 4) - (τ21 i0 3)) * 4) else 16) → ∀ τ23 : TS, τ23 = tp_up τ21 i0 6 x22 → K τ23
theorem mw_X1_startRecovery_0 : Cond.fieldLink RX1 50 "TidePost$Caller" "next" "I" ∈ wsX1_startRecovery := List.mem_of_getElem? (i := 1) rfl
theorem mw_X1_startRecovery_1 : Cond.fieldLink RX1 31 "TidePost$Caller" "recover" "I" ∈ wsX1_startRecovery := List.mem_of_getElem? (i := 2) rfl
theorem mw_X1_startRecovery_2 : Cond.fieldLink RX1 53 "TidePost$Caller" "base" "I" ∈ wsX1_startRecovery := List.mem_of_getElem? (i := 3) rfl
theorem mw_X1_startRecovery_3 : Cond.methodLink RX1 84 Lib.Math.max.name ∈ wsX1_startRecovery := List.mem_of_getElem? (i := 4) rfl
theorem mw_X1_startRecovery_4 : Cond.static Lib.Math.max.name ∈ wsX1_startRecovery := List.mem_of_getElem? (i := 5) rfl
theorem mw_X1_startRecovery_5 : Cond.initialized "java/lang/Math" ∈ wsX1_startRecovery := List.mem_of_getElem? (i := 6) rfl
theorem mw_X1_startRecovery_6 : Cond.code Lib.Math.max.name Lib.Math.max.code 2 (some .int) ∈ wsX1_startRecovery := List.mem_of_getElem? (i := 7) rfl
theorem mw_X1_startRecovery_7 : Cond.fieldLink RX1 25 "TidePost$Caller" "threshold" "I" ∈ wsX1_startRecovery := List.mem_of_getElem? (i := 8) rfl
theorem in_X1_startRecovery_X1 : ∀ x ∈ wsX10, x ∈ wsX1_startRecovery := fun _ h => List.mem_cons_of_mem _ (List.mem_append_right _ h)
set_option maxHeartbeats 4000000 in
set_option maxRecDepth 100000 in
theorem c_X1_startRecovery (w : WPar) (τ : TS) (i0 : Nat) (K : TS → Prop) (h0 : tp_is w i0 1) (hw : wp_X1_startRecovery τ i0 K) : MV w yX1_startRecovery wsX1_startRecovery 1 14 [.ref (w.1 i0)] τ K := by
  refine tp_enterV (cc := cX1_startRecovery) (maxL := 1) (own := RX1) (by decide) rfl rfl (Nat.le_of_ble_eq_true rfl) (fun g C hR => ?_)
  show Zt w g τ (0, 0) 0 [(0, .ref (w.1 i0))] []
  unfold wp_X1_startRecovery at hw
  refine z_aload_n C 0 (by rfl) dX1_startRecovery_0 ?_
  refine z_aload_n C 0 (by rfl) dX1_startRecovery_1 ?_
  refine z_get C (Cn := RX1) (T := TX1) (N := 14) (ci := 1) h0.2 4 (tE1 h0.1) in_X1_startRecovery_X1 rfl (by decide) mw_X1_startRecovery_0 rfl rfl dX1_startRecovery_2 ?_
  refine z_iconst C 1 (by decide) dX1_startRecovery_5 ?_
  refine z_isub C dX1_startRecovery_6 ?_
  refine z_put C (Cn := RX1) (T := TX1) (N := 14) (ci := 1) h0.2 9 (tE1 h0.1) (tS1_9 h0.1 _) in_X1_startRecovery_X1 tyX1 tyX1_ok nmX1 rfl (by decide) mw_X1_startRecovery_1 rfl rfl (tyX1_ok 9 (by decide)) rfl rfl (Nat.le_of_ble_eq_true rfl) dX1_startRecovery_7 (fun τ21 eτ21 => ?_)
  have hw := hw τ21 eτ21
  refine z_aload_n C 0 (by rfl) dX1_startRecovery_10 ?_
  refine z_bipush C 16 (by decide) dX1_startRecovery_11 ?_
  refine z_aload_n C 0 (by rfl) dX1_startRecovery_13 ?_
  refine z_get C (Cn := RX1) (T := TX1) (N := 14) (ci := 1) h0.2 4 (tE1 h0.1) in_X1_startRecovery_X1 rfl (by decide) mw_X1_startRecovery_0 rfl rfl dX1_startRecovery_14 ?_
  refine z_aload_n C 0 (by rfl) dX1_startRecovery_17 ?_
  refine z_get C (Cn := RX1) (T := TX1) (N := 14) (ci := 1) h0.2 3 (tE1 h0.1) in_X1_startRecovery_X1 rfl (by decide) mw_X1_startRecovery_2 rfl rfl dX1_startRecovery_18 ?_
  refine z_isub C dX1_startRecovery_21 ?_
  refine z_iconst C 4 (by decide) dX1_startRecovery_22 ?_
  refine z_imul C dX1_startRecovery_23 ?_
  refine z_max C mw_X1_startRecovery_3 mw_X1_startRecovery_4 mw_X1_startRecovery_5 mw_X1_startRecovery_6 (Nat.le_of_ble_eq_true rfl) (Nat.le_of_ble_eq_true rfl) (Nat.le_of_ble_eq_true rfl) (Nat.le_of_ble_eq_true rfl) dX1_startRecovery_24 ?_
  refine z_top (fun x22 ex22 => ?_)
  have hw := hw x22 ex22
  refine z_put C (Cn := RX1) (T := TX1) (N := 14) (ci := 1) h0.2 6 (tE1 h0.1) (tS1_6 h0.1 _) in_X1_startRecovery_X1 tyX1 tyX1_ok nmX1 rfl (by decide) mw_X1_startRecovery_7 rfl rfl (tyX1_ok 6 (by decide)) rfl rfl (Nat.le_of_ble_eq_true rfl) dX1_startRecovery_27 (fun τ23 eτ23 => ?_)
  have hw := hw τ23 eτ23
  exact hR _ _ _ dX1_startRecovery_30 hw
def wp_X1_repeated (τ : TS) (i0 : Nat) (x1 : Int32) (K : TS → Int32 → Prop) : Prop :=
  ∃ J21 : Prop, (J21  → (∀ τ22 : TS, τ22 = tp_up τ i0 7 x1 → ∀ τ23 : TS, τ23 = tp_up τ22 i0 8 0 → ((¬ (τ23 i0 8) = 3) → (K τ23 0)) ∧ (((τ23 i0 8) = 3) → ((((τ23 i0 9) = (-1)) → (wp_X1_startRecovery τ23 i0 (fun τ26 => ∀ τ27 : TS, τ27 = tp_up τ26 i0 5 (τ26 i0 6) → K τ27 1))) ∧ ((¬ (τ23 i0 9) = (-1)) → (K τ23 0)))))) ∧ (((¬ x1 = (τ i0 7)) → J21) ∧ ((x1 = (τ i0 7)) → (((x1 ≤ 0) → J21) ∧ ((¬ x1 ≤ 0) → (∀ τ30 : TS, τ30 = tp_up τ i0 8 ((τ i0 8) + 1) → ((¬ (τ30 i0 8) = 3) → (K τ30 0)) ∧ (((τ30 i0 8) = 3) → ((((τ30 i0 9) = (-1)) → (wp_X1_startRecovery τ30 i0 (fun τ33 => ∀ τ34 : TS, τ34 = tp_up τ33 i0 5 (τ33 i0 6) → K τ34 1))) ∧ ((¬ (τ30 i0 9) = (-1)) → (K τ30 0)))))))))
theorem mw_X1_repeated_0 : Cond.fieldLink RX1 28 "TidePost$Caller" "room" "I" ∈ wsX1_repeated := List.mem_of_getElem? (i := 1) rfl
theorem mw_X1_repeated_1 : Cond.fieldLink RX1 78 "TidePost$Caller" "like" "I" ∈ wsX1_repeated := List.mem_of_getElem? (i := 2) rfl
theorem mw_X1_repeated_2 : Cond.fieldLink RX1 31 "TidePost$Caller" "recover" "I" ∈ wsX1_repeated := List.mem_of_getElem? (i := 3) rfl
theorem mw_X1_repeated_3 : Cond.fieldLink RX1 25 "TidePost$Caller" "threshold" "I" ∈ wsX1_repeated := List.mem_of_getElem? (i := 4) rfl
theorem mw_X1_repeated_4 : Cond.fieldLink RX1 22 "TidePost$Caller" "window" "I" ∈ wsX1_repeated := List.mem_of_getElem? (i := 5) rfl
theorem in_X1_repeated_X1 : ∀ x ∈ wsX10, x ∈ wsX1_repeated := fun _ h => List.mem_cons_of_mem _ (List.mem_append_right _ h)
set_option maxHeartbeats 4000000 in
set_option maxRecDepth 100000 in
theorem c_X1_repeated (w : WPar) (τ : TS) (i0 : Nat) (x1 : Int32) (K : TS → Int32 → Prop) (h0 : tp_is w i0 1) (hw : wp_X1_repeated τ i0 x1 K) : MI w yX1_repeated wsX1_repeated 2 34 [.ref (w.1 i0), .int x1] τ K := by
  refine tp_enterZ (cc := cX1_repeated) (maxL := 2) (own := RX1) (by decide) rfl rfl (Nat.le_of_ble_eq_true rfl) (fun g C hR => ?_)
  show Zt w g τ (0, 0) 0 [(0, .ref (w.1 i0)), (1, .int x1)] []
  unfold wp_X1_repeated at hw
  refine z_iload_n C 1 (by rfl) dX1_repeated_0 ?_
  refine z_aload_n C 0 (by rfl) dX1_repeated_1 ?_
  refine z_get C (Cn := RX1) (T := TX1) (N := 14) (ci := 1) h0.2 7 (tE1 h0.1) in_X1_repeated_X1 rfl (by decide) mw_X1_repeated_0 rfl rfl dX1_repeated_2 ?_
  obtain ⟨J21, hJ21, hw⟩ := hw
  have jn21 : J21  → Zt w g τ (0, 0) 25 [(0, .ref (w.1 i0)), (1, .int x1)] [] := by
    intro  hj21
    have hw := hJ21  hj21
    refine z_aload_n C 0 (by rfl) dX1_repeated_25 ?_
    refine z_iload_n C 1 (by rfl) dX1_repeated_26 ?_
    refine z_put C (Cn := RX1) (T := TX1) (N := 14) (ci := 1) h0.2 7 (tE1 h0.1) (tS1_7 h0.1 _) in_X1_repeated_X1 tyX1 tyX1_ok nmX1 rfl (by decide) mw_X1_repeated_0 rfl rfl (tyX1_ok 7 (by decide)) rfl rfl (Nat.le_of_ble_eq_true rfl) dX1_repeated_27 (fun τ22 eτ22 => ?_)
    have hw := hw τ22 eτ22
    refine z_aload_n C 0 (by rfl) dX1_repeated_30 ?_
    refine z_iconst C 0 (by decide) dX1_repeated_31 ?_
    refine z_put C (Cn := RX1) (T := TX1) (N := 14) (ci := 1) h0.2 8 (tE1 h0.1) (tS1_8 h0.1 _) in_X1_repeated_X1 tyX1 tyX1_ok nmX1 rfl (by decide) mw_X1_repeated_1 rfl rfl (tyX1_ok 8 (by decide)) rfl rfl (Nat.le_of_ble_eq_true rfl) dX1_repeated_32 (fun τ23 eτ23 => ?_)
    have hw := hw τ23 eτ23
    refine z_aload_n C 0 (by rfl) dX1_repeated_35 ?_
    refine z_get C (Cn := RX1) (T := TX1) (N := 14) (ci := 1) h0.2 8 (tE1 h0.1) in_X1_repeated_X1 rfl (by decide) mw_X1_repeated_1 rfl rfl dX1_repeated_36 ?_
    refine z_iconst C 3 (by decide) dX1_repeated_39 ?_
    refine z_icmp_ne (tgt := 51) C dX1_repeated_40 (by decide) (fun c24 => ?_) (fun c24 => ?_)
    · have hw := hw.1 c24
      refine z_iconst C 0 (by decide) dX1_repeated_51 ?_
      exact hR _ _ _ _ dX1_repeated_52 rfl hw
    · have hw := hw.2 c24
      refine z_aload_n C 0 (by rfl) dX1_repeated_43 ?_
      refine z_get C (Cn := RX1) (T := TX1) (N := 14) (ci := 1) h0.2 9 (tE1 h0.1) in_X1_repeated_X1 rfl (by decide) mw_X1_repeated_2 rfl rfl dX1_repeated_44 ?_
      refine z_iconst C (-1) (by decide) dX1_repeated_47 ?_
      refine z_icmp_eq (tgt := 53) C dX1_repeated_48 (by decide) (fun c25 => ?_) (fun c25 => ?_)
      · have hw := hw.1 c25
        refine z_aload_n C 0 (by rfl) dX1_repeated_53 ?_
        refine zv_v C (As := []) (bytes := cX1_startRecovery) (maxL := 1) (F1 := 1) (L1 := 14) (c_X1_startRecovery w _ i0 _ h0 hw) h0.2 (tE1 h0.1) rfl 0 gX1_repeated_X1_startRecovery rfl (by decide +kernel) ⟨Nat.le_of_ble_eq_true rfl, Nat.le_of_ble_eq_true rfl⟩ rfl (Nat.le_of_ble_eq_true rfl) ⟨Nat.le_of_ble_eq_true rfl, Nat.le_of_ble_eq_true rfl⟩ rfl dX1_repeated_54 (fun τ26 hw => ?_)
        refine z_aload_n C 0 (by rfl) dX1_repeated_57 ?_
        refine z_aload_n C 0 (by rfl) dX1_repeated_58 ?_
        refine z_get C (Cn := RX1) (T := TX1) (N := 14) (ci := 1) h0.2 6 (tE1 h0.1) in_X1_repeated_X1 rfl (by decide) mw_X1_repeated_3 rfl rfl dX1_repeated_59 ?_
        refine z_put C (Cn := RX1) (T := TX1) (N := 14) (ci := 1) h0.2 5 (tE1 h0.1) (tS1_5 h0.1 _) in_X1_repeated_X1 tyX1 tyX1_ok nmX1 rfl (by decide) mw_X1_repeated_4 rfl rfl (tyX1_ok 5 (by decide)) rfl rfl (Nat.le_of_ble_eq_true rfl) dX1_repeated_62 (fun τ27 eτ27 => ?_)
        have hw := hw τ27 eτ27
        refine z_iconst C 1 (by decide) dX1_repeated_65 ?_
        exact hR _ _ _ _ dX1_repeated_66 rfl hw
      · have hw := hw.2 c25
        refine z_iconst C 0 (by decide) dX1_repeated_51 ?_
        exact hR _ _ _ _ dX1_repeated_52 rfl hw
  refine z_icmp_ne (tgt := 25) C dX1_repeated_5 (by decide) (fun c28 => ?_) (fun c28 => ?_)
  · have hw := hw.1 c28
    exact jn21 hw
  · have hw := hw.2 c28
    refine z_iload_n C 1 (by rfl) dX1_repeated_8 ?_
    refine z_if_le (tgt := 25) C dX1_repeated_9 (by decide) (fun c29 => ?_) (fun c29 => ?_)
    · have hw := hw.1 c29
      exact jn21 hw
    · have hw := hw.2 c29
      refine z_aload_n C 0 (by rfl) dX1_repeated_12 ?_
      refine z_dup C rfl dX1_repeated_13 ?_
      refine z_get C (Cn := RX1) (T := TX1) (N := 14) (ci := 1) h0.2 8 (tE1 h0.1) in_X1_repeated_X1 rfl (by decide) mw_X1_repeated_1 rfl rfl dX1_repeated_14 ?_
      refine z_iconst C 1 (by decide) dX1_repeated_17 ?_
      refine z_iadd C dX1_repeated_18 ?_
      refine z_put C (Cn := RX1) (T := TX1) (N := 14) (ci := 1) h0.2 8 (tE1 h0.1) (tS1_8 h0.1 _) in_X1_repeated_X1 tyX1 tyX1_ok nmX1 rfl (by decide) mw_X1_repeated_1 rfl rfl (tyX1_ok 8 (by decide)) rfl rfl (Nat.le_of_ble_eq_true rfl) dX1_repeated_19 (fun τ30 eτ30 => ?_)
      have hw := hw τ30 eτ30
      refine z_goto (tgt := 35) C dX1_repeated_22 (by decide) ?_
      refine z_aload_n C 0 (by rfl) dX1_repeated_35 ?_
      refine z_get C (Cn := RX1) (T := TX1) (N := 14) (ci := 1) h0.2 8 (tE1 h0.1) in_X1_repeated_X1 rfl (by decide) mw_X1_repeated_1 rfl rfl dX1_repeated_36 ?_
      refine z_iconst C 3 (by decide) dX1_repeated_39 ?_
      refine z_icmp_ne (tgt := 51) C dX1_repeated_40 (by decide) (fun c31 => ?_) (fun c31 => ?_)
      · have hw := hw.1 c31
        refine z_iconst C 0 (by decide) dX1_repeated_51 ?_
        exact hR _ _ _ _ dX1_repeated_52 rfl hw
      · have hw := hw.2 c31
        refine z_aload_n C 0 (by rfl) dX1_repeated_43 ?_
        refine z_get C (Cn := RX1) (T := TX1) (N := 14) (ci := 1) h0.2 9 (tE1 h0.1) in_X1_repeated_X1 rfl (by decide) mw_X1_repeated_2 rfl rfl dX1_repeated_44 ?_
        refine z_iconst C (-1) (by decide) dX1_repeated_47 ?_
        refine z_icmp_eq (tgt := 53) C dX1_repeated_48 (by decide) (fun c32 => ?_) (fun c32 => ?_)
        · have hw := hw.1 c32
          refine z_aload_n C 0 (by rfl) dX1_repeated_53 ?_
          refine zv_v C (As := []) (bytes := cX1_startRecovery) (maxL := 1) (F1 := 1) (L1 := 14) (c_X1_startRecovery w _ i0 _ h0 hw) h0.2 (tE1 h0.1) rfl 0 gX1_repeated_X1_startRecovery rfl (by decide +kernel) ⟨Nat.le_of_ble_eq_true rfl, Nat.le_of_ble_eq_true rfl⟩ rfl (Nat.le_of_ble_eq_true rfl) ⟨Nat.le_of_ble_eq_true rfl, Nat.le_of_ble_eq_true rfl⟩ rfl dX1_repeated_54 (fun τ33 hw => ?_)
          refine z_aload_n C 0 (by rfl) dX1_repeated_57 ?_
          refine z_aload_n C 0 (by rfl) dX1_repeated_58 ?_
          refine z_get C (Cn := RX1) (T := TX1) (N := 14) (ci := 1) h0.2 6 (tE1 h0.1) in_X1_repeated_X1 rfl (by decide) mw_X1_repeated_3 rfl rfl dX1_repeated_59 ?_
          refine z_put C (Cn := RX1) (T := TX1) (N := 14) (ci := 1) h0.2 5 (tE1 h0.1) (tS1_5 h0.1 _) in_X1_repeated_X1 tyX1 tyX1_ok nmX1 rfl (by decide) mw_X1_repeated_4 rfl rfl (tyX1_ok 5 (by decide)) rfl rfl (Nat.le_of_ble_eq_true rfl) dX1_repeated_62 (fun τ34 eτ34 => ?_)
          have hw := hw τ34 eτ34
          refine z_iconst C 1 (by decide) dX1_repeated_65 ?_
          exact hR _ _ _ _ dX1_repeated_66 rfl hw
        · have hw := hw.2 c32
          refine z_iconst C 0 (by decide) dX1_repeated_51 ?_
          exact hR _ _ _ _ dX1_repeated_52 rfl hw
def wp_X1_takeAnswer (τ : TS) (i0 : Nat) (x1 : Int32) (x2 : Int32) (x3 : Int32) (K : TS → Int32 → Prop) : Prop :=
  ((¬ (τ i0 0) = 0) → (((¬ (τ i0 0) = 1) → (K τ 0)) ∧ (((τ i0 0) = 1) → ((((τ i0 3) ≤ x1) → (∀ τ24 : TS, τ24 = tp_up τ i0 11 0 → ((x1 ≤ (τ24 i0 3)) → ((((τ24 i0 4) ≤ (τ24 i0 3)) → (∀ τ27 : TS, τ27 = tp_up τ24 i0 7 x2 → K τ27 0)) ∧ ((¬ (τ24 i0 4) ≤ (τ24 i0 3)) → (wp_X1_repeated τ24 i0 x2 (fun τ28 x29 => tp_z x29 ∧ K τ28 x29))))) ∧ ((¬ x1 ≤ (τ24 i0 3)) → (wp_X1_advance τ24 i0 x1 x2 x3 (fun τ30 x31 => tp_z x31 ∧ K τ30 x31))))) ∧ ((¬ (τ i0 3) ≤ x1) → (K τ 0)))))) ∧ (((τ i0 0) = 0) → (∀ τ32 : TS, τ32 = tp_up τ i0 0 1 → ∀ τ33 : TS, τ33 = tp_up τ32 i0 11 0 → ∀ τ34 : TS, τ34 = tp_up τ33 i0 10 (-1) → K τ34 0))
theorem mw_X1_takeAnswer_0 : Cond.fieldLink RX1 18 "TidePost$Caller" "state" "I" ∈ wsX1_takeAnswer := List.mem_of_getElem? (i := 1) rfl
theorem mw_X1_takeAnswer_3 : Cond.fieldLink RX1 53 "TidePost$Caller" "base" "I" ∈ wsX1_takeAnswer := List.mem_of_getElem? (i := 4) rfl
theorem mw_X1_takeAnswer_1 : Cond.fieldLink RX1 64 "TidePost$Caller" "tries" "I" ∈ wsX1_takeAnswer := List.mem_of_getElem? (i := 2) rfl
theorem mw_X1_takeAnswer_4 : Cond.fieldLink RX1 50 "TidePost$Caller" "next" "I" ∈ wsX1_takeAnswer := List.mem_of_getElem? (i := 5) rfl
theorem mw_X1_takeAnswer_5 : Cond.fieldLink RX1 28 "TidePost$Caller" "room" "I" ∈ wsX1_takeAnswer := List.mem_of_getElem? (i := 6) rfl
theorem mw_X1_takeAnswer_2 : Cond.fieldLink RX1 40 "TidePost$Caller" "timer" "I" ∈ wsX1_takeAnswer := List.mem_of_getElem? (i := 3) rfl
theorem in_X1_takeAnswer_X1 : ∀ x ∈ wsX10, x ∈ wsX1_takeAnswer := fun _ h => List.mem_cons_of_mem _ (List.mem_append_left _ (List.mem_append_right _ h))
set_option maxHeartbeats 4000000 in
set_option maxRecDepth 100000 in
theorem c_X1_takeAnswer (w : WPar) (τ : TS) (i0 : Nat) (x1 : Int32) (x2 : Int32) (x3 : Int32) (K : TS → Int32 → Prop) (h0 : tp_is w i0 1) (hw : wp_X1_takeAnswer τ i0 x1 x2 x3 K) : MI w yX1_takeAnswer wsX1_takeAnswer 3 63 [.ref (w.1 i0), .int x1, .int x2, .int x3] τ K := by
  refine tp_enterZ (cc := cX1_takeAnswer) (maxL := 4) (own := RX1) (by decide) rfl rfl (Nat.le_of_ble_eq_true rfl) (fun g C hR => ?_)
  show Zt w g τ (0, 0) 0 [(0, .ref (w.1 i0)), (1, .int x1), (2, .int x2), (3, .int x3)] []
  unfold wp_X1_takeAnswer at hw
  refine z_aload_n C 0 (by rfl) dX1_takeAnswer_0 ?_
  refine z_get C (Cn := RX1) (T := TX1) (N := 14) (ci := 1) h0.2 0 (tE1 h0.1) in_X1_takeAnswer_X1 rfl (by decide) mw_X1_takeAnswer_0 rfl rfl dX1_takeAnswer_1 ?_
  refine z_if_ne (tgt := 24) C dX1_takeAnswer_4 (by decide) (fun c21 => ?_) (fun c21 => ?_)
  · have hw := hw.1 c21
    refine z_aload_n C 0 (by rfl) dX1_takeAnswer_24 ?_
    refine z_get C (Cn := RX1) (T := TX1) (N := 14) (ci := 1) h0.2 0 (tE1 h0.1) in_X1_takeAnswer_X1 rfl (by decide) mw_X1_takeAnswer_0 rfl rfl dX1_takeAnswer_25 ?_
    refine z_iconst C 1 (by decide) dX1_takeAnswer_28 ?_
    refine z_icmp_ne (tgt := 40) C dX1_takeAnswer_29 (by decide) (fun c22 => ?_) (fun c22 => ?_)
    · have hw := hw.1 c22
      refine z_iconst C 0 (by decide) dX1_takeAnswer_40 ?_
      exact hR _ _ _ _ dX1_takeAnswer_41 rfl hw
    · have hw := hw.2 c22
      refine z_iload_n C 1 (by rfl) dX1_takeAnswer_32 ?_
      refine z_aload_n C 0 (by rfl) dX1_takeAnswer_33 ?_
      refine z_get C (Cn := RX1) (T := TX1) (N := 14) (ci := 1) h0.2 3 (tE1 h0.1) in_X1_takeAnswer_X1 rfl (by decide) mw_X1_takeAnswer_3 rfl rfl dX1_takeAnswer_34 ?_
      refine z_icmp_ge (tgt := 42) C dX1_takeAnswer_37 (by decide) (fun c23 => ?_) (fun c23 => ?_)
      · have hw := hw.1 c23
        refine z_aload_n C 0 (by rfl) dX1_takeAnswer_42 ?_
        refine z_iconst C 0 (by decide) dX1_takeAnswer_43 ?_
        refine z_put C (Cn := RX1) (T := TX1) (N := 14) (ci := 1) h0.2 11 (tE1 h0.1) (tS1_11 h0.1 _) in_X1_takeAnswer_X1 tyX1 tyX1_ok nmX1 rfl (by decide) mw_X1_takeAnswer_1 rfl rfl (tyX1_ok 11 (by decide)) rfl rfl (Nat.le_of_ble_eq_true rfl) dX1_takeAnswer_44 (fun τ24 eτ24 => ?_)
        have hw := hw τ24 eτ24
        refine z_iload_n C 1 (by rfl) dX1_takeAnswer_47 ?_
        refine z_aload_n C 0 (by rfl) dX1_takeAnswer_48 ?_
        refine z_get C (Cn := RX1) (T := TX1) (N := 14) (ci := 1) h0.2 3 (tE1 h0.1) in_X1_takeAnswer_X1 rfl (by decide) mw_X1_takeAnswer_3 rfl rfl dX1_takeAnswer_49 ?_
        refine z_icmp_le (tgt := 63) C dX1_takeAnswer_52 (by decide) (fun c25 => ?_) (fun c25 => ?_)
        · have hw := hw.1 c25
          refine z_aload_n C 0 (by rfl) dX1_takeAnswer_63 ?_
          refine z_get C (Cn := RX1) (T := TX1) (N := 14) (ci := 1) h0.2 4 (tE1 h0.1) in_X1_takeAnswer_X1 rfl (by decide) mw_X1_takeAnswer_4 rfl rfl dX1_takeAnswer_64 ?_
          refine z_aload_n C 0 (by rfl) dX1_takeAnswer_67 ?_
          refine z_get C (Cn := RX1) (T := TX1) (N := 14) (ci := 1) h0.2 3 (tE1 h0.1) in_X1_takeAnswer_X1 rfl (by decide) mw_X1_takeAnswer_3 rfl rfl dX1_takeAnswer_68 ?_
          refine z_icmp_le (tgt := 80) C dX1_takeAnswer_71 (by decide) (fun c26 => ?_) (fun c26 => ?_)
          · have hw := hw.1 c26
            refine z_aload_n C 0 (by rfl) dX1_takeAnswer_80 ?_
            refine z_iload_n C 2 (by rfl) dX1_takeAnswer_81 ?_
            refine z_put C (Cn := RX1) (T := TX1) (N := 14) (ci := 1) h0.2 7 (tE1 h0.1) (tS1_7 h0.1 _) in_X1_takeAnswer_X1 tyX1 tyX1_ok nmX1 rfl (by decide) mw_X1_takeAnswer_5 rfl rfl (tyX1_ok 7 (by decide)) rfl rfl (Nat.le_of_ble_eq_true rfl) dX1_takeAnswer_82 (fun τ27 eτ27 => ?_)
            have hw := hw τ27 eτ27
            refine z_iconst C 0 (by decide) dX1_takeAnswer_85 ?_
            exact hR _ _ _ _ dX1_takeAnswer_86 rfl hw
          · have hw := hw.2 c26
            refine z_aload_n C 0 (by rfl) dX1_takeAnswer_74 ?_
            refine z_iload_n C 2 (by rfl) dX1_takeAnswer_75 ?_
            refine zv_i C (As := [.int x2]) (bytes := cX1_repeated) (maxL := 2) (F1 := 2) (L1 := 34) (c_X1_repeated w _ i0 x2 _ h0 hw) h0.2 (tE1 h0.1) rfl 1 gX1_takeAnswer_X1_repeated rfl (by decide +kernel) ⟨Nat.le_of_ble_eq_true rfl, Nat.le_of_ble_eq_true rfl⟩ rfl (Nat.le_of_ble_eq_true rfl) ⟨Nat.le_of_ble_eq_true rfl, Nat.le_of_ble_eq_true rfl⟩ rfl dX1_takeAnswer_76 (fun x29 τ28 hw => ?_)
            exact hR _ _ _ _ dX1_takeAnswer_79 hw.1.1 hw.2
        · have hw := hw.2 c25
          refine z_aload_n C 0 (by rfl) dX1_takeAnswer_55 ?_
          refine z_iload_n C 1 (by rfl) dX1_takeAnswer_56 ?_
          refine z_iload_n C 2 (by rfl) dX1_takeAnswer_57 ?_
          refine z_iload_n C 3 (by rfl) dX1_takeAnswer_58 ?_
          refine zv_i C (As := [.int x1, .int x2, .int x3]) (bytes := cX1_advance) (maxL := 5) (F1 := 2) (L1 := 39) (c_X1_advance w _ i0 x1 x2 x3 _ h0 hw) h0.2 (tE1 h0.1) rfl 3 gX1_takeAnswer_X1_advance rfl (by decide +kernel) ⟨Nat.le_of_ble_eq_true rfl, Nat.le_of_ble_eq_true rfl⟩ rfl (Nat.le_of_ble_eq_true rfl) ⟨Nat.le_of_ble_eq_true rfl, Nat.le_of_ble_eq_true rfl⟩ rfl dX1_takeAnswer_59 (fun x31 τ30 hw => ?_)
          exact hR _ _ _ _ dX1_takeAnswer_62 hw.1.1 hw.2
      · have hw := hw.2 c23
        refine z_iconst C 0 (by decide) dX1_takeAnswer_40 ?_
        exact hR _ _ _ _ dX1_takeAnswer_41 rfl hw
  · have hw := hw.2 c21
    refine z_aload_n C 0 (by rfl) dX1_takeAnswer_7 ?_
    refine z_iconst C 1 (by decide) dX1_takeAnswer_8 ?_
    refine z_put C (Cn := RX1) (T := TX1) (N := 14) (ci := 1) h0.2 0 (tE1 h0.1) (tS1_0 h0.1 _) in_X1_takeAnswer_X1 tyX1 tyX1_ok nmX1 rfl (by decide) mw_X1_takeAnswer_0 rfl rfl (tyX1_ok 0 (by decide)) rfl rfl (Nat.le_of_ble_eq_true rfl) dX1_takeAnswer_9 (fun τ32 eτ32 => ?_)
    have hw := hw τ32 eτ32
    refine z_aload_n C 0 (by rfl) dX1_takeAnswer_12 ?_
    refine z_iconst C 0 (by decide) dX1_takeAnswer_13 ?_
    refine z_put C (Cn := RX1) (T := TX1) (N := 14) (ci := 1) h0.2 11 (tE1 h0.1) (tS1_11 h0.1 _) in_X1_takeAnswer_X1 tyX1 tyX1_ok nmX1 rfl (by decide) mw_X1_takeAnswer_1 rfl rfl (tyX1_ok 11 (by decide)) rfl rfl (Nat.le_of_ble_eq_true rfl) dX1_takeAnswer_14 (fun τ33 eτ33 => ?_)
    have hw := hw τ33 eτ33
    refine z_aload_n C 0 (by rfl) dX1_takeAnswer_17 ?_
    refine z_iconst C (-1) (by decide) dX1_takeAnswer_18 ?_
    refine z_put C (Cn := RX1) (T := TX1) (N := 14) (ci := 1) h0.2 10 (tE1 h0.1) (tS1_10 h0.1 _) in_X1_takeAnswer_X1 tyX1 tyX1_ok nmX1 rfl (by decide) mw_X1_takeAnswer_2 rfl rfl (tyX1_ok 10 (by decide)) rfl rfl (Nat.le_of_ble_eq_true rfl) dX1_takeAnswer_19 (fun τ34 eτ34 => ?_)
    have hw := hw τ34 eτ34
    refine z_iconst C 0 (by decide) dX1_takeAnswer_22 ?_
    exact hR _ _ _ _ dX1_takeAnswer_23 rfl hw
def wp_X1_runOut (τ : TS) (i0 : Nat) (x1 : Int32) (K : TS → Int32 → Prop) : Prop :=
  ∀ τ21 : TS, τ21 = tp_up τ i0 10 (-1) → ∀ τ22 : TS, τ22 = tp_up τ21 i0 11 ((τ21 i0 11) + 1) → (((τ22 i0 11) < 6) → (wp_X5_backOff τ22 (i0 + 1) (fun τ24 => ((¬ (τ24 i0 0) = 1) → (∀ τ26 : TS, τ26 = tp_up τ24 i0 10 (x1 + (τ24 (i0 + 1) 2)) → K τ26 1)) ∧ (((τ24 i0 0) = 1) → (wp_X1_startRecovery τ24 i0 (fun τ27 => ∀ τ28 : TS, τ28 = tp_up τ27 i0 5 8 → ∀ τ29 : TS, τ29 = tp_up τ28 i0 8 0 → ∀ τ30 : TS, τ30 = tp_up τ29 i0 10 (x1 + (τ29 (i0 + 1) 2)) → K τ30 1)))))) ∧ ((¬ (τ22 i0 11) < 6) → (∀ τ31 : TS, τ31 = tp_up τ22 i0 0 3 → K τ31 0))
theorem mw_X1_runOut_0 : Cond.fieldLink RX1 40 "TidePost$Caller" "timer" "I" ∈ wsX1_runOut := List.mem_of_getElem? (i := 1) rfl
theorem mw_X1_runOut_1 : Cond.fieldLink RX1 64 "TidePost$Caller" "tries" "I" ∈ wsX1_runOut := List.mem_of_getElem? (i := 2) rfl
theorem mw_X1_runOut_3 : Cond.fieldLink RX1 12 "TidePost$Caller" "timing" "LTidePost$Timing;" ∈ wsX1_runOut := List.mem_of_getElem? (i := 4) rfl
theorem mw_X1_runOut_2 : Cond.fieldLink RX1 18 "TidePost$Caller" "state" "I" ∈ wsX1_runOut := List.mem_of_getElem? (i := 3) rfl
theorem mw_X1_runOut_6 : Cond.fieldLink RX1 37 "TidePost$Timing" "timeout" "I" ∈ wsX1_runOut := List.mem_of_getElem? (i := 7) rfl
theorem mw_X1_runOut_4 : Cond.fieldLink RX1 22 "TidePost$Caller" "window" "I" ∈ wsX1_runOut := List.mem_of_getElem? (i := 5) rfl
theorem mw_X1_runOut_5 : Cond.fieldLink RX1 78 "TidePost$Caller" "like" "I" ∈ wsX1_runOut := List.mem_of_getElem? (i := 6) rfl
theorem in_X1_runOut_X1 : ∀ x ∈ wsX10, x ∈ wsX1_runOut := fun _ h => List.mem_cons_of_mem _ (List.mem_append_left _ (List.mem_append_right _ h))
theorem in_X1_runOut_X5 : ∀ x ∈ wsX50, x ∈ wsX1_runOut := fun _ h => List.mem_cons_of_mem _ (List.mem_append_right _ h)
set_option maxHeartbeats 4000000 in
set_option maxRecDepth 100000 in
theorem c_X1_runOut (w : WPar) (τ : TS) (i0 : Nat) (x1 : Int32) (K : TS → Int32 → Prop) (h0 : tp_is w i0 1) (hw : wp_X1_runOut τ i0 x1 K) : MI w yX1_runOut wsX1_runOut 2 34 [.ref (w.1 i0), .int x1] τ K := by
  refine tp_enterZ (cc := cX1_runOut) (maxL := 2) (own := RX1) (by decide) rfl rfl (Nat.le_of_ble_eq_true rfl) (fun g C hR => ?_)
  show Zt w g τ (0, 0) 0 [(0, .ref (w.1 i0)), (1, .int x1)] []
  unfold wp_X1_runOut at hw
  refine z_aload_n C 0 (by rfl) dX1_runOut_0 ?_
  refine z_iconst C (-1) (by decide) dX1_runOut_1 ?_
  refine z_put C (Cn := RX1) (T := TX1) (N := 14) (ci := 1) h0.2 10 (tE1 h0.1) (tS1_10 h0.1 _) in_X1_runOut_X1 tyX1 tyX1_ok nmX1 rfl (by decide) mw_X1_runOut_0 rfl rfl (tyX1_ok 10 (by decide)) rfl rfl (Nat.le_of_ble_eq_true rfl) dX1_runOut_2 (fun τ21 eτ21 => ?_)
  have hw := hw τ21 eτ21
  refine z_aload_n C 0 (by rfl) dX1_runOut_5 ?_
  refine z_dup C rfl dX1_runOut_6 ?_
  refine z_get C (Cn := RX1) (T := TX1) (N := 14) (ci := 1) h0.2 11 (tE1 h0.1) in_X1_runOut_X1 rfl (by decide) mw_X1_runOut_1 rfl rfl dX1_runOut_7 ?_
  refine z_iconst C 1 (by decide) dX1_runOut_10 ?_
  refine z_iadd C dX1_runOut_11 ?_
  refine z_put C (Cn := RX1) (T := TX1) (N := 14) (ci := 1) h0.2 11 (tE1 h0.1) (tS1_11 h0.1 _) in_X1_runOut_X1 tyX1 tyX1_ok nmX1 rfl (by decide) mw_X1_runOut_1 rfl rfl (tyX1_ok 11 (by decide)) rfl rfl (Nat.le_of_ble_eq_true rfl) dX1_runOut_12 (fun τ22 eτ22 => ?_)
  have hw := hw τ22 eτ22
  refine z_aload_n C 0 (by rfl) dX1_runOut_15 ?_
  refine z_get C (Cn := RX1) (T := TX1) (N := 14) (ci := 1) h0.2 11 (tE1 h0.1) in_X1_runOut_X1 rfl (by decide) mw_X1_runOut_1 rfl rfl dX1_runOut_16 ?_
  refine z_bipush C 6 (by decide) dX1_runOut_19 ?_
  refine z_icmp_lt (tgt := 31) C dX1_runOut_21 (by decide) (fun c23 => ?_) (fun c23 => ?_)
  · have hw := hw.1 c23
    refine z_aload_n C 0 (by rfl) dX1_runOut_31 ?_
    refine z_get C (Cn := RX1) (T := TX1) (N := 14) (ci := 1) h0.2 13 (tE1 h0.1) in_X1_runOut_X1 rfl (by decide) mw_X1_runOut_3 rfl rfl dX1_runOut_32 ?_
    refine zv_v C (As := []) (bytes := cX5_backOff) (maxL := 1) (F1 := 1) (L1 := 14) (c_X5_backOff w _ (i0 + 1) _ (tR1_13 h0) hw) (tR1_13 h0).2 (tE4 (tR1_13 h0).1) rfl 0 gX1_runOut_X5_backOff rfl (by decide +kernel) ⟨Nat.le_of_ble_eq_true rfl, Nat.le_of_ble_eq_true rfl⟩ rfl (Nat.le_of_ble_eq_true rfl) ⟨Nat.le_of_ble_eq_true rfl, Nat.le_of_ble_eq_true rfl⟩ rfl dX1_runOut_35 (fun τ24 hw => ?_)
    refine z_aload_n C 0 (by rfl) dX1_runOut_38 ?_
    refine z_get C (Cn := RX1) (T := TX1) (N := 14) (ci := 1) h0.2 0 (tE1 h0.1) in_X1_runOut_X1 rfl (by decide) mw_X1_runOut_2 rfl rfl dX1_runOut_39 ?_
    refine z_iconst C 1 (by decide) dX1_runOut_42 ?_
    refine z_icmp_ne (tgt := 61) C dX1_runOut_43 (by decide) (fun c25 => ?_) (fun c25 => ?_)
    · have hw := hw.1 c25
      refine z_aload_n C 0 (by rfl) dX1_runOut_61 ?_
      refine z_iload_n C 1 (by rfl) dX1_runOut_62 ?_
      refine z_aload_n C 0 (by rfl) dX1_runOut_63 ?_
      refine z_get C (Cn := RX1) (T := TX1) (N := 14) (ci := 1) h0.2 13 (tE1 h0.1) in_X1_runOut_X1 rfl (by decide) mw_X1_runOut_3 rfl rfl dX1_runOut_64 ?_
      refine z_get C (Cn := RX5) (T := TX5) (N := 5) (ci := 4) (tR1_13 h0).2 2 (tE4 (tR1_13 h0).1) in_X1_runOut_X5 rfl (by decide) mw_X1_runOut_6 rfl rfl dX1_runOut_67 ?_
      refine z_iadd C dX1_runOut_70 ?_
      refine z_put C (Cn := RX1) (T := TX1) (N := 14) (ci := 1) h0.2 10 (tE1 h0.1) (tS1_10 h0.1 _) in_X1_runOut_X1 tyX1 tyX1_ok nmX1 rfl (by decide) mw_X1_runOut_0 rfl rfl (tyX1_ok 10 (by decide)) rfl rfl (Nat.le_of_ble_eq_true rfl) dX1_runOut_71 (fun τ26 eτ26 => ?_)
      have hw := hw τ26 eτ26
      refine z_iconst C 1 (by decide) dX1_runOut_74 ?_
      exact hR _ _ _ _ dX1_runOut_75 rfl hw
    · have hw := hw.2 c25
      refine z_aload_n C 0 (by rfl) dX1_runOut_46 ?_
      refine zv_v C (As := []) (bytes := cX1_startRecovery) (maxL := 1) (F1 := 1) (L1 := 14) (c_X1_startRecovery w _ i0 _ h0 hw) h0.2 (tE1 h0.1) rfl 0 gX1_runOut_X1_startRecovery rfl (by decide +kernel) ⟨Nat.le_of_ble_eq_true rfl, Nat.le_of_ble_eq_true rfl⟩ rfl (Nat.le_of_ble_eq_true rfl) ⟨Nat.le_of_ble_eq_true rfl, Nat.le_of_ble_eq_true rfl⟩ rfl dX1_runOut_47 (fun τ27 hw => ?_)
      refine z_aload_n C 0 (by rfl) dX1_runOut_50 ?_
      refine z_bipush C 8 (by decide) dX1_runOut_51 ?_
      refine z_put C (Cn := RX1) (T := TX1) (N := 14) (ci := 1) h0.2 5 (tE1 h0.1) (tS1_5 h0.1 _) in_X1_runOut_X1 tyX1 tyX1_ok nmX1 rfl (by decide) mw_X1_runOut_4 rfl rfl (tyX1_ok 5 (by decide)) rfl rfl (Nat.le_of_ble_eq_true rfl) dX1_runOut_53 (fun τ28 eτ28 => ?_)
      have hw := hw τ28 eτ28
      refine z_aload_n C 0 (by rfl) dX1_runOut_56 ?_
      refine z_iconst C 0 (by decide) dX1_runOut_57 ?_
      refine z_put C (Cn := RX1) (T := TX1) (N := 14) (ci := 1) h0.2 8 (tE1 h0.1) (tS1_8 h0.1 _) in_X1_runOut_X1 tyX1 tyX1_ok nmX1 rfl (by decide) mw_X1_runOut_5 rfl rfl (tyX1_ok 8 (by decide)) rfl rfl (Nat.le_of_ble_eq_true rfl) dX1_runOut_58 (fun τ29 eτ29 => ?_)
      have hw := hw τ29 eτ29
      refine z_aload_n C 0 (by rfl) dX1_runOut_61 ?_
      refine z_iload_n C 1 (by rfl) dX1_runOut_62 ?_
      refine z_aload_n C 0 (by rfl) dX1_runOut_63 ?_
      refine z_get C (Cn := RX1) (T := TX1) (N := 14) (ci := 1) h0.2 13 (tE1 h0.1) in_X1_runOut_X1 rfl (by decide) mw_X1_runOut_3 rfl rfl dX1_runOut_64 ?_
      refine z_get C (Cn := RX5) (T := TX5) (N := 5) (ci := 4) (tR1_13 h0).2 2 (tE4 (tR1_13 h0).1) in_X1_runOut_X5 rfl (by decide) mw_X1_runOut_6 rfl rfl dX1_runOut_67 ?_
      refine z_iadd C dX1_runOut_70 ?_
      refine z_put C (Cn := RX1) (T := TX1) (N := 14) (ci := 1) h0.2 10 (tE1 h0.1) (tS1_10 h0.1 _) in_X1_runOut_X1 tyX1 tyX1_ok nmX1 rfl (by decide) mw_X1_runOut_0 rfl rfl (tyX1_ok 10 (by decide)) rfl rfl (Nat.le_of_ble_eq_true rfl) dX1_runOut_71 (fun τ30 eτ30 => ?_)
      have hw := hw τ30 eτ30
      refine z_iconst C 1 (by decide) dX1_runOut_74 ?_
      exact hR _ _ _ _ dX1_runOut_75 rfl hw
  · have hw := hw.2 c23
    refine z_aload_n C 0 (by rfl) dX1_runOut_24 ?_
    refine z_iconst C 3 (by decide) dX1_runOut_25 ?_
    refine z_put C (Cn := RX1) (T := TX1) (N := 14) (ci := 1) h0.2 0 (tE1 h0.1) (tS1_0 h0.1 _) in_X1_runOut_X1 tyX1 tyX1_ok nmX1 rfl (by decide) mw_X1_runOut_2 rfl rfl (tyX1_ok 0 (by decide)) rfl rfl (Nat.le_of_ble_eq_true rfl) dX1_runOut_26 (fun τ31 eτ31 => ?_)
    have hw := hw τ31 eτ31
    refine z_iconst C 0 (by decide) dX1_runOut_29 ?_
    exact hR _ _ _ _ dX1_runOut_30 rfl hw
def wp_X1_baseAgain (τ : TS) (i0 : Nat) (K : TS → Int32 → Prop) : Prop :=
  ∀ τ21 : TS, τ21 = tp_up τ i0 12 ((τ i0 12) + 1) → wp_X5_sentTwice τ21 (i0 + 1) (τ21 i0 3) (fun τ22 => K τ22 (τ22 i0 3))
theorem mw_X1_baseAgain_0 : Cond.fieldLink RX1 99 "TidePost$Caller" "sentAgain" "I" ∈ wsX1_baseAgain := List.mem_of_getElem? (i := 1) rfl
theorem mw_X1_baseAgain_1 : Cond.fieldLink RX1 12 "TidePost$Caller" "timing" "LTidePost$Timing;" ∈ wsX1_baseAgain := List.mem_of_getElem? (i := 2) rfl
theorem mw_X1_baseAgain_2 : Cond.fieldLink RX1 53 "TidePost$Caller" "base" "I" ∈ wsX1_baseAgain := List.mem_of_getElem? (i := 3) rfl
theorem in_X1_baseAgain_X1 : ∀ x ∈ wsX10, x ∈ wsX1_baseAgain := fun _ h => List.mem_cons_of_mem _ (List.mem_append_left _ (List.mem_append_right _ h))
set_option maxHeartbeats 4000000 in
set_option maxRecDepth 100000 in
theorem c_X1_baseAgain (w : WPar) (τ : TS) (i0 : Nat) (K : TS → Int32 → Prop) (h0 : tp_is w i0 1) (hw : wp_X1_baseAgain τ i0 K) : MI w yX1_baseAgain wsX1_baseAgain 1 21 [.ref (w.1 i0)] τ K := by
  refine tp_enterI (cc := cX1_baseAgain) (maxL := 1) (own := RX1) (by decide) rfl rfl (Nat.le_of_ble_eq_true rfl) (fun g C hR => ?_)
  show Zt w g τ (0, 0) 0 [(0, .ref (w.1 i0))] []
  unfold wp_X1_baseAgain at hw
  refine z_aload_n C 0 (by rfl) dX1_baseAgain_0 ?_
  refine z_dup C rfl dX1_baseAgain_1 ?_
  refine z_get C (Cn := RX1) (T := TX1) (N := 14) (ci := 1) h0.2 12 (tE1 h0.1) in_X1_baseAgain_X1 rfl (by decide) mw_X1_baseAgain_0 rfl rfl dX1_baseAgain_2 ?_
  refine z_iconst C 1 (by decide) dX1_baseAgain_5 ?_
  refine z_iadd C dX1_baseAgain_6 ?_
  refine z_put C (Cn := RX1) (T := TX1) (N := 14) (ci := 1) h0.2 12 (tE1 h0.1) (tS1_12 h0.1 _) in_X1_baseAgain_X1 tyX1 tyX1_ok nmX1 rfl (by decide) mw_X1_baseAgain_0 rfl rfl (tyX1_ok 12 (by decide)) rfl rfl (Nat.le_of_ble_eq_true rfl) dX1_baseAgain_7 (fun τ21 eτ21 => ?_)
  have hw := hw τ21 eτ21
  refine z_aload_n C 0 (by rfl) dX1_baseAgain_10 ?_
  refine z_get C (Cn := RX1) (T := TX1) (N := 14) (ci := 1) h0.2 13 (tE1 h0.1) in_X1_baseAgain_X1 rfl (by decide) mw_X1_baseAgain_1 rfl rfl dX1_baseAgain_11 ?_
  refine z_aload_n C 0 (by rfl) dX1_baseAgain_14 ?_
  refine z_get C (Cn := RX1) (T := TX1) (N := 14) (ci := 1) h0.2 3 (tE1 h0.1) in_X1_baseAgain_X1 rfl (by decide) mw_X1_baseAgain_2 rfl rfl dX1_baseAgain_15 ?_
  refine zv_v C (As := [.int (τ21 i0 3)]) (bytes := cX5_sentTwice) (maxL := 2) (F1 := 0) (L1 := 0) (c_X5_sentTwice w _ (i0 + 1) (τ21 i0 3) _ (tR1_13 h0) hw) (tR1_13 h0).2 (tE4 (tR1_13 h0).1) rfl 1 gX1_baseAgain_X5_sentTwice rfl (by decide +kernel) ⟨Nat.le_of_ble_eq_true rfl, Nat.le_of_ble_eq_true rfl⟩ rfl (Nat.le_of_ble_eq_true rfl) ⟨Nat.le_of_ble_eq_true rfl, Nat.le_of_ble_eq_true rfl⟩ rfl dX1_baseAgain_18 (fun τ22 hw => ?_)
  refine z_aload_n C 0 (by rfl) dX1_baseAgain_21 ?_
  refine z_get C (Cn := RX1) (T := TX1) (N := 14) (ci := 1) h0.2 3 (tE1 h0.1) in_X1_baseAgain_X1 rfl (by decide) mw_X1_baseAgain_2 rfl rfl dX1_baseAgain_22 ?_
  exact hR _ _ _ _ dX1_baseAgain_25 hw
def wp_X1_copyFrom (τ : TS) (i0 : Nat) (j1 : Nat) (K : TS → Prop) : Prop :=
  ∀ τ21 : TS, τ21 = tp_up τ i0 0 (τ j1 0) → ∀ τ22 : TS, τ22 = tp_up τ21 i0 1 (τ21 j1 1) → tp_z (τ22 j1 2) ∧ (∀ τ24 : TS, τ24 = tp_up τ22 i0 2 (τ22 j1 2) → ∀ τ25 : TS, τ25 = tp_up τ24 i0 3 (τ24 j1 3) → ∀ τ26 : TS, τ26 = tp_up τ25 i0 4 (τ25 j1 4) → ∀ τ27 : TS, τ27 = tp_up τ26 i0 5 (τ26 j1 5) → ∀ τ28 : TS, τ28 = tp_up τ27 i0 6 (τ27 j1 6) → ∀ τ29 : TS, τ29 = tp_up τ28 i0 7 (τ28 j1 7) → ∀ τ30 : TS, τ30 = tp_up τ29 i0 8 (τ29 j1 8) → ∀ τ31 : TS, τ31 = tp_up τ30 i0 9 (τ30 j1 9) → ∀ τ32 : TS, τ32 = tp_up τ31 i0 10 (τ31 j1 10) → ∀ τ33 : TS, τ33 = tp_up τ32 i0 11 (τ32 j1 11) → ∀ τ34 : TS, τ34 = tp_up τ33 i0 12 (τ33 j1 12) → wp_X5_copyFrom τ34 (i0 + 1) (j1 + 1) (fun τ35 => K τ35))
theorem mw_X1_copyFrom_0 : Cond.fieldLink RX1 18 "TidePost$Caller" "state" "I" ∈ wsX1_copyFrom := List.mem_of_getElem? (i := 1) rfl
theorem mw_X1_copyFrom_1 : Cond.fieldLink RX1 47 "TidePost$Caller" "given" "I" ∈ wsX1_copyFrom := List.mem_of_getElem? (i := 2) rfl
theorem mw_X1_copyFrom_2 : Cond.fieldLink RX1 43 "TidePost$Caller" "toldToClose" "Z" ∈ wsX1_copyFrom := List.mem_of_getElem? (i := 3) rfl
theorem mw_X1_copyFrom_3 : Cond.fieldLink RX1 53 "TidePost$Caller" "base" "I" ∈ wsX1_copyFrom := List.mem_of_getElem? (i := 4) rfl
theorem mw_X1_copyFrom_4 : Cond.fieldLink RX1 50 "TidePost$Caller" "next" "I" ∈ wsX1_copyFrom := List.mem_of_getElem? (i := 5) rfl
theorem mw_X1_copyFrom_5 : Cond.fieldLink RX1 22 "TidePost$Caller" "window" "I" ∈ wsX1_copyFrom := List.mem_of_getElem? (i := 6) rfl
theorem mw_X1_copyFrom_6 : Cond.fieldLink RX1 25 "TidePost$Caller" "threshold" "I" ∈ wsX1_copyFrom := List.mem_of_getElem? (i := 7) rfl
theorem mw_X1_copyFrom_7 : Cond.fieldLink RX1 28 "TidePost$Caller" "room" "I" ∈ wsX1_copyFrom := List.mem_of_getElem? (i := 8) rfl
theorem mw_X1_copyFrom_8 : Cond.fieldLink RX1 78 "TidePost$Caller" "like" "I" ∈ wsX1_copyFrom := List.mem_of_getElem? (i := 9) rfl
theorem mw_X1_copyFrom_9 : Cond.fieldLink RX1 31 "TidePost$Caller" "recover" "I" ∈ wsX1_copyFrom := List.mem_of_getElem? (i := 10) rfl
theorem mw_X1_copyFrom_10 : Cond.fieldLink RX1 40 "TidePost$Caller" "timer" "I" ∈ wsX1_copyFrom := List.mem_of_getElem? (i := 11) rfl
theorem mw_X1_copyFrom_11 : Cond.fieldLink RX1 64 "TidePost$Caller" "tries" "I" ∈ wsX1_copyFrom := List.mem_of_getElem? (i := 12) rfl
theorem mw_X1_copyFrom_12 : Cond.fieldLink RX1 99 "TidePost$Caller" "sentAgain" "I" ∈ wsX1_copyFrom := List.mem_of_getElem? (i := 13) rfl
theorem mw_X1_copyFrom_13 : Cond.fieldLink RX1 12 "TidePost$Caller" "timing" "LTidePost$Timing;" ∈ wsX1_copyFrom := List.mem_of_getElem? (i := 14) rfl
theorem in_X1_copyFrom_X1 : ∀ x ∈ wsX10, x ∈ wsX1_copyFrom := fun _ h => List.mem_cons_of_mem _ (List.mem_append_left _ (List.mem_append_right _ h))
set_option maxHeartbeats 4000000 in
set_option maxRecDepth 100000 in
theorem c_X1_copyFrom (w : WPar) (τ : TS) (i0 : Nat) (j1 : Nat) (K : TS → Prop) (h0 : tp_is w i0 1) (h1 : tp_is w j1 1) (hw : wp_X1_copyFrom τ i0 j1 K) : MV w yX1_copyFrom wsX1_copyFrom 1 21 [.ref (w.1 i0), .ref (w.1 j1)] τ K := by
  refine tp_enterV (cc := cX1_copyFrom) (maxL := 2) (own := RX1) (by decide) rfl rfl (Nat.le_of_ble_eq_true rfl) (fun g C hR => ?_)
  show Zt w g τ (0, 0) 0 [(0, .ref (w.1 i0)), (1, .ref (w.1 j1))] []
  unfold wp_X1_copyFrom at hw
  refine z_aload_n C 0 (by rfl) dX1_copyFrom_0 ?_
  refine z_aload_n C 1 (by rfl) dX1_copyFrom_1 ?_
  refine z_get C (Cn := RX1) (T := TX1) (N := 14) (ci := 1) h1.2 0 (tE1 h1.1) in_X1_copyFrom_X1 rfl (by decide) mw_X1_copyFrom_0 rfl rfl dX1_copyFrom_2 ?_
  refine z_put C (Cn := RX1) (T := TX1) (N := 14) (ci := 1) h0.2 0 (tE1 h0.1) (tS1_0 h0.1 _) in_X1_copyFrom_X1 tyX1 tyX1_ok nmX1 rfl (by decide) mw_X1_copyFrom_0 rfl rfl (tyX1_ok 0 (by decide)) rfl rfl (Nat.le_of_ble_eq_true rfl) dX1_copyFrom_5 (fun τ21 eτ21 => ?_)
  have hw := hw τ21 eτ21
  refine z_aload_n C 0 (by rfl) dX1_copyFrom_8 ?_
  refine z_aload_n C 1 (by rfl) dX1_copyFrom_9 ?_
  refine z_get C (Cn := RX1) (T := TX1) (N := 14) (ci := 1) h1.2 1 (tE1 h1.1) in_X1_copyFrom_X1 rfl (by decide) mw_X1_copyFrom_1 rfl rfl dX1_copyFrom_10 ?_
  refine z_put C (Cn := RX1) (T := TX1) (N := 14) (ci := 1) h0.2 1 (tE1 h0.1) (tS1_1 h0.1 _) in_X1_copyFrom_X1 tyX1 tyX1_ok nmX1 rfl (by decide) mw_X1_copyFrom_1 rfl rfl (tyX1_ok 1 (by decide)) rfl rfl (Nat.le_of_ble_eq_true rfl) dX1_copyFrom_13 (fun τ22 eτ22 => ?_)
  have hw := hw τ22 eτ22
  refine z_aload_n C 0 (by rfl) dX1_copyFrom_16 ?_
  refine z_aload_n C 1 (by rfl) dX1_copyFrom_17 ?_
  refine z_get C (Cn := RX1) (T := TX1) (N := 14) (ci := 1) h1.2 2 (tE1 h1.1) in_X1_copyFrom_X1 rfl (by decide) mw_X1_copyFrom_2 rfl rfl dX1_copyFrom_18 ?_
  obtain ⟨s23, hw⟩ := hw
  refine z_put C (Cn := RX1) (T := TX1) (N := 14) (ci := 1) h0.2 2 (tE1 h0.1) (tS1_2 h0.1 _) in_X1_copyFrom_X1 tyX1 tyX1_ok nmX1 rfl (by decide) mw_X1_copyFrom_2 rfl rfl (tyX1_ok 2 (by decide)) s23.1 s23.2.1 (Nat.le_of_ble_eq_true rfl) dX1_copyFrom_21 (fun τ24 eτ24 => ?_)
  have hw := hw τ24 eτ24
  refine z_aload_n C 0 (by rfl) dX1_copyFrom_24 ?_
  refine z_aload_n C 1 (by rfl) dX1_copyFrom_25 ?_
  refine z_get C (Cn := RX1) (T := TX1) (N := 14) (ci := 1) h1.2 3 (tE1 h1.1) in_X1_copyFrom_X1 rfl (by decide) mw_X1_copyFrom_3 rfl rfl dX1_copyFrom_26 ?_
  refine z_put C (Cn := RX1) (T := TX1) (N := 14) (ci := 1) h0.2 3 (tE1 h0.1) (tS1_3 h0.1 _) in_X1_copyFrom_X1 tyX1 tyX1_ok nmX1 rfl (by decide) mw_X1_copyFrom_3 rfl rfl (tyX1_ok 3 (by decide)) rfl rfl (Nat.le_of_ble_eq_true rfl) dX1_copyFrom_29 (fun τ25 eτ25 => ?_)
  have hw := hw τ25 eτ25
  refine z_aload_n C 0 (by rfl) dX1_copyFrom_32 ?_
  refine z_aload_n C 1 (by rfl) dX1_copyFrom_33 ?_
  refine z_get C (Cn := RX1) (T := TX1) (N := 14) (ci := 1) h1.2 4 (tE1 h1.1) in_X1_copyFrom_X1 rfl (by decide) mw_X1_copyFrom_4 rfl rfl dX1_copyFrom_34 ?_
  refine z_put C (Cn := RX1) (T := TX1) (N := 14) (ci := 1) h0.2 4 (tE1 h0.1) (tS1_4 h0.1 _) in_X1_copyFrom_X1 tyX1 tyX1_ok nmX1 rfl (by decide) mw_X1_copyFrom_4 rfl rfl (tyX1_ok 4 (by decide)) rfl rfl (Nat.le_of_ble_eq_true rfl) dX1_copyFrom_37 (fun τ26 eτ26 => ?_)
  have hw := hw τ26 eτ26
  refine z_aload_n C 0 (by rfl) dX1_copyFrom_40 ?_
  refine z_aload_n C 1 (by rfl) dX1_copyFrom_41 ?_
  refine z_get C (Cn := RX1) (T := TX1) (N := 14) (ci := 1) h1.2 5 (tE1 h1.1) in_X1_copyFrom_X1 rfl (by decide) mw_X1_copyFrom_5 rfl rfl dX1_copyFrom_42 ?_
  refine z_put C (Cn := RX1) (T := TX1) (N := 14) (ci := 1) h0.2 5 (tE1 h0.1) (tS1_5 h0.1 _) in_X1_copyFrom_X1 tyX1 tyX1_ok nmX1 rfl (by decide) mw_X1_copyFrom_5 rfl rfl (tyX1_ok 5 (by decide)) rfl rfl (Nat.le_of_ble_eq_true rfl) dX1_copyFrom_45 (fun τ27 eτ27 => ?_)
  have hw := hw τ27 eτ27
  refine z_aload_n C 0 (by rfl) dX1_copyFrom_48 ?_
  refine z_aload_n C 1 (by rfl) dX1_copyFrom_49 ?_
  refine z_get C (Cn := RX1) (T := TX1) (N := 14) (ci := 1) h1.2 6 (tE1 h1.1) in_X1_copyFrom_X1 rfl (by decide) mw_X1_copyFrom_6 rfl rfl dX1_copyFrom_50 ?_
  refine z_put C (Cn := RX1) (T := TX1) (N := 14) (ci := 1) h0.2 6 (tE1 h0.1) (tS1_6 h0.1 _) in_X1_copyFrom_X1 tyX1 tyX1_ok nmX1 rfl (by decide) mw_X1_copyFrom_6 rfl rfl (tyX1_ok 6 (by decide)) rfl rfl (Nat.le_of_ble_eq_true rfl) dX1_copyFrom_53 (fun τ28 eτ28 => ?_)
  have hw := hw τ28 eτ28
  refine z_aload_n C 0 (by rfl) dX1_copyFrom_56 ?_
  refine z_aload_n C 1 (by rfl) dX1_copyFrom_57 ?_
  refine z_get C (Cn := RX1) (T := TX1) (N := 14) (ci := 1) h1.2 7 (tE1 h1.1) in_X1_copyFrom_X1 rfl (by decide) mw_X1_copyFrom_7 rfl rfl dX1_copyFrom_58 ?_
  refine z_put C (Cn := RX1) (T := TX1) (N := 14) (ci := 1) h0.2 7 (tE1 h0.1) (tS1_7 h0.1 _) in_X1_copyFrom_X1 tyX1 tyX1_ok nmX1 rfl (by decide) mw_X1_copyFrom_7 rfl rfl (tyX1_ok 7 (by decide)) rfl rfl (Nat.le_of_ble_eq_true rfl) dX1_copyFrom_61 (fun τ29 eτ29 => ?_)
  have hw := hw τ29 eτ29
  refine z_aload_n C 0 (by rfl) dX1_copyFrom_64 ?_
  refine z_aload_n C 1 (by rfl) dX1_copyFrom_65 ?_
  refine z_get C (Cn := RX1) (T := TX1) (N := 14) (ci := 1) h1.2 8 (tE1 h1.1) in_X1_copyFrom_X1 rfl (by decide) mw_X1_copyFrom_8 rfl rfl dX1_copyFrom_66 ?_
  refine z_put C (Cn := RX1) (T := TX1) (N := 14) (ci := 1) h0.2 8 (tE1 h0.1) (tS1_8 h0.1 _) in_X1_copyFrom_X1 tyX1 tyX1_ok nmX1 rfl (by decide) mw_X1_copyFrom_8 rfl rfl (tyX1_ok 8 (by decide)) rfl rfl (Nat.le_of_ble_eq_true rfl) dX1_copyFrom_69 (fun τ30 eτ30 => ?_)
  have hw := hw τ30 eτ30
  refine z_aload_n C 0 (by rfl) dX1_copyFrom_72 ?_
  refine z_aload_n C 1 (by rfl) dX1_copyFrom_73 ?_
  refine z_get C (Cn := RX1) (T := TX1) (N := 14) (ci := 1) h1.2 9 (tE1 h1.1) in_X1_copyFrom_X1 rfl (by decide) mw_X1_copyFrom_9 rfl rfl dX1_copyFrom_74 ?_
  refine z_put C (Cn := RX1) (T := TX1) (N := 14) (ci := 1) h0.2 9 (tE1 h0.1) (tS1_9 h0.1 _) in_X1_copyFrom_X1 tyX1 tyX1_ok nmX1 rfl (by decide) mw_X1_copyFrom_9 rfl rfl (tyX1_ok 9 (by decide)) rfl rfl (Nat.le_of_ble_eq_true rfl) dX1_copyFrom_77 (fun τ31 eτ31 => ?_)
  have hw := hw τ31 eτ31
  refine z_aload_n C 0 (by rfl) dX1_copyFrom_80 ?_
  refine z_aload_n C 1 (by rfl) dX1_copyFrom_81 ?_
  refine z_get C (Cn := RX1) (T := TX1) (N := 14) (ci := 1) h1.2 10 (tE1 h1.1) in_X1_copyFrom_X1 rfl (by decide) mw_X1_copyFrom_10 rfl rfl dX1_copyFrom_82 ?_
  refine z_put C (Cn := RX1) (T := TX1) (N := 14) (ci := 1) h0.2 10 (tE1 h0.1) (tS1_10 h0.1 _) in_X1_copyFrom_X1 tyX1 tyX1_ok nmX1 rfl (by decide) mw_X1_copyFrom_10 rfl rfl (tyX1_ok 10 (by decide)) rfl rfl (Nat.le_of_ble_eq_true rfl) dX1_copyFrom_85 (fun τ32 eτ32 => ?_)
  have hw := hw τ32 eτ32
  refine z_aload_n C 0 (by rfl) dX1_copyFrom_88 ?_
  refine z_aload_n C 1 (by rfl) dX1_copyFrom_89 ?_
  refine z_get C (Cn := RX1) (T := TX1) (N := 14) (ci := 1) h1.2 11 (tE1 h1.1) in_X1_copyFrom_X1 rfl (by decide) mw_X1_copyFrom_11 rfl rfl dX1_copyFrom_90 ?_
  refine z_put C (Cn := RX1) (T := TX1) (N := 14) (ci := 1) h0.2 11 (tE1 h0.1) (tS1_11 h0.1 _) in_X1_copyFrom_X1 tyX1 tyX1_ok nmX1 rfl (by decide) mw_X1_copyFrom_11 rfl rfl (tyX1_ok 11 (by decide)) rfl rfl (Nat.le_of_ble_eq_true rfl) dX1_copyFrom_93 (fun τ33 eτ33 => ?_)
  have hw := hw τ33 eτ33
  refine z_aload_n C 0 (by rfl) dX1_copyFrom_96 ?_
  refine z_aload_n C 1 (by rfl) dX1_copyFrom_97 ?_
  refine z_get C (Cn := RX1) (T := TX1) (N := 14) (ci := 1) h1.2 12 (tE1 h1.1) in_X1_copyFrom_X1 rfl (by decide) mw_X1_copyFrom_12 rfl rfl dX1_copyFrom_98 ?_
  refine z_put C (Cn := RX1) (T := TX1) (N := 14) (ci := 1) h0.2 12 (tE1 h0.1) (tS1_12 h0.1 _) in_X1_copyFrom_X1 tyX1 tyX1_ok nmX1 rfl (by decide) mw_X1_copyFrom_12 rfl rfl (tyX1_ok 12 (by decide)) rfl rfl (Nat.le_of_ble_eq_true rfl) dX1_copyFrom_101 (fun τ34 eτ34 => ?_)
  have hw := hw τ34 eτ34
  refine z_aload_n C 0 (by rfl) dX1_copyFrom_104 ?_
  refine z_get C (Cn := RX1) (T := TX1) (N := 14) (ci := 1) h0.2 13 (tE1 h0.1) in_X1_copyFrom_X1 rfl (by decide) mw_X1_copyFrom_13 rfl rfl dX1_copyFrom_105 ?_
  refine z_aload_n C 1 (by rfl) dX1_copyFrom_108 ?_
  refine z_get C (Cn := RX1) (T := TX1) (N := 14) (ci := 1) h1.2 13 (tE1 h1.1) in_X1_copyFrom_X1 rfl (by decide) mw_X1_copyFrom_13 rfl rfl dX1_copyFrom_109 ?_
  refine zv_v C (As := [.ref (w.1 (j1 + 1))]) (bytes := cX5_copyFrom) (maxL := 2) (F1 := 0) (L1 := 0) (c_X5_copyFrom w _ (i0 + 1) (j1 + 1) _ (tR1_13 h0) (tR1_13 h1) hw) (tR1_13 h0).2 (tE4 (tR1_13 h0).1) rfl 1 gX1_copyFrom_X5_copyFrom rfl (by decide +kernel) ⟨Nat.le_of_ble_eq_true rfl, Nat.le_of_ble_eq_true rfl⟩ rfl (Nat.le_of_ble_eq_true rfl) ⟨Nat.le_of_ble_eq_true rfl, Nat.le_of_ble_eq_true rfl⟩ rfl dX1_copyFrom_112 (fun τ35 hw => ?_)
  exact hR _ _ _ dX1_copyFrom_115 hw
def wp_X2_unread (τ : TS) (i0 : Nat) (K : TS → Int32 → Prop) : Prop :=
  ∀ x21 : Int32, x21 = (if (τ (i0 + 1) 1) < (τ (i0 + 3) 1) then (τ (i0 + 1) 1) else (τ (i0 + 3) 1)) → K τ (x21 - (τ (i0 + 3) 2))
theorem mw_X2_unread_0 : Cond.fieldLink RX2 19 "TidePost$Connection" "callee" "LTidePost$Callee;" ∈ wsX2_unread := List.mem_of_getElem? (i := 1) rfl
theorem mw_X2_unread_1 : Cond.fieldLink RX2 23 "TidePost$Callee" "wanted" "I" ∈ wsX2_unread := List.mem_of_getElem? (i := 2) rfl
theorem mw_X2_unread_2 : Cond.fieldLink RX2 10 "TidePost$Connection" "caller" "LTidePost$Caller;" ∈ wsX2_unread := List.mem_of_getElem? (i := 3) rfl
theorem mw_X2_unread_3 : Cond.fieldLink RX2 27 "TidePost$Caller" "given" "I" ∈ wsX2_unread := List.mem_of_getElem? (i := 4) rfl
theorem mw_X2_unread_4 : Cond.methodLink RX2 30 Lib.Math.min.name ∈ wsX2_unread := List.mem_of_getElem? (i := 5) rfl
theorem mw_X2_unread_5 : Cond.static Lib.Math.min.name ∈ wsX2_unread := List.mem_of_getElem? (i := 6) rfl
theorem mw_X2_unread_6 : Cond.initialized "java/lang/Math" ∈ wsX2_unread := List.mem_of_getElem? (i := 7) rfl
theorem mw_X2_unread_7 : Cond.code Lib.Math.min.name Lib.Math.min.code 2 (some .int) ∈ wsX2_unread := List.mem_of_getElem? (i := 8) rfl
theorem mw_X2_unread_8 : Cond.fieldLink RX2 36 "TidePost$Callee" "read" "I" ∈ wsX2_unread := List.mem_of_getElem? (i := 9) rfl
theorem in_X2_unread_X2 : ∀ x ∈ wsX20, x ∈ wsX2_unread := fun _ h => List.mem_cons_of_mem _ (List.mem_append_left _ (List.mem_append_left _ (List.mem_append_right _ h)))
theorem in_X2_unread_X0 : ∀ x ∈ wsX00, x ∈ wsX2_unread := fun _ h => List.mem_cons_of_mem _ (List.mem_append_left _ (List.mem_append_right _ h))
theorem in_X2_unread_X1 : ∀ x ∈ wsX10, x ∈ wsX2_unread := fun _ h => List.mem_cons_of_mem _ (List.mem_append_right _ h)
set_option maxHeartbeats 4000000 in
set_option maxRecDepth 100000 in
theorem c_X2_unread (w : WPar) (τ : TS) (i0 : Nat) (K : TS → Int32 → Prop) (h0 : tp_is w i0 2) (hw : wp_X2_unread τ i0 K) : MI w yX2_unread wsX2_unread 1 13 [.ref (w.1 i0)] τ K := by
  refine tp_enterI (cc := cX2_unread) (maxL := 1) (own := RX2) (by decide) rfl rfl (Nat.le_of_ble_eq_true rfl) (fun g C hR => ?_)
  show Zt w g τ (0, 0) 0 [(0, .ref (w.1 i0))] []
  unfold wp_X2_unread at hw
  refine z_aload_n C 0 (by rfl) dX2_unread_0 ?_
  refine z_get C (Cn := RX2) (T := TX2) (N := 4) (ci := 2) h0.2 3 (tE2 h0.1) in_X2_unread_X2 rfl (by decide) mw_X2_unread_0 rfl rfl dX2_unread_1 ?_
  refine z_get C (Cn := RX0) (T := TX0) (N := 4) (ci := 0) (tR2_3 h0).2 1 (tE0 (tR2_3 h0).1) in_X2_unread_X0 rfl (by decide) mw_X2_unread_1 rfl rfl dX2_unread_4 ?_
  refine z_aload_n C 0 (by rfl) dX2_unread_7 ?_
  refine z_get C (Cn := RX2) (T := TX2) (N := 4) (ci := 2) h0.2 2 (tE2 h0.1) in_X2_unread_X2 rfl (by decide) mw_X2_unread_2 rfl rfl dX2_unread_8 ?_
  refine z_get C (Cn := RX1) (T := TX1) (N := 14) (ci := 1) (tR2_2 h0).2 1 (tE1 (tR2_2 h0).1) in_X2_unread_X1 rfl (by decide) mw_X2_unread_3 rfl rfl dX2_unread_11 ?_
  refine z_min C mw_X2_unread_4 mw_X2_unread_5 mw_X2_unread_6 mw_X2_unread_7 (Nat.le_of_ble_eq_true rfl) (Nat.le_of_ble_eq_true rfl) (Nat.le_of_ble_eq_true rfl) (Nat.le_of_ble_eq_true rfl) dX2_unread_14 ?_
  refine z_top (fun x21 ex21 => ?_)
  have hw := hw x21 ex21
  refine z_aload_n C 0 (by rfl) dX2_unread_17 ?_
  refine z_get C (Cn := RX2) (T := TX2) (N := 4) (ci := 2) h0.2 3 (tE2 h0.1) in_X2_unread_X2 rfl (by decide) mw_X2_unread_0 rfl rfl dX2_unread_18 ?_
  refine z_get C (Cn := RX0) (T := TX0) (N := 4) (ci := 0) (tR2_3 h0).2 2 (tE0 (tR2_3 h0).1) in_X2_unread_X0 rfl (by decide) mw_X2_unread_8 rfl rfl dX2_unread_21 ?_
  refine z_isub C dX2_unread_24 ?_
  exact hR _ _ _ _ dX2_unread_25 hw
def wp_X2_copyFrom (τ : TS) (i0 : Nat) (j1 : Nat) (K : TS → Prop) : Prop :=
  ∀ τ21 : TS, τ21 = tp_up τ i0 0 (τ j1 0) → ∀ τ22 : TS, τ22 = tp_up τ21 i0 1 (τ21 j1 1) → wp_X1_copyFrom τ22 (i0 + 1) (j1 + 1) (fun τ23 => wp_X0_copyFrom τ23 (i0 + 3) (j1 + 3) (fun τ24 => K τ24))
theorem mw_X2_copyFrom_0 : Cond.fieldLink RX2 39 "TidePost$Connection" "callerNode" "I" ∈ wsX2_copyFrom := List.mem_of_getElem? (i := 1) rfl
theorem mw_X2_copyFrom_1 : Cond.fieldLink RX2 42 "TidePost$Connection" "calleeNode" "I" ∈ wsX2_copyFrom := List.mem_of_getElem? (i := 2) rfl
theorem mw_X2_copyFrom_2 : Cond.fieldLink RX2 10 "TidePost$Connection" "caller" "LTidePost$Caller;" ∈ wsX2_copyFrom := List.mem_of_getElem? (i := 3) rfl
theorem mw_X2_copyFrom_3 : Cond.fieldLink RX2 19 "TidePost$Connection" "callee" "LTidePost$Callee;" ∈ wsX2_copyFrom := List.mem_of_getElem? (i := 4) rfl
theorem in_X2_copyFrom_X2 : ∀ x ∈ wsX20, x ∈ wsX2_copyFrom := fun _ h => List.mem_cons_of_mem _ (List.mem_append_left _ (List.mem_append_left _ (List.mem_append_left _ (List.mem_append_right _ h))))
set_option maxHeartbeats 4000000 in
set_option maxRecDepth 100000 in
theorem c_X2_copyFrom (w : WPar) (τ : TS) (i0 : Nat) (j1 : Nat) (K : TS → Prop) (h0 : tp_is w i0 2) (h1 : tp_is w j1 2) (hw : wp_X2_copyFrom τ i0 j1 K) : MV w yX2_copyFrom wsX2_copyFrom 2 42 [.ref (w.1 i0), .ref (w.1 j1)] τ K := by
  refine tp_enterV (cc := cX2_copyFrom) (maxL := 2) (own := RX2) (by decide) rfl rfl (Nat.le_of_ble_eq_true rfl) (fun g C hR => ?_)
  show Zt w g τ (0, 0) 0 [(0, .ref (w.1 i0)), (1, .ref (w.1 j1))] []
  unfold wp_X2_copyFrom at hw
  refine z_aload_n C 0 (by rfl) dX2_copyFrom_0 ?_
  refine z_aload_n C 1 (by rfl) dX2_copyFrom_1 ?_
  refine z_get C (Cn := RX2) (T := TX2) (N := 4) (ci := 2) h1.2 0 (tE2 h1.1) in_X2_copyFrom_X2 rfl (by decide) mw_X2_copyFrom_0 rfl rfl dX2_copyFrom_2 ?_
  refine z_put C (Cn := RX2) (T := TX2) (N := 4) (ci := 2) h0.2 0 (tE2 h0.1) (tS2_0 h0.1 _) in_X2_copyFrom_X2 tyX2 tyX2_ok nmX2 rfl (by decide) mw_X2_copyFrom_0 rfl rfl (tyX2_ok 0 (by decide)) rfl rfl (Nat.le_of_ble_eq_true rfl) dX2_copyFrom_5 (fun τ21 eτ21 => ?_)
  have hw := hw τ21 eτ21
  refine z_aload_n C 0 (by rfl) dX2_copyFrom_8 ?_
  refine z_aload_n C 1 (by rfl) dX2_copyFrom_9 ?_
  refine z_get C (Cn := RX2) (T := TX2) (N := 4) (ci := 2) h1.2 1 (tE2 h1.1) in_X2_copyFrom_X2 rfl (by decide) mw_X2_copyFrom_1 rfl rfl dX2_copyFrom_10 ?_
  refine z_put C (Cn := RX2) (T := TX2) (N := 4) (ci := 2) h0.2 1 (tE2 h0.1) (tS2_1 h0.1 _) in_X2_copyFrom_X2 tyX2 tyX2_ok nmX2 rfl (by decide) mw_X2_copyFrom_1 rfl rfl (tyX2_ok 1 (by decide)) rfl rfl (Nat.le_of_ble_eq_true rfl) dX2_copyFrom_13 (fun τ22 eτ22 => ?_)
  have hw := hw τ22 eτ22
  refine z_aload_n C 0 (by rfl) dX2_copyFrom_16 ?_
  refine z_get C (Cn := RX2) (T := TX2) (N := 4) (ci := 2) h0.2 2 (tE2 h0.1) in_X2_copyFrom_X2 rfl (by decide) mw_X2_copyFrom_2 rfl rfl dX2_copyFrom_17 ?_
  refine z_aload_n C 1 (by rfl) dX2_copyFrom_20 ?_
  refine z_get C (Cn := RX2) (T := TX2) (N := 4) (ci := 2) h1.2 2 (tE2 h1.1) in_X2_copyFrom_X2 rfl (by decide) mw_X2_copyFrom_2 rfl rfl dX2_copyFrom_21 ?_
  refine zv_v C (As := [.ref (w.1 (j1 + 1))]) (bytes := cX1_copyFrom) (maxL := 2) (F1 := 1) (L1 := 21) (c_X1_copyFrom w _ (i0 + 1) (j1 + 1) _ (tR2_2 h0) (tR2_2 h1) hw) (tR2_2 h0).2 (tE1 (tR2_2 h0).1) rfl 1 gX2_copyFrom_X1_copyFrom rfl (by decide +kernel) ⟨Nat.le_of_ble_eq_true rfl, Nat.le_of_ble_eq_true rfl⟩ rfl (Nat.le_of_ble_eq_true rfl) ⟨Nat.le_of_ble_eq_true rfl, Nat.le_of_ble_eq_true rfl⟩ rfl dX2_copyFrom_24 (fun τ23 hw => ?_)
  refine z_aload_n C 0 (by rfl) dX2_copyFrom_27 ?_
  refine z_get C (Cn := RX2) (T := TX2) (N := 4) (ci := 2) h0.2 3 (tE2 h0.1) in_X2_copyFrom_X2 rfl (by decide) mw_X2_copyFrom_3 rfl rfl dX2_copyFrom_28 ?_
  refine z_aload_n C 1 (by rfl) dX2_copyFrom_31 ?_
  refine z_get C (Cn := RX2) (T := TX2) (N := 4) (ci := 2) h1.2 3 (tE2 h1.1) in_X2_copyFrom_X2 rfl (by decide) mw_X2_copyFrom_3 rfl rfl dX2_copyFrom_32 ?_
  refine zv_v C (As := [.ref (w.1 (j1 + 3))]) (bytes := cX0_copyFrom) (maxL := 2) (F1 := 1) (L1 := 18) (c_X0_copyFrom w _ (i0 + 3) (j1 + 3) _ (tR2_3 h0) (tR2_3 h1) hw) (tR2_3 h0).2 (tE0 (tR2_3 h0).1) rfl 1 gX2_copyFrom_X0_copyFrom rfl (by decide +kernel) ⟨Nat.le_of_ble_eq_true rfl, Nat.le_of_ble_eq_true rfl⟩ rfl (Nat.le_of_ble_eq_true rfl) ⟨Nat.le_of_ble_eq_true rfl, Nat.le_of_ble_eq_true rfl⟩ rfl dX2_copyFrom_35 (fun τ24 hw => ?_)
  exact hR _ _ _ dX2_copyFrom_38 hw
