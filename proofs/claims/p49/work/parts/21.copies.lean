def wp_X0_copyFrom (τ : TS) (i0 : Nat) (j1 : Nat) (K : TS → Prop) : Prop :=
  ∀ τ21 : TS, τ21 = tp_up τ i0 0 (τ j1 0) → ∀ τ22 : TS, τ22 = tp_up τ21 i0 1 (τ21 j1 1) → ∀ τ23 : TS, τ23 = tp_up τ22 i0 2 (τ22 j1 2) → (∀ q, q < (Int32.toNatClampNeg 201) → tp_z (τ23 (j1 + 1) ((Int32.toNatClampNeg 0) + q))) ∧ (∀ τ25 : TS, τ25 = tp_rw τ23 (i0 + 1) (va_cpy (τ23 (j1 + 1)) (τ23 (i0 + 1)) (Int32.toNatClampNeg 0) (Int32.toNatClampNeg 0) (Int32.toNatClampNeg 201)) → K τ25)
theorem mw_X0_copyFrom_0 : Cond.fieldLink RX0 19 "TidePost$Callee" "buffer" "I" ∈ wsX0_copyFrom := List.mem_of_getElem? (i := 1) rfl
theorem mw_X0_copyFrom_1 : Cond.fieldLink RX0 22 "TidePost$Callee" "wanted" "I" ∈ wsX0_copyFrom := List.mem_of_getElem? (i := 2) rfl
theorem mw_X0_copyFrom_2 : Cond.fieldLink RX0 15 "TidePost$Callee" "read" "I" ∈ wsX0_copyFrom := List.mem_of_getElem? (i := 3) rfl
theorem mw_X0_copyFrom_3 : Cond.fieldLink RX0 9 "TidePost$Callee" "held" "[Z" ∈ wsX0_copyFrom := List.mem_of_getElem? (i := 4) rfl
theorem mw_X0_copyFrom_4 : Cond.methodLink RX0 31 arraycopyName ∈ wsX0_copyFrom := List.mem_of_getElem? (i := 5) rfl
theorem mw_X0_copyFrom_5 : Cond.native arraycopyName ∈ wsX0_copyFrom := List.mem_of_getElem? (i := 6) rfl
theorem mw_X0_copyFrom_6 : Cond.static arraycopyName ∈ wsX0_copyFrom := List.mem_of_getElem? (i := 7) rfl
theorem mw_X0_copyFrom_7 : Cond.initialized "java/lang/System" ∈ wsX0_copyFrom := List.mem_of_getElem? (i := 8) rfl
theorem in_X0_copyFrom_X0 : ∀ x ∈ wsX00, x ∈ wsX0_copyFrom := fun _ h => List.mem_cons_of_mem _ (List.mem_append_right _ h)
set_option maxHeartbeats 4000000 in
set_option maxRecDepth 100000 in
theorem c_X0_copyFrom (w : WPar) (τ : TS) (i0 : Nat) (j1 : Nat) (K : TS → Prop) (h0 : tp_is w i0 0) (h1 : tp_is w j1 0) (hw : wp_X0_copyFrom τ i0 j1 K) : MV w yX0_copyFrom wsX0_copyFrom 1 18 [.ref (w.1 i0), .ref (w.1 j1)] τ K := by
  refine tp_enterV (cc := cX0_copyFrom) (maxL := 2) (own := RX0) (by decide) rfl rfl (Nat.le_of_ble_eq_true rfl) (fun g C hR => ?_)
  show Zt w g τ (0, 0) 0 [(0, .ref (w.1 i0)), (1, .ref (w.1 j1))] []
  unfold wp_X0_copyFrom at hw
  refine z_aload_n C 0 (by rfl) dX0_copyFrom_0 ?_
  refine z_aload_n C 1 (by rfl) dX0_copyFrom_1 ?_
  refine z_get C (Cn := RX0) (T := TX0) (N := 4) (ci := 0) h1.2 0 (tE0 h1.1) in_X0_copyFrom_X0 rfl (by decide) mw_X0_copyFrom_0 rfl rfl dX0_copyFrom_2 ?_
  refine z_put C (Cn := RX0) (T := TX0) (N := 4) (ci := 0) h0.2 0 (tE0 h0.1) (tS0_0 h0.1 _) in_X0_copyFrom_X0 tyX0 tyX0_ok nmX0 rfl (by decide) mw_X0_copyFrom_0 rfl rfl (tyX0_ok 0 (by decide)) rfl rfl (Nat.le_of_ble_eq_true rfl) dX0_copyFrom_5 (fun τ21 eτ21 => ?_)
  have hw := hw τ21 eτ21
  refine z_aload_n C 0 (by rfl) dX0_copyFrom_8 ?_
  refine z_aload_n C 1 (by rfl) dX0_copyFrom_9 ?_
  refine z_get C (Cn := RX0) (T := TX0) (N := 4) (ci := 0) h1.2 1 (tE0 h1.1) in_X0_copyFrom_X0 rfl (by decide) mw_X0_copyFrom_1 rfl rfl dX0_copyFrom_10 ?_
  refine z_put C (Cn := RX0) (T := TX0) (N := 4) (ci := 0) h0.2 1 (tE0 h0.1) (tS0_1 h0.1 _) in_X0_copyFrom_X0 tyX0 tyX0_ok nmX0 rfl (by decide) mw_X0_copyFrom_1 rfl rfl (tyX0_ok 1 (by decide)) rfl rfl (Nat.le_of_ble_eq_true rfl) dX0_copyFrom_13 (fun τ22 eτ22 => ?_)
  have hw := hw τ22 eτ22
  refine z_aload_n C 0 (by rfl) dX0_copyFrom_16 ?_
  refine z_aload_n C 1 (by rfl) dX0_copyFrom_17 ?_
  refine z_get C (Cn := RX0) (T := TX0) (N := 4) (ci := 0) h1.2 2 (tE0 h1.1) in_X0_copyFrom_X0 rfl (by decide) mw_X0_copyFrom_2 rfl rfl dX0_copyFrom_18 ?_
  refine z_put C (Cn := RX0) (T := TX0) (N := 4) (ci := 0) h0.2 2 (tE0 h0.1) (tS0_2 h0.1 _) in_X0_copyFrom_X0 tyX0 tyX0_ok nmX0 rfl (by decide) mw_X0_copyFrom_2 rfl rfl (tyX0_ok 2 (by decide)) rfl rfl (Nat.le_of_ble_eq_true rfl) dX0_copyFrom_21 (fun τ23 eτ23 => ?_)
  have hw := hw τ23 eτ23
  refine z_aload_n C 1 (by rfl) dX0_copyFrom_24 ?_
  refine z_get C (Cn := RX0) (T := TX0) (N := 4) (ci := 0) h1.2 3 (tE0 h1.1) in_X0_copyFrom_X0 rfl (by decide) mw_X0_copyFrom_3 rfl rfl dX0_copyFrom_25 ?_
  refine z_iconst C 0 (by decide) dX0_copyFrom_28 ?_
  refine z_aload_n C 0 (by rfl) dX0_copyFrom_29 ?_
  refine z_get C (Cn := RX0) (T := TX0) (N := 4) (ci := 0) h0.2 3 (tE0 h0.1) in_X0_copyFrom_X0 rfl (by decide) mw_X0_copyFrom_3 rfl rfl dX0_copyFrom_30 ?_
  refine z_iconst C 0 (by decide) dX0_copyFrom_33 ?_
  refine z_aload_n C 0 (by rfl) dX0_copyFrom_34 ?_
  refine z_get C (Cn := RX0) (T := TX0) (N := 4) (ci := 0) h0.2 3 (tE0 h0.1) in_X0_copyFrom_X0 rfl (by decide) mw_X0_copyFrom_3 rfl rfl dX0_copyFrom_35 ?_
  refine z_alen C 1 201 (tR0_3 h0).2 (tE10 (tR0_3 h0).1) rfl rfl dX0_copyFrom_38 ?_
  obtain ⟨s24, hw⟩ := hw
  refine z_copy C (t := 1) (ty := .boolean) (tR0_3 h1).2 (tR0_3 h0).2 (fun _ => tE10 (tR0_3 h1).1) (fun _ => tE10 (tR0_3 h0).1) rfl rfl (by decide) (by decide) (by decide) (by decide) (by decide) (fun q hq => (s24 q hq).2.1) mw_X0_copyFrom_4 mw_X0_copyFrom_5 mw_X0_copyFrom_6 mw_X0_copyFrom_7 (Nat.le_of_ble_eq_true rfl) (by simp [nativeFrameWords]) dX0_copyFrom_39 (fun τ25 eτ25 => ?_)
  have hw := hw τ25 eτ25
  exact hR _ _ _ dX0_copyFrom_42 hw
def wp_X5_copyFrom (τ : TS) (i0 : Nat) (j1 : Nat) (K : TS → Prop) : Prop :=
  ∀ τ21 : TS, τ21 = tp_up τ i0 0 (τ j1 0) → ∀ τ22 : TS, τ22 = tp_up τ21 i0 1 (τ21 j1 1) → ∀ τ23 : TS, τ23 = tp_up τ22 i0 2 (τ22 j1 2) → ∀ τ24 : TS, τ24 = tp_up τ23 i0 3 (τ23 j1 3) → ∀ τ25 : TS, τ25 = tp_up τ24 i0 4 (τ24 j1 4) → K τ25
theorem mw_X5_copyFrom_0 : Cond.fieldLink RX5 9 "TidePost$Timing" "round" "I" ∈ wsX5_copyFrom := List.mem_of_getElem? (i := 1) rfl
theorem mw_X5_copyFrom_1 : Cond.fieldLink RX5 15 "TidePost$Timing" "swing" "I" ∈ wsX5_copyFrom := List.mem_of_getElem? (i := 2) rfl
theorem mw_X5_copyFrom_2 : Cond.fieldLink RX5 18 "TidePost$Timing" "timeout" "I" ∈ wsX5_copyFrom := List.mem_of_getElem? (i := 3) rfl
theorem mw_X5_copyFrom_3 : Cond.fieldLink RX5 21 "TidePost$Timing" "measured" "I" ∈ wsX5_copyFrom := List.mem_of_getElem? (i := 4) rfl
theorem mw_X5_copyFrom_4 : Cond.fieldLink RX5 24 "TidePost$Timing" "measuredAt" "I" ∈ wsX5_copyFrom := List.mem_of_getElem? (i := 5) rfl
theorem in_X5_copyFrom_X5 : ∀ x ∈ wsX50, x ∈ wsX5_copyFrom := fun _ h => List.mem_cons_of_mem _ (List.mem_append_right _ h)
set_option maxHeartbeats 4000000 in
set_option maxRecDepth 100000 in
theorem c_X5_copyFrom (w : WPar) (τ : TS) (i0 : Nat) (j1 : Nat) (K : TS → Prop) (h0 : tp_is w i0 4) (h1 : tp_is w j1 4) (hw : wp_X5_copyFrom τ i0 j1 K) : MV w yX5_copyFrom wsX5_copyFrom 0 0 [.ref (w.1 i0), .ref (w.1 j1)] τ K := by
  refine tp_enterV (cc := cX5_copyFrom) (maxL := 2) (own := RX5) (by decide) rfl rfl (Nat.le_of_ble_eq_true rfl) (fun g C hR => ?_)
  show Zt w g τ (0, 0) 0 [(0, .ref (w.1 i0)), (1, .ref (w.1 j1))] []
  unfold wp_X5_copyFrom at hw
  refine z_aload_n C 0 (by rfl) dX5_copyFrom_0 ?_
  refine z_aload_n C 1 (by rfl) dX5_copyFrom_1 ?_
  refine z_get C (Cn := RX5) (T := TX5) (N := 5) (ci := 4) h1.2 0 (tE4 h1.1) in_X5_copyFrom_X5 rfl (by decide) mw_X5_copyFrom_0 rfl rfl dX5_copyFrom_2 ?_
  refine z_put C (Cn := RX5) (T := TX5) (N := 5) (ci := 4) h0.2 0 (tE4 h0.1) (tS4_0 h0.1 _) in_X5_copyFrom_X5 tyX5 tyX5_ok nmX5 rfl (by decide) mw_X5_copyFrom_0 rfl rfl (tyX5_ok 0 (by decide)) rfl rfl (Nat.le_of_ble_eq_true rfl) dX5_copyFrom_5 (fun τ21 eτ21 => ?_)
  have hw := hw τ21 eτ21
  refine z_aload_n C 0 (by rfl) dX5_copyFrom_8 ?_
  refine z_aload_n C 1 (by rfl) dX5_copyFrom_9 ?_
  refine z_get C (Cn := RX5) (T := TX5) (N := 5) (ci := 4) h1.2 1 (tE4 h1.1) in_X5_copyFrom_X5 rfl (by decide) mw_X5_copyFrom_1 rfl rfl dX5_copyFrom_10 ?_
  refine z_put C (Cn := RX5) (T := TX5) (N := 5) (ci := 4) h0.2 1 (tE4 h0.1) (tS4_1 h0.1 _) in_X5_copyFrom_X5 tyX5 tyX5_ok nmX5 rfl (by decide) mw_X5_copyFrom_1 rfl rfl (tyX5_ok 1 (by decide)) rfl rfl (Nat.le_of_ble_eq_true rfl) dX5_copyFrom_13 (fun τ22 eτ22 => ?_)
  have hw := hw τ22 eτ22
  refine z_aload_n C 0 (by rfl) dX5_copyFrom_16 ?_
  refine z_aload_n C 1 (by rfl) dX5_copyFrom_17 ?_
  refine z_get C (Cn := RX5) (T := TX5) (N := 5) (ci := 4) h1.2 2 (tE4 h1.1) in_X5_copyFrom_X5 rfl (by decide) mw_X5_copyFrom_2 rfl rfl dX5_copyFrom_18 ?_
  refine z_put C (Cn := RX5) (T := TX5) (N := 5) (ci := 4) h0.2 2 (tE4 h0.1) (tS4_2 h0.1 _) in_X5_copyFrom_X5 tyX5 tyX5_ok nmX5 rfl (by decide) mw_X5_copyFrom_2 rfl rfl (tyX5_ok 2 (by decide)) rfl rfl (Nat.le_of_ble_eq_true rfl) dX5_copyFrom_21 (fun τ23 eτ23 => ?_)
  have hw := hw τ23 eτ23
  refine z_aload_n C 0 (by rfl) dX5_copyFrom_24 ?_
  refine z_aload_n C 1 (by rfl) dX5_copyFrom_25 ?_
  refine z_get C (Cn := RX5) (T := TX5) (N := 5) (ci := 4) h1.2 3 (tE4 h1.1) in_X5_copyFrom_X5 rfl (by decide) mw_X5_copyFrom_3 rfl rfl dX5_copyFrom_26 ?_
  refine z_put C (Cn := RX5) (T := TX5) (N := 5) (ci := 4) h0.2 3 (tE4 h0.1) (tS4_3 h0.1 _) in_X5_copyFrom_X5 tyX5 tyX5_ok nmX5 rfl (by decide) mw_X5_copyFrom_3 rfl rfl (tyX5_ok 3 (by decide)) rfl rfl (Nat.le_of_ble_eq_true rfl) dX5_copyFrom_29 (fun τ24 eτ24 => ?_)
  have hw := hw τ24 eτ24
  refine z_aload_n C 0 (by rfl) dX5_copyFrom_32 ?_
  refine z_aload_n C 1 (by rfl) dX5_copyFrom_33 ?_
  refine z_get C (Cn := RX5) (T := TX5) (N := 5) (ci := 4) h1.2 4 (tE4 h1.1) in_X5_copyFrom_X5 rfl (by decide) mw_X5_copyFrom_4 rfl rfl dX5_copyFrom_34 ?_
  refine z_put C (Cn := RX5) (T := TX5) (N := 5) (ci := 4) h0.2 4 (tE4 h0.1) (tS4_4 h0.1 _) in_X5_copyFrom_X5 tyX5 tyX5_ok nmX5 rfl (by decide) mw_X5_copyFrom_4 rfl rfl (tyX5_ok 4 (by decide)) rfl rfl (Nat.le_of_ble_eq_true rfl) dX5_copyFrom_37 (fun τ25 eτ25 => ?_)
  have hw := hw τ25 eτ25
  exact hR _ _ _ dX5_copyFrom_40 hw
def wp_X7_copyFrom (τ : TS) (i0 : Nat) (j1 : Nat) (K : TS → Prop) : Prop :=
  ∀ τ21 : TS, τ21 = tp_rw τ (i0 + 1) (va_cpy (τ (j1 + 1)) (τ (i0 + 1)) (Int32.toNatClampNeg 0) (Int32.toNatClampNeg 0) (Int32.toNatClampNeg 20)) → ∀ τ22 : TS, τ22 = tp_up τ21 i0 1 (τ21 j1 1) → ∀ τ23 : TS, τ23 = tp_up τ22 i0 2 (τ22 j1 2) → ∀ τ24 : TS, τ24 = tp_rw τ23 (i0 + 2) (va_cpy (τ23 (j1 + 2)) (τ23 (i0 + 2)) (Int32.toNatClampNeg 0) (Int32.toNatClampNeg 0) (Int32.toNatClampNeg 10)) → ∀ τ25 : TS, τ25 = tp_up τ24 i0 4 (τ24 j1 4) → ∀ τ26 : TS, τ26 = tp_up τ25 i0 5 (τ25 j1 5) → ∀ τ27 : TS, τ27 = tp_up τ26 i0 6 (τ26 j1 6) → K τ27
theorem mw_X7_copyFrom_0 : Cond.fieldLink RX7 9 "TidePost$Way" "queue" "[I" ∈ wsX7_copyFrom := List.mem_of_getElem? (i := 1) rfl
theorem mw_X7_copyFrom_1 : Cond.methodLink RX7 43 arraycopyName ∈ wsX7_copyFrom := List.mem_of_getElem? (i := 2) rfl
theorem mw_X7_copyFrom_2 : Cond.native arraycopyName ∈ wsX7_copyFrom := List.mem_of_getElem? (i := 3) rfl
theorem mw_X7_copyFrom_3 : Cond.static arraycopyName ∈ wsX7_copyFrom := List.mem_of_getElem? (i := 4) rfl
theorem mw_X7_copyFrom_4 : Cond.initialized "java/lang/System" ∈ wsX7_copyFrom := List.mem_of_getElem? (i := 5) rfl
theorem mw_X7_copyFrom_5 : Cond.fieldLink RX7 22 "TidePost$Way" "head" "I" ∈ wsX7_copyFrom := List.mem_of_getElem? (i := 6) rfl
theorem mw_X7_copyFrom_6 : Cond.fieldLink RX7 18 "TidePost$Way" "queued" "I" ∈ wsX7_copyFrom := List.mem_of_getElem? (i := 7) rfl
theorem mw_X7_copyFrom_7 : Cond.fieldLink RX7 15 "TidePost$Way" "flight" "[I" ∈ wsX7_copyFrom := List.mem_of_getElem? (i := 8) rfl
theorem mw_X7_copyFrom_8 : Cond.fieldLink RX7 37 "TidePost$Way" "flying" "I" ∈ wsX7_copyFrom := List.mem_of_getElem? (i := 9) rfl
theorem mw_X7_copyFrom_9 : Cond.fieldLink RX7 40 "TidePost$Way" "flown" "I" ∈ wsX7_copyFrom := List.mem_of_getElem? (i := 10) rfl
theorem mw_X7_copyFrom_10 : Cond.fieldLink RX7 25 "TidePost$Way" "toLose" "I" ∈ wsX7_copyFrom := List.mem_of_getElem? (i := 11) rfl
theorem in_X7_copyFrom_X7 : ∀ x ∈ wsX70, x ∈ wsX7_copyFrom := fun _ h => List.mem_cons_of_mem _ (List.mem_append_right _ h)
set_option maxHeartbeats 4000000 in
set_option maxRecDepth 100000 in
theorem c_X7_copyFrom (w : WPar) (τ : TS) (i0 : Nat) (j1 : Nat) (K : TS → Prop) (h0 : tp_is w i0 6) (h1 : tp_is w j1 6) (hw : wp_X7_copyFrom τ i0 j1 K) : MV w yX7_copyFrom wsX7_copyFrom 1 18 [.ref (w.1 i0), .ref (w.1 j1)] τ K := by
  refine tp_enterV (cc := cX7_copyFrom) (maxL := 2) (own := RX7) (by decide) rfl rfl (Nat.le_of_ble_eq_true rfl) (fun g C hR => ?_)
  show Zt w g τ (0, 0) 0 [(0, .ref (w.1 i0)), (1, .ref (w.1 j1))] []
  unfold wp_X7_copyFrom at hw
  refine z_aload_n C 1 (by rfl) dX7_copyFrom_0 ?_
  refine z_get C (Cn := RX7) (T := TX7) (N := 7) (ci := 6) h1.2 0 (tE6 h1.1) in_X7_copyFrom_X7 rfl (by decide) mw_X7_copyFrom_0 rfl rfl dX7_copyFrom_1 ?_
  refine z_iconst C 0 (by decide) dX7_copyFrom_4 ?_
  refine z_aload_n C 0 (by rfl) dX7_copyFrom_5 ?_
  refine z_get C (Cn := RX7) (T := TX7) (N := 7) (ci := 6) h0.2 0 (tE6 h0.1) in_X7_copyFrom_X7 rfl (by decide) mw_X7_copyFrom_0 rfl rfl dX7_copyFrom_6 ?_
  refine z_iconst C 0 (by decide) dX7_copyFrom_9 ?_
  refine z_bipush C 20 (by decide) dX7_copyFrom_10 ?_
  refine z_copy C (t := 0) (ty := .int) (tR6_0 h1).2 (tR6_0 h0).2 (fun _ => tE8 (tR6_0 h1).1) (fun _ => tE8 (tR6_0 h0).1) rfl rfl (by decide) (by decide) (by decide) (by decide) (by decide) (fun _ _ => rfl) mw_X7_copyFrom_1 mw_X7_copyFrom_2 mw_X7_copyFrom_3 mw_X7_copyFrom_4 (Nat.le_of_ble_eq_true rfl) (by simp [nativeFrameWords]) dX7_copyFrom_12 (fun τ21 eτ21 => ?_)
  have hw := hw τ21 eτ21
  refine z_aload_n C 0 (by rfl) dX7_copyFrom_15 ?_
  refine z_aload_n C 1 (by rfl) dX7_copyFrom_16 ?_
  refine z_get C (Cn := RX7) (T := TX7) (N := 7) (ci := 6) h1.2 1 (tE6 h1.1) in_X7_copyFrom_X7 rfl (by decide) mw_X7_copyFrom_5 rfl rfl dX7_copyFrom_17 ?_
  refine z_put C (Cn := RX7) (T := TX7) (N := 7) (ci := 6) h0.2 1 (tE6 h0.1) (tS6_1 h0.1 _) in_X7_copyFrom_X7 tyX7 tyX7_ok nmX7 rfl (by decide) mw_X7_copyFrom_5 rfl rfl (tyX7_ok 1 (by decide)) rfl rfl (Nat.le_of_ble_eq_true rfl) dX7_copyFrom_20 (fun τ22 eτ22 => ?_)
  have hw := hw τ22 eτ22
  refine z_aload_n C 0 (by rfl) dX7_copyFrom_23 ?_
  refine z_aload_n C 1 (by rfl) dX7_copyFrom_24 ?_
  refine z_get C (Cn := RX7) (T := TX7) (N := 7) (ci := 6) h1.2 2 (tE6 h1.1) in_X7_copyFrom_X7 rfl (by decide) mw_X7_copyFrom_6 rfl rfl dX7_copyFrom_25 ?_
  refine z_put C (Cn := RX7) (T := TX7) (N := 7) (ci := 6) h0.2 2 (tE6 h0.1) (tS6_2 h0.1 _) in_X7_copyFrom_X7 tyX7 tyX7_ok nmX7 rfl (by decide) mw_X7_copyFrom_6 rfl rfl (tyX7_ok 2 (by decide)) rfl rfl (Nat.le_of_ble_eq_true rfl) dX7_copyFrom_28 (fun τ23 eτ23 => ?_)
  have hw := hw τ23 eτ23
  refine z_aload_n C 1 (by rfl) dX7_copyFrom_31 ?_
  refine z_get C (Cn := RX7) (T := TX7) (N := 7) (ci := 6) h1.2 3 (tE6 h1.1) in_X7_copyFrom_X7 rfl (by decide) mw_X7_copyFrom_7 rfl rfl dX7_copyFrom_32 ?_
  refine z_iconst C 0 (by decide) dX7_copyFrom_35 ?_
  refine z_aload_n C 0 (by rfl) dX7_copyFrom_36 ?_
  refine z_get C (Cn := RX7) (T := TX7) (N := 7) (ci := 6) h0.2 3 (tE6 h0.1) in_X7_copyFrom_X7 rfl (by decide) mw_X7_copyFrom_7 rfl rfl dX7_copyFrom_37 ?_
  refine z_iconst C 0 (by decide) dX7_copyFrom_40 ?_
  refine z_bipush C 10 (by decide) dX7_copyFrom_41 ?_
  refine z_copy C (t := 0) (ty := .int) (tR6_3 h1).2 (tR6_3 h0).2 (fun _ => tE9 (tR6_3 h1).1) (fun _ => tE9 (tR6_3 h0).1) rfl rfl (by decide) (by decide) (by decide) (by decide) (by decide) (fun _ _ => rfl) mw_X7_copyFrom_1 mw_X7_copyFrom_2 mw_X7_copyFrom_3 mw_X7_copyFrom_4 (Nat.le_of_ble_eq_true rfl) (by simp [nativeFrameWords]) dX7_copyFrom_43 (fun τ24 eτ24 => ?_)
  have hw := hw τ24 eτ24
  refine z_aload_n C 0 (by rfl) dX7_copyFrom_46 ?_
  refine z_aload_n C 1 (by rfl) dX7_copyFrom_47 ?_
  refine z_get C (Cn := RX7) (T := TX7) (N := 7) (ci := 6) h1.2 4 (tE6 h1.1) in_X7_copyFrom_X7 rfl (by decide) mw_X7_copyFrom_8 rfl rfl dX7_copyFrom_48 ?_
  refine z_put C (Cn := RX7) (T := TX7) (N := 7) (ci := 6) h0.2 4 (tE6 h0.1) (tS6_4 h0.1 _) in_X7_copyFrom_X7 tyX7 tyX7_ok nmX7 rfl (by decide) mw_X7_copyFrom_8 rfl rfl (tyX7_ok 4 (by decide)) rfl rfl (Nat.le_of_ble_eq_true rfl) dX7_copyFrom_51 (fun τ25 eτ25 => ?_)
  have hw := hw τ25 eτ25
  refine z_aload_n C 0 (by rfl) dX7_copyFrom_54 ?_
  refine z_aload_n C 1 (by rfl) dX7_copyFrom_55 ?_
  refine z_get C (Cn := RX7) (T := TX7) (N := 7) (ci := 6) h1.2 5 (tE6 h1.1) in_X7_copyFrom_X7 rfl (by decide) mw_X7_copyFrom_9 rfl rfl dX7_copyFrom_56 ?_
  refine z_put C (Cn := RX7) (T := TX7) (N := 7) (ci := 6) h0.2 5 (tE6 h0.1) (tS6_5 h0.1 _) in_X7_copyFrom_X7 tyX7 tyX7_ok nmX7 rfl (by decide) mw_X7_copyFrom_9 rfl rfl (tyX7_ok 5 (by decide)) rfl rfl (Nat.le_of_ble_eq_true rfl) dX7_copyFrom_59 (fun τ26 eτ26 => ?_)
  have hw := hw τ26 eτ26
  refine z_aload_n C 0 (by rfl) dX7_copyFrom_62 ?_
  refine z_aload_n C 1 (by rfl) dX7_copyFrom_63 ?_
  refine z_get C (Cn := RX7) (T := TX7) (N := 7) (ci := 6) h1.2 6 (tE6 h1.1) in_X7_copyFrom_X7 rfl (by decide) mw_X7_copyFrom_10 rfl rfl dX7_copyFrom_64 ?_
  refine z_put C (Cn := RX7) (T := TX7) (N := 7) (ci := 6) h0.2 6 (tE6 h0.1) (tS6_6 h0.1 _) in_X7_copyFrom_X7 tyX7 tyX7_ok nmX7 rfl (by decide) mw_X7_copyFrom_10 rfl rfl (tyX7_ok 6 (by decide)) rfl rfl (Nat.le_of_ble_eq_true rfl) dX7_copyFrom_67 (fun τ27 eτ27 => ?_)
  have hw := hw τ27 eτ27
  exact hR _ _ _ dX7_copyFrom_70 hw
