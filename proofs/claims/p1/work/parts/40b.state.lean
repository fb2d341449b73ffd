def wp_X9_become (τ : TS) (i0 : Nat) (j1 : Nat) (K : TS → Prop) : Prop :=
  ((((τ j1 1) * 6) ≤ 120) → (∀ τ22 : TS, τ22 = tp_up τ i0 1 (τ j1 1) → ¬ ((τ22 i0 1) * 6) < 0 ∧ ((Int32.toNatClampNeg 0) + (Int32.toNatClampNeg ((τ22 i0 1) * 6)) ≤ 120 ∧ ((Int32.toNatClampNeg 0) + (Int32.toNatClampNeg ((τ22 i0 1) * 6)) ≤ 120 ∧ (∀ τ26 : TS, τ26 = tp_rw τ22 (i0 + 1) (va_cpy (τ22 (j1 + 1)) (τ22 (i0 + 1)) (Int32.toNatClampNeg 0) (Int32.toNatClampNeg 0) (Int32.toNatClampNeg ((τ22 i0 1) * 6))) → K τ26))))) ∧ ((¬ ((τ j1 1) * 6) ≤ 120) → False)
theorem mw_X9_become_0 : Cond.fieldLink RX9 9 "TidePostModel$Row" "cells" "[I" ∈ wsX9_become := List.mem_of_getElem? (i := 1) rfl
theorem mw_X9_become_1 : Cond.fieldLink RX9 15 "TidePostModel$Row" "many" "I" ∈ wsX9_become := List.mem_of_getElem? (i := 2) rfl
theorem mw_X9_become_3 : Cond.methodLink RX9 25 arraycopyName ∈ wsX9_become := List.mem_of_getElem? (i := 4) rfl
theorem mw_X9_become_4 : Cond.native arraycopyName ∈ wsX9_become := List.mem_of_getElem? (i := 5) rfl
theorem mw_X9_become_5 : Cond.static arraycopyName ∈ wsX9_become := List.mem_of_getElem? (i := 6) rfl
theorem mw_X9_become_6 : Cond.initialized "java/lang/System" ∈ wsX9_become := List.mem_of_getElem? (i := 7) rfl
theorem in_X9_become_X9 : ∀ x ∈ wsX90, x ∈ wsX9_become := fun _ h => List.mem_cons_of_mem _ (List.mem_append_right _ h)
set_option maxHeartbeats 4000000 in
set_option maxRecDepth 100000 in
theorem c_X9_become (w : WPar) (τ : TS) (i0 : Nat) (j1 : Nat) (K : TS → Prop) (h0 : tp_is w i0 31) (h1 : tp_is w j1 31) (hw : wp_X9_become τ i0 j1 K) : MV w yX9_become wsX9_become 1 18 [.ref (w.1 i0), .ref (w.1 j1)] τ K := by
  refine tp_enterV (cc := cX9_become) (maxL := 2) (own := RX9) (by decide) rfl rfl (Nat.le_of_ble_eq_true rfl) (fun g C hR => ?_)
  show Zt w g τ (0, 0) 0 [(0, .ref (w.1 i0)), (1, .ref (w.1 j1))] []
  unfold wp_X9_become at hw
  refine z_aload_n C 0 (by rfl) dX9_become_0 ?_
  refine z_get C (Cn := RX9) (T := TX9) (N := 2) (ci := 8) h0.2 0 (tE31 h0.1) in_X9_become_X9 rfl (by decide) mw_X9_become_0 rfl rfl dX9_become_1 ?_
  refine z_alen C 0 120 (tR31_0 h0).2 (tE32 (tR31_0 h0).1) rfl rfl dX9_become_4 ?_
  refine z_aload_n C 1 (by rfl) dX9_become_5 ?_
  refine z_get C (Cn := RX9) (T := TX9) (N := 2) (ci := 8) h1.2 1 (tE31 h1.1) in_X9_become_X9 rfl (by decide) mw_X9_become_1 rfl rfl dX9_become_6 ?_
  refine z_bipush C 6 (by decide) dX9_become_9 ?_
  refine z_imul C dX9_become_11 ?_
  refine z_icmp_ge (tgt := 26) C dX9_become_12 (by decide) (fun c21 => ?_) (fun c21 => ?_)
  · have hw := hw.1 c21
    refine z_aload_n C 0 (by rfl) dX9_become_26 ?_
    refine z_aload_n C 1 (by rfl) dX9_become_27 ?_
    refine z_get C (Cn := RX9) (T := TX9) (N := 2) (ci := 8) h1.2 1 (tE31 h1.1) in_X9_become_X9 rfl (by decide) mw_X9_become_1 rfl rfl dX9_become_28 ?_
    refine z_put C (Cn := RX9) (T := TX9) (N := 2) (ci := 8) h0.2 1 (tE31 h0.1) (tS31_1 h0.1 _) in_X9_become_X9 tyX9 tyX9_ok nmX9 rfl (by decide) mw_X9_become_1 rfl rfl (tyX9_ok 1 (by decide)) rfl rfl (Nat.le_of_ble_eq_true rfl) dX9_become_31 (fun τ22 eτ22 => ?_)
    have hw := hw τ22 eτ22
    refine z_aload_n C 1 (by rfl) dX9_become_34 ?_
    refine z_get C (Cn := RX9) (T := TX9) (N := 2) (ci := 8) h1.2 0 (tE31 h1.1) in_X9_become_X9 rfl (by decide) mw_X9_become_0 rfl rfl dX9_become_35 ?_
    refine z_iconst C 0 (by decide) dX9_become_38 ?_
    refine z_aload_n C 0 (by rfl) dX9_become_39 ?_
    refine z_get C (Cn := RX9) (T := TX9) (N := 2) (ci := 8) h0.2 0 (tE31 h0.1) in_X9_become_X9 rfl (by decide) mw_X9_become_0 rfl rfl dX9_become_40 ?_
    refine z_iconst C 0 (by decide) dX9_become_43 ?_
    refine z_aload_n C 0 (by rfl) dX9_become_44 ?_
    refine z_get C (Cn := RX9) (T := TX9) (N := 2) (ci := 8) h0.2 1 (tE31 h0.1) in_X9_become_X9 rfl (by decide) mw_X9_become_1 rfl rfl dX9_become_45 ?_
    refine z_bipush C 6 (by decide) dX9_become_48 ?_
    refine z_imul C dX9_become_50 ?_
    obtain ⟨s23, hw⟩ := hw
    obtain ⟨s24, hw⟩ := hw
    obtain ⟨s25, hw⟩ := hw
    refine z_copy C (t := 0) (ty := .int) (tR31_0 h1).2 (tR31_0 h0).2 (fun _ => tE32 (tR31_0 h1).1) (fun _ => tE32 (tR31_0 h0).1) rfl rfl (by decide) (by decide) s23 s24 s25 (fun _ _ => rfl) mw_X9_become_3 mw_X9_become_4 mw_X9_become_5 mw_X9_become_6 (Nat.le_of_ble_eq_true rfl) (by simp [nativeFrameWords]) dX9_become_51 (fun τ26 eτ26 => ?_)
    have hw := hw τ26 eτ26
    exact hR _ _ _ dX9_become_54 hw
  · have hw := hw.2 c21
    refine z_aload_n C 0 (by rfl) dX9_become_15 ?_
    refine z_aload_n C 1 (by rfl) dX9_become_16 ?_
    refine z_get C (Cn := RX9) (T := TX9) (N := 2) (ci := 8) h1.2 0 (tE31 h1.1) in_X9_become_X9 rfl (by decide) mw_X9_become_0 rfl rfl dX9_become_17 ?_
    refine z_alen C 0 120 (tR31_0 h1).2 (tE32 (tR31_0 h1).1) rfl rfl dX9_become_20 ?_
    exact hw.elim
def wp_J7_fill_53178 (τ : TS) (j0 : Nat) (x1 : Int32) (K : TS → Prop) : Prop :=
  ∃ (I23 : TS → Int32 → Prop) (u23 : TS → Int32 → Nat), I23 τ 0 ∧ ∀ (τ21 : TS) (x22 : Int32), I23 τ21 x22 → (((8 ≤ x22) → (K τ21)) ∧ ((¬ 8 ≤ x22) → (vp_in x22 8 ∧ (∀ τ26 : TS, τ26 = tp_up τ21 j0 (Int32.toNatClampNeg x22) x1 → ∀ x27 : Int32, x27 = x22 + 1 → I23 τ26 x27 ∧ u23 τ26 x27 < u23 τ21 x22))))
set_option maxHeartbeats 4000000 in
set_option maxRecDepth 100000 in
theorem c_J7_fill_53178 (w : WPar) (τ : TS) (j0 : Nat) (x1 : Int32) (K : TS → Prop) (h0 : tp_is w j0 13) (hw : wp_J7_fill_53178 τ j0 x1 K) : MV w yJ7_fill_53178 wsJ7_fill_53178 0 0 [.ref (w.1 j0), .int x1] τ K := by
  refine tp_enterVF (cc := cJ7_fill_53178) (maxL := 4) (own := RJ7) (by decide +kernel) rfl rfl (Nat.le_of_ble_eq_true rfl) (fun g C hR => ?_)
  show Zt w g τ (0, 0) 0 [(0, .ref (w.1 j0)), (1, .int x1)] []
  unfold wp_J7_fill_53178 at hw
  refine z_iconst C 0 (by decide) dJ7_fill_53178_0 ?_
  refine z_istore_n C [(2, .int 0), (0, .ref (w.1 j0)), (1, .int x1)] dJ7_fill_53178_1 (by decide) rfl ?_
  refine z_aload_n C 1 (by rfl) dJ7_fill_53178_2 ?_
  refine z_alen C 0 8 h0.2 (tE13 h0.1) rfl rfl dJ7_fill_53178_3 ?_
  refine z_istore_n C [(3, .int 8), (2, .int 0), (0, .ref (w.1 j0)), (1, .int x1)] dJ7_fill_53178_4 (by decide) rfl ?_
  obtain ⟨I23, u23, hI23, hs23⟩ := hw
  have lp23 : ∀ (n23 : Nat) (τ21 : TS) (x22 : Int32), u23 τ21 x22 < n23 → I23 τ21 x22 → Zt w g τ21 (0, 0) 5 [(0, .ref (w.1 j0)), (1, .int x1), (2, .int x22), (3, .int 8)] [] := by
    intro n23
    induction n23 with
    | zero => intro τ21 x22 hlt23; exact absurd hlt23 (Nat.not_lt_zero _)
    | succ n23 ih23 =>
      intro τ21 x22 hlt23 hh23
      have hw := hs23 τ21 x22 hh23
      refine z_iload_n C 2 (by rfl) dJ7_fill_53178_5 ?_
      refine z_iload_n C 3 (by rfl) dJ7_fill_53178_6 ?_
      refine z_icmp_ge (tgt := 20) C dJ7_fill_53178_7 (by decide) (fun c24 => ?_) (fun c24 => ?_)
      · have hw := hw.1 c24
        exact hR _ _ _ dJ7_fill_53178_20 hw
      · have hw := hw.2 c24
        refine z_aload_n C 0 (by rfl) dJ7_fill_53178_10 ?_
        refine z_iload_n C 2 (by rfl) dJ7_fill_53178_11 ?_
        refine z_iload_n C 1 (by rfl) dJ7_fill_53178_12 ?_
        obtain ⟨s25, hw⟩ := hw
        refine z_iast C h0.2 (fun _ => tE13 h0.1) s25 dJ7_fill_53178_13 (fun τ26 eτ26 => ?_)
        have hw := hw τ26 eτ26
        obtain ⟨x27, ex27⟩ : ∃ z : Int32, z = x22 + 1 := ⟨_, rfl⟩
        have hw := hw x27 ex27
        refine z_iinc C 2 x27 [(2, .int x27), (0, .ref (w.1 j0)), (1, .int x1), (3, .int 8)] dJ7_fill_53178_14 (by rfl) (by rw [ex27]; rfl) (by decide) rfl ?_
        refine z_goto (tgt := 5) C dJ7_fill_53178_17 (by decide) ?_
        refine z_sub [1, 2, 0, 3] [(0, .ref (w.1 j0)), (1, .int x1), (2, .int x27), (3, .int 8)] rfl ?_
        exact ih23 τ26 x27 (Nat.lt_of_lt_of_le hw.2 (Nat.le_of_lt_succ hlt23)) hw.1
  refine z_sub [2, 3, 1, 0] [(0, .ref (w.1 j0)), (1, .int x1), (2, .int 0), (3, .int 8)] rfl ?_
  exact lp23 _ τ 0 (Nat.lt_succ_self _) hI23
def wp_X10_routes (τ : TS) (i0 : Nat) (x1 : Int32) (K : TS → Prop) : Prop :=
  ∃ (I23 : TS → Int32 → Prop) (u23 : TS → Int32 → Nat), I23 τ 0 ∧ ∀ (τ21 : TS) (x22 : Int32), I23 τ21 x22 → (((8 ≤ x22) → (∃ (I27 : TS → Int32 → Prop) (u27 : TS → Int32 → Nat), I27 τ21 0 ∧ ∀ (τ25 : TS) (x26 : Int32), I27 τ25 x26 → ((((τ25 234 1) ≤ x26) → (∃ (I31 : TS → Int32 → Prop) (u31 : TS → Int32 → Nat), I31 τ25 0 ∧ ∀ (τ29 : TS) (x30 : Int32), I31 τ29 x30 → ((((τ29 234 2) ≤ x30) → (∃ (I35 : TS → Int32 → Prop) (u35 : TS → Int32 → Nat), I35 τ29 0 ∧ ∀ (τ33 : TS) (x34 : Int32), I35 τ33 x34 → ((((τ33 234 1) ≤ x34) → (K τ33)) ∧ ((¬ (τ33 234 1) ≤ x34) → (∃ (I39 : TS → Int32 → Prop) (u39 : TS → Int32 → Nat), I39 τ33 0 ∧ ∀ (τ37 : TS) (x38 : Int32), I39 τ37 x38 → ((((τ37 234 1) ≤ x38) → (∀ x41 : Int32, x41 = x34 + 1 → I35 τ37 x41 ∧ u35 τ37 x41 < u35 τ33 x34)) ∧ ((¬ (τ37 234 1) ≤ x38) → (∃ (I44 : TS → Int32 → Prop) (u44 : TS → Int32 → Nat), I44 τ37 0 ∧ ∀ (τ42 : TS) (x43 : Int32), I44 τ42 x43 → ((((τ42 234 1) ≤ x43) → (∀ x46 : Int32, x46 = x38 + 1 → I39 τ42 x46 ∧ u39 τ42 x46 < u39 τ37 x38)) ∧ ((¬ (τ42 234 1) ≤ x43) → (vp_in x38 8 ∧ (vp_in x38 8 ∧ (vp_in x43 8 ∧ (vp_in x38 8 ∧ (vp_in x34 8 ∧ (vp_in x34 8 ∧ (vp_in x43 8 ∧ (∀ x54 : Int32, x54 = (if ((τ42 ((i0 + 2) + 1 + (Int32.toNatClampNeg x38)) (Int32.toNatClampNeg x34)) + (τ42 ((i0 + 2) + 1 + (Int32.toNatClampNeg x34)) (Int32.toNatClampNeg x43))) < (τ42 ((i0 + 2) + 1 + (Int32.toNatClampNeg x38)) (Int32.toNatClampNeg x43)) then ((τ42 ((i0 + 2) + 1 + (Int32.toNatClampNeg x38)) (Int32.toNatClampNeg x34)) + (τ42 ((i0 + 2) + 1 + (Int32.toNatClampNeg x34)) (Int32.toNatClampNeg x43))) else (τ42 ((i0 + 2) + 1 + (Int32.toNatClampNeg x38)) (Int32.toNatClampNeg x43))) → vp_in x43 8 ∧ (∀ τ56 : TS, τ56 = tp_up τ42 ((i0 + 2) + 1 + (Int32.toNatClampNeg x38)) (Int32.toNatClampNeg x43) x54 → ∀ x57 : Int32, x57 = x43 + 1 → I44 τ56 x57 ∧ u44 τ56 x57 < u44 τ42 x43))))))))))))))))))) ∧ ((¬ (τ29 234 2) ≤ x30) → (vp_in x30 12 ∧ ((((τ29 (i0 + 1) (Int32.toNatClampNeg x30)) = 0) → (∀ x60 : Int32, x60 = x30 + 1 → I31 τ29 x60 ∧ u31 τ29 x60 < u31 τ29 x30)) ∧ ((¬ (τ29 (i0 + 1) (Int32.toNatClampNeg x30)) = 0) → (((¬ x30 = x1) → (vp_in x30 12 ∧ (vp_in (τ29 235 (Int32.toNatClampNeg x30)) 8 ∧ (vp_in x30 12 ∧ (vp_in x30 12 ∧ (vp_in (τ29 236 (Int32.toNatClampNeg x30)) 8 ∧ (∀ τ67 : TS, τ67 = tp_up τ29 ((i0 + 2) + 1 + (Int32.toNatClampNeg (τ29 235 (Int32.toNatClampNeg x30)))) (Int32.toNatClampNeg (τ29 236 (Int32.toNatClampNeg x30))) (τ29 237 (Int32.toNatClampNeg x30)) → vp_in x30 12 ∧ (vp_in (τ67 236 (Int32.toNatClampNeg x30)) 8 ∧ (vp_in x30 12 ∧ (vp_in x30 12 ∧ (vp_in (τ67 235 (Int32.toNatClampNeg x30)) 8 ∧ (∀ τ73 : TS, τ73 = tp_up τ67 ((i0 + 2) + 1 + (Int32.toNatClampNeg (τ67 236 (Int32.toNatClampNeg x30)))) (Int32.toNatClampNeg (τ67 235 (Int32.toNatClampNeg x30))) (τ67 237 (Int32.toNatClampNeg x30)) → ∀ x74 : Int32, x74 = x30 + 1 → I31 τ73 x74 ∧ u31 τ73 x74 < u31 τ29 x30)))))))))))) ∧ ((x30 = x1) → (∀ x75 : Int32, x75 = x30 + 1 → I31 τ29 x75 ∧ u31 τ29 x75 < u31 τ29 x30)))))))))) ∧ ((¬ (τ25 234 1) ≤ x26) → (vp_in x26 8 ∧ (vp_in x26 8 ∧ (∀ τ78 : TS, τ78 = tp_up τ25 ((i0 + 2) + 1 + (Int32.toNatClampNeg x26)) (Int32.toNatClampNeg x26) 0 → ∀ x79 : Int32, x79 = x26 + 1 → I27 τ78 x79 ∧ u27 τ78 x79 < u27 τ25 x26))))))) ∧ ((¬ 8 ≤ x22) → (vp_in x22 8 ∧ (wp_J7_fill_53178 τ21 ((i0 + 2) + 1 + (Int32.toNatClampNeg x22)) 1000000 (fun τ81 => ∀ x82 : Int32, x82 = x22 + 1 → I23 τ81 x82 ∧ u23 τ81 x82 < u23 τ21 x22)))))
theorem mw_X10_routes_0 : Cond.fieldLink RX10 21 "TidePostModel$State" "far" "[[I" ∈ wsX10_routes := List.mem_of_getElem? (i := 1) rfl
theorem mw_X10_routes_2 : Cond.fieldLink RX10 3 "TidePostModel$State" "this$0" "LTidePostModel;" ∈ wsX10_routes := List.mem_of_getElem? (i := 3) rfl
theorem mw_X10_routes_4 : Cond.methodLink RX10 94 Lib.Math.min.name ∈ wsX10_routes := List.mem_of_getElem? (i := 5) rfl
theorem mw_X10_routes_5 : Cond.static Lib.Math.min.name ∈ wsX10_routes := List.mem_of_getElem? (i := 6) rfl
theorem mw_X10_routes_6 : Cond.initialized "java/lang/Math" ∈ wsX10_routes := List.mem_of_getElem? (i := 7) rfl
theorem mw_X10_routes_7 : Cond.code Lib.Math.min.name Lib.Math.min.code 2 (some .int) ∈ wsX10_routes := List.mem_of_getElem? (i := 8) rfl
theorem mw_X10_routes_3 : Cond.fieldLink RX10 15 "TidePostModel$State" "isUp" "[Z" ∈ wsX10_routes := List.mem_of_getElem? (i := 4) rfl
theorem mw_X10_routes_1 : Cond.constant RX10 72 (1000000) ∈ wsX10_routes := List.mem_of_getElem? (i := 2) rfl
theorem in_X10_routes_X10 : ∀ x ∈ wsX100, x ∈ wsX10_routes := fun _ h => List.mem_cons_of_mem _ (List.mem_append_left _ (List.mem_append_right _ h))
theorem in_X10_routes_X11 : ∀ x ∈ wsX110, x ∈ wsX10_routes := fun _ h => List.mem_cons_of_mem _ (List.mem_append_right _ h)
set_option maxHeartbeats 4000000 in
set_option maxRecDepth 100000 in
theorem c_X10_routes (w : WPar) (τ : TS) (i0 : Nat) (x1 : Int32) (K : TS → Prop) (h0 : tp_is w i0 21) (hw : wp_X10_routes τ i0 x1 K) : MV w yX10_routes wsX10_routes 1 23 [.ref (w.1 i0), .int x1] τ K := by
  refine tp_enterV (cc := cX10_routes) (maxL := 6) (own := RX10) (by decide) rfl rfl (Nat.le_of_ble_eq_true rfl) (fun g C hR => ?_)
  show Zt w g τ (0, 0) 0 [(0, .ref (w.1 i0)), (1, .int x1)] []
  unfold wp_X10_routes at hw
  refine z_aload_n C 0 (by rfl) dX10_routes_0 ?_
  refine z_get C (Cn := RX10) (T := TX10) (N := 13) (ci := 9) h0.2 4 (tE21 h0.1) in_X10_routes_X10 rfl (by decide) mw_X10_routes_0 rfl rfl dX10_routes_1 ?_
  refine z_astore_n C [(2, .ref (w.1 (i0 + 2))), (0, .ref (w.1 i0)), (1, .int x1)] dX10_routes_4 (by decide) rfl ?_
  refine z_aload_n C 0 (by rfl) dX10_routes_5 ?_
  refine z_alen C 4 8 (tR21_4 h0).2 (tE22 (tR21_4 h0).1) rfl rfl dX10_routes_6 ?_
  refine z_istore_n C [(3, .int 8), (2, .ref (w.1 (i0 + 2))), (0, .ref (w.1 i0)), (1, .int x1)] dX10_routes_7 (by decide) rfl ?_
  refine z_iconst C 0 (by decide) dX10_routes_8 ?_
  refine z_istore C [(4, .int 0), (3, .int 8), (2, .ref (w.1 (i0 + 2))), (0, .ref (w.1 i0)), (1, .int x1)] dX10_routes_9 (by decide) rfl ?_
  obtain ⟨I23, u23, hI23, hs23⟩ := hw
  have lp23 : ∀ (n23 : Nat) (τ21 : TS) (x22 : Int32), u23 τ21 x22 < n23 → I23 τ21 x22 → Zt w g τ21 (0, 0) 11 [(0, .ref (w.1 i0)), (1, .int x1), (2, .ref (w.1 (i0 + 2))), (3, .int 8), (4, .int x22)] [] := by
    intro n23
    induction n23 with
    | zero => intro τ21 x22 hlt23; exact absurd hlt23 (Nat.not_lt_zero _)
    | succ n23 ih23 =>
      intro τ21 x22 hlt23 hh23
      have hw := hs23 τ21 x22 hh23
      refine z_iload C 4 (by rfl) dX10_routes_11 ?_
      refine z_iload_n C 3 (by rfl) dX10_routes_13 ?_
      refine z_icmp_ge (tgt := 36) C dX10_routes_14 (by decide) (fun c24 => ?_) (fun c24 => ?_)
      · have hw := hw.1 c24
        refine z_iconst C 0 (by decide) dX10_routes_36 ?_
        refine z_istore_n C [(2, .int 0), (0, .ref (w.1 i0)), (1, .int x1), (3, .int 8), (4, .int x22)] dX10_routes_37 (by decide) rfl ?_
        obtain ⟨I27, u27, hI27, hs27⟩ := hw
        have lp27 : ∀ (n27 : Nat) (τ25 : TS) (x26 : Int32), u27 τ25 x26 < n27 → I27 τ25 x26 → Zt w g τ25 (0, 0) 38 [(0, .ref (w.1 i0)), (1, .int x1), (2, .int x26)] [] := by
          intro n27
          induction n27 with
          | zero => intro τ25 x26 hlt27; exact absurd hlt27 (Nat.not_lt_zero _)
          | succ n27 ih27 =>
            intro τ25 x26 hlt27 hh27
            have hw := hs27 τ25 x26 hh27
            refine z_iload_n C 2 (by rfl) dX10_routes_38 ?_
            refine z_aload_n C 0 (by rfl) dX10_routes_39 ?_
            refine z_get C (Cn := RX10) (T := TX10) (N := 13) (ci := 9) h0.2 12 (tE21 h0.1) in_X10_routes_X10 rfl (by decide) mw_X10_routes_2 rfl rfl dX10_routes_40 ?_
            refine z_getN C (Cn := RX11) (T := TX11) (N := 10) (ci := 10) (tR21_12 h0).2 1 (tE20 (tR21_12 h0).1) in_X10_routes_X11 rfl (by decide) (List.mem_of_getElem? (i := 14) rfl) rfl rfl dX10_routes_43 ?_
            refine z_icmp_ge (tgt := 64) C dX10_routes_46 (by decide) (fun c28 => ?_) (fun c28 => ?_)
            · have hw := hw.1 c28
              refine z_iconst C 0 (by decide) dX10_routes_64 ?_
              refine z_istore_n C [(2, .int 0), (0, .ref (w.1 i0)), (1, .int x1)] dX10_routes_65 (by decide) rfl ?_
              obtain ⟨I31, u31, hI31, hs31⟩ := hw
              have lp31 : ∀ (n31 : Nat) (τ29 : TS) (x30 : Int32), u31 τ29 x30 < n31 → I31 τ29 x30 → Zt w g τ29 (0, 0) 66 [(0, .ref (w.1 i0)), (1, .int x1), (2, .int x30)] [] := by
                intro n31
                induction n31 with
                | zero => intro τ29 x30 hlt31; exact absurd hlt31 (Nat.not_lt_zero _)
                | succ n31 ih31 =>
                  intro τ29 x30 hlt31 hh31
                  have hw := hs31 τ29 x30 hh31
                  refine z_iload_n C 2 (by rfl) dX10_routes_66 ?_
                  refine z_aload_n C 0 (by rfl) dX10_routes_67 ?_
                  refine z_get C (Cn := RX10) (T := TX10) (N := 13) (ci := 9) h0.2 12 (tE21 h0.1) in_X10_routes_X10 rfl (by decide) mw_X10_routes_2 rfl rfl dX10_routes_68 ?_
                  refine z_getN C (Cn := RX11) (T := TX11) (N := 10) (ci := 10) (tR21_12 h0).2 2 (tE20 (tR21_12 h0).1) in_X10_routes_X11 rfl (by decide) (List.mem_of_getElem? (i := 15) rfl) rfl rfl dX10_routes_71 ?_
                  refine z_icmp_ge (tgt := 166) C dX10_routes_74 (by decide) (fun c32 => ?_) (fun c32 => ?_)
                  · have hw := hw.1 c32
                    refine z_iconst C 0 (by decide) dX10_routes_166 ?_
                    refine z_istore_n C [(2, .int 0), (0, .ref (w.1 i0)), (1, .int x1)] dX10_routes_167 (by decide) rfl ?_
                    obtain ⟨I35, u35, hI35, hs35⟩ := hw
                    have lp35 : ∀ (n35 : Nat) (τ33 : TS) (x34 : Int32), u35 τ33 x34 < n35 → I35 τ33 x34 → Zt w g τ33 (0, 0) 168 [(0, .ref (w.1 i0)), (2, .int x34)] [] := by
                      intro n35
                      induction n35 with
                      | zero => intro τ33 x34 hlt35; exact absurd hlt35 (Nat.not_lt_zero _)
                      | succ n35 ih35 =>
                        intro τ33 x34 hlt35 hh35
                        have hw := hs35 τ33 x34 hh35
                        refine z_iload_n C 1 (by rfl) dX10_routes_168 ?_
                        refine z_aload_n C 0 (by rfl) dX10_routes_169 ?_
                        refine z_get C (Cn := RX10) (T := TX10) (N := 13) (ci := 9) h0.2 12 (tE21 h0.1) in_X10_routes_X10 rfl (by decide) mw_X10_routes_2 rfl rfl dX10_routes_170 ?_
                        refine z_getN C (Cn := RX11) (T := TX11) (N := 10) (ci := 10) (tR21_12 h0).2 1 (tE20 (tR21_12 h0).1) in_X10_routes_X11 rfl (by decide) (List.mem_of_getElem? (i := 14) rfl) rfl rfl dX10_routes_173 ?_
                        refine z_icmp_ge (tgt := 264) C dX10_routes_176 (by decide) (fun c36 => ?_) (fun c36 => ?_)
                        · have hw := hw.1 c36
                          exact hR _ _ _ dX10_routes_264 hw
                        · have hw := hw.2 c36
                          refine z_iconst C 0 (by decide) dX10_routes_179 ?_
                          refine z_istore_n C [(3, .int 0), (0, .ref (w.1 i0)), (2, .int x34)] dX10_routes_180 (by decide) rfl ?_
                          obtain ⟨I39, u39, hI39, hs39⟩ := hw
                          have lp39 : ∀ (n39 : Nat) (τ37 : TS) (x38 : Int32), u39 τ37 x38 < n39 → I39 τ37 x38 → Zt w g τ37 (0, 0) 181 [(0, .ref (w.1 i0)), (2, .int x34), (3, .int x38)] [] := by
                            intro n39
                            induction n39 with
                            | zero => intro τ37 x38 hlt39; exact absurd hlt39 (Nat.not_lt_zero _)
                            | succ n39 ih39 =>
                              intro τ37 x38 hlt39 hh39
                              have hw := hs39 τ37 x38 hh39
                              refine z_iload_n C 2 (by rfl) dX10_routes_181 ?_
                              refine z_aload_n C 0 (by rfl) dX10_routes_182 ?_
                              refine z_get C (Cn := RX10) (T := TX10) (N := 13) (ci := 9) h0.2 12 (tE21 h0.1) in_X10_routes_X10 rfl (by decide) mw_X10_routes_2 rfl rfl dX10_routes_183 ?_
                              refine z_getN C (Cn := RX11) (T := TX11) (N := 10) (ci := 10) (tR21_12 h0).2 1 (tE20 (tR21_12 h0).1) in_X10_routes_X11 rfl (by decide) (List.mem_of_getElem? (i := 14) rfl) rfl rfl dX10_routes_186 ?_
                              refine z_icmp_ge (tgt := 258) C dX10_routes_189 (by decide) (fun c40 => ?_) (fun c40 => ?_)
                              · have hw := hw.1 c40
                                obtain ⟨x41, ex41⟩ : ∃ z : Int32, z = x34 + 1 := ⟨_, rfl⟩
                                have hw := hw x41 ex41
                                refine z_iinc C 1 x41 [(2, .int x41), (0, .ref (w.1 i0)), (3, .int x38)] dX10_routes_258 (by rfl) (by rw [ex41]; rfl) (by decide) rfl ?_
                                refine z_goto (tgt := 168) C dX10_routes_261 (by decide) ?_
                                refine z_sub [1, 0] [(0, .ref (w.1 i0)), (2, .int x41)] rfl ?_
                                exact ih35 τ37 x41 (Nat.lt_of_lt_of_le hw.2 (Nat.le_of_lt_succ hlt35)) hw.1
                              · have hw := hw.2 c40
                                refine z_iconst C 0 (by decide) dX10_routes_192 ?_
                                refine z_istore C [(4, .int 0), (0, .ref (w.1 i0)), (2, .int x34), (3, .int x38)] dX10_routes_193 (by decide) rfl ?_
                                obtain ⟨I44, u44, hI44, hs44⟩ := hw
                                have lp44 : ∀ (n44 : Nat) (τ42 : TS) (x43 : Int32), u44 τ42 x43 < n44 → I44 τ42 x43 → Zt w g τ42 (0, 0) 195 [(0, .ref (w.1 i0)), (2, .int x34), (3, .int x38), (4, .int x43)] [] := by
                                  intro n44
                                  induction n44 with
                                  | zero => intro τ42 x43 hlt44; exact absurd hlt44 (Nat.not_lt_zero _)
                                  | succ n44 ih44 =>
                                    intro τ42 x43 hlt44 hh44
                                    have hw := hs44 τ42 x43 hh44
                                    refine z_iload C 3 (by rfl) dX10_routes_195 ?_
                                    refine z_aload_n C 0 (by rfl) dX10_routes_197 ?_
                                    refine z_get C (Cn := RX10) (T := TX10) (N := 13) (ci := 9) h0.2 12 (tE21 h0.1) in_X10_routes_X10 rfl (by decide) mw_X10_routes_2 rfl rfl dX10_routes_198 ?_
                                    refine z_getN C (Cn := RX11) (T := TX11) (N := 10) (ci := 10) (tR21_12 h0).2 1 (tE20 (tR21_12 h0).1) in_X10_routes_X11 rfl (by decide) (List.mem_of_getElem? (i := 14) rfl) rfl rfl dX10_routes_201 ?_
                                    refine z_icmp_ge (tgt := 252) C dX10_routes_204 (by decide) (fun c45 => ?_) (fun c45 => ?_)
                                    · have hw := hw.1 c45
                                      obtain ⟨x46, ex46⟩ : ∃ z : Int32, z = x38 + 1 := ⟨_, rfl⟩
                                      have hw := hw x46 ex46
                                      refine z_iinc C 2 x46 [(3, .int x46), (0, .ref (w.1 i0)), (2, .int x34), (4, .int x43)] dX10_routes_252 (by rfl) (by rw [ex46]; rfl) (by decide) rfl ?_
                                      refine z_goto (tgt := 181) C dX10_routes_255 (by decide) ?_
                                      refine z_sub [1, 2, 0] [(0, .ref (w.1 i0)), (2, .int x34), (3, .int x46)] rfl ?_
                                      exact ih39 τ42 x46 (Nat.lt_of_lt_of_le hw.2 (Nat.le_of_lt_succ hlt39)) hw.1
                                    · have hw := hw.2 c45
                                      refine z_aload_n C 0 (by rfl) dX10_routes_207 ?_
                                      refine z_get C (Cn := RX10) (T := TX10) (N := 13) (ci := 9) h0.2 4 (tE21 h0.1) in_X10_routes_X10 rfl (by decide) mw_X10_routes_0 rfl rfl dX10_routes_208 ?_
                                      refine z_iload_n C 2 (by rfl) dX10_routes_211 ?_
                                      obtain ⟨s47, hw⟩ := hw
                                      refine z_aald_q4 C (tR21_4 h0).2 (tE22 (tR21_4 h0).1) s47 (if_pos (tp_lt s47)) dX10_routes_212 ?_
                                      refine z_iload C 3 (by rfl) dX10_routes_213 ?_
                                      refine z_aload_n C 0 (by rfl) dX10_routes_215 ?_
                                      refine z_get C (Cn := RX10) (T := TX10) (N := 13) (ci := 9) h0.2 4 (tE21 h0.1) in_X10_routes_X10 rfl (by decide) mw_X10_routes_0 rfl rfl dX10_routes_216 ?_
                                      refine z_iload_n C 2 (by rfl) dX10_routes_219 ?_
                                      obtain ⟨s48, hw⟩ := hw
                                      refine z_aald_q4 C (tR21_4 h0).2 (tE22 (tR21_4 h0).1) s48 (if_pos (tp_lt s48)) dX10_routes_220 ?_
                                      refine z_iload C 3 (by rfl) dX10_routes_221 ?_
                                      obtain ⟨s49, hw⟩ := hw
                                      refine z_iald C (tR22 (tR21_4 h0) (tp_lt s48)).2 (tE13 (tR22 (tR21_4 h0) (tp_lt s48)).1) s49 dX10_routes_223 ?_
                                      refine z_aload_n C 0 (by rfl) dX10_routes_224 ?_
                                      refine z_get C (Cn := RX10) (T := TX10) (N := 13) (ci := 9) h0.2 4 (tE21 h0.1) in_X10_routes_X10 rfl (by decide) mw_X10_routes_0 rfl rfl dX10_routes_225 ?_
                                      refine z_iload_n C 2 (by rfl) dX10_routes_228 ?_
                                      obtain ⟨s50, hw⟩ := hw
                                      refine z_aald_q4 C (tR21_4 h0).2 (tE22 (tR21_4 h0).1) s50 (if_pos (tp_lt s50)) dX10_routes_229 ?_
                                      refine z_iload_n C 1 (by rfl) dX10_routes_230 ?_
                                      obtain ⟨s51, hw⟩ := hw
                                      refine z_iald C (tR22 (tR21_4 h0) (tp_lt s50)).2 (tE13 (tR22 (tR21_4 h0) (tp_lt s50)).1) s51 dX10_routes_231 ?_
                                      refine z_aload_n C 0 (by rfl) dX10_routes_232 ?_
                                      refine z_get C (Cn := RX10) (T := TX10) (N := 13) (ci := 9) h0.2 4 (tE21 h0.1) in_X10_routes_X10 rfl (by decide) mw_X10_routes_0 rfl rfl dX10_routes_233 ?_
                                      refine z_iload_n C 1 (by rfl) dX10_routes_236 ?_
                                      obtain ⟨s52, hw⟩ := hw
                                      refine z_aald_q4 C (tR21_4 h0).2 (tE22 (tR21_4 h0).1) s52 (if_pos (tp_lt s52)) dX10_routes_237 ?_
                                      refine z_iload C 3 (by rfl) dX10_routes_238 ?_
                                      obtain ⟨s53, hw⟩ := hw
                                      refine z_iald C (tR22 (tR21_4 h0) (tp_lt s52)).2 (tE13 (tR22 (tR21_4 h0) (tp_lt s52)).1) s53 dX10_routes_240 ?_
                                      refine z_iadd C dX10_routes_241 ?_
                                      refine z_min C mw_X10_routes_4 mw_X10_routes_5 mw_X10_routes_6 mw_X10_routes_7 (Nat.le_of_ble_eq_true rfl) (Nat.le_of_ble_eq_true rfl) (Nat.le_of_ble_eq_true rfl) (Nat.le_of_ble_eq_true rfl) dX10_routes_242 ?_
                                      refine z_top (fun x54 ex54 => ?_)
                                      have hw := hw x54 ex54
                                      obtain ⟨s55, hw⟩ := hw
                                      refine z_iast C (tR22 (tR21_4 h0) (tp_lt s47)).2 (fun _ => tE13 (tR22 (tR21_4 h0) (tp_lt s47)).1) s55 dX10_routes_245 (fun τ56 eτ56 => ?_)
                                      have hw := hw τ56 eτ56
                                      obtain ⟨x57, ex57⟩ : ∃ z : Int32, z = x43 + 1 := ⟨_, rfl⟩
                                      have hw := hw x57 ex57
                                      refine z_iinc C 3 x57 [(4, .int x57), (0, .ref (w.1 i0)), (2, .int x34), (3, .int x38)] dX10_routes_246 (by rfl) (by rw [ex57]; rfl) (by decide) rfl ?_
                                      refine z_goto (tgt := 195) C dX10_routes_249 (by decide) ?_
                                      refine z_sub [1, 2, 3, 0] [(0, .ref (w.1 i0)), (2, .int x34), (3, .int x38), (4, .int x57)] rfl ?_
                                      exact ih44 τ56 x57 (Nat.lt_of_lt_of_le hw.2 (Nat.le_of_lt_succ hlt44)) hw.1
                                refine z_sub [1, 2, 3, 0] [(0, .ref (w.1 i0)), (2, .int x34), (3, .int x38), (4, .int 0)] rfl ?_
                                exact lp44 _ τ37 0 (Nat.lt_succ_self _) hI44
                          refine z_sub [1, 2, 0] [(0, .ref (w.1 i0)), (2, .int x34), (3, .int 0)] rfl ?_
                          exact lp39 _ τ33 0 (Nat.lt_succ_self _) hI39
                    refine z_sub [1, 0] [(0, .ref (w.1 i0)), (2, .int 0)] rfl ?_
                    exact lp35 _ τ29 0 (Nat.lt_succ_self _) hI35
                  · have hw := hw.2 c32
                    refine z_aload_n C 0 (by rfl) dX10_routes_77 ?_
                    refine z_get C (Cn := RX10) (T := TX10) (N := 13) (ci := 9) h0.2 3 (tE21 h0.1) in_X10_routes_X10 rfl (by decide) mw_X10_routes_3 rfl rfl dX10_routes_78 ?_
                    refine z_iload_n C 2 (by rfl) dX10_routes_81 ?_
                    obtain ⟨s58, hw⟩ := hw
                    refine z_zald C (tR21_3 h0).2 (tE12 (tR21_3 h0).1) s58 dX10_routes_82 ?_
                    refine z_if_eq (tgt := 160) C dX10_routes_83 (by decide) (fun c59 => ?_) (fun c59 => ?_)
                    · have hw := hw.1 c59
                      obtain ⟨x60, ex60⟩ : ∃ z : Int32, z = x30 + 1 := ⟨_, rfl⟩
                      have hw := hw x60 ex60
                      refine z_iinc C 2 x60 [(2, .int x60), (0, .ref (w.1 i0)), (1, .int x1)] dX10_routes_160 (by rfl) (by rw [ex60]; rfl) (by decide) rfl ?_
                      refine z_goto (tgt := 66) C dX10_routes_163 (by decide) ?_
                      refine z_sub [1, 2, 0] [(0, .ref (w.1 i0)), (1, .int x1), (2, .int x60)] rfl ?_
                      exact ih31 τ29 x60 (Nat.lt_of_lt_of_le hw.2 (Nat.le_of_lt_succ hlt31)) hw.1
                    · have hw := hw.2 c59
                      refine z_iload_n C 2 (by rfl) dX10_routes_86 ?_
                      refine z_iload_n C 1 (by rfl) dX10_routes_87 ?_
                      refine z_icmp_ne (tgt := 94) C dX10_routes_88 (by decide) (fun c61 => ?_) (fun c61 => ?_)
                      · have hw := hw.1 c61
                        refine z_aload_n C 0 (by rfl) dX10_routes_94 ?_
                        refine z_get C (Cn := RX10) (T := TX10) (N := 13) (ci := 9) h0.2 4 (tE21 h0.1) in_X10_routes_X10 rfl (by decide) mw_X10_routes_0 rfl rfl dX10_routes_95 ?_
                        refine z_aload_n C 0 (by rfl) dX10_routes_98 ?_
                        refine z_get C (Cn := RX10) (T := TX10) (N := 13) (ci := 9) h0.2 12 (tE21 h0.1) in_X10_routes_X10 rfl (by decide) mw_X10_routes_2 rfl rfl dX10_routes_99 ?_
                        refine z_getN C (Cn := RX11) (T := TX11) (N := 10) (ci := 10) (tR21_12 h0).2 3 (tE20 (tR21_12 h0).1) in_X10_routes_X11 rfl (by decide) (List.mem_of_getElem? (i := 16) rfl) rfl rfl dX10_routes_102 ?_
                        refine z_iload_n C 2 (by rfl) dX10_routes_105 ?_
                        obtain ⟨s62, hw⟩ := hw
                        refine z_iald C (tR20_3 (tR21_12 h0)).2 (tE11 (tR20_3 (tR21_12 h0)).1) s62 dX10_routes_106 ?_
                        obtain ⟨s63, hw⟩ := hw
                        refine z_aald_q4 C (tR21_4 h0).2 (tE22 (tR21_4 h0).1) s63 (if_pos (tp_lt s63)) dX10_routes_107 ?_
                        refine z_aload_n C 0 (by rfl) dX10_routes_108 ?_
                        refine z_get C (Cn := RX10) (T := TX10) (N := 13) (ci := 9) h0.2 12 (tE21 h0.1) in_X10_routes_X10 rfl (by decide) mw_X10_routes_2 rfl rfl dX10_routes_109 ?_
                        refine z_getN C (Cn := RX11) (T := TX11) (N := 10) (ci := 10) (tR21_12 h0).2 4 (tE20 (tR21_12 h0).1) in_X10_routes_X11 rfl (by decide) (List.mem_of_getElem? (i := 17) rfl) rfl rfl dX10_routes_112 ?_
                        refine z_iload_n C 2 (by rfl) dX10_routes_115 ?_
                        obtain ⟨s64, hw⟩ := hw
                        refine z_iald C (tR20_4 (tR21_12 h0)).2 (tE11 (tR20_4 (tR21_12 h0)).1) s64 dX10_routes_116 ?_
                        refine z_aload_n C 0 (by rfl) dX10_routes_117 ?_
                        refine z_get C (Cn := RX10) (T := TX10) (N := 13) (ci := 9) h0.2 12 (tE21 h0.1) in_X10_routes_X10 rfl (by decide) mw_X10_routes_2 rfl rfl dX10_routes_118 ?_
                        refine z_getN C (Cn := RX11) (T := TX11) (N := 10) (ci := 10) (tR21_12 h0).2 5 (tE20 (tR21_12 h0).1) in_X10_routes_X11 rfl (by decide) (List.mem_of_getElem? (i := 18) rfl) rfl rfl dX10_routes_121 ?_
                        refine z_iload_n C 2 (by rfl) dX10_routes_124 ?_
                        obtain ⟨s65, hw⟩ := hw
                        refine z_iald C (tR20_5 (tR21_12 h0)).2 (tE11 (tR20_5 (tR21_12 h0)).1) s65 dX10_routes_125 ?_
                        obtain ⟨s66, hw⟩ := hw
                        refine z_iast C (tR22 (tR21_4 h0) (tp_lt s63)).2 (fun _ => tE13 (tR22 (tR21_4 h0) (tp_lt s63)).1) s66 dX10_routes_126 (fun τ67 eτ67 => ?_)
                        have hw := hw τ67 eτ67
                        refine z_aload_n C 0 (by rfl) dX10_routes_127 ?_
                        refine z_get C (Cn := RX10) (T := TX10) (N := 13) (ci := 9) h0.2 4 (tE21 h0.1) in_X10_routes_X10 rfl (by decide) mw_X10_routes_0 rfl rfl dX10_routes_128 ?_
                        refine z_aload_n C 0 (by rfl) dX10_routes_131 ?_
                        refine z_get C (Cn := RX10) (T := TX10) (N := 13) (ci := 9) h0.2 12 (tE21 h0.1) in_X10_routes_X10 rfl (by decide) mw_X10_routes_2 rfl rfl dX10_routes_132 ?_
                        refine z_getN C (Cn := RX11) (T := TX11) (N := 10) (ci := 10) (tR21_12 h0).2 4 (tE20 (tR21_12 h0).1) in_X10_routes_X11 rfl (by decide) (List.mem_of_getElem? (i := 17) rfl) rfl rfl dX10_routes_135 ?_
                        refine z_iload_n C 2 (by rfl) dX10_routes_138 ?_
                        obtain ⟨s68, hw⟩ := hw
                        refine z_iald C (tR20_4 (tR21_12 h0)).2 (tE11 (tR20_4 (tR21_12 h0)).1) s68 dX10_routes_139 ?_
                        obtain ⟨s69, hw⟩ := hw
                        refine z_aald_q4 C (tR21_4 h0).2 (tE22 (tR21_4 h0).1) s69 (if_pos (tp_lt s69)) dX10_routes_140 ?_
                        refine z_aload_n C 0 (by rfl) dX10_routes_141 ?_
                        refine z_get C (Cn := RX10) (T := TX10) (N := 13) (ci := 9) h0.2 12 (tE21 h0.1) in_X10_routes_X10 rfl (by decide) mw_X10_routes_2 rfl rfl dX10_routes_142 ?_
                        refine z_getN C (Cn := RX11) (T := TX11) (N := 10) (ci := 10) (tR21_12 h0).2 3 (tE20 (tR21_12 h0).1) in_X10_routes_X11 rfl (by decide) (List.mem_of_getElem? (i := 16) rfl) rfl rfl dX10_routes_145 ?_
                        refine z_iload_n C 2 (by rfl) dX10_routes_148 ?_
                        obtain ⟨s70, hw⟩ := hw
                        refine z_iald C (tR20_3 (tR21_12 h0)).2 (tE11 (tR20_3 (tR21_12 h0)).1) s70 dX10_routes_149 ?_
                        refine z_aload_n C 0 (by rfl) dX10_routes_150 ?_
                        refine z_get C (Cn := RX10) (T := TX10) (N := 13) (ci := 9) h0.2 12 (tE21 h0.1) in_X10_routes_X10 rfl (by decide) mw_X10_routes_2 rfl rfl dX10_routes_151 ?_
                        refine z_getN C (Cn := RX11) (T := TX11) (N := 10) (ci := 10) (tR21_12 h0).2 5 (tE20 (tR21_12 h0).1) in_X10_routes_X11 rfl (by decide) (List.mem_of_getElem? (i := 18) rfl) rfl rfl dX10_routes_154 ?_
                        refine z_iload_n C 2 (by rfl) dX10_routes_157 ?_
                        obtain ⟨s71, hw⟩ := hw
                        refine z_iald C (tR20_5 (tR21_12 h0)).2 (tE11 (tR20_5 (tR21_12 h0)).1) s71 dX10_routes_158 ?_
                        obtain ⟨s72, hw⟩ := hw
                        refine z_iast C (tR22 (tR21_4 h0) (tp_lt s69)).2 (fun _ => tE13 (tR22 (tR21_4 h0) (tp_lt s69)).1) s72 dX10_routes_159 (fun τ73 eτ73 => ?_)
                        have hw := hw τ73 eτ73
                        obtain ⟨x74, ex74⟩ : ∃ z : Int32, z = x30 + 1 := ⟨_, rfl⟩
                        have hw := hw x74 ex74
                        refine z_iinc C 2 x74 [(2, .int x74), (0, .ref (w.1 i0)), (1, .int x1)] dX10_routes_160 (by rfl) (by rw [ex74]; rfl) (by decide) rfl ?_
                        refine z_goto (tgt := 66) C dX10_routes_163 (by decide) ?_
                        refine z_sub [1, 2, 0] [(0, .ref (w.1 i0)), (1, .int x1), (2, .int x74)] rfl ?_
                        exact ih31 τ73 x74 (Nat.lt_of_lt_of_le hw.2 (Nat.le_of_lt_succ hlt31)) hw.1
                      · have hw := hw.2 c61
                        refine z_goto (tgt := 160) C dX10_routes_91 (by decide) ?_
                        obtain ⟨x75, ex75⟩ : ∃ z : Int32, z = x30 + 1 := ⟨_, rfl⟩
                        have hw := hw x75 ex75
                        refine z_iinc C 2 x75 [(2, .int x75), (0, .ref (w.1 i0)), (1, .int x1)] dX10_routes_160 (by rfl) (by rw [ex75]; rfl) (by decide) rfl ?_
                        refine z_goto (tgt := 66) C dX10_routes_163 (by decide) ?_
                        refine z_sub [1, 2, 0] [(0, .ref (w.1 i0)), (1, .int x1), (2, .int x75)] rfl ?_
                        exact ih31 τ29 x75 (Nat.lt_of_lt_of_le hw.2 (Nat.le_of_lt_succ hlt31)) hw.1
              refine z_sub [1, 2, 0] [(0, .ref (w.1 i0)), (1, .int x1), (2, .int 0)] rfl ?_
              exact lp31 _ τ25 0 (Nat.lt_succ_self _) hI31
            · have hw := hw.2 c28
              refine z_aload_n C 0 (by rfl) dX10_routes_49 ?_
              refine z_get C (Cn := RX10) (T := TX10) (N := 13) (ci := 9) h0.2 4 (tE21 h0.1) in_X10_routes_X10 rfl (by decide) mw_X10_routes_0 rfl rfl dX10_routes_50 ?_
              refine z_iload_n C 2 (by rfl) dX10_routes_53 ?_
              obtain ⟨s76, hw⟩ := hw
              refine z_aald_q4 C (tR21_4 h0).2 (tE22 (tR21_4 h0).1) s76 (if_pos (tp_lt s76)) dX10_routes_54 ?_
              refine z_iload_n C 2 (by rfl) dX10_routes_55 ?_
              refine z_iconst C 0 (by decide) dX10_routes_56 ?_
              obtain ⟨s77, hw⟩ := hw
              refine z_iast C (tR22 (tR21_4 h0) (tp_lt s76)).2 (fun _ => tE13 (tR22 (tR21_4 h0) (tp_lt s76)).1) s77 dX10_routes_57 (fun τ78 eτ78 => ?_)
              have hw := hw τ78 eτ78
              obtain ⟨x79, ex79⟩ : ∃ z : Int32, z = x26 + 1 := ⟨_, rfl⟩
              have hw := hw x79 ex79
              refine z_iinc C 2 x79 [(2, .int x79), (0, .ref (w.1 i0)), (1, .int x1)] dX10_routes_58 (by rfl) (by rw [ex79]; rfl) (by decide) rfl ?_
              refine z_goto (tgt := 38) C dX10_routes_61 (by decide) ?_
              refine z_sub [1, 2, 0] [(0, .ref (w.1 i0)), (1, .int x1), (2, .int x79)] rfl ?_
              exact ih27 τ78 x79 (Nat.lt_of_lt_of_le hw.2 (Nat.le_of_lt_succ hlt27)) hw.1
        refine z_sub [1, 2, 0] [(0, .ref (w.1 i0)), (1, .int x1), (2, .int 0)] rfl ?_
        exact lp27 _ τ21 0 (Nat.lt_succ_self _) hI27
      · have hw := hw.2 c24
        refine z_aload_n C 2 (by rfl) dX10_routes_17 ?_
        refine z_iload C 4 (by rfl) dX10_routes_18 ?_
        obtain ⟨s80, hw⟩ := hw
        refine z_aald_q4 C (tR21_4 h0).2 (tE22 (tR21_4 h0).1) s80 (if_pos (tp_lt s80)) dX10_routes_20 ?_
        refine z_astore C [(5, .ref (w.1 ((i0 + 2) + 1 + (Int32.toNatClampNeg x22)))), (0, .ref (w.1 i0)), (1, .int x1), (2, .ref (w.1 (i0 + 2))), (3, .int 8), (4, .int x22)] dX10_routes_21 (by decide) rfl ?_
        refine z_aload C 0 (by rfl) dX10_routes_23 ?_
        refine z_ldc C 1000000 mw_X10_routes_1 dX10_routes_25 ?_
        refine zs_v C (As := [.ref (w.1 ((i0 + 2) + 1 + (Int32.toNatClampNeg x22))), .int 1000000]) (bytes := cJ7_fill_53178) (maxL := 4) (F1 := 0) (L1 := 0) (c_J7_fill_53178 w _ ((i0 + 2) + 1 + (Int32.toNatClampNeg x22)) 1000000 _ (tR22 (tR21_4 h0) (tp_lt s80)) hw) 2 gX10_routes_J7_fill_53178 rfl (by decide +kernel) ⟨Nat.le_of_ble_eq_true rfl, Nat.le_of_ble_eq_true rfl⟩ rfl (Nat.le_of_ble_eq_true rfl) ⟨Nat.le_of_ble_eq_true rfl, Nat.le_of_ble_eq_true rfl⟩ rfl dX10_routes_27 (fun τ81 hw => ?_)
        obtain ⟨x82, ex82⟩ : ∃ z : Int32, z = x22 + 1 := ⟨_, rfl⟩
        have hw := hw x82 ex82
        refine z_iinc C 5 x82 [(4, .int x82), (5, .ref (w.1 ((i0 + 2) + 1 + (Int32.toNatClampNeg x22)))), (0, .ref (w.1 i0)), (1, .int x1), (2, .ref (w.1 (i0 + 2))), (3, .int 8)] dX10_routes_30 (by rfl) (by rw [ex82]; rfl) (by decide) rfl ?_
        refine z_goto (tgt := 11) C dX10_routes_33 (by decide) ?_
        refine z_sub [2, 3, 4, 5, 0] [(0, .ref (w.1 i0)), (1, .int x1), (2, .ref (w.1 (i0 + 2))), (3, .int 8), (4, .int x82)] rfl ?_
        exact ih23 τ81 x82 (Nat.lt_of_lt_of_le hw.2 (Nat.le_of_lt_succ hlt23)) hw.1
  refine z_sub [3, 4, 2, 1, 0] [(0, .ref (w.1 i0)), (1, .int x1), (2, .ref (w.1 (i0 + 2))), (3, .int 8), (4, .int 0)] rfl ?_
  exact lp23 _ τ 0 (Nat.lt_succ_self _) hI23
def wp_X10_become (τ : TS) (i0 : Nat) (j1 : Nat) (K : TS → Prop) : Prop :=
  ∀ τ21 : TS, τ21 = tp_up τ i0 0 (τ j1 0) → ∀ τ22 : TS, τ22 = tp_up τ21 i0 1 (τ21 j1 1) → ∀ τ23 : TS, τ23 = tp_up τ22 i0 2 (τ22 j1 2) → (∀ q, q < (Int32.toNatClampNeg 12) → tp_z (τ23 (j1 + 1) ((Int32.toNatClampNeg 0) + q))) ∧ (∀ τ25 : TS, τ25 = tp_rw τ23 (i0 + 1) (va_cpy (τ23 (j1 + 1)) (τ23 (i0 + 1)) (Int32.toNatClampNeg 0) (Int32.toNatClampNeg 0) (Int32.toNatClampNeg 12)) → ∀ τ26 : TS, τ26 = tp_rw τ25 (i0 + 13) (va_cpy (τ25 (j1 + 13)) (τ25 (i0 + 13)) (Int32.toNatClampNeg 0) (Int32.toNatClampNeg 0) (Int32.toNatClampNeg 24)) → ∀ τ27 : TS, τ27 = tp_rw τ26 (i0 + 14) (va_cpy (τ26 (j1 + 14)) (τ26 (i0 + 14)) (Int32.toNatClampNeg 0) (Int32.toNatClampNeg 0) (Int32.toNatClampNeg 24)) → ∃ (I30 : TS → Int32 → Prop) (u30 : TS → Int32 → Nat), I30 τ27 0 ∧ ∀ (τ28 : TS) (x29 : Int32), I30 τ28 x29 → (((8 ≤ x29) → (∃ (I34 : TS → Int32 → Prop) (u34 : TS → Int32 → Nat), I34 τ28 0 ∧ ∀ (τ32 : TS) (x33 : Int32), I34 τ32 x33 → (((24 ≤ x33) → (∃ (I38 : TS → Int32 → Prop) (u38 : TS → Int32 → Nat), I38 τ32 0 ∧ ∀ (τ36 : TS) (x37 : Int32), I38 τ36 x37 → (((6 ≤ x37) → (K τ36)) ∧ ((¬ 6 ≤ x37) → (vp_in x37 6 ∧ (vp_in x37 6 ∧ (∀ τ42 : TS, τ42 = tp_rw τ36 ((i0 + 15) + 1 + (Int32.toNatClampNeg x37)) (va_cpy (τ36 ((j1 + 15) + 1 + (Int32.toNatClampNeg x37))) (τ36 ((i0 + 15) + 1 + (Int32.toNatClampNeg x37))) (Int32.toNatClampNeg 0) (Int32.toNatClampNeg 0) (Int32.toNatClampNeg 23)) → vp_in x37 6 ∧ (vp_in x37 6 ∧ (∀ τ45 : TS, τ45 = tp_rw τ42 ((i0 + 22) + 1 + (Int32.toNatClampNeg x37)) (va_cpy (τ42 ((j1 + 22) + 1 + (Int32.toNatClampNeg x37))) (τ42 ((i0 + 22) + 1 + (Int32.toNatClampNeg x37))) (Int32.toNatClampNeg 0) (Int32.toNatClampNeg 0) (Int32.toNatClampNeg 200)) → vp_in x37 6 ∧ (vp_in x37 6 ∧ ((∀ q, q < (Int32.toNatClampNeg 202) → tp_z (τ45 ((j1 + 29) + 1 + (Int32.toNatClampNeg x37)) ((Int32.toNatClampNeg 0) + q))) ∧ (∀ τ49 : TS, τ49 = tp_rw τ45 ((i0 + 29) + 1 + (Int32.toNatClampNeg x37)) (va_cpy (τ45 ((j1 + 29) + 1 + (Int32.toNatClampNeg x37))) (τ45 ((i0 + 29) + 1 + (Int32.toNatClampNeg x37))) (Int32.toNatClampNeg 0) (Int32.toNatClampNeg 0) (Int32.toNatClampNeg 202)) → ∀ x50 : Int32, x50 = x37 + 1 → I38 τ49 x50 ∧ u38 τ49 x50 < u38 τ36 x37)))))))))))) ∧ ((¬ 24 ≤ x33) → (vp_in x33 24 ∧ (vp_in x33 24 ∧ (wp_X9_become τ32 ((i0 + 11) + 25 + 4 * (Int32.toNatClampNeg x33)) ((j1 + 11) + 25 + 4 * (Int32.toNatClampNeg x33)) (fun τ53 => vp_in x33 24 ∧ (vp_in x33 24 ∧ (wp_X9_become τ53 ((i0 + 12) + 26 + 4 * (Int32.toNatClampNeg x33)) ((j1 + 12) + 26 + 4 * (Int32.toNatClampNeg x33)) (fun τ56 => ∀ x57 : Int32, x57 = x33 + 1 → I34 τ56 x57 ∧ u34 τ56 x57 < u34 τ32 x33))))))))))) ∧ ((¬ 8 ≤ x29) → (vp_in x29 8 ∧ (vp_in x29 8 ∧ (∀ τ60 : TS, τ60 = tp_rw τ28 ((i0 + 2) + 1 + (Int32.toNatClampNeg x29)) (va_cpy (τ28 ((j1 + 2) + 1 + (Int32.toNatClampNeg x29))) (τ28 ((i0 + 2) + 1 + (Int32.toNatClampNeg x29))) (Int32.toNatClampNeg 0) (Int32.toNatClampNeg 0) (Int32.toNatClampNeg 8)) → ∀ x61 : Int32, x61 = x29 + 1 → I30 τ60 x61 ∧ u30 τ60 x61 < u30 τ28 x29))))))
theorem mw_X10_become_0 : Cond.fieldLink RX10 52 "TidePostModel$State" "clock" "I" ∈ wsX10_become := List.mem_of_getElem? (i := 1) rfl
theorem mw_X10_become_1 : Cond.fieldLink RX10 56 "TidePostModel$State" "lost" "I" ∈ wsX10_become := List.mem_of_getElem? (i := 2) rfl
theorem mw_X10_become_2 : Cond.fieldLink RX10 59 "TidePostModel$State" "calls" "I" ∈ wsX10_become := List.mem_of_getElem? (i := 3) rfl
theorem mw_X10_become_3 : Cond.fieldLink RX10 15 "TidePostModel$State" "isUp" "[Z" ∈ wsX10_become := List.mem_of_getElem? (i := 4) rfl
theorem mw_X10_become_4 : Cond.methodLink RX10 62 arraycopyName ∈ wsX10_become := List.mem_of_getElem? (i := 5) rfl
theorem mw_X10_become_5 : Cond.native arraycopyName ∈ wsX10_become := List.mem_of_getElem? (i := 6) rfl
theorem mw_X10_become_6 : Cond.static arraycopyName ∈ wsX10_become := List.mem_of_getElem? (i := 7) rfl
theorem mw_X10_become_7 : Cond.initialized "java/lang/System" ∈ wsX10_become := List.mem_of_getElem? (i := 8) rfl
theorem mw_X10_become_8 : Cond.fieldLink RX10 33 "TidePostModel$State" "flown" "[I" ∈ wsX10_become := List.mem_of_getElem? (i := 9) rfl
theorem mw_X10_become_9 : Cond.fieldLink RX10 37 "TidePostModel$State" "losing" "[I" ∈ wsX10_become := List.mem_of_getElem? (i := 10) rfl
theorem mw_X10_become_13 : Cond.fieldLink RX10 40 "TidePostModel$State" "call" "[[I" ∈ wsX10_become := List.mem_of_getElem? (i := 14) rfl
theorem mw_X10_become_14 : Cond.fieldLink RX10 43 "TidePostModel$State" "value" "[[I" ∈ wsX10_become := List.mem_of_getElem? (i := 15) rfl
theorem mw_X10_become_15 : Cond.fieldLink RX10 48 "TidePostModel$State" "held" "[[Z" ∈ wsX10_become := List.mem_of_getElem? (i := 16) rfl
theorem mw_X10_become_11 : Cond.fieldLink RX10 26 "TidePostModel$State" "queue" "[LTidePostModel$Row;" ∈ wsX10_become := List.mem_of_getElem? (i := 12) rfl
theorem mw_X10_become_12 : Cond.fieldLink RX10 30 "TidePostModel$State" "flight" "[LTidePostModel$Row;" ∈ wsX10_become := List.mem_of_getElem? (i := 13) rfl
theorem mw_X10_become_10 : Cond.fieldLink RX10 21 "TidePostModel$State" "far" "[[I" ∈ wsX10_become := List.mem_of_getElem? (i := 11) rfl
theorem in_X10_become_X10 : ∀ x ∈ wsX100, x ∈ wsX10_become := fun _ h => List.mem_cons_of_mem _ (List.mem_append_left _ (List.mem_append_right _ h))
set_option maxHeartbeats 4000000 in
set_option maxRecDepth 100000 in
theorem c_X10_become (w : WPar) (τ : TS) (i0 : Nat) (j1 : Nat) (K : TS → Prop) (h0 : tp_is w i0 21) (h1 : tp_is w j1 21) (hw : wp_X10_become τ i0 j1 K) : MV w yX10_become wsX10_become 2 39 [.ref (w.1 i0), .ref (w.1 j1)] τ K := by
  refine tp_enterV (cc := cX10_become) (maxL := 3) (own := RX10) (by decide) rfl rfl (Nat.le_of_ble_eq_true rfl) (fun g C hR => ?_)
  show Zt w g τ (0, 0) 0 [(0, .ref (w.1 i0)), (1, .ref (w.1 j1))] []
  unfold wp_X10_become at hw
  refine z_aload_n C 0 (by rfl) dX10_become_0 ?_
  refine z_aload_n C 1 (by rfl) dX10_become_1 ?_
  refine z_get C (Cn := RX10) (T := TX10) (N := 13) (ci := 9) h1.2 0 (tE21 h1.1) in_X10_become_X10 rfl (by decide) mw_X10_become_0 rfl rfl dX10_become_2 ?_
  refine z_put C (Cn := RX10) (T := TX10) (N := 13) (ci := 9) h0.2 0 (tE21 h0.1) (tS21_0 h0.1 _) in_X10_become_X10 tyX10 tyX10_ok nmX10 rfl (by decide) mw_X10_become_0 rfl rfl (tyX10_ok 0 (by decide)) rfl rfl (Nat.le_of_ble_eq_true rfl) dX10_become_5 (fun τ21 eτ21 => ?_)
  have hw := hw τ21 eτ21
  refine z_aload_n C 0 (by rfl) dX10_become_8 ?_
  refine z_aload_n C 1 (by rfl) dX10_become_9 ?_
  refine z_get C (Cn := RX10) (T := TX10) (N := 13) (ci := 9) h1.2 1 (tE21 h1.1) in_X10_become_X10 rfl (by decide) mw_X10_become_1 rfl rfl dX10_become_10 ?_
  refine z_put C (Cn := RX10) (T := TX10) (N := 13) (ci := 9) h0.2 1 (tE21 h0.1) (tS21_1 h0.1 _) in_X10_become_X10 tyX10 tyX10_ok nmX10 rfl (by decide) mw_X10_become_1 rfl rfl (tyX10_ok 1 (by decide)) rfl rfl (Nat.le_of_ble_eq_true rfl) dX10_become_13 (fun τ22 eτ22 => ?_)
  have hw := hw τ22 eτ22
  refine z_aload_n C 0 (by rfl) dX10_become_16 ?_
  refine z_aload_n C 1 (by rfl) dX10_become_17 ?_
  refine z_get C (Cn := RX10) (T := TX10) (N := 13) (ci := 9) h1.2 2 (tE21 h1.1) in_X10_become_X10 rfl (by decide) mw_X10_become_2 rfl rfl dX10_become_18 ?_
  refine z_put C (Cn := RX10) (T := TX10) (N := 13) (ci := 9) h0.2 2 (tE21 h0.1) (tS21_2 h0.1 _) in_X10_become_X10 tyX10 tyX10_ok nmX10 rfl (by decide) mw_X10_become_2 rfl rfl (tyX10_ok 2 (by decide)) rfl rfl (Nat.le_of_ble_eq_true rfl) dX10_become_21 (fun τ23 eτ23 => ?_)
  have hw := hw τ23 eτ23
  refine z_aload_n C 1 (by rfl) dX10_become_24 ?_
  refine z_get C (Cn := RX10) (T := TX10) (N := 13) (ci := 9) h1.2 3 (tE21 h1.1) in_X10_become_X10 rfl (by decide) mw_X10_become_3 rfl rfl dX10_become_25 ?_
  refine z_iconst C 0 (by decide) dX10_become_28 ?_
  refine z_aload_n C 0 (by rfl) dX10_become_29 ?_
  refine z_get C (Cn := RX10) (T := TX10) (N := 13) (ci := 9) h0.2 3 (tE21 h0.1) in_X10_become_X10 rfl (by decide) mw_X10_become_3 rfl rfl dX10_become_30 ?_
  refine z_iconst C 0 (by decide) dX10_become_33 ?_
  refine z_bipush C 12 (by decide) dX10_become_34 ?_
  obtain ⟨s24, hw⟩ := hw
  refine z_copy C (t := 1) (ty := .boolean) (tR21_3 h1).2 (tR21_3 h0).2 (fun _ => tE12 (tR21_3 h1).1) (fun _ => tE12 (tR21_3 h0).1) rfl rfl (by decide) (by decide) (by decide) (by decide) (by decide) (fun q hq => (s24 q hq).2.1) mw_X10_become_4 mw_X10_become_5 mw_X10_become_6 mw_X10_become_7 (Nat.le_of_ble_eq_true rfl) (by simp [nativeFrameWords]) dX10_become_36 (fun τ25 eτ25 => ?_)
  have hw := hw τ25 eτ25
  refine z_aload_n C 1 (by rfl) dX10_become_39 ?_
  refine z_get C (Cn := RX10) (T := TX10) (N := 13) (ci := 9) h1.2 7 (tE21 h1.1) in_X10_become_X10 rfl (by decide) mw_X10_become_8 rfl rfl dX10_become_40 ?_
  refine z_iconst C 0 (by decide) dX10_become_43 ?_
  refine z_aload_n C 0 (by rfl) dX10_become_44 ?_
  refine z_get C (Cn := RX10) (T := TX10) (N := 13) (ci := 9) h0.2 7 (tE21 h0.1) in_X10_become_X10 rfl (by decide) mw_X10_become_8 rfl rfl dX10_become_45 ?_
  refine z_iconst C 0 (by decide) dX10_become_48 ?_
  refine z_bipush C 24 (by decide) dX10_become_49 ?_
  refine z_copy C (t := 0) (ty := .int) (tR21_7 h1).2 (tR21_7 h0).2 (fun _ => tE25 (tR21_7 h1).1) (fun _ => tE25 (tR21_7 h0).1) rfl rfl (by decide) (by decide) (by decide) (by decide) (by decide) (fun _ _ => rfl) mw_X10_become_4 mw_X10_become_5 mw_X10_become_6 mw_X10_become_7 (Nat.le_of_ble_eq_true rfl) (by simp [nativeFrameWords]) dX10_become_51 (fun τ26 eτ26 => ?_)
  have hw := hw τ26 eτ26
  refine z_aload_n C 1 (by rfl) dX10_become_54 ?_
  refine z_get C (Cn := RX10) (T := TX10) (N := 13) (ci := 9) h1.2 8 (tE21 h1.1) in_X10_become_X10 rfl (by decide) mw_X10_become_9 rfl rfl dX10_become_55 ?_
  refine z_iconst C 0 (by decide) dX10_become_58 ?_
  refine z_aload_n C 0 (by rfl) dX10_become_59 ?_
  refine z_get C (Cn := RX10) (T := TX10) (N := 13) (ci := 9) h0.2 8 (tE21 h0.1) in_X10_become_X10 rfl (by decide) mw_X10_become_9 rfl rfl dX10_become_60 ?_
  refine z_iconst C 0 (by decide) dX10_become_63 ?_
  refine z_bipush C 24 (by decide) dX10_become_64 ?_
  refine z_copy C (t := 0) (ty := .int) (tR21_8 h1).2 (tR21_8 h0).2 (fun _ => tE25 (tR21_8 h1).1) (fun _ => tE25 (tR21_8 h0).1) rfl rfl (by decide) (by decide) (by decide) (by decide) (by decide) (fun _ _ => rfl) mw_X10_become_4 mw_X10_become_5 mw_X10_become_6 mw_X10_become_7 (Nat.le_of_ble_eq_true rfl) (by simp [nativeFrameWords]) dX10_become_66 (fun τ27 eτ27 => ?_)
  have hw := hw τ27 eτ27
  refine z_iconst C 0 (by decide) dX10_become_69 ?_
  refine z_istore_n C [(2, .int 0), (0, .ref (w.1 i0)), (1, .ref (w.1 j1))] dX10_become_70 (by decide) rfl ?_
  obtain ⟨I30, u30, hI30, hs30⟩ := hw
  have lp30 : ∀ (n30 : Nat) (τ28 : TS) (x29 : Int32), u30 τ28 x29 < n30 → I30 τ28 x29 → Zt w g τ28 (0, 0) 71 [(0, .ref (w.1 i0)), (1, .ref (w.1 j1)), (2, .int x29)] [] := by
    intro n30
    induction n30 with
    | zero => intro τ28 x29 hlt30; exact absurd hlt30 (Nat.not_lt_zero _)
    | succ n30 ih30 =>
      intro τ28 x29 hlt30 hh30
      have hw := hs30 τ28 x29 hh30
      refine z_iload_n C 2 (by rfl) dX10_become_71 ?_
      refine z_bipush C 8 (by decide) dX10_become_72 ?_
      refine z_icmp_ge (tgt := 102) C dX10_become_74 (by decide) (fun c31 => ?_) (fun c31 => ?_)
      · have hw := hw.1 c31
        refine z_iconst C 0 (by decide) dX10_become_102 ?_
        refine z_istore_n C [(2, .int 0), (0, .ref (w.1 i0)), (1, .ref (w.1 j1))] dX10_become_103 (by decide) rfl ?_
        obtain ⟨I34, u34, hI34, hs34⟩ := hw
        have lp34 : ∀ (n34 : Nat) (τ32 : TS) (x33 : Int32), u34 τ32 x33 < n34 → I34 τ32 x33 → Zt w g τ32 (0, 0) 104 [(0, .ref (w.1 i0)), (1, .ref (w.1 j1)), (2, .int x33)] [] := by
          intro n34
          induction n34 with
          | zero => intro τ32 x33 hlt34; exact absurd hlt34 (Nat.not_lt_zero _)
          | succ n34 ih34 =>
            intro τ32 x33 hlt34 hh34
            have hw := hs34 τ32 x33 hh34
            refine z_iload_n C 2 (by rfl) dX10_become_104 ?_
            refine z_bipush C 24 (by decide) dX10_become_105 ?_
            refine z_icmp_ge (tgt := 146) C dX10_become_107 (by decide) (fun c35 => ?_) (fun c35 => ?_)
            · have hw := hw.1 c35
              refine z_iconst C 0 (by decide) dX10_become_146 ?_
              refine z_istore_n C [(2, .int 0), (0, .ref (w.1 i0)), (1, .ref (w.1 j1))] dX10_become_147 (by decide) rfl ?_
              obtain ⟨I38, u38, hI38, hs38⟩ := hw
              have lp38 : ∀ (n38 : Nat) (τ36 : TS) (x37 : Int32), u38 τ36 x37 < n38 → I38 τ36 x37 → Zt w g τ36 (0, 0) 148 [(0, .ref (w.1 i0)), (1, .ref (w.1 j1)), (2, .int x37)] [] := by
                intro n38
                induction n38 with
                | zero => intro τ36 x37 hlt38; exact absurd hlt38 (Nat.not_lt_zero _)
                | succ n38 ih38 =>
                  intro τ36 x37 hlt38 hh38
                  have hw := hs38 τ36 x37 hh38
                  refine z_iload_n C 2 (by rfl) dX10_become_148 ?_
                  refine z_bipush C 6 (by decide) dX10_become_149 ?_
                  refine z_icmp_ge (tgt := 219) C dX10_become_151 (by decide) (fun c39 => ?_) (fun c39 => ?_)
                  · have hw := hw.1 c39
                    exact hR _ _ _ dX10_become_219 hw
                  · have hw := hw.2 c39
                    refine z_aload_n C 1 (by rfl) dX10_become_154 ?_
                    refine z_get C (Cn := RX10) (T := TX10) (N := 13) (ci := 9) h1.2 9 (tE21 h1.1) in_X10_become_X10 rfl (by decide) mw_X10_become_13 rfl rfl dX10_become_155 ?_
                    refine z_iload_n C 2 (by rfl) dX10_become_158 ?_
                    obtain ⟨s40, hw⟩ := hw
                    refine z_aald_q4 C (tR21_9 h1).2 (tE26 (tR21_9 h1).1) s40 (if_pos (tp_lt s40)) dX10_become_159 ?_
                    refine z_iconst C 0 (by decide) dX10_become_160 ?_
                    refine z_aload_n C 0 (by rfl) dX10_become_161 ?_
                    refine z_get C (Cn := RX10) (T := TX10) (N := 13) (ci := 9) h0.2 9 (tE21 h0.1) in_X10_become_X10 rfl (by decide) mw_X10_become_13 rfl rfl dX10_become_162 ?_
                    refine z_iload_n C 2 (by rfl) dX10_become_165 ?_
                    obtain ⟨s41, hw⟩ := hw
                    refine z_aald_q4 C (tR21_9 h0).2 (tE26 (tR21_9 h0).1) s41 (if_pos (tp_lt s41)) dX10_become_166 ?_
                    refine z_iconst C 0 (by decide) dX10_become_167 ?_
                    refine z_bipush C 23 (by decide) dX10_become_168 ?_
                    refine z_copy C (t := 0) (ty := .int) (tR26 (tR21_9 h1) (tp_lt s40)).2 (tR26 (tR21_9 h0) (tp_lt s41)).2 (fun _ => tE27 (tR26 (tR21_9 h1) (tp_lt s40)).1) (fun _ => tE27 (tR26 (tR21_9 h0) (tp_lt s41)).1) rfl rfl (by decide) (by decide) (by decide) (by decide) (by decide) (fun _ _ => rfl) mw_X10_become_4 mw_X10_become_5 mw_X10_become_6 mw_X10_become_7 (Nat.le_of_ble_eq_true rfl) (by simp [nativeFrameWords]) dX10_become_170 (fun τ42 eτ42 => ?_)
                    have hw := hw τ42 eτ42
                    refine z_aload_n C 1 (by rfl) dX10_become_173 ?_
                    refine z_get C (Cn := RX10) (T := TX10) (N := 13) (ci := 9) h1.2 10 (tE21 h1.1) in_X10_become_X10 rfl (by decide) mw_X10_become_14 rfl rfl dX10_become_174 ?_
                    refine z_iload_n C 2 (by rfl) dX10_become_177 ?_
                    obtain ⟨s43, hw⟩ := hw
                    refine z_aald_q4 C (tR21_10 h1).2 (tE28 (tR21_10 h1).1) s43 (if_pos (tp_lt s43)) dX10_become_178 ?_
                    refine z_iconst C 0 (by decide) dX10_become_179 ?_
                    refine z_aload_n C 0 (by rfl) dX10_become_180 ?_
                    refine z_get C (Cn := RX10) (T := TX10) (N := 13) (ci := 9) h0.2 10 (tE21 h0.1) in_X10_become_X10 rfl (by decide) mw_X10_become_14 rfl rfl dX10_become_181 ?_
                    refine z_iload_n C 2 (by rfl) dX10_become_184 ?_
                    obtain ⟨s44, hw⟩ := hw
                    refine z_aald_q4 C (tR21_10 h0).2 (tE28 (tR21_10 h0).1) s44 (if_pos (tp_lt s44)) dX10_become_185 ?_
                    refine z_iconst C 0 (by decide) dX10_become_186 ?_
                    refine z_sipush C 200 (by decide) dX10_become_187 ?_
                    refine z_copy C (t := 0) (ty := .int) (tR28 (tR21_10 h1) (tp_lt s43)).2 (tR28 (tR21_10 h0) (tp_lt s44)).2 (fun _ => tE18 (tR28 (tR21_10 h1) (tp_lt s43)).1) (fun _ => tE18 (tR28 (tR21_10 h0) (tp_lt s44)).1) rfl rfl (by decide) (by decide) (by decide) (by decide) (by decide) (fun _ _ => rfl) mw_X10_become_4 mw_X10_become_5 mw_X10_become_6 mw_X10_become_7 (Nat.le_of_ble_eq_true rfl) (by simp [nativeFrameWords]) dX10_become_190 (fun τ45 eτ45 => ?_)
                    have hw := hw τ45 eτ45
                    refine z_aload_n C 1 (by rfl) dX10_become_193 ?_
                    refine z_get C (Cn := RX10) (T := TX10) (N := 13) (ci := 9) h1.2 11 (tE21 h1.1) in_X10_become_X10 rfl (by decide) mw_X10_become_15 rfl rfl dX10_become_194 ?_
                    refine z_iload_n C 2 (by rfl) dX10_become_197 ?_
                    obtain ⟨s46, hw⟩ := hw
                    refine z_aald_q6 C (tR21_11 h1).2 (tE29 (tR21_11 h1).1) s46 (if_pos (tp_lt s46)) dX10_become_198 ?_
                    refine z_iconst C 0 (by decide) dX10_become_199 ?_
                    refine z_aload_n C 0 (by rfl) dX10_become_200 ?_
                    refine z_get C (Cn := RX10) (T := TX10) (N := 13) (ci := 9) h0.2 11 (tE21 h0.1) in_X10_become_X10 rfl (by decide) mw_X10_become_15 rfl rfl dX10_become_201 ?_
                    refine z_iload_n C 2 (by rfl) dX10_become_204 ?_
                    obtain ⟨s47, hw⟩ := hw
                    refine z_aald_q6 C (tR21_11 h0).2 (tE29 (tR21_11 h0).1) s47 (if_pos (tp_lt s47)) dX10_become_205 ?_
                    refine z_iconst C 0 (by decide) dX10_become_206 ?_
                    refine z_sipush C 202 (by decide) dX10_become_207 ?_
                    obtain ⟨s48, hw⟩ := hw
                    refine z_copy C (t := 1) (ty := .boolean) (tR29 (tR21_11 h1) (tp_lt s46)).2 (tR29 (tR21_11 h0) (tp_lt s47)).2 (fun _ => tE30 (tR29 (tR21_11 h1) (tp_lt s46)).1) (fun _ => tE30 (tR29 (tR21_11 h0) (tp_lt s47)).1) rfl rfl (by decide) (by decide) (by decide) (by decide) (by decide) (fun q hq => (s48 q hq).2.1) mw_X10_become_4 mw_X10_become_5 mw_X10_become_6 mw_X10_become_7 (Nat.le_of_ble_eq_true rfl) (by simp [nativeFrameWords]) dX10_become_210 (fun τ49 eτ49 => ?_)
                    have hw := hw τ49 eτ49
                    obtain ⟨x50, ex50⟩ : ∃ z : Int32, z = x37 + 1 := ⟨_, rfl⟩
                    have hw := hw x50 ex50
                    refine z_iinc C 2 x50 [(2, .int x50), (0, .ref (w.1 i0)), (1, .ref (w.1 j1))] dX10_become_213 (by rfl) (by rw [ex50]; rfl) (by decide) rfl ?_
                    refine z_goto (tgt := 148) C dX10_become_216 (by decide) ?_
                    refine z_sub [1, 2, 0] [(0, .ref (w.1 i0)), (1, .ref (w.1 j1)), (2, .int x50)] rfl ?_
                    exact ih38 τ49 x50 (Nat.lt_of_lt_of_le hw.2 (Nat.le_of_lt_succ hlt38)) hw.1
              refine z_sub [1, 2, 0] [(0, .ref (w.1 i0)), (1, .ref (w.1 j1)), (2, .int 0)] rfl ?_
              exact lp38 _ τ32 0 (Nat.lt_succ_self _) hI38
            · have hw := hw.2 c35
              refine z_aload_n C 0 (by rfl) dX10_become_110 ?_
              refine z_get C (Cn := RX10) (T := TX10) (N := 13) (ci := 9) h0.2 5 (tE21 h0.1) in_X10_become_X10 rfl (by decide) mw_X10_become_11 rfl rfl dX10_become_111 ?_
              refine z_iload_n C 2 (by rfl) dX10_become_114 ?_
              obtain ⟨s51, hw⟩ := hw
              refine z_aald_q5 C (tR21_5 h0).2 (tE23 (tR21_5 h0).1) s51 (if_pos (tp_lt s51)) dX10_become_115 ?_
              refine z_aload_n C 1 (by rfl) dX10_become_116 ?_
              refine z_get C (Cn := RX10) (T := TX10) (N := 13) (ci := 9) h1.2 5 (tE21 h1.1) in_X10_become_X10 rfl (by decide) mw_X10_become_11 rfl rfl dX10_become_117 ?_
              refine z_iload_n C 2 (by rfl) dX10_become_120 ?_
              obtain ⟨s52, hw⟩ := hw
              refine z_aald_q5 C (tR21_5 h1).2 (tE23 (tR21_5 h1).1) s52 (if_pos (tp_lt s52)) dX10_become_121 ?_
              refine zv_v C (As := [.ref (w.1 ((j1 + 11) + 25 + 4 * (Int32.toNatClampNeg x33)))]) (bytes := cX9_become) (maxL := 2) (F1 := 1) (L1 := 18) (c_X9_become w _ ((i0 + 11) + 25 + 4 * (Int32.toNatClampNeg x33)) ((j1 + 11) + 25 + 4 * (Int32.toNatClampNeg x33)) _ (tR23 (tR21_5 h0) (tp_lt s51)) (tR23 (tR21_5 h1) (tp_lt s52)) hw) (tR23 (tR21_5 h0) (tp_lt s51)).2 (tE31 (tR23 (tR21_5 h0) (tp_lt s51)).1) rfl 1 gX10_become_X9_become rfl (by decide +kernel) ⟨Nat.le_of_ble_eq_true rfl, Nat.le_of_ble_eq_true rfl⟩ rfl (Nat.le_of_ble_eq_true rfl) ⟨Nat.le_of_ble_eq_true rfl, Nat.le_of_ble_eq_true rfl⟩ rfl dX10_become_122 (fun τ53 hw => ?_)
              refine z_aload_n C 0 (by rfl) dX10_become_125 ?_
              refine z_get C (Cn := RX10) (T := TX10) (N := 13) (ci := 9) h0.2 6 (tE21 h0.1) in_X10_become_X10 rfl (by decide) mw_X10_become_12 rfl rfl dX10_become_126 ?_
              refine z_iload_n C 2 (by rfl) dX10_become_129 ?_
              obtain ⟨s54, hw⟩ := hw
              refine z_aald_q5 C (tR21_6 h0).2 (tE24 (tR21_6 h0).1) s54 (if_pos (tp_lt s54)) dX10_become_130 ?_
              refine z_aload_n C 1 (by rfl) dX10_become_131 ?_
              refine z_get C (Cn := RX10) (T := TX10) (N := 13) (ci := 9) h1.2 6 (tE21 h1.1) in_X10_become_X10 rfl (by decide) mw_X10_become_12 rfl rfl dX10_become_132 ?_
              refine z_iload_n C 2 (by rfl) dX10_become_135 ?_
              obtain ⟨s55, hw⟩ := hw
              refine z_aald_q5 C (tR21_6 h1).2 (tE24 (tR21_6 h1).1) s55 (if_pos (tp_lt s55)) dX10_become_136 ?_
              refine zv_v C (As := [.ref (w.1 ((j1 + 12) + 26 + 4 * (Int32.toNatClampNeg x33)))]) (bytes := cX9_become) (maxL := 2) (F1 := 1) (L1 := 18) (c_X9_become w _ ((i0 + 12) + 26 + 4 * (Int32.toNatClampNeg x33)) ((j1 + 12) + 26 + 4 * (Int32.toNatClampNeg x33)) _ (tR24 (tR21_6 h0) (tp_lt s54)) (tR24 (tR21_6 h1) (tp_lt s55)) hw) (tR24 (tR21_6 h0) (tp_lt s54)).2 (tE31 (tR24 (tR21_6 h0) (tp_lt s54)).1) rfl 1 gX10_become_X9_become rfl (by decide +kernel) ⟨Nat.le_of_ble_eq_true rfl, Nat.le_of_ble_eq_true rfl⟩ rfl (Nat.le_of_ble_eq_true rfl) ⟨Nat.le_of_ble_eq_true rfl, Nat.le_of_ble_eq_true rfl⟩ rfl dX10_become_137 (fun τ56 hw => ?_)
              obtain ⟨x57, ex57⟩ : ∃ z : Int32, z = x33 + 1 := ⟨_, rfl⟩
              have hw := hw x57 ex57
              refine z_iinc C 2 x57 [(2, .int x57), (0, .ref (w.1 i0)), (1, .ref (w.1 j1))] dX10_become_140 (by rfl) (by rw [ex57]; rfl) (by decide) rfl ?_
              refine z_goto (tgt := 104) C dX10_become_143 (by decide) ?_
              refine z_sub [1, 2, 0] [(0, .ref (w.1 i0)), (1, .ref (w.1 j1)), (2, .int x57)] rfl ?_
              exact ih34 τ56 x57 (Nat.lt_of_lt_of_le hw.2 (Nat.le_of_lt_succ hlt34)) hw.1
        refine z_sub [1, 2, 0] [(0, .ref (w.1 i0)), (1, .ref (w.1 j1)), (2, .int 0)] rfl ?_
        exact lp34 _ τ28 0 (Nat.lt_succ_self _) hI34
      · have hw := hw.2 c31
        refine z_aload_n C 1 (by rfl) dX10_become_77 ?_
        refine z_get C (Cn := RX10) (T := TX10) (N := 13) (ci := 9) h1.2 4 (tE21 h1.1) in_X10_become_X10 rfl (by decide) mw_X10_become_10 rfl rfl dX10_become_78 ?_
        refine z_iload_n C 2 (by rfl) dX10_become_81 ?_
        obtain ⟨s58, hw⟩ := hw
        refine z_aald_q4 C (tR21_4 h1).2 (tE22 (tR21_4 h1).1) s58 (if_pos (tp_lt s58)) dX10_become_82 ?_
        refine z_iconst C 0 (by decide) dX10_become_83 ?_
        refine z_aload_n C 0 (by rfl) dX10_become_84 ?_
        refine z_get C (Cn := RX10) (T := TX10) (N := 13) (ci := 9) h0.2 4 (tE21 h0.1) in_X10_become_X10 rfl (by decide) mw_X10_become_10 rfl rfl dX10_become_85 ?_
        refine z_iload_n C 2 (by rfl) dX10_become_88 ?_
        obtain ⟨s59, hw⟩ := hw
        refine z_aald_q4 C (tR21_4 h0).2 (tE22 (tR21_4 h0).1) s59 (if_pos (tp_lt s59)) dX10_become_89 ?_
        refine z_iconst C 0 (by decide) dX10_become_90 ?_
        refine z_bipush C 8 (by decide) dX10_become_91 ?_
        refine z_copy C (t := 0) (ty := .int) (tR22 (tR21_4 h1) (tp_lt s58)).2 (tR22 (tR21_4 h0) (tp_lt s59)).2 (fun _ => tE13 (tR22 (tR21_4 h1) (tp_lt s58)).1) (fun _ => tE13 (tR22 (tR21_4 h0) (tp_lt s59)).1) rfl rfl (by decide) (by decide) (by decide) (by decide) (by decide) (fun _ _ => rfl) mw_X10_become_4 mw_X10_become_5 mw_X10_become_6 mw_X10_become_7 (Nat.le_of_ble_eq_true rfl) (by simp [nativeFrameWords]) dX10_become_93 (fun τ60 eτ60 => ?_)
        have hw := hw τ60 eτ60
        obtain ⟨x61, ex61⟩ : ∃ z : Int32, z = x29 + 1 := ⟨_, rfl⟩
        have hw := hw x61 ex61
        refine z_iinc C 2 x61 [(2, .int x61), (0, .ref (w.1 i0)), (1, .ref (w.1 j1))] dX10_become_96 (by rfl) (by rw [ex61]; rfl) (by decide) rfl ?_
        refine z_goto (tgt := 71) C dX10_become_99 (by decide) ?_
        refine z_sub [1, 2, 0] [(0, .ref (w.1 i0)), (1, .ref (w.1 j1)), (2, .int x61)] rfl ?_
        exact ih30 τ60 x61 (Nat.lt_of_lt_of_le hw.2 (Nat.le_of_lt_succ hlt30)) hw.1
  refine z_sub [1, 2, 0] [(0, .ref (w.1 i0)), (1, .ref (w.1 j1)), (2, .int 0)] rfl ?_
  exact lp30 _ τ27 0 (Nat.lt_succ_self _) hI30
def wp_X10_tick (τ : TS) (i0 : Nat) (K : TS → Prop) : Prop :=
  ∀ τ21 : TS, τ21 = tp_up τ i0 0 ((τ i0 0) + 1) → ∃ (I24 : TS → Int32 → Prop) (u24 : TS → Int32 → Nat), I24 τ21 0 ∧ ∀ (τ22 : TS) (x23 : Int32), I24 τ22 x23 → ((((2 * (τ22 234 2)) ≤ x23) → (∃ (I28 : TS → Int32 → Prop) (u28 : TS → Int32 → Nat), I28 τ22 0 ∧ ∀ (τ26 : TS) (x27 : Int32), I28 τ26 x27 → ((((τ26 i0 2) ≤ x27) → (∃ (I32 : TS → Int32 → Prop) (u32 : TS → Int32 → Nat), I32 τ26 0 ∧ ∀ (τ30 : TS) (x31 : Int32), I32 τ30 x31 → ((((τ30 i0 2) ≤ x31) → (∃ (I36 : TS → Int32 → Prop) (u36 : TS → Int32 → Nat), I36 τ30 0 ∧ ∀ (τ34 : TS) (x35 : Int32), I36 τ34 x35 → ((((2 * (τ34 234 2)) ≤ x35) → (K τ34)) ∧ ((¬ (2 * (τ34 234 2)) ≤ x35) → False)))) ∧ ((¬ (τ30 i0 2) ≤ x31) → False)))) ∧ ((¬ (τ26 i0 2) ≤ x27) → (vp_in x27 6 ∧ (((¬ (τ26 ((i0 + 15) + 1 + (Int32.toNatClampNeg x27)) (Int32.toNatClampNeg 16)) = (τ26 i0 0)) → (∀ x41 : Int32, x41 = x27 + 1 → I28 τ26 x41 ∧ u28 τ26 x41 < u28 τ26 x27)) ∧ (((τ26 ((i0 + 15) + 1 + (Int32.toNatClampNeg x27)) (Int32.toNatClampNeg 16)) = (τ26 i0 0)) → False))))))) ∧ ((¬ (2 * (τ22 234 2)) ≤ x23) → False))
theorem mw_X10_tick_0 : Cond.fieldLink RX10 52 "TidePostModel$State" "clock" "I" ∈ wsX10_tick := List.mem_of_getElem? (i := 1) rfl
theorem mw_X10_tick_1 : Cond.fieldLink RX10 3 "TidePostModel$State" "this$0" "LTidePostModel;" ∈ wsX10_tick := List.mem_of_getElem? (i := 2) rfl
theorem mw_X10_tick_2 : Cond.fieldLink RX10 59 "TidePostModel$State" "calls" "I" ∈ wsX10_tick := List.mem_of_getElem? (i := 3) rfl
theorem mw_X10_tick_3 : Cond.fieldLink RX10 40 "TidePostModel$State" "call" "[[I" ∈ wsX10_tick := List.mem_of_getElem? (i := 4) rfl
theorem in_X10_tick_X10 : ∀ x ∈ wsX100, x ∈ wsX10_tick := fun _ h => List.mem_cons_of_mem _ (List.mem_append_left _ (List.mem_append_left _ (List.mem_append_right _ h)))
theorem in_X10_tick_X11 : ∀ x ∈ wsX110, x ∈ wsX10_tick := fun _ h => List.mem_cons_of_mem _ (List.mem_append_left _ (List.mem_append_right _ h))
set_option maxHeartbeats 4000000 in
set_option maxRecDepth 100000 in
theorem c_X10_tick (w : WPar) (τ : TS) (i0 : Nat) (K : TS → Prop) (h0 : tp_is w i0 21) (hw : wp_X10_tick τ i0 K) : MV w yX10_tick wsX10_tick 0 0 [.ref (w.1 i0)] τ K := by
  refine tp_enterV (cc := cX10_tick) (maxL := 2) (own := RX10) (by decide) rfl rfl (Nat.le_of_ble_eq_true rfl) (fun g C hR => ?_)
  show Zt w g τ (0, 0) 0 [(0, .ref (w.1 i0))] []
  unfold wp_X10_tick at hw
  refine z_aload_n C 0 (by rfl) dX10_tick_0 ?_
  refine z_dup C rfl dX10_tick_1 ?_
  refine z_get C (Cn := RX10) (T := TX10) (N := 13) (ci := 9) h0.2 0 (tE21 h0.1) in_X10_tick_X10 rfl (by decide) mw_X10_tick_0 rfl rfl dX10_tick_2 ?_
  refine z_iconst C 1 (by decide) dX10_tick_5 ?_
  refine z_iadd C dX10_tick_6 ?_
  refine z_put C (Cn := RX10) (T := TX10) (N := 13) (ci := 9) h0.2 0 (tE21 h0.1) (tS21_0 h0.1 _) in_X10_tick_X10 tyX10 tyX10_ok nmX10 rfl (by decide) mw_X10_tick_0 rfl rfl (tyX10_ok 0 (by decide)) rfl rfl (Nat.le_of_ble_eq_true rfl) dX10_tick_7 (fun τ21 eτ21 => ?_)
  have hw := hw τ21 eτ21
  refine z_iconst C 0 (by decide) dX10_tick_10 ?_
  refine z_istore_n C [(1, .int 0), (0, .ref (w.1 i0))] dX10_tick_11 (by decide) rfl ?_
  obtain ⟨I24, u24, hI24, hs24⟩ := hw
  have lp24 : ∀ (n24 : Nat) (τ22 : TS) (x23 : Int32), u24 τ22 x23 < n24 → I24 τ22 x23 → Zt w g τ22 (0, 0) 12 [(0, .ref (w.1 i0)), (1, .int x23)] [] := by
    intro n24
    induction n24 with
    | zero => intro τ22 x23 hlt24; exact absurd hlt24 (Nat.not_lt_zero _)
    | succ n24 ih24 =>
      intro τ22 x23 hlt24 hh24
      have hw := hs24 τ22 x23 hh24
      refine z_iload_n C 1 (by rfl) dX10_tick_12 ?_
      refine z_iconst C 2 (by decide) dX10_tick_13 ?_
      refine z_aload_n C 0 (by rfl) dX10_tick_14 ?_
      refine z_get C (Cn := RX10) (T := TX10) (N := 13) (ci := 9) h0.2 12 (tE21 h0.1) in_X10_tick_X10 rfl (by decide) mw_X10_tick_1 rfl rfl dX10_tick_15 ?_
      refine z_getN C (Cn := RX11) (T := TX11) (N := 10) (ci := 10) (tR21_12 h0).2 2 (tE20 (tR21_12 h0).1) in_X10_tick_X11 rfl (by decide) (List.mem_of_getElem? (i := 15) rfl) rfl rfl dX10_tick_18 ?_
      refine z_imul C dX10_tick_21 ?_
      refine z_icmp_ge (tgt := 36) C dX10_tick_22 (by decide) (fun c25 => ?_) (fun c25 => ?_)
      · have hw := hw.1 c25
        refine z_iconst C 0 (by decide) dX10_tick_36 ?_
        refine z_istore_n C [(1, .int 0), (0, .ref (w.1 i0))] dX10_tick_37 (by decide) rfl ?_
        obtain ⟨I28, u28, hI28, hs28⟩ := hw
        have lp28 : ∀ (n28 : Nat) (τ26 : TS) (x27 : Int32), u28 τ26 x27 < n28 → I28 τ26 x27 → Zt w g τ26 (0, 0) 38 [(0, .ref (w.1 i0)), (1, .int x27)] [] := by
          intro n28
          induction n28 with
          | zero => intro τ26 x27 hlt28; exact absurd hlt28 (Nat.not_lt_zero _)
          | succ n28 ih28 =>
            intro τ26 x27 hlt28 hh28
            have hw := hs28 τ26 x27 hh28
            refine z_iload_n C 1 (by rfl) dX10_tick_38 ?_
            refine z_aload_n C 0 (by rfl) dX10_tick_39 ?_
            refine z_get C (Cn := RX10) (T := TX10) (N := 13) (ci := 9) h0.2 2 (tE21 h0.1) in_X10_tick_X10 rfl (by decide) mw_X10_tick_2 rfl rfl dX10_tick_40 ?_
            refine z_icmp_ge (tgt := 73) C dX10_tick_43 (by decide) (fun c29 => ?_) (fun c29 => ?_)
            · have hw := hw.1 c29
              refine z_iconst C 0 (by decide) dX10_tick_73 ?_
              refine z_istore_n C [(1, .int 0), (0, .ref (w.1 i0))] dX10_tick_74 (by decide) rfl ?_
              obtain ⟨I32, u32, hI32, hs32⟩ := hw
              have lp32 : ∀ (n32 : Nat) (τ30 : TS) (x31 : Int32), u32 τ30 x31 < n32 → I32 τ30 x31 → Zt w g τ30 (0, 0) 75 [(0, .ref (w.1 i0)), (1, .int x31)] [] := by
                intro n32
                induction n32 with
                | zero => intro τ30 x31 hlt32; exact absurd hlt32 (Nat.not_lt_zero _)
                | succ n32 ih32 =>
                  intro τ30 x31 hlt32 hh32
                  have hw := hs32 τ30 x31 hh32
                  refine z_iload_n C 1 (by rfl) dX10_tick_75 ?_
                  refine z_aload_n C 0 (by rfl) dX10_tick_76 ?_
                  refine z_get C (Cn := RX10) (T := TX10) (N := 13) (ci := 9) h0.2 2 (tE21 h0.1) in_X10_tick_X10 rfl (by decide) mw_X10_tick_2 rfl rfl dX10_tick_77 ?_
                  refine z_icmp_ge (tgt := 94) C dX10_tick_80 (by decide) (fun c33 => ?_) (fun c33 => ?_)
                  · have hw := hw.1 c33
                    refine z_iconst C 0 (by decide) dX10_tick_94 ?_
                    refine z_istore_n C [(1, .int 0), (0, .ref (w.1 i0))] dX10_tick_95 (by decide) rfl ?_
                    obtain ⟨I36, u36, hI36, hs36⟩ := hw
                    have lp36 : ∀ (n36 : Nat) (τ34 : TS) (x35 : Int32), u36 τ34 x35 < n36 → I36 τ34 x35 → Zt w g τ34 (0, 0) 96 [(0, .ref (w.1 i0)), (1, .int x35)] [] := by
                      intro n36
                      induction n36 with
                      | zero => intro τ34 x35 hlt36; exact absurd hlt36 (Nat.not_lt_zero _)
                      | succ n36 ih36 =>
                        intro τ34 x35 hlt36 hh36
                        have hw := hs36 τ34 x35 hh36
                        refine z_iload_n C 1 (by rfl) dX10_tick_96 ?_
                        refine z_iconst C 2 (by decide) dX10_tick_97 ?_
                        refine z_aload_n C 0 (by rfl) dX10_tick_98 ?_
                        refine z_get C (Cn := RX10) (T := TX10) (N := 13) (ci := 9) h0.2 12 (tE21 h0.1) in_X10_tick_X10 rfl (by decide) mw_X10_tick_1 rfl rfl dX10_tick_99 ?_
                        refine z_getN C (Cn := RX11) (T := TX11) (N := 10) (ci := 10) (tR21_12 h0).2 2 (tE20 (tR21_12 h0).1) in_X10_tick_X11 rfl (by decide) (List.mem_of_getElem? (i := 15) rfl) rfl rfl dX10_tick_102 ?_
                        refine z_imul C dX10_tick_105 ?_
                        refine z_icmp_ge (tgt := 120) C dX10_tick_106 (by decide) (fun c37 => ?_) (fun c37 => ?_)
                        · have hw := hw.1 c37
                          exact hR _ _ _ dX10_tick_120 hw
                        · have hw := hw.2 c37
                          refine z_aload_n C 0 (by rfl) dX10_tick_109 ?_
                          refine z_iload_n C 1 (by rfl) dX10_tick_110 ?_
                          exact hw.elim
                    refine z_sub [1, 0] [(0, .ref (w.1 i0)), (1, .int 0)] rfl ?_
                    exact lp36 _ τ30 0 (Nat.lt_succ_self _) hI36
                  · have hw := hw.2 c33
                    refine z_aload_n C 0 (by rfl) dX10_tick_83 ?_
                    refine z_iload_n C 1 (by rfl) dX10_tick_84 ?_
                    exact hw.elim
              refine z_sub [1, 0] [(0, .ref (w.1 i0)), (1, .int 0)] rfl ?_
              exact lp32 _ τ26 0 (Nat.lt_succ_self _) hI32
            · have hw := hw.2 c29
              refine z_aload_n C 0 (by rfl) dX10_tick_46 ?_
              refine z_get C (Cn := RX10) (T := TX10) (N := 13) (ci := 9) h0.2 9 (tE21 h0.1) in_X10_tick_X10 rfl (by decide) mw_X10_tick_3 rfl rfl dX10_tick_47 ?_
              refine z_iload_n C 1 (by rfl) dX10_tick_50 ?_
              obtain ⟨s38, hw⟩ := hw
              refine z_aald_q4 C (tR21_9 h0).2 (tE26 (tR21_9 h0).1) s38 (if_pos (tp_lt s38)) dX10_tick_51 ?_
              refine z_bipush C 16 (by decide) dX10_tick_52 ?_
              have s39 : vp_in 16 23 := by unfold vp_in; decide
              refine z_iald C (tR26 (tR21_9 h0) (tp_lt s38)).2 (tE27 (tR26 (tR21_9 h0) (tp_lt s38)).1) s39 dX10_tick_54 ?_
              refine z_aload_n C 0 (by rfl) dX10_tick_55 ?_
              refine z_get C (Cn := RX10) (T := TX10) (N := 13) (ci := 9) h0.2 0 (tE21 h0.1) in_X10_tick_X10 rfl (by decide) mw_X10_tick_0 rfl rfl dX10_tick_56 ?_
              refine z_icmp_ne (tgt := 67) C dX10_tick_59 (by decide) (fun c40 => ?_) (fun c40 => ?_)
              · have hw := hw.1 c40
                obtain ⟨x41, ex41⟩ : ∃ z : Int32, z = x27 + 1 := ⟨_, rfl⟩
                have hw := hw x41 ex41
                refine z_iinc C 1 x41 [(1, .int x41), (0, .ref (w.1 i0))] dX10_tick_67 (by rfl) (by rw [ex41]; rfl) (by decide) rfl ?_
                refine z_goto (tgt := 38) C dX10_tick_70 (by decide) ?_
                refine z_sub [1, 0] [(0, .ref (w.1 i0)), (1, .int x41)] rfl ?_
                exact ih28 τ26 x41 (Nat.lt_of_lt_of_le hw.2 (Nat.le_of_lt_succ hlt28)) hw.1
              · have hw := hw.2 c40
                refine z_aload_n C 0 (by rfl) dX10_tick_62 ?_
                refine z_iload_n C 1 (by rfl) dX10_tick_63 ?_
                exact hw.elim
        refine z_sub [1, 0] [(0, .ref (w.1 i0)), (1, .int 0)] rfl ?_
        exact lp28 _ τ22 0 (Nat.lt_succ_self _) hI28
      · have hw := hw.2 c25
        refine z_aload_n C 0 (by rfl) dX10_tick_25 ?_
        refine z_iload_n C 1 (by rfl) dX10_tick_26 ?_
        exact hw.elim
  refine z_sub [1, 0] [(0, .ref (w.1 i0)), (1, .int 0)] rfl ?_
  exact lp24 _ τ21 0 (Nat.lt_succ_self _) hI24
def wp_X10_underWay (τ : TS) (i0 : Nat) (K : TS → Int32 → Prop) : Prop :=
  ∃ (I24 : TS → Int32 → Int32 → Prop) (u24 : TS → Int32 → Int32 → Nat), I24 τ 0 0 ∧ ∀ (τ21 : TS) (x22 : Int32) (x23 : Int32), I24 τ21 x22 x23 → ((((2 * (τ21 234 2)) ≤ x23) → (K τ21 x22)) ∧ ((¬ (2 * (τ21 234 2)) ≤ x23) → (vp_in x23 24 ∧ (vp_in x23 24 ∧ (∀ x28 : Int32, x28 = (x22 + ((τ21 ((i0 + 11) + 25 + 4 * (Int32.toNatClampNeg x23)) 1) + (τ21 ((i0 + 12) + 26 + 4 * (Int32.toNatClampNeg x23)) 1))) → ∀ x29 : Int32, x29 = x23 + 1 → I24 τ21 x28 x29 ∧ u24 τ21 x28 x29 < u24 τ21 x22 x23)))))
theorem mw_X10_underWay_0 : Cond.fieldLink RX10 3 "TidePostModel$State" "this$0" "LTidePostModel;" ∈ wsX10_underWay := List.mem_of_getElem? (i := 1) rfl
theorem mw_X10_underWay_1 : Cond.fieldLink RX10 26 "TidePostModel$State" "queue" "[LTidePostModel$Row;" ∈ wsX10_underWay := List.mem_of_getElem? (i := 2) rfl
theorem mw_X10_underWay_2 : Cond.fieldLink RX10 30 "TidePostModel$State" "flight" "[LTidePostModel$Row;" ∈ wsX10_underWay := List.mem_of_getElem? (i := 3) rfl
theorem in_X10_underWay_X10 : ∀ x ∈ wsX100, x ∈ wsX10_underWay := fun _ h => List.mem_cons_of_mem _ (List.mem_append_left _ (List.mem_append_left _ (List.mem_append_right _ h)))
theorem in_X10_underWay_X11 : ∀ x ∈ wsX110, x ∈ wsX10_underWay := fun _ h => List.mem_cons_of_mem _ (List.mem_append_left _ (List.mem_append_right _ h))
theorem in_X10_underWay_X9 : ∀ x ∈ wsX90, x ∈ wsX10_underWay := fun _ h => List.mem_cons_of_mem _ (List.mem_append_right _ h)
set_option maxHeartbeats 4000000 in
set_option maxRecDepth 100000 in
theorem c_X10_underWay (w : WPar) (τ : TS) (i0 : Nat) (K : TS → Int32 → Prop) (h0 : tp_is w i0 21) (hw : wp_X10_underWay τ i0 K) : MI w yX10_underWay wsX10_underWay 0 0 [.ref (w.1 i0)] τ K := by
  refine tp_enterI (cc := cX10_underWay) (maxL := 3) (own := RX10) (by decide) rfl rfl (Nat.le_of_ble_eq_true rfl) (fun g C hR => ?_)
  show Zt w g τ (0, 0) 0 [(0, .ref (w.1 i0))] []
  unfold wp_X10_underWay at hw
  refine z_iconst C 0 (by decide) dX10_underWay_0 ?_
  refine z_istore_n C [(1, .int 0), (0, .ref (w.1 i0))] dX10_underWay_1 (by decide) rfl ?_
  refine z_iconst C 0 (by decide) dX10_underWay_2 ?_
  refine z_istore_n C [(2, .int 0), (1, .int 0), (0, .ref (w.1 i0))] dX10_underWay_3 (by decide) rfl ?_
  obtain ⟨I24, u24, hI24, hs24⟩ := hw
  have lp24 : ∀ (n24 : Nat) (τ21 : TS) (x22 : Int32) (x23 : Int32), u24 τ21 x22 x23 < n24 → I24 τ21 x22 x23 → Zt w g τ21 (0, 0) 4 [(0, .ref (w.1 i0)), (1, .int x22), (2, .int x23)] [] := by
    intro n24
    induction n24 with
    | zero => intro τ21 x22 x23 hlt24; exact absurd hlt24 (Nat.not_lt_zero _)
    | succ n24 ih24 =>
      intro τ21 x22 x23 hlt24 hh24
      have hw := hs24 τ21 x22 x23 hh24
      refine z_iload_n C 2 (by rfl) dX10_underWay_4 ?_
      refine z_iconst C 2 (by decide) dX10_underWay_5 ?_
      refine z_aload_n C 0 (by rfl) dX10_underWay_6 ?_
      refine z_get C (Cn := RX10) (T := TX10) (N := 13) (ci := 9) h0.2 12 (tE21 h0.1) in_X10_underWay_X10 rfl (by decide) mw_X10_underWay_0 rfl rfl dX10_underWay_7 ?_
      refine z_getN C (Cn := RX11) (T := TX11) (N := 10) (ci := 10) (tR21_12 h0).2 2 (tE20 (tR21_12 h0).1) in_X10_underWay_X11 rfl (by decide) (List.mem_of_getElem? (i := 15) rfl) rfl rfl dX10_underWay_10 ?_
      refine z_imul C dX10_underWay_13 ?_
      refine z_icmp_ge (tgt := 45) C dX10_underWay_14 (by decide) (fun c25 => ?_) (fun c25 => ?_)
      · have hw := hw.1 c25
        refine z_iload_n C 1 (by rfl) dX10_underWay_45 ?_
        exact hR _ _ _ _ dX10_underWay_46 hw
      · have hw := hw.2 c25
        refine z_iload_n C 1 (by rfl) dX10_underWay_17 ?_
        refine z_aload_n C 0 (by rfl) dX10_underWay_18 ?_
        refine z_get C (Cn := RX10) (T := TX10) (N := 13) (ci := 9) h0.2 5 (tE21 h0.1) in_X10_underWay_X10 rfl (by decide) mw_X10_underWay_1 rfl rfl dX10_underWay_19 ?_
        refine z_iload_n C 2 (by rfl) dX10_underWay_22 ?_
        obtain ⟨s26, hw⟩ := hw
        refine z_aald_q5 C (tR21_5 h0).2 (tE23 (tR21_5 h0).1) s26 (if_pos (tp_lt s26)) dX10_underWay_23 ?_
        refine z_getN C (Cn := RX9) (T := TX9) (N := 2) (ci := 8) (tR23 (tR21_5 h0) (tp_lt s26)).2 1 (tE31 (tR23 (tR21_5 h0) (tp_lt s26)).1) in_X10_underWay_X9 rfl (by decide) (List.mem_of_getElem? (i := 1) rfl) rfl rfl dX10_underWay_24 ?_
        refine z_aload_n C 0 (by rfl) dX10_underWay_27 ?_
        refine z_get C (Cn := RX10) (T := TX10) (N := 13) (ci := 9) h0.2 6 (tE21 h0.1) in_X10_underWay_X10 rfl (by decide) mw_X10_underWay_2 rfl rfl dX10_underWay_28 ?_
        refine z_iload_n C 2 (by rfl) dX10_underWay_31 ?_
        obtain ⟨s27, hw⟩ := hw
        refine z_aald_q5 C (tR21_6 h0).2 (tE24 (tR21_6 h0).1) s27 (if_pos (tp_lt s27)) dX10_underWay_32 ?_
        refine z_getN C (Cn := RX9) (T := TX9) (N := 2) (ci := 8) (tR24 (tR21_6 h0) (tp_lt s27)).2 1 (tE31 (tR24 (tR21_6 h0) (tp_lt s27)).1) in_X10_underWay_X9 rfl (by decide) (List.mem_of_getElem? (i := 1) rfl) rfl rfl dX10_underWay_33 ?_
        refine z_iadd C dX10_underWay_36 ?_
        refine z_iadd C dX10_underWay_37 ?_
        refine z_top (fun x28 ex28 => ?_)
        have hw := hw x28 ex28
        refine z_istore_n C [(1, .int x28), (0, .ref (w.1 i0)), (2, .int x23)] dX10_underWay_38 (by decide) rfl ?_
        obtain ⟨x29, ex29⟩ : ∃ z : Int32, z = x23 + 1 := ⟨_, rfl⟩
        have hw := hw x29 ex29
        refine z_iinc C 2 x29 [(2, .int x29), (1, .int x28), (0, .ref (w.1 i0))] dX10_underWay_39 (by rfl) (by rw [ex29]; rfl) (by decide) rfl ?_
        refine z_goto (tgt := 4) C dX10_underWay_42 (by decide) ?_
        refine z_sub [2, 1, 0] [(0, .ref (w.1 i0)), (1, .int x28), (2, .int x29)] rfl ?_
        exact ih24 τ21 x28 x29 (Nat.lt_of_lt_of_le hw.2 (Nat.le_of_lt_succ hlt24)) hw.1
  refine z_sub [2, 1, 0] [(0, .ref (w.1 i0)), (1, .int 0), (2, .int 0)] rfl ?_
  exact lp24 _ τ 0 0 (Nat.lt_succ_self _) hI24
