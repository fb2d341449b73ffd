def wp_X6_send (τ : TS) (i0 : Nat) (x1 : Int32) (x2 : Int32) (x3 : Int32) (K : TS → Prop) : Prop :=
  wp_X3_linkTowards τ 1 x2 x3 (fun τ21 x22 => ((x22 = (-1)) → (∀ τ24 : TS, τ24 = tp_up τ21 i0 5 ((τ21 i0 5) + 1) → K τ24)) ∧ ((¬ x22 = (-1)) → (wp_X4_hopsOf τ21 x1 (fun τ25 x26 => ((x26 < 16) → (vp_in x22 12 ∧ (((¬ (τ25 2 (Int32.toNatClampNeg x22)) = x2) → (vp_in ((2 * x22) + 1) 24 ∧ (vp_in x22 12 ∧ (wp_X7_join τ25 ((i0 + 1) + 2 + 3 * (Int32.toNatClampNeg ((2 * x22) + 1))) x1 (τ25 5 (Int32.toNatClampNeg x22)) (fun τ32 x33 => ((¬ x33 = 0) → (K τ32)) ∧ ((x33 = 0) → (∀ τ35 : TS, τ35 = tp_up τ32 i0 5 ((τ32 i0 5) + 1) → K τ35))))))) ∧ (((τ25 2 (Int32.toNatClampNeg x22)) = x2) → (vp_in ((2 * x22) + 0) 24 ∧ (vp_in x22 12 ∧ (wp_X7_join τ25 ((i0 + 1) + 2 + 3 * (Int32.toNatClampNeg ((2 * x22) + 0))) x1 (τ25 5 (Int32.toNatClampNeg x22)) (fun τ38 x39 => ((¬ x39 = 0) → (K τ38)) ∧ ((x39 = 0) → (∀ τ41 : TS, τ41 = tp_up τ38 i0 5 ((τ38 i0 5) + 1) → K τ41)))))))))) ∧ ((¬ x26 < 16) → (∀ τ42 : TS, τ42 = tp_up τ25 i0 5 ((τ25 i0 5) + 1) → K τ42))))))
theorem mw_X6_send_0 : Cond.fieldLink RX6 23 "TidePost$Traffic" "net" "LTidePost$Net;" ∈ wsX6_send := List.mem_of_getElem? (i := 1) rfl
theorem mw_X6_send_1 : Cond.fieldLink RX6 69 "TidePost$Traffic" "lost" "I" ∈ wsX6_send := List.mem_of_getElem? (i := 2) rfl
theorem mw_X6_send_2 : Cond.fieldLink RX6 97 "TidePost$Net" "firsts" "[I" ∈ wsX6_send := List.mem_of_getElem? (i := 3) rfl
theorem mw_X6_send_3 : Cond.fieldLink RX6 11 "TidePost$Traffic" "ways" "[LTidePost$Way;" ∈ wsX6_send := List.mem_of_getElem? (i := 4) rfl
theorem mw_X6_send_4 : Cond.fieldLink RX6 188 "TidePost$Net" "rooms" "[I" ∈ wsX6_send := List.mem_of_getElem? (i := 5) rfl
theorem in_X6_send_X6 : ∀ x ∈ wsX60, x ∈ wsX6_send := fun _ h => List.mem_cons_of_mem _ (List.mem_append_left _ (List.mem_append_left _ (List.mem_append_right _ h)))
theorem in_X6_send_X3 : ∀ x ∈ wsX30, x ∈ wsX6_send := fun _ h => List.mem_cons_of_mem _ (List.mem_append_left _ (List.mem_append_right _ h))
set_option maxHeartbeats 4000000 in
set_option maxRecDepth 100000 in
theorem c_X6_send (w : WPar) (τ : TS) (i0 : Nat) (x1 : Int32) (x2 : Int32) (x3 : Int32) (K : TS → Prop) (h0 : tp_is w i0 5) (hw : wp_X6_send τ i0 x1 x2 x3 K) : MV w yX6_send wsX6_send 2 47 [.ref (w.1 i0), .int x1, .int x2, .int x3] τ K := by
  refine tp_enterV (cc := cX6_send) (maxL := 6) (own := RX6) (by decide) rfl rfl (Nat.le_of_ble_eq_true rfl) (fun g C hR => ?_)
  show Zt w g τ (0, 0) 0 [(0, .ref (w.1 i0)), (1, .int x1), (2, .int x2), (3, .int x3)] []
  unfold wp_X6_send at hw
  refine z_aload_n C 0 (by rfl) dX6_send_0 ?_
  refine z_get C (Cn := RX6) (T := TX6) (N := 6) (ci := 5) h0.2 0 (tE5 h0.1) in_X6_send_X6 rfl (by decide) mw_X6_send_0 rfl rfl dX6_send_1 ?_
  refine z_iload_n C 2 (by rfl) dX6_send_4 ?_
  refine z_iload_n C 3 (by rfl) dX6_send_5 ?_
  refine zv_i C (As := [.int x2, .int x3]) (bytes := cX3_linkTowards) (maxL := 6) (F1 := 1) (L1 := 22) (c_X3_linkTowards w _ 1 x2 x3 _ (tR5_0 h0) hw) (tR5_0 h0).2 (tE3 (tR5_0 h0).1) rfl 2 gX6_send_X3_linkTowards rfl (by decide +kernel) ⟨Nat.le_of_ble_eq_true rfl, Nat.le_of_ble_eq_true rfl⟩ rfl (Nat.le_of_ble_eq_true rfl) ⟨Nat.le_of_ble_eq_true rfl, Nat.le_of_ble_eq_true rfl⟩ rfl dX6_send_6 (fun x22 τ21 hw => ?_)
  refine z_istore C [(4, .int x22), (0, .ref (w.1 i0)), (1, .int x1), (2, .int x2), (3, .int x3)] dX6_send_9 (by decide) rfl ?_
  refine z_iload C 0 (by rfl) dX6_send_11 ?_
  refine z_iconst C (-1) (by decide) dX6_send_13 ?_
  refine z_icmp_eq (tgt := 26) C dX6_send_14 (by decide) (fun c23 => ?_) (fun c23 => ?_)
  · have hw := hw.1 c23
    refine z_aload_n C 1 (by rfl) dX6_send_26 ?_
    refine z_dup C rfl dX6_send_27 ?_
    refine z_get C (Cn := RX6) (T := TX6) (N := 6) (ci := 5) h0.2 5 (tE5 h0.1) in_X6_send_X6 rfl (by decide) mw_X6_send_1 rfl rfl dX6_send_28 ?_
    refine z_iconst C 1 (by decide) dX6_send_31 ?_
    refine z_iadd C dX6_send_32 ?_
    refine z_put C (Cn := RX6) (T := TX6) (N := 6) (ci := 5) h0.2 5 (tE5 h0.1) (tS5_5 h0.1 _) in_X6_send_X6 tyX6 tyX6_ok nmX6 rfl (by decide) mw_X6_send_1 rfl rfl (tyX6_ok 5 (by decide)) rfl rfl (Nat.le_of_ble_eq_true rfl) dX6_send_33 (fun τ24 eτ24 => ?_)
    have hw := hw τ24 eτ24
    exact hR _ _ _ dX6_send_36 hw
  · have hw := hw.2 c23
    refine z_iload_n C 2 (by rfl) dX6_send_17 ?_
    refine zs_i C (As := [.int x1]) (bytes := cX4_hopsOf) (maxL := 1) (F1 := 0) (L1 := 0) (c_X4_hopsOf w _ x1 _  hw) 1 gX6_send_X4_hopsOf rfl (by decide +kernel) ⟨Nat.le_of_ble_eq_true rfl, Nat.le_of_ble_eq_true rfl⟩ rfl (Nat.le_of_ble_eq_true rfl) ⟨Nat.le_of_ble_eq_true rfl, Nat.le_of_ble_eq_true rfl⟩ rfl dX6_send_18 (fun x26 τ25 hw => ?_)
    refine z_bipush C 16 (by decide) dX6_send_21 ?_
    refine z_icmp_lt (tgt := 37) C dX6_send_23 (by decide) (fun c27 => ?_) (fun c27 => ?_)
    · have hw := hw.1 c27
      refine z_aload_n C 1 (by rfl) dX6_send_37 ?_
      refine z_get C (Cn := RX6) (T := TX6) (N := 6) (ci := 5) h0.2 0 (tE5 h0.1) in_X6_send_X6 rfl (by decide) mw_X6_send_0 rfl rfl dX6_send_38 ?_
      refine z_get C (Cn := RX3) (T := TX3) (N := 9) (ci := 3) (tR5_0 h0).2 2 (tE3 (tR5_0 h0).1) in_X6_send_X3 rfl (by decide) mw_X6_send_2 rfl rfl dX6_send_41 ?_
      refine z_iload C 0 (by rfl) dX6_send_44 ?_
      obtain ⟨s28, hw⟩ := hw
      refine z_iald C (tR3_2 (tR5_0 h0)).2 (tE11 (tR3_2 (tR5_0 h0)).1) s28 dX6_send_46 ?_
      refine z_iload_n C 3 (by rfl) dX6_send_47 ?_
      refine z_icmp_ne (tgt := 55) C dX6_send_48 (by decide) (fun c29 => ?_) (fun c29 => ?_)
      · have hw := hw.1 c29
        refine z_iconst C 1 (by decide) dX6_send_55 ?_
        refine z_istore C [(5, .int 1), (4, .int x22), (0, .ref (w.1 i0)), (1, .int x1), (2, .int x2), (3, .int x3)] dX6_send_56 (by decide) rfl ?_
        refine z_aload_n C 2 (by rfl) dX6_send_58 ?_
        refine z_get C (Cn := RX6) (T := TX6) (N := 6) (ci := 5) h0.2 1 (tE5 h0.1) in_X6_send_X6 rfl (by decide) mw_X6_send_3 rfl rfl dX6_send_59 ?_
        refine z_iconst C 2 (by decide) dX6_send_62 ?_
        refine z_iload C 1 (by rfl) dX6_send_63 ?_
        refine z_imul C dX6_send_65 ?_
        refine z_iload C 0 (by rfl) dX6_send_66 ?_
        refine z_iadd C dX6_send_68 ?_
        obtain ⟨s30, hw⟩ := hw
        refine z_aald_q2 C (tR5_1 h0).2 (tE15 (tR5_1 h0).1) s30 (if_pos (tp_lt s30)) dX6_send_69 ?_
        refine z_iload_n C 3 (by rfl) dX6_send_70 ?_
        refine z_aload_n C 2 (by rfl) dX6_send_71 ?_
        refine z_get C (Cn := RX6) (T := TX6) (N := 6) (ci := 5) h0.2 0 (tE5 h0.1) in_X6_send_X6 rfl (by decide) mw_X6_send_0 rfl rfl dX6_send_72 ?_
        refine z_get C (Cn := RX3) (T := TX3) (N := 9) (ci := 3) (tR5_0 h0).2 5 (tE3 (tR5_0 h0).1) in_X6_send_X3 rfl (by decide) mw_X6_send_4 rfl rfl dX6_send_75 ?_
        refine z_iload C 1 (by rfl) dX6_send_78 ?_
        obtain ⟨s31, hw⟩ := hw
        refine z_iald C (tR3_5 (tR5_0 h0)).2 (tE11 (tR3_5 (tR5_0 h0)).1) s31 dX6_send_80 ?_
        refine zv_i C (As := [.int x1, .int (τ25 5 (Int32.toNatClampNeg x22))]) (bytes := cX7_join) (maxL := 3) (F1 := 0) (L1 := 0) (c_X7_join w _ ((i0 + 1) + 2 + 3 * (Int32.toNatClampNeg ((2 * x22) + 1))) x1 (τ25 5 (Int32.toNatClampNeg x22)) _ (tR15 (tR5_1 h0) (tp_lt s30)) hw) (tR15 (tR5_1 h0) (tp_lt s30)).2 (tE6 (tR15 (tR5_1 h0) (tp_lt s30)).1) rfl 2 gX6_send_X7_join rfl (by decide +kernel) ⟨Nat.le_of_ble_eq_true rfl, Nat.le_of_ble_eq_true rfl⟩ rfl (Nat.le_of_ble_eq_true rfl) ⟨Nat.le_of_ble_eq_true rfl, Nat.le_of_ble_eq_true rfl⟩ rfl dX6_send_81 (fun x33 τ32 hw => ?_)
        refine z_if_ne (tgt := 97) C dX6_send_84 (by decide) (fun c34 => ?_) (fun c34 => ?_)
        · have hw := hw.1 c34
          exact hR _ _ _ dX6_send_97 hw
        · have hw := hw.2 c34
          refine z_aload_n C 2 (by rfl) dX6_send_87 ?_
          refine z_dup C rfl dX6_send_88 ?_
          refine z_get C (Cn := RX6) (T := TX6) (N := 6) (ci := 5) h0.2 5 (tE5 h0.1) in_X6_send_X6 rfl (by decide) mw_X6_send_1 rfl rfl dX6_send_89 ?_
          refine z_iconst C 1 (by decide) dX6_send_92 ?_
          refine z_iadd C dX6_send_93 ?_
          refine z_put C (Cn := RX6) (T := TX6) (N := 6) (ci := 5) h0.2 5 (tE5 h0.1) (tS5_5 h0.1 _) in_X6_send_X6 tyX6 tyX6_ok nmX6 rfl (by decide) mw_X6_send_1 rfl rfl (tyX6_ok 5 (by decide)) rfl rfl (Nat.le_of_ble_eq_true rfl) dX6_send_94 (fun τ35 eτ35 => ?_)
          have hw := hw τ35 eτ35
          exact hR _ _ _ dX6_send_97 hw
      · have hw := hw.2 c29
        refine z_iconst C 0 (by decide) dX6_send_51 ?_
        refine z_goto (tgt := 56) C dX6_send_52 (by decide) ?_
        refine z_istore C [(5, .int 0), (4, .int x22), (0, .ref (w.1 i0)), (1, .int x1), (2, .int x2), (3, .int x3)] dX6_send_56 (by decide) rfl ?_
        refine z_aload_n C 2 (by rfl) dX6_send_58 ?_
        refine z_get C (Cn := RX6) (T := TX6) (N := 6) (ci := 5) h0.2 1 (tE5 h0.1) in_X6_send_X6 rfl (by decide) mw_X6_send_3 rfl rfl dX6_send_59 ?_
        refine z_iconst C 2 (by decide) dX6_send_62 ?_
        refine z_iload C 1 (by rfl) dX6_send_63 ?_
        refine z_imul C dX6_send_65 ?_
        refine z_iload C 0 (by rfl) dX6_send_66 ?_
        refine z_iadd C dX6_send_68 ?_
        obtain ⟨s36, hw⟩ := hw
        refine z_aald_q2 C (tR5_1 h0).2 (tE15 (tR5_1 h0).1) s36 (if_pos (tp_lt s36)) dX6_send_69 ?_
        refine z_iload_n C 3 (by rfl) dX6_send_70 ?_
        refine z_aload_n C 2 (by rfl) dX6_send_71 ?_
        refine z_get C (Cn := RX6) (T := TX6) (N := 6) (ci := 5) h0.2 0 (tE5 h0.1) in_X6_send_X6 rfl (by decide) mw_X6_send_0 rfl rfl dX6_send_72 ?_
        refine z_get C (Cn := RX3) (T := TX3) (N := 9) (ci := 3) (tR5_0 h0).2 5 (tE3 (tR5_0 h0).1) in_X6_send_X3 rfl (by decide) mw_X6_send_4 rfl rfl dX6_send_75 ?_
        refine z_iload C 1 (by rfl) dX6_send_78 ?_
        obtain ⟨s37, hw⟩ := hw
        refine z_iald C (tR3_5 (tR5_0 h0)).2 (tE11 (tR3_5 (tR5_0 h0)).1) s37 dX6_send_80 ?_
        refine zv_i C (As := [.int x1, .int (τ25 5 (Int32.toNatClampNeg x22))]) (bytes := cX7_join) (maxL := 3) (F1 := 0) (L1 := 0) (c_X7_join w _ ((i0 + 1) + 2 + 3 * (Int32.toNatClampNeg ((2 * x22) + 0))) x1 (τ25 5 (Int32.toNatClampNeg x22)) _ (tR15 (tR5_1 h0) (tp_lt s36)) hw) (tR15 (tR5_1 h0) (tp_lt s36)).2 (tE6 (tR15 (tR5_1 h0) (tp_lt s36)).1) rfl 2 gX6_send_X7_join rfl (by decide +kernel) ⟨Nat.le_of_ble_eq_true rfl, Nat.le_of_ble_eq_true rfl⟩ rfl (Nat.le_of_ble_eq_true rfl) ⟨Nat.le_of_ble_eq_true rfl, Nat.le_of_ble_eq_true rfl⟩ rfl dX6_send_81 (fun x39 τ38 hw => ?_)
        refine z_if_ne (tgt := 97) C dX6_send_84 (by decide) (fun c40 => ?_) (fun c40 => ?_)
        · have hw := hw.1 c40
          exact hR _ _ _ dX6_send_97 hw
        · have hw := hw.2 c40
          refine z_aload_n C 2 (by rfl) dX6_send_87 ?_
          refine z_dup C rfl dX6_send_88 ?_
          refine z_get C (Cn := RX6) (T := TX6) (N := 6) (ci := 5) h0.2 5 (tE5 h0.1) in_X6_send_X6 rfl (by decide) mw_X6_send_1 rfl rfl dX6_send_89 ?_
          refine z_iconst C 1 (by decide) dX6_send_92 ?_
          refine z_iadd C dX6_send_93 ?_
          refine z_put C (Cn := RX6) (T := TX6) (N := 6) (ci := 5) h0.2 5 (tE5 h0.1) (tS5_5 h0.1 _) in_X6_send_X6 tyX6 tyX6_ok nmX6 rfl (by decide) mw_X6_send_1 rfl rfl (tyX6_ok 5 (by decide)) rfl rfl (Nat.le_of_ble_eq_true rfl) dX6_send_94 (fun τ41 eτ41 => ?_)
          have hw := hw τ41 eτ41
          exact hR _ _ _ dX6_send_97 hw
    · have hw := hw.2 c27
      refine z_aload_n C 1 (by rfl) dX6_send_26 ?_
      refine z_dup C rfl dX6_send_27 ?_
      refine z_get C (Cn := RX6) (T := TX6) (N := 6) (ci := 5) h0.2 5 (tE5 h0.1) in_X6_send_X6 rfl (by decide) mw_X6_send_1 rfl rfl dX6_send_28 ?_
      refine z_iconst C 1 (by decide) dX6_send_31 ?_
      refine z_iadd C dX6_send_32 ?_
      refine z_put C (Cn := RX6) (T := TX6) (N := 6) (ci := 5) h0.2 5 (tE5 h0.1) (tS5_5 h0.1 _) in_X6_send_X6 tyX6 tyX6_ok nmX6 rfl (by decide) mw_X6_send_1 rfl rfl (tyX6_ok 5 (by decide)) rfl rfl (Nat.le_of_ble_eq_true rfl) dX6_send_33 (fun τ42 eτ42 => ?_)
      have hw := hw τ42 eτ42
      exact hR _ _ _ dX6_send_36 hw
def wp_X6_sendHello (τ : TS) (i0 : Nat) (x1 : Int32) (K : TS → Prop) : Prop :=
  vp_in x1 6 ∧ (wp_X4_of τ x1 0 0 0 (fun τ22 x23 => wp_X6_send τ22 i0 x23 (τ22 ((i0 + 2) + 73 + 5 * (Int32.toNatClampNeg x1)) 0) (τ22 ((i0 + 2) + 73 + 5 * (Int32.toNatClampNeg x1)) 1) (fun τ24 => K τ24)))
theorem mw_X6_sendHello_0 : Cond.fieldLink RX6 19 "TidePost$Traffic" "all" "[LTidePost$Connection;" ∈ wsX6_sendHello := List.mem_of_getElem? (i := 1) rfl
theorem mw_X6_sendHello_1 : Cond.fieldLink RX6 33 "TidePost$Connection" "callerNode" "I" ∈ wsX6_sendHello := List.mem_of_getElem? (i := 2) rfl
theorem mw_X6_sendHello_2 : Cond.fieldLink RX6 36 "TidePost$Connection" "calleeNode" "I" ∈ wsX6_sendHello := List.mem_of_getElem? (i := 3) rfl
theorem in_X6_sendHello_X6 : ∀ x ∈ wsX60, x ∈ wsX6_sendHello := fun _ h => List.mem_cons_of_mem _ (List.mem_append_left _ (List.mem_append_left _ (List.mem_append_left _ (List.mem_append_right _ h))))
theorem in_X6_sendHello_X2 : ∀ x ∈ wsX20, x ∈ wsX6_sendHello := fun _ h => List.mem_cons_of_mem _ (List.mem_append_left _ (List.mem_append_left _ (List.mem_append_right _ h)))
set_option maxHeartbeats 4000000 in
set_option maxRecDepth 100000 in
theorem c_X6_sendHello (w : WPar) (τ : TS) (i0 : Nat) (x1 : Int32) (K : TS → Prop) (h0 : tp_is w i0 5) (hw : wp_X6_sendHello τ i0 x1 K) : MV w yX6_sendHello wsX6_sendHello 3 72 [.ref (w.1 i0), .int x1] τ K := by
  refine tp_enterV (cc := cX6_sendHello) (maxL := 4) (own := RX6) (by decide) rfl rfl (Nat.le_of_ble_eq_true rfl) (fun g C hR => ?_)
  show Zt w g τ (0, 0) 0 [(0, .ref (w.1 i0)), (1, .int x1)] []
  unfold wp_X6_sendHello at hw
  refine z_aload_n C 0 (by rfl) dX6_sendHello_0 ?_
  refine z_get C (Cn := RX6) (T := TX6) (N := 6) (ci := 5) h0.2 2 (tE5 h0.1) in_X6_sendHello_X6 rfl (by decide) mw_X6_sendHello_0 rfl rfl dX6_sendHello_1 ?_
  refine z_iload_n C 1 (by rfl) dX6_sendHello_4 ?_
  obtain ⟨s21, hw⟩ := hw
  refine z_aald_q3 C (tR5_2 h0).2 (tE16 (tR5_2 h0).1) s21 (if_pos (tp_lt s21)) dX6_sendHello_5 ?_
  refine z_astore_n C [(2, .ref (w.1 ((i0 + 2) + 73 + 5 * (Int32.toNatClampNeg x1)))), (0, .ref (w.1 i0)), (1, .int x1)] dX6_sendHello_6 (by decide) rfl ?_
  refine z_iload_n C 2 (by rfl) dX6_sendHello_7 ?_
  refine z_iconst C 0 (by decide) dX6_sendHello_8 ?_
  refine z_iconst C 0 (by decide) dX6_sendHello_9 ?_
  refine z_iconst C 0 (by decide) dX6_sendHello_10 ?_
  refine zs_i C (As := [.int x1, .int 0, .int 0, .int 0]) (bytes := cX4_of) (maxL := 4) (F1 := 0) (L1 := 0) (c_X4_of w _ x1 0 0 0 _  hw) 4 gX6_sendHello_X4_of rfl (by decide +kernel) ⟨Nat.le_of_ble_eq_true rfl, Nat.le_of_ble_eq_true rfl⟩ rfl (Nat.le_of_ble_eq_true rfl) ⟨Nat.le_of_ble_eq_true rfl, Nat.le_of_ble_eq_true rfl⟩ rfl dX6_sendHello_11 (fun x23 τ22 hw => ?_)
  refine z_istore_n C [(3, .int x23), (2, .ref (w.1 ((i0 + 2) + 73 + 5 * (Int32.toNatClampNeg x1)))), (0, .ref (w.1 i0)), (1, .int x1)] dX6_sendHello_14 (by decide) rfl ?_
  refine z_aload_n C 2 (by rfl) dX6_sendHello_15 ?_
  refine z_iload_n C 0 (by rfl) dX6_sendHello_16 ?_
  refine z_aload_n C 1 (by rfl) dX6_sendHello_17 ?_
  refine z_get C (Cn := RX2) (T := TX2) (N := 4) (ci := 2) (tR16 (tR5_2 h0) (tp_lt s21)).2 0 (tE2 (tR16 (tR5_2 h0) (tp_lt s21)).1) in_X6_sendHello_X2 rfl (by decide) mw_X6_sendHello_1 rfl rfl dX6_sendHello_18 ?_
  refine z_aload_n C 1 (by rfl) dX6_sendHello_21 ?_
  refine z_get C (Cn := RX2) (T := TX2) (N := 4) (ci := 2) (tR16 (tR5_2 h0) (tp_lt s21)).2 1 (tE2 (tR16 (tR5_2 h0) (tp_lt s21)).1) in_X6_sendHello_X2 rfl (by decide) mw_X6_sendHello_2 rfl rfl dX6_sendHello_22 ?_
  refine zv_v C (As := [.int x23, .int (τ22 ((i0 + 2) + 73 + 5 * (Int32.toNatClampNeg x1)) 0), .int (τ22 ((i0 + 2) + 73 + 5 * (Int32.toNatClampNeg x1)) 1)]) (bytes := cX6_send) (maxL := 6) (F1 := 2) (L1 := 47) (c_X6_send w _ i0 x23 (τ22 ((i0 + 2) + 73 + 5 * (Int32.toNatClampNeg x1)) 0) (τ22 ((i0 + 2) + 73 + 5 * (Int32.toNatClampNeg x1)) 1) _ h0 hw) h0.2 (tE5 h0.1) rfl 3 gX6_sendHello_X6_send rfl (by decide +kernel) ⟨Nat.le_of_ble_eq_true rfl, Nat.le_of_ble_eq_true rfl⟩ rfl (Nat.le_of_ble_eq_true rfl) ⟨Nat.le_of_ble_eq_true rfl, Nat.le_of_ble_eq_true rfl⟩ rfl dX6_sendHello_25 (fun τ24 hw => ?_)
  exact hR _ _ _ dX6_sendHello_28 hw
def wp_X6_sendThing (τ : TS) (i0 : Nat) (x1 : Int32) (x2 : Int32) (K : TS → Prop) : Prop :=
  vp_in x1 6 ∧ ((((τ (((i0 + 2) + 73 + 5 * (Int32.toNatClampNeg x1)) + 1) 1) ≤ x2) → (wp_X4_of τ x1 2 x2 0 (fun τ23 x24 => wp_X6_send τ23 i0 x24 (τ23 ((i0 + 2) + 73 + 5 * (Int32.toNatClampNeg x1)) 0) (τ23 ((i0 + 2) + 73 + 5 * (Int32.toNatClampNeg x1)) 1) (fun τ25 => K τ25)))) ∧ ((¬ (τ (((i0 + 2) + 73 + 5 * (Int32.toNatClampNeg x1)) + 1) 1) ≤ x2) → (wp_X4_of τ x1 1 x2 0 (fun τ26 x27 => wp_X6_send τ26 i0 x27 (τ26 ((i0 + 2) + 73 + 5 * (Int32.toNatClampNeg x1)) 0) (τ26 ((i0 + 2) + 73 + 5 * (Int32.toNatClampNeg x1)) 1) (fun τ28 => K τ28)))))
theorem mw_X6_sendThing_0 : Cond.fieldLink RX6 19 "TidePost$Traffic" "all" "[LTidePost$Connection;" ∈ wsX6_sendThing := List.mem_of_getElem? (i := 1) rfl
theorem mw_X6_sendThing_1 : Cond.fieldLink RX6 48 "TidePost$Connection" "caller" "LTidePost$Caller;" ∈ wsX6_sendThing := List.mem_of_getElem? (i := 2) rfl
theorem mw_X6_sendThing_2 : Cond.fieldLink RX6 172 "TidePost$Caller" "given" "I" ∈ wsX6_sendThing := List.mem_of_getElem? (i := 3) rfl
theorem mw_X6_sendThing_3 : Cond.fieldLink RX6 33 "TidePost$Connection" "callerNode" "I" ∈ wsX6_sendThing := List.mem_of_getElem? (i := 4) rfl
theorem mw_X6_sendThing_4 : Cond.fieldLink RX6 36 "TidePost$Connection" "calleeNode" "I" ∈ wsX6_sendThing := List.mem_of_getElem? (i := 5) rfl
theorem in_X6_sendThing_X6 : ∀ x ∈ wsX60, x ∈ wsX6_sendThing := fun _ h => List.mem_cons_of_mem _ (List.mem_append_left _ (List.mem_append_left _ (List.mem_append_left _ (List.mem_append_left _ (List.mem_append_right _ h)))))
theorem in_X6_sendThing_X2 : ∀ x ∈ wsX20, x ∈ wsX6_sendThing := fun _ h => List.mem_cons_of_mem _ (List.mem_append_left _ (List.mem_append_left _ (List.mem_append_left _ (List.mem_append_right _ h))))
theorem in_X6_sendThing_X1 : ∀ x ∈ wsX10, x ∈ wsX6_sendThing := fun _ h => List.mem_cons_of_mem _ (List.mem_append_left _ (List.mem_append_left _ (List.mem_append_right _ h)))
set_option maxHeartbeats 4000000 in
set_option maxRecDepth 100000 in
theorem c_X6_sendThing (w : WPar) (τ : TS) (i0 : Nat) (x1 : Int32) (x2 : Int32) (K : TS → Prop) (h0 : tp_is w i0 5) (hw : wp_X6_sendThing τ i0 x1 x2 K) : MV w yX6_sendThing wsX6_sendThing 3 72 [.ref (w.1 i0), .int x1, .int x2] τ K := by
  refine tp_enterV (cc := cX6_sendThing) (maxL := 6) (own := RX6) (by decide) rfl rfl (Nat.le_of_ble_eq_true rfl) (fun g C hR => ?_)
  show Zt w g τ (0, 0) 0 [(0, .ref (w.1 i0)), (1, .int x1), (2, .int x2)] []
  unfold wp_X6_sendThing at hw
  refine z_aload_n C 0 (by rfl) dX6_sendThing_0 ?_
  refine z_get C (Cn := RX6) (T := TX6) (N := 6) (ci := 5) h0.2 2 (tE5 h0.1) in_X6_sendThing_X6 rfl (by decide) mw_X6_sendThing_0 rfl rfl dX6_sendThing_1 ?_
  refine z_iload_n C 1 (by rfl) dX6_sendThing_4 ?_
  obtain ⟨s21, hw⟩ := hw
  refine z_aald_q3 C (tR5_2 h0).2 (tE16 (tR5_2 h0).1) s21 (if_pos (tp_lt s21)) dX6_sendThing_5 ?_
  refine z_astore_n C [(3, .ref (w.1 ((i0 + 2) + 73 + 5 * (Int32.toNatClampNeg x1)))), (0, .ref (w.1 i0)), (1, .int x1), (2, .int x2)] dX6_sendThing_6 (by decide) rfl ?_
  refine z_iload_n C 3 (by rfl) dX6_sendThing_7 ?_
  refine z_aload_n C 0 (by rfl) dX6_sendThing_8 ?_
  refine z_get C (Cn := RX2) (T := TX2) (N := 4) (ci := 2) (tR16 (tR5_2 h0) (tp_lt s21)).2 2 (tE2 (tR16 (tR5_2 h0) (tp_lt s21)).1) in_X6_sendThing_X2 rfl (by decide) mw_X6_sendThing_1 rfl rfl dX6_sendThing_9 ?_
  refine z_get C (Cn := RX1) (T := TX1) (N := 14) (ci := 1) (tR2_2 (tR16 (tR5_2 h0) (tp_lt s21))).2 1 (tE1 (tR2_2 (tR16 (tR5_2 h0) (tp_lt s21))).1) in_X6_sendThing_X1 rfl (by decide) mw_X6_sendThing_2 rfl rfl dX6_sendThing_12 ?_
  refine z_icmp_ge (tgt := 22) C dX6_sendThing_15 (by decide) (fun c22 => ?_) (fun c22 => ?_)
  · have hw := hw.1 c22
    refine z_iconst C 2 (by decide) dX6_sendThing_22 ?_
    refine z_istore C [(4, .int 2), (3, .ref (w.1 ((i0 + 2) + 73 + 5 * (Int32.toNatClampNeg x1)))), (0, .ref (w.1 i0)), (1, .int x1), (2, .int x2)] dX6_sendThing_23 (by decide) rfl ?_
    refine z_iload_n C 3 (by rfl) dX6_sendThing_25 ?_
    refine z_iload C 0 (by rfl) dX6_sendThing_26 ?_
    refine z_iload_n C 4 (by rfl) dX6_sendThing_28 ?_
    refine z_iconst C 0 (by decide) dX6_sendThing_29 ?_
    refine zs_i C (As := [.int x1, .int 2, .int x2, .int 0]) (bytes := cX4_of) (maxL := 4) (F1 := 0) (L1 := 0) (c_X4_of w _ x1 2 x2 0 _  hw) 4 gX6_sendThing_X4_of rfl (by decide +kernel) ⟨Nat.le_of_ble_eq_true rfl, Nat.le_of_ble_eq_true rfl⟩ rfl (Nat.le_of_ble_eq_true rfl) ⟨Nat.le_of_ble_eq_true rfl, Nat.le_of_ble_eq_true rfl⟩ rfl dX6_sendThing_30 (fun x24 τ23 hw => ?_)
    refine z_istore C [(5, .int x24), (4, .int 2), (3, .ref (w.1 ((i0 + 2) + 73 + 5 * (Int32.toNatClampNeg x1)))), (0, .ref (w.1 i0)), (1, .int x1), (2, .int x2)] dX6_sendThing_33 (by decide) rfl ?_
    refine z_aload_n C 3 (by rfl) dX6_sendThing_35 ?_
    refine z_iload C 0 (by rfl) dX6_sendThing_36 ?_
    refine z_aload_n C 2 (by rfl) dX6_sendThing_38 ?_
    refine z_get C (Cn := RX2) (T := TX2) (N := 4) (ci := 2) (tR16 (tR5_2 h0) (tp_lt s21)).2 0 (tE2 (tR16 (tR5_2 h0) (tp_lt s21)).1) in_X6_sendThing_X2 rfl (by decide) mw_X6_sendThing_3 rfl rfl dX6_sendThing_39 ?_
    refine z_aload_n C 2 (by rfl) dX6_sendThing_42 ?_
    refine z_get C (Cn := RX2) (T := TX2) (N := 4) (ci := 2) (tR16 (tR5_2 h0) (tp_lt s21)).2 1 (tE2 (tR16 (tR5_2 h0) (tp_lt s21)).1) in_X6_sendThing_X2 rfl (by decide) mw_X6_sendThing_4 rfl rfl dX6_sendThing_43 ?_
    refine zv_v C (As := [.int x24, .int (τ23 ((i0 + 2) + 73 + 5 * (Int32.toNatClampNeg x1)) 0), .int (τ23 ((i0 + 2) + 73 + 5 * (Int32.toNatClampNeg x1)) 1)]) (bytes := cX6_send) (maxL := 6) (F1 := 2) (L1 := 47) (c_X6_send w _ i0 x24 (τ23 ((i0 + 2) + 73 + 5 * (Int32.toNatClampNeg x1)) 0) (τ23 ((i0 + 2) + 73 + 5 * (Int32.toNatClampNeg x1)) 1) _ h0 hw) h0.2 (tE5 h0.1) rfl 3 gX6_sendThing_X6_send rfl (by decide +kernel) ⟨Nat.le_of_ble_eq_true rfl, Nat.le_of_ble_eq_true rfl⟩ rfl (Nat.le_of_ble_eq_true rfl) ⟨Nat.le_of_ble_eq_true rfl, Nat.le_of_ble_eq_true rfl⟩ rfl dX6_sendThing_46 (fun τ25 hw => ?_)
    exact hR _ _ _ dX6_sendThing_49 hw
  · have hw := hw.2 c22
    refine z_iconst C 1 (by decide) dX6_sendThing_18 ?_
    refine z_goto (tgt := 23) C dX6_sendThing_19 (by decide) ?_
    refine z_istore C [(4, .int 1), (3, .ref (w.1 ((i0 + 2) + 73 + 5 * (Int32.toNatClampNeg x1)))), (0, .ref (w.1 i0)), (1, .int x1), (2, .int x2)] dX6_sendThing_23 (by decide) rfl ?_
    refine z_iload_n C 3 (by rfl) dX6_sendThing_25 ?_
    refine z_iload C 0 (by rfl) dX6_sendThing_26 ?_
    refine z_iload_n C 4 (by rfl) dX6_sendThing_28 ?_
    refine z_iconst C 0 (by decide) dX6_sendThing_29 ?_
    refine zs_i C (As := [.int x1, .int 1, .int x2, .int 0]) (bytes := cX4_of) (maxL := 4) (F1 := 0) (L1 := 0) (c_X4_of w _ x1 1 x2 0 _  hw) 4 gX6_sendThing_X4_of rfl (by decide +kernel) ⟨Nat.le_of_ble_eq_true rfl, Nat.le_of_ble_eq_true rfl⟩ rfl (Nat.le_of_ble_eq_true rfl) ⟨Nat.le_of_ble_eq_true rfl, Nat.le_of_ble_eq_true rfl⟩ rfl dX6_sendThing_30 (fun x27 τ26 hw => ?_)
    refine z_istore C [(5, .int x27), (4, .int 1), (3, .ref (w.1 ((i0 + 2) + 73 + 5 * (Int32.toNatClampNeg x1)))), (0, .ref (w.1 i0)), (1, .int x1), (2, .int x2)] dX6_sendThing_33 (by decide) rfl ?_
    refine z_aload_n C 3 (by rfl) dX6_sendThing_35 ?_
    refine z_iload C 0 (by rfl) dX6_sendThing_36 ?_
    refine z_aload_n C 2 (by rfl) dX6_sendThing_38 ?_
    refine z_get C (Cn := RX2) (T := TX2) (N := 4) (ci := 2) (tR16 (tR5_2 h0) (tp_lt s21)).2 0 (tE2 (tR16 (tR5_2 h0) (tp_lt s21)).1) in_X6_sendThing_X2 rfl (by decide) mw_X6_sendThing_3 rfl rfl dX6_sendThing_39 ?_
    refine z_aload_n C 2 (by rfl) dX6_sendThing_42 ?_
    refine z_get C (Cn := RX2) (T := TX2) (N := 4) (ci := 2) (tR16 (tR5_2 h0) (tp_lt s21)).2 1 (tE2 (tR16 (tR5_2 h0) (tp_lt s21)).1) in_X6_sendThing_X2 rfl (by decide) mw_X6_sendThing_4 rfl rfl dX6_sendThing_43 ?_
    refine zv_v C (As := [.int x27, .int (τ26 ((i0 + 2) + 73 + 5 * (Int32.toNatClampNeg x1)) 0), .int (τ26 ((i0 + 2) + 73 + 5 * (Int32.toNatClampNeg x1)) 1)]) (bytes := cX6_send) (maxL := 6) (F1 := 2) (L1 := 47) (c_X6_send w _ i0 x27 (τ26 ((i0 + 2) + 73 + 5 * (Int32.toNatClampNeg x1)) 0) (τ26 ((i0 + 2) + 73 + 5 * (Int32.toNatClampNeg x1)) 1) _ h0 hw) h0.2 (tE5 h0.1) rfl 3 gX6_sendThing_X6_send rfl (by decide +kernel) ⟨Nat.le_of_ble_eq_true rfl, Nat.le_of_ble_eq_true rfl⟩ rfl (Nat.le_of_ble_eq_true rfl) ⟨Nat.le_of_ble_eq_true rfl, Nat.le_of_ble_eq_true rfl⟩ rfl dX6_sendThing_46 (fun τ28 hw => ?_)
    exact hR _ _ _ dX6_sendThing_49 hw
def wp_X6_sendAnswer (τ : TS) (i0 : Nat) (x1 : Int32) (K : TS → Prop) : Prop :=
  vp_in x1 6 ∧ (wp_X0_spare τ (((i0 + 2) + 73 + 5 * (Int32.toNatClampNeg x1)) + 3) (fun τ22 x23 => wp_X4_of τ22 x1 3 (τ (((i0 + 2) + 73 + 5 * (Int32.toNatClampNeg x1)) + 3) 1) x23 (fun τ24 x25 => wp_X6_send τ24 i0 x25 (τ24 ((i0 + 2) + 73 + 5 * (Int32.toNatClampNeg x1)) 1) (τ24 ((i0 + 2) + 73 + 5 * (Int32.toNatClampNeg x1)) 0) (fun τ26 => K τ26))))
theorem mw_X6_sendAnswer_0 : Cond.fieldLink RX6 19 "TidePost$Traffic" "all" "[LTidePost$Connection;" ∈ wsX6_sendAnswer := List.mem_of_getElem? (i := 1) rfl
theorem mw_X6_sendAnswer_1 : Cond.fieldLink RX6 39 "TidePost$Connection" "callee" "LTidePost$Callee;" ∈ wsX6_sendAnswer := List.mem_of_getElem? (i := 2) rfl
theorem mw_X6_sendAnswer_2 : Cond.fieldLink RX6 175 "TidePost$Callee" "wanted" "I" ∈ wsX6_sendAnswer := List.mem_of_getElem? (i := 3) rfl
theorem mw_X6_sendAnswer_3 : Cond.fieldLink RX6 36 "TidePost$Connection" "calleeNode" "I" ∈ wsX6_sendAnswer := List.mem_of_getElem? (i := 4) rfl
theorem mw_X6_sendAnswer_4 : Cond.fieldLink RX6 33 "TidePost$Connection" "callerNode" "I" ∈ wsX6_sendAnswer := List.mem_of_getElem? (i := 5) rfl
theorem in_X6_sendAnswer_X6 : ∀ x ∈ wsX60, x ∈ wsX6_sendAnswer := fun _ h => List.mem_cons_of_mem _ (List.mem_append_left _ (List.mem_append_left _ (List.mem_append_left _ (List.mem_append_left _ (List.mem_append_right _ h)))))
theorem in_X6_sendAnswer_X2 : ∀ x ∈ wsX20, x ∈ wsX6_sendAnswer := fun _ h => List.mem_cons_of_mem _ (List.mem_append_left _ (List.mem_append_left _ (List.mem_append_left _ (List.mem_append_right _ h))))
theorem in_X6_sendAnswer_X0 : ∀ x ∈ wsX00, x ∈ wsX6_sendAnswer := fun _ h => List.mem_cons_of_mem _ (List.mem_append_left _ (List.mem_append_left _ (List.mem_append_right _ h)))
set_option maxHeartbeats 4000000 in
set_option maxRecDepth 100000 in
theorem c_X6_sendAnswer (w : WPar) (τ : TS) (i0 : Nat) (x1 : Int32) (K : TS → Prop) (h0 : tp_is w i0 5) (hw : wp_X6_sendAnswer τ i0 x1 K) : MV w yX6_sendAnswer wsX6_sendAnswer 3 72 [.ref (w.1 i0), .int x1] τ K := by
  refine tp_enterV (cc := cX6_sendAnswer) (maxL := 5) (own := RX6) (by decide) rfl rfl (Nat.le_of_ble_eq_true rfl) (fun g C hR => ?_)
  show Zt w g τ (0, 0) 0 [(0, .ref (w.1 i0)), (1, .int x1)] []
  unfold wp_X6_sendAnswer at hw
  refine z_aload_n C 0 (by rfl) dX6_sendAnswer_0 ?_
  refine z_get C (Cn := RX6) (T := TX6) (N := 6) (ci := 5) h0.2 2 (tE5 h0.1) in_X6_sendAnswer_X6 rfl (by decide) mw_X6_sendAnswer_0 rfl rfl dX6_sendAnswer_1 ?_
  refine z_iload_n C 1 (by rfl) dX6_sendAnswer_4 ?_
  obtain ⟨s21, hw⟩ := hw
  refine z_aald_q3 C (tR5_2 h0).2 (tE16 (tR5_2 h0).1) s21 (if_pos (tp_lt s21)) dX6_sendAnswer_5 ?_
  refine z_astore_n C [(2, .ref (w.1 ((i0 + 2) + 73 + 5 * (Int32.toNatClampNeg x1)))), (0, .ref (w.1 i0)), (1, .int x1)] dX6_sendAnswer_6 (by decide) rfl ?_
  refine z_aload_n C 0 (by rfl) dX6_sendAnswer_7 ?_
  refine z_get C (Cn := RX2) (T := TX2) (N := 4) (ci := 2) (tR16 (tR5_2 h0) (tp_lt s21)).2 3 (tE2 (tR16 (tR5_2 h0) (tp_lt s21)).1) in_X6_sendAnswer_X2 rfl (by decide) mw_X6_sendAnswer_1 rfl rfl dX6_sendAnswer_8 ?_
  refine z_astore_n C [(3, .ref (w.1 (((i0 + 2) + 73 + 5 * (Int32.toNatClampNeg x1)) + 3))), (2, .ref (w.1 ((i0 + 2) + 73 + 5 * (Int32.toNatClampNeg x1)))), (0, .ref (w.1 i0)), (1, .int x1)] dX6_sendAnswer_11 (by decide) rfl ?_
  refine z_iload_n C 3 (by rfl) dX6_sendAnswer_12 ?_
  refine z_iconst C 3 (by decide) dX6_sendAnswer_13 ?_
  refine z_aload_n C 0 (by rfl) dX6_sendAnswer_14 ?_
  refine z_get C (Cn := RX0) (T := TX0) (N := 4) (ci := 0) (tR2_3 (tR16 (tR5_2 h0) (tp_lt s21))).2 1 (tE0 (tR2_3 (tR16 (tR5_2 h0) (tp_lt s21))).1) in_X6_sendAnswer_X0 rfl (by decide) mw_X6_sendAnswer_2 rfl rfl dX6_sendAnswer_15 ?_
  refine z_aload_n C 0 (by rfl) dX6_sendAnswer_18 ?_
  refine zv_i C (As := []) (bytes := cX0_spare) (maxL := 1) (F1 := 1) (L1 := 13) (c_X0_spare w _ (((i0 + 2) + 73 + 5 * (Int32.toNatClampNeg x1)) + 3) _ (tR2_3 (tR16 (tR5_2 h0) (tp_lt s21))) hw) (tR2_3 (tR16 (tR5_2 h0) (tp_lt s21))).2 (tE0 (tR2_3 (tR16 (tR5_2 h0) (tp_lt s21))).1) rfl 0 gX6_sendAnswer_X0_spare rfl (by decide +kernel) ⟨Nat.le_of_ble_eq_true rfl, Nat.le_of_ble_eq_true rfl⟩ rfl (Nat.le_of_ble_eq_true rfl) ⟨Nat.le_of_ble_eq_true rfl, Nat.le_of_ble_eq_true rfl⟩ rfl dX6_sendAnswer_19 (fun x23 τ22 hw => ?_)
  refine zs_i C (As := [.int x1, .int 3, .int (τ (((i0 + 2) + 73 + 5 * (Int32.toNatClampNeg x1)) + 3) 1), .int x23]) (bytes := cX4_of) (maxL := 4) (F1 := 0) (L1 := 0) (c_X4_of w _ x1 3 (τ (((i0 + 2) + 73 + 5 * (Int32.toNatClampNeg x1)) + 3) 1) x23 _  hw) 4 gX6_sendAnswer_X4_of rfl (by decide +kernel) ⟨Nat.le_of_ble_eq_true rfl, Nat.le_of_ble_eq_true rfl⟩ rfl (Nat.le_of_ble_eq_true rfl) ⟨Nat.le_of_ble_eq_true rfl, Nat.le_of_ble_eq_true rfl⟩ rfl dX6_sendAnswer_22 (fun x25 τ24 hw => ?_)
  refine z_istore C [(4, .int x25), (3, .ref (w.1 (((i0 + 2) + 73 + 5 * (Int32.toNatClampNeg x1)) + 3))), (2, .ref (w.1 ((i0 + 2) + 73 + 5 * (Int32.toNatClampNeg x1)))), (0, .ref (w.1 i0)), (1, .int x1)] dX6_sendAnswer_25 (by decide) rfl ?_
  refine z_aload_n C 3 (by rfl) dX6_sendAnswer_27 ?_
  refine z_iload C 0 (by rfl) dX6_sendAnswer_28 ?_
  refine z_aload_n C 2 (by rfl) dX6_sendAnswer_30 ?_
  refine z_get C (Cn := RX2) (T := TX2) (N := 4) (ci := 2) (tR16 (tR5_2 h0) (tp_lt s21)).2 1 (tE2 (tR16 (tR5_2 h0) (tp_lt s21)).1) in_X6_sendAnswer_X2 rfl (by decide) mw_X6_sendAnswer_3 rfl rfl dX6_sendAnswer_31 ?_
  refine z_aload_n C 2 (by rfl) dX6_sendAnswer_34 ?_
  refine z_get C (Cn := RX2) (T := TX2) (N := 4) (ci := 2) (tR16 (tR5_2 h0) (tp_lt s21)).2 0 (tE2 (tR16 (tR5_2 h0) (tp_lt s21)).1) in_X6_sendAnswer_X2 rfl (by decide) mw_X6_sendAnswer_4 rfl rfl dX6_sendAnswer_35 ?_
  refine zv_v C (As := [.int x25, .int (τ24 ((i0 + 2) + 73 + 5 * (Int32.toNatClampNeg x1)) 1), .int (τ24 ((i0 + 2) + 73 + 5 * (Int32.toNatClampNeg x1)) 0)]) (bytes := cX6_send) (maxL := 6) (F1 := 2) (L1 := 47) (c_X6_send w _ i0 x25 (τ24 ((i0 + 2) + 73 + 5 * (Int32.toNatClampNeg x1)) 1) (τ24 ((i0 + 2) + 73 + 5 * (Int32.toNatClampNeg x1)) 0) _ h0 hw) h0.2 (tE5 h0.1) rfl 3 gX6_sendAnswer_X6_send rfl (by decide +kernel) ⟨Nat.le_of_ble_eq_true rfl, Nat.le_of_ble_eq_true rfl⟩ rfl (Nat.le_of_ble_eq_true rfl) ⟨Nat.le_of_ble_eq_true rfl, Nat.le_of_ble_eq_true rfl⟩ rfl dX6_sendAnswer_38 (fun τ26 hw => ?_)
  exact hR _ _ _ dX6_sendAnswer_41 hw
def wp_X6_connect (τ : TS) (i0 : Nat) (x1 : Int32) (x2 : Int32) (x3 : Int32) (K : TS → Int32 → Prop) : Prop :=
  ∀ x21 : Int32, x21 = (τ i0 3) → vp_in x21 6 ∧ (∀ τ23 : TS, τ23 = tp_up τ ((i0 + 2) + 73 + 5 * (Int32.toNatClampNeg x21)) 0 x1 → ∀ τ24 : TS, τ24 = tp_up τ23 ((i0 + 2) + 73 + 5 * (Int32.toNatClampNeg x21)) 1 x2 → ∀ τ25 : TS, τ25 = tp_up τ24 (((i0 + 2) + 73 + 5 * (Int32.toNatClampNeg x21)) + 3) 0 x3 → wp_X1_begin τ25 (((i0 + 2) + 73 + 5 * (Int32.toNatClampNeg x21)) + 1) x3 (τ25 i0 4) (fun τ26 => ∀ τ27 : TS, τ27 = tp_up τ26 i0 3 ((τ26 i0 3) + 1) → wp_X6_sendHello τ27 i0 x21 (fun τ28 => K τ28 x21)))
theorem mw_X6_connect_0 : Cond.fieldLink RX6 29 "TidePost$Traffic" "made" "I" ∈ wsX6_connect := List.mem_of_getElem? (i := 1) rfl
theorem mw_X6_connect_1 : Cond.fieldLink RX6 19 "TidePost$Traffic" "all" "[LTidePost$Connection;" ∈ wsX6_connect := List.mem_of_getElem? (i := 2) rfl
theorem mw_X6_connect_2 : Cond.fieldLink RX6 33 "TidePost$Connection" "callerNode" "I" ∈ wsX6_connect := List.mem_of_getElem? (i := 3) rfl
theorem mw_X6_connect_3 : Cond.fieldLink RX6 36 "TidePost$Connection" "calleeNode" "I" ∈ wsX6_connect := List.mem_of_getElem? (i := 4) rfl
theorem mw_X6_connect_4 : Cond.fieldLink RX6 39 "TidePost$Connection" "callee" "LTidePost$Callee;" ∈ wsX6_connect := List.mem_of_getElem? (i := 5) rfl
theorem mw_X6_connect_5 : Cond.fieldLink RX6 43 "TidePost$Callee" "buffer" "I" ∈ wsX6_connect := List.mem_of_getElem? (i := 6) rfl
theorem mw_X6_connect_6 : Cond.fieldLink RX6 48 "TidePost$Connection" "caller" "LTidePost$Caller;" ∈ wsX6_connect := List.mem_of_getElem? (i := 7) rfl
theorem mw_X6_connect_7 : Cond.fieldLink RX6 52 "TidePost$Traffic" "clock" "I" ∈ wsX6_connect := List.mem_of_getElem? (i := 8) rfl
theorem in_X6_connect_X6 : ∀ x ∈ wsX60, x ∈ wsX6_connect := fun _ h => List.mem_cons_of_mem _ (List.mem_append_left _ (List.mem_append_left _ (List.mem_append_left _ (List.mem_append_left _ (List.mem_append_left _ (List.mem_append_left _ (List.mem_append_right _ h)))))))
theorem in_X6_connect_X2 : ∀ x ∈ wsX20, x ∈ wsX6_connect := fun _ h => List.mem_cons_of_mem _ (List.mem_append_left _ (List.mem_append_left _ (List.mem_append_left _ (List.mem_append_left _ (List.mem_append_left _ (List.mem_append_right _ h))))))
theorem in_X6_connect_X0 : ∀ x ∈ wsX00, x ∈ wsX6_connect := fun _ h => List.mem_cons_of_mem _ (List.mem_append_left _ (List.mem_append_left _ (List.mem_append_left _ (List.mem_append_left _ (List.mem_append_right _ h)))))
set_option maxHeartbeats 4000000 in
set_option maxRecDepth 100000 in
theorem c_X6_connect (w : WPar) (τ : TS) (i0 : Nat) (x1 : Int32) (x2 : Int32) (x3 : Int32) (K : TS → Int32 → Prop) (h0 : tp_is w i0 5) (hw : wp_X6_connect τ i0 x1 x2 x3 K) : MI w yX6_connect wsX6_connect 4 95 [.ref (w.1 i0), .int x1, .int x2, .int x3] τ K := by
  refine tp_enterI (cc := cX6_connect) (maxL := 6) (own := RX6) (by decide) rfl rfl (Nat.le_of_ble_eq_true rfl) (fun g C hR => ?_)
  show Zt w g τ (0, 0) 0 [(0, .ref (w.1 i0)), (1, .int x1), (2, .int x2), (3, .int x3)] []
  unfold wp_X6_connect at hw
  refine z_aload_n C 0 (by rfl) dX6_connect_0 ?_
  refine z_get C (Cn := RX6) (T := TX6) (N := 6) (ci := 5) h0.2 3 (tE5 h0.1) in_X6_connect_X6 rfl (by decide) mw_X6_connect_0 rfl rfl dX6_connect_1 ?_
  refine z_top (fun x21 ex21 => ?_)
  have hw := hw x21 ex21
  refine z_istore C [(4, .int x21), (0, .ref (w.1 i0)), (1, .int x1), (2, .int x2), (3, .int x3)] dX6_connect_4 (by decide) rfl ?_
  refine z_aload_n C 1 (by rfl) dX6_connect_6 ?_
  refine z_get C (Cn := RX6) (T := TX6) (N := 6) (ci := 5) h0.2 2 (tE5 h0.1) in_X6_connect_X6 rfl (by decide) mw_X6_connect_1 rfl rfl dX6_connect_7 ?_
  refine z_iload C 0 (by rfl) dX6_connect_10 ?_
  obtain ⟨s22, hw⟩ := hw
  refine z_aald_q3 C (tR5_2 h0).2 (tE16 (tR5_2 h0).1) s22 (if_pos (tp_lt s22)) dX6_connect_12 ?_
  refine z_astore C [(5, .ref (w.1 ((i0 + 2) + 73 + 5 * (Int32.toNatClampNeg x21)))), (4, .int x21), (0, .ref (w.1 i0)), (1, .int x1), (2, .int x2), (3, .int x3)] dX6_connect_13 (by decide) rfl ?_
  refine z_aload C 0 (by rfl) dX6_connect_15 ?_
  refine z_iload_n C 3 (by rfl) dX6_connect_17 ?_
  refine z_put C (Cn := RX2) (T := TX2) (N := 4) (ci := 2) (tR16 (tR5_2 h0) (tp_lt s22)).2 0 (tE2 (tR16 (tR5_2 h0) (tp_lt s22)).1) (tS2_0 (tR16 (tR5_2 h0) (tp_lt s22)).1 _) in_X6_connect_X2 tyX2 tyX2_ok nmX2 rfl (by decide) mw_X6_connect_2 rfl rfl (tyX2_ok 0 (by decide)) rfl rfl (Nat.le_of_ble_eq_true rfl) dX6_connect_18 (fun τ23 eτ23 => ?_)
  have hw := hw τ23 eτ23
  refine z_aload C 0 (by rfl) dX6_connect_21 ?_
  refine z_iload_n C 4 (by rfl) dX6_connect_23 ?_
  refine z_put C (Cn := RX2) (T := TX2) (N := 4) (ci := 2) (tR16 (tR5_2 h0) (tp_lt s22)).2 1 (tE2 (tR16 (tR5_2 h0) (tp_lt s22)).1) (tS2_1 (tR16 (tR5_2 h0) (tp_lt s22)).1 _) in_X6_connect_X2 tyX2 tyX2_ok nmX2 rfl (by decide) mw_X6_connect_3 rfl rfl (tyX2_ok 1 (by decide)) rfl rfl (Nat.le_of_ble_eq_true rfl) dX6_connect_24 (fun τ24 eτ24 => ?_)
  have hw := hw τ24 eτ24
  refine z_aload C 0 (by rfl) dX6_connect_27 ?_
  refine z_get C (Cn := RX2) (T := TX2) (N := 4) (ci := 2) (tR16 (tR5_2 h0) (tp_lt s22)).2 3 (tE2 (tR16 (tR5_2 h0) (tp_lt s22)).1) in_X6_connect_X2 rfl (by decide) mw_X6_connect_4 rfl rfl dX6_connect_29 ?_
  refine z_iload_n C 5 (by rfl) dX6_connect_32 ?_
  refine z_put C (Cn := RX0) (T := TX0) (N := 4) (ci := 0) (tR2_3 (tR16 (tR5_2 h0) (tp_lt s22))).2 0 (tE0 (tR2_3 (tR16 (tR5_2 h0) (tp_lt s22))).1) (tS0_0 (tR2_3 (tR16 (tR5_2 h0) (tp_lt s22))).1 _) in_X6_connect_X0 tyX0 tyX0_ok nmX0 rfl (by decide) mw_X6_connect_5 rfl rfl (tyX0_ok 0 (by decide)) rfl rfl (Nat.le_of_ble_eq_true rfl) dX6_connect_33 (fun τ25 eτ25 => ?_)
  have hw := hw τ25 eτ25
  refine z_aload C 0 (by rfl) dX6_connect_36 ?_
  refine z_get C (Cn := RX2) (T := TX2) (N := 4) (ci := 2) (tR16 (tR5_2 h0) (tp_lt s22)).2 2 (tE2 (tR16 (tR5_2 h0) (tp_lt s22)).1) in_X6_connect_X2 rfl (by decide) mw_X6_connect_6 rfl rfl dX6_connect_38 ?_
  refine z_iload_n C 5 (by rfl) dX6_connect_41 ?_
  refine z_aload_n C 2 (by rfl) dX6_connect_42 ?_
  refine z_get C (Cn := RX6) (T := TX6) (N := 6) (ci := 5) h0.2 4 (tE5 h0.1) in_X6_connect_X6 rfl (by decide) mw_X6_connect_7 rfl rfl dX6_connect_43 ?_
  refine zv_v C (As := [.int x3, .int (τ25 i0 4)]) (bytes := cX1_begin) (maxL := 3) (F1 := 1) (L1 := 20) (c_X1_begin w _ (((i0 + 2) + 73 + 5 * (Int32.toNatClampNeg x21)) + 1) x3 (τ25 i0 4) _ (tR2_2 (tR16 (tR5_2 h0) (tp_lt s22))) hw) (tR2_2 (tR16 (tR5_2 h0) (tp_lt s22))).2 (tE1 (tR2_2 (tR16 (tR5_2 h0) (tp_lt s22))).1) rfl 2 gX6_connect_X1_begin rfl (by decide +kernel) ⟨Nat.le_of_ble_eq_true rfl, Nat.le_of_ble_eq_true rfl⟩ rfl (Nat.le_of_ble_eq_true rfl) ⟨Nat.le_of_ble_eq_true rfl, Nat.le_of_ble_eq_true rfl⟩ rfl dX6_connect_46 (fun τ26 hw => ?_)
  refine z_aload_n C 2 (by rfl) dX6_connect_49 ?_
  refine z_dup C rfl dX6_connect_50 ?_
  refine z_get C (Cn := RX6) (T := TX6) (N := 6) (ci := 5) h0.2 3 (tE5 h0.1) in_X6_connect_X6 rfl (by decide) mw_X6_connect_0 rfl rfl dX6_connect_51 ?_
  refine z_iconst C 1 (by decide) dX6_connect_54 ?_
  refine z_iadd C dX6_connect_55 ?_
  refine z_put C (Cn := RX6) (T := TX6) (N := 6) (ci := 5) h0.2 3 (tE5 h0.1) (tS5_3 h0.1 _) in_X6_connect_X6 tyX6 tyX6_ok nmX6 rfl (by decide) mw_X6_connect_0 rfl rfl (tyX6_ok 3 (by decide)) rfl rfl (Nat.le_of_ble_eq_true rfl) dX6_connect_56 (fun τ27 eτ27 => ?_)
  have hw := hw τ27 eτ27
  refine z_aload_n C 2 (by rfl) dX6_connect_59 ?_
  refine z_iload C 1 (by rfl) dX6_connect_60 ?_
  refine zv_v C (As := [.int x21]) (bytes := cX6_sendHello) (maxL := 4) (F1 := 3) (L1 := 72) (c_X6_sendHello w _ i0 x21 _ h0 hw) h0.2 (tE5 h0.1) rfl 1 gX6_connect_X6_sendHello rfl (by decide +kernel) ⟨Nat.le_of_ble_eq_true rfl, Nat.le_of_ble_eq_true rfl⟩ rfl (Nat.le_of_ble_eq_true rfl) ⟨Nat.le_of_ble_eq_true rfl, Nat.le_of_ble_eq_true rfl⟩ rfl dX6_connect_62 (fun τ28 hw => ?_)
  refine z_iload C 1 (by rfl) dX6_connect_65 ?_
  exact hR _ _ _ _ dX6_connect_67 hw
def wp_X6_dropAll (τ : TS) (i0 : Nat) (x1 : Int32) (K : TS → Int32 → Prop) : Prop :=
  vp_in (2 * x1) 24 ∧ (wp_X7_drop τ ((i0 + 1) + 2 + 3 * (Int32.toNatClampNeg (2 * x1))) (fun τ22 x23 => vp_in ((2 * x1) + 1) 24 ∧ (wp_X7_drop τ22 ((i0 + 1) + 2 + 3 * (Int32.toNatClampNeg ((2 * x1) + 1))) (fun τ25 x26 => ∀ x27 : Int32, x27 = (x23 + x26) → ∀ τ28 : TS, τ28 = tp_up τ25 i0 5 ((τ25 i0 5) + x27) → K τ28 x27))))
theorem mw_X6_dropAll_0 : Cond.fieldLink RX6 11 "TidePost$Traffic" "ways" "[LTidePost$Way;" ∈ wsX6_dropAll := List.mem_of_getElem? (i := 1) rfl
theorem mw_X6_dropAll_1 : Cond.fieldLink RX6 69 "TidePost$Traffic" "lost" "I" ∈ wsX6_dropAll := List.mem_of_getElem? (i := 2) rfl
theorem in_X6_dropAll_X6 : ∀ x ∈ wsX60, x ∈ wsX6_dropAll := fun _ h => List.mem_cons_of_mem _ (List.mem_append_left _ (List.mem_append_right _ h))
set_option maxHeartbeats 4000000 in
set_option maxRecDepth 100000 in
theorem c_X6_dropAll (w : WPar) (τ : TS) (i0 : Nat) (x1 : Int32) (K : TS → Int32 → Prop) (h0 : tp_is w i0 5) (hw : wp_X6_dropAll τ i0 x1 K) : MI w yX6_dropAll wsX6_dropAll 1 22 [.ref (w.1 i0), .int x1] τ K := by
  refine tp_enterI (cc := cX6_dropAll) (maxL := 3) (own := RX6) (by decide) rfl rfl (Nat.le_of_ble_eq_true rfl) (fun g C hR => ?_)
  show Zt w g τ (0, 0) 0 [(0, .ref (w.1 i0)), (1, .int x1)] []
  unfold wp_X6_dropAll at hw
  refine z_aload_n C 0 (by rfl) dX6_dropAll_0 ?_
  refine z_get C (Cn := RX6) (T := TX6) (N := 6) (ci := 5) h0.2 1 (tE5 h0.1) in_X6_dropAll_X6 rfl (by decide) mw_X6_dropAll_0 rfl rfl dX6_dropAll_1 ?_
  refine z_iconst C 2 (by decide) dX6_dropAll_4 ?_
  refine z_iload_n C 1 (by rfl) dX6_dropAll_5 ?_
  refine z_imul C dX6_dropAll_6 ?_
  obtain ⟨s21, hw⟩ := hw
  refine z_aald_q2 C (tR5_1 h0).2 (tE15 (tR5_1 h0).1) s21 (if_pos (tp_lt s21)) dX6_dropAll_7 ?_
  refine zv_i C (As := []) (bytes := cX7_drop) (maxL := 3) (F1 := 0) (L1 := 0) (c_X7_drop w _ ((i0 + 1) + 2 + 3 * (Int32.toNatClampNeg (2 * x1))) _ (tR15 (tR5_1 h0) (tp_lt s21)) hw) (tR15 (tR5_1 h0) (tp_lt s21)).2 (tE6 (tR15 (tR5_1 h0) (tp_lt s21)).1) rfl 0 gX6_dropAll_X7_drop rfl (by decide +kernel) ⟨Nat.le_of_ble_eq_true rfl, Nat.le_of_ble_eq_true rfl⟩ rfl (Nat.le_of_ble_eq_true rfl) ⟨Nat.le_of_ble_eq_true rfl, Nat.le_of_ble_eq_true rfl⟩ rfl dX6_dropAll_8 (fun x23 τ22 hw => ?_)
  refine z_aload_n C 0 (by rfl) dX6_dropAll_11 ?_
  refine z_get C (Cn := RX6) (T := TX6) (N := 6) (ci := 5) h0.2 1 (tE5 h0.1) in_X6_dropAll_X6 rfl (by decide) mw_X6_dropAll_0 rfl rfl dX6_dropAll_12 ?_
  refine z_iconst C 2 (by decide) dX6_dropAll_15 ?_
  refine z_iload_n C 1 (by rfl) dX6_dropAll_16 ?_
  refine z_imul C dX6_dropAll_17 ?_
  refine z_iconst C 1 (by decide) dX6_dropAll_18 ?_
  refine z_iadd C dX6_dropAll_19 ?_
  obtain ⟨s24, hw⟩ := hw
  refine z_aald_q2 C (tR5_1 h0).2 (tE15 (tR5_1 h0).1) s24 (if_pos (tp_lt s24)) dX6_dropAll_20 ?_
  refine zv_i C (As := []) (bytes := cX7_drop) (maxL := 3) (F1 := 0) (L1 := 0) (c_X7_drop w _ ((i0 + 1) + 2 + 3 * (Int32.toNatClampNeg ((2 * x1) + 1))) _ (tR15 (tR5_1 h0) (tp_lt s24)) hw) (tR15 (tR5_1 h0) (tp_lt s24)).2 (tE6 (tR15 (tR5_1 h0) (tp_lt s24)).1) rfl 0 gX6_dropAll_X7_drop rfl (by decide +kernel) ⟨Nat.le_of_ble_eq_true rfl, Nat.le_of_ble_eq_true rfl⟩ rfl (Nat.le_of_ble_eq_true rfl) ⟨Nat.le_of_ble_eq_true rfl, Nat.le_of_ble_eq_true rfl⟩ rfl dX6_dropAll_21 (fun x26 τ25 hw => ?_)
  refine z_iadd C dX6_dropAll_24 ?_
  refine z_top (fun x27 ex27 => ?_)
  have hw := hw x27 ex27
  refine z_istore_n C [(2, .int x27), (0, .ref (w.1 i0)), (1, .int x1)] dX6_dropAll_25 (by decide) rfl ?_
  refine z_aload_n C 1 (by rfl) dX6_dropAll_26 ?_
  refine z_dup C rfl dX6_dropAll_27 ?_
  refine z_get C (Cn := RX6) (T := TX6) (N := 6) (ci := 5) h0.2 5 (tE5 h0.1) in_X6_dropAll_X6 rfl (by decide) mw_X6_dropAll_1 rfl rfl dX6_dropAll_28 ?_
  refine z_iload_n C 0 (by rfl) dX6_dropAll_31 ?_
  refine z_iadd C dX6_dropAll_32 ?_
  refine z_put C (Cn := RX6) (T := TX6) (N := 6) (ci := 5) h0.2 5 (tE5 h0.1) (tS5_5 h0.1 _) in_X6_dropAll_X6 tyX6 tyX6_ok nmX6 rfl (by decide) mw_X6_dropAll_1 rfl rfl (tyX6_ok 5 (by decide)) rfl rfl (Nat.le_of_ble_eq_true rfl) dX6_dropAll_33 (fun τ28 eτ28 => ?_)
  have hw := hw τ28 eτ28
  refine z_iload_n C 0 (by rfl) dX6_dropAll_36 ?_
  exact hR _ _ _ _ dX6_dropAll_37 hw
def wp_X6_arrive (τ : TS) (i0 : Nat) (x1 : Int32) (x2 : Int32) (K : TS → Prop) : Prop :=
  wp_X4_connectionOf τ x1 (fun τ21 x22 => ((x22 < (τ21 i0 3)) → (vp_in x22 6 ∧ (wp_X4_kindOf τ21 x1 (fun τ25 x26 => ∃ J27 : Int32 → Prop, (∀ (x28 : Int32), J27 x28 → (∃ J29 : Int32 → Prop, (∀ (x30 : Int32), J29 x30 → (((x2 = x30) → (((x28 = 0) → (wp_X4_kindOf τ25 x1 (fun τ33 x34 => ((x34 = 0) → (wp_X6_sendAnswer τ33 i0 x22 (fun τ36 => K τ36))) ∧ ((¬ x34 = 0) → (wp_X4_kindOf τ33 x1 (fun τ37 x38 => ∃ J39 : Int32 → Prop, (∀ (x40 : Int32), J39 x40 → (wp_X4_numberOf τ37 x1 (fun τ41 x42 => wp_X0_take τ41 (((i0 + 2) + 73 + 5 * (Int32.toNatClampNeg x22)) + 3) x42 x40 (fun τ43 x44 => ((x44 = 0) → (∀ τ46 : TS, τ46 = tp_up τ43 i0 5 ((τ37 i0 5) + 1) → wp_X6_sendAnswer τ46 i0 x22 (fun τ47 => K τ47))) ∧ ((¬ x44 = 0) → (∀ τ48 : TS, τ48 = tp_up τ43 i0 5 ((τ37 i0 5) + 0) → wp_X6_sendAnswer τ48 i0 x22 (fun τ49 => K τ49))))))) ∧ (((¬ x38 = 1) → (J39 0)) ∧ ((x38 = 1) → (J39 1))))))))) ∧ ((¬ x28 = 0) → (wp_X4_numberOf τ25 x1 (fun τ51 x52 => wp_X4_roomOf τ51 x1 (fun τ53 x54 => wp_X1_takeAnswer τ53 (((i0 + 2) + 73 + 5 * (Int32.toNatClampNeg x22)) + 1) x52 x54 (τ53 i0 4) (fun τ55 x56 => ((x56 = 0) → (K τ55)) ∧ ((¬ x56 = 0) → (wp_X1_baseAgain τ55 (((i0 + 2) + 73 + 5 * (Int32.toNatClampNeg x22)) + 1) (fun τ58 x59 => wp_X6_sendThing τ58 i0 x22 x59 (fun τ60 => K τ60))))))))))) ∧ ((¬ x2 = x30) → (wp_X6_send τ25 i0 x1 x2 x30 (fun τ61 => K τ61))))) ∧ (((x28 = 0) → (J29 (τ25 ((i0 + 2) + 73 + 5 * (Int32.toNatClampNeg x22)) 1))) ∧ ((¬ x28 = 0) → (J29 (τ25 ((i0 + 2) + 73 + 5 * (Int32.toNatClampNeg x22)) 0)))))) ∧ (((¬ x26 = 3) → (J27 0)) ∧ ((x26 = 3) → (J27 1))))))) ∧ ((¬ x22 < (τ21 i0 3)) → (K τ21)))
theorem mw_X6_arrive_0 : Cond.fieldLink RX6 29 "TidePost$Traffic" "made" "I" ∈ wsX6_arrive := List.mem_of_getElem? (i := 1) rfl
theorem mw_X6_arrive_1 : Cond.fieldLink RX6 19 "TidePost$Traffic" "all" "[LTidePost$Connection;" ∈ wsX6_arrive := List.mem_of_getElem? (i := 2) rfl
theorem mw_X6_arrive_3 : Cond.fieldLink RX6 36 "TidePost$Connection" "calleeNode" "I" ∈ wsX6_arrive := List.mem_of_getElem? (i := 4) rfl
theorem mw_X6_arrive_2 : Cond.fieldLink RX6 33 "TidePost$Connection" "callerNode" "I" ∈ wsX6_arrive := List.mem_of_getElem? (i := 3) rfl
theorem mw_X6_arrive_6 : Cond.fieldLink RX6 69 "TidePost$Traffic" "lost" "I" ∈ wsX6_arrive := List.mem_of_getElem? (i := 7) rfl
theorem mw_X6_arrive_7 : Cond.fieldLink RX6 39 "TidePost$Connection" "callee" "LTidePost$Callee;" ∈ wsX6_arrive := List.mem_of_getElem? (i := 8) rfl
theorem mw_X6_arrive_4 : Cond.fieldLink RX6 48 "TidePost$Connection" "caller" "LTidePost$Caller;" ∈ wsX6_arrive := List.mem_of_getElem? (i := 5) rfl
theorem mw_X6_arrive_5 : Cond.fieldLink RX6 52 "TidePost$Traffic" "clock" "I" ∈ wsX6_arrive := List.mem_of_getElem? (i := 6) rfl
theorem in_X6_arrive_X6 : ∀ x ∈ wsX60, x ∈ wsX6_arrive := fun _ h => List.mem_cons_of_mem _ (List.mem_append_left _ (List.mem_append_left _ (List.mem_append_left _ (List.mem_append_left _ (List.mem_append_left _ (List.mem_append_left _ (List.mem_append_right _ h)))))))
theorem in_X6_arrive_X2 : ∀ x ∈ wsX20, x ∈ wsX6_arrive := fun _ h => List.mem_cons_of_mem _ (List.mem_append_left _ (List.mem_append_left _ (List.mem_append_left _ (List.mem_append_left _ (List.mem_append_left _ (List.mem_append_right _ h))))))
set_option maxHeartbeats 4000000 in
set_option maxRecDepth 100000 in
theorem c_X6_arrive (w : WPar) (τ : TS) (i0 : Nat) (x1 : Int32) (x2 : Int32) (K : TS → Prop) (h0 : tp_is w i0 5) (hw : wp_X6_arrive τ i0 x1 x2 K) : MV w yX6_arrive wsX6_arrive 4 97 [.ref (w.1 i0), .int x1, .int x2] τ K := by
  refine tp_enterV (cc := cX6_arrive) (maxL := 8) (own := RX6) (by decide) rfl rfl (Nat.le_of_ble_eq_true rfl) (fun g C hR => ?_)
  show Zt w g τ (0, 0) 0 [(0, .ref (w.1 i0)), (1, .int x1), (2, .int x2)] []
  unfold wp_X6_arrive at hw
  refine z_iload_n C 1 (by rfl) dX6_arrive_0 ?_
  refine zs_i C (As := [.int x1]) (bytes := cX4_connectionOf) (maxL := 1) (F1 := 0) (L1 := 0) (c_X4_connectionOf w _ x1 _  hw) 1 gX6_arrive_X4_connectionOf rfl (by decide +kernel) ⟨Nat.le_of_ble_eq_true rfl, Nat.le_of_ble_eq_true rfl⟩ rfl (Nat.le_of_ble_eq_true rfl) ⟨Nat.le_of_ble_eq_true rfl, Nat.le_of_ble_eq_true rfl⟩ rfl dX6_arrive_1 (fun x22 τ21 hw => ?_)
  refine z_istore_n C [(3, .int x22), (0, .ref (w.1 i0)), (1, .int x1), (2, .int x2)] dX6_arrive_4 (by decide) rfl ?_
  refine z_iload_n C 0 (by rfl) dX6_arrive_5 ?_
  refine z_aload_n C 1 (by rfl) dX6_arrive_6 ?_
  refine z_get C (Cn := RX6) (T := TX6) (N := 6) (ci := 5) h0.2 3 (tE5 h0.1) in_X6_arrive_X6 rfl (by decide) mw_X6_arrive_0 rfl rfl dX6_arrive_7 ?_
  refine z_icmp_lt (tgt := 14) C dX6_arrive_10 (by decide) (fun c23 => ?_) (fun c23 => ?_)
  · have hw := hw.1 c23
    refine z_aload_n C 1 (by rfl) dX6_arrive_14 ?_
    refine z_get C (Cn := RX6) (T := TX6) (N := 6) (ci := 5) h0.2 2 (tE5 h0.1) in_X6_arrive_X6 rfl (by decide) mw_X6_arrive_1 rfl rfl dX6_arrive_15 ?_
    refine z_iload_n C 0 (by rfl) dX6_arrive_18 ?_
    obtain ⟨s24, hw⟩ := hw
    refine z_aald_q3 C (tR5_2 h0).2 (tE16 (tR5_2 h0).1) s24 (if_pos (tp_lt s24)) dX6_arrive_19 ?_
    refine z_astore C [(4, .ref (w.1 ((i0 + 2) + 73 + 5 * (Int32.toNatClampNeg x22)))), (3, .int x22), (0, .ref (w.1 i0)), (1, .int x1), (2, .int x2)] dX6_arrive_20 (by decide) rfl ?_
    refine z_iload_n C 3 (by rfl) dX6_arrive_22 ?_
    refine zs_i C (As := [.int x1]) (bytes := cX4_kindOf) (maxL := 1) (F1 := 0) (L1 := 0) (c_X4_kindOf w _ x1 _  hw) 1 gX6_arrive_X4_kindOf rfl (by decide +kernel) ⟨Nat.le_of_ble_eq_true rfl, Nat.le_of_ble_eq_true rfl⟩ rfl (Nat.le_of_ble_eq_true rfl) ⟨Nat.le_of_ble_eq_true rfl, Nat.le_of_ble_eq_true rfl⟩ rfl dX6_arrive_23 (fun x26 τ25 hw => ?_)
    refine z_iconst C 3 (by decide) dX6_arrive_26 ?_
    obtain ⟨J27, hJ27, hw⟩ := hw
    have jn27 : ∀ (x28 : Int32), J27 x28 → Zt w g τ25 (0, 0) 35 [(0, .ref (w.1 i0)), (1, .int x1), (2, .int x2), (3, .int x22), (4, .ref (w.1 ((i0 + 2) + 73 + 5 * (Int32.toNatClampNeg x22))))] [.int x28] := by
      intro x28 hj27
      have hw := hJ27 x28 hj27
      refine z_istore C [(5, .int x28), (0, .ref (w.1 i0)), (1, .int x1), (2, .int x2), (3, .int x22), (4, .ref (w.1 ((i0 + 2) + 73 + 5 * (Int32.toNatClampNeg x22))))] dX6_arrive_35 (by decide) rfl ?_
      refine z_iload C 0 (by rfl) dX6_arrive_37 ?_
      obtain ⟨J29, hJ29, hw⟩ := hw
      have jn29 : ∀ (x30 : Int32), J29 x30 → Zt w g τ25 (0, 0) 55 [(0, .ref (w.1 i0)), (1, .int x1), (2, .int x2), (3, .int x22), (4, .ref (w.1 ((i0 + 2) + 73 + 5 * (Int32.toNatClampNeg x22)))), (5, .int x28)] [.int x30] := by
        intro x30 hj29
        have hw := hJ29 x30 hj29
        refine z_istore C [(6, .int x30), (0, .ref (w.1 i0)), (1, .int x1), (2, .int x2), (3, .int x22), (4, .ref (w.1 ((i0 + 2) + 73 + 5 * (Int32.toNatClampNeg x22)))), (5, .int x28)] dX6_arrive_55 (by decide) rfl ?_
        refine z_iload_n C 3 (by rfl) dX6_arrive_57 ?_
        refine z_iload C 0 (by rfl) dX6_arrive_58 ?_
        refine z_icmp_eq (tgt := 74) C dX6_arrive_60 (by decide) (fun c31 => ?_) (fun c31 => ?_)
        · have hw := hw.1 c31
          refine z_iload C 6 (by rfl) dX6_arrive_74 ?_
          refine z_if_eq (tgt := 119) C dX6_arrive_76 (by decide) (fun c32 => ?_) (fun c32 => ?_)
          · have hw := hw.1 c32
            refine z_iload_n C 2 (by rfl) dX6_arrive_119 ?_
            refine zs_i C (As := [.int x1]) (bytes := cX4_kindOf) (maxL := 1) (F1 := 0) (L1 := 0) (c_X4_kindOf w _ x1 _  hw) 1 gX6_arrive_X4_kindOf rfl (by decide +kernel) ⟨Nat.le_of_ble_eq_true rfl, Nat.le_of_ble_eq_true rfl⟩ rfl (Nat.le_of_ble_eq_true rfl) ⟨Nat.le_of_ble_eq_true rfl, Nat.le_of_ble_eq_true rfl⟩ rfl dX6_arrive_120 (fun x34 τ33 hw => ?_)
            refine z_if_eq (tgt := 172) C dX6_arrive_123 (by decide) (fun c35 => ?_) (fun c35 => ?_)
            · have hw := hw.1 c35
              refine z_aload_n C 1 (by rfl) dX6_arrive_172 ?_
              refine z_iload_n C 4 (by rfl) dX6_arrive_173 ?_
              refine zv_v C (As := [.int x22]) (bytes := cX6_sendAnswer) (maxL := 5) (F1 := 3) (L1 := 72) (c_X6_sendAnswer w _ i0 x22 _ h0 hw) h0.2 (tE5 h0.1) rfl 1 gX6_arrive_X6_sendAnswer rfl (by decide +kernel) ⟨Nat.le_of_ble_eq_true rfl, Nat.le_of_ble_eq_true rfl⟩ rfl (Nat.le_of_ble_eq_true rfl) ⟨Nat.le_of_ble_eq_true rfl, Nat.le_of_ble_eq_true rfl⟩ rfl dX6_arrive_174 (fun τ36 hw => ?_)
              exact hR _ _ _ dX6_arrive_177 hw
            · have hw := hw.2 c35
              refine z_iload_n C 2 (by rfl) dX6_arrive_126 ?_
              refine zs_i C (As := [.int x1]) (bytes := cX4_kindOf) (maxL := 1) (F1 := 0) (L1 := 0) (c_X4_kindOf w _ x1 _  hw) 1 gX6_arrive_X4_kindOf rfl (by decide +kernel) ⟨Nat.le_of_ble_eq_true rfl, Nat.le_of_ble_eq_true rfl⟩ rfl (Nat.le_of_ble_eq_true rfl) ⟨Nat.le_of_ble_eq_true rfl, Nat.le_of_ble_eq_true rfl⟩ rfl dX6_arrive_127 (fun x38 τ37 hw => ?_)
              refine z_iconst C 1 (by decide) dX6_arrive_130 ?_
              obtain ⟨J39, hJ39, hw⟩ := hw
              have jn39 : ∀ (x40 : Int32), J39 x40 → Zt w g τ37 (0, 0) 139 [(0, .ref (w.1 i0)), (1, .int x1), (3, .int x22), (4, .ref (w.1 ((i0 + 2) + 73 + 5 * (Int32.toNatClampNeg x22))))] [.int x40] := by
                intro x40 hj39
                have hw := hJ39 x40 hj39
                refine z_istore C [(7, .int x40), (0, .ref (w.1 i0)), (1, .int x1), (3, .int x22), (4, .ref (w.1 ((i0 + 2) + 73 + 5 * (Int32.toNatClampNeg x22))))] dX6_arrive_139 (by decide) rfl ?_
                refine z_aload_n C 1 (by rfl) dX6_arrive_141 ?_
                refine z_dup C rfl dX6_arrive_142 ?_
                refine z_get C (Cn := RX6) (T := TX6) (N := 6) (ci := 5) h0.2 5 (tE5 h0.1) in_X6_arrive_X6 rfl (by decide) mw_X6_arrive_6 rfl rfl dX6_arrive_143 ?_
                refine z_aload C 4 (by rfl) dX6_arrive_146 ?_
                refine z_get C (Cn := RX2) (T := TX2) (N := 4) (ci := 2) (tR16 (tR5_2 h0) (tp_lt s24)).2 3 (tE2 (tR16 (tR5_2 h0) (tp_lt s24)).1) in_X6_arrive_X2 rfl (by decide) mw_X6_arrive_7 rfl rfl dX6_arrive_148 ?_
                refine z_iload_n C 2 (by rfl) dX6_arrive_151 ?_
                refine zs_i C (As := [.int x1]) (bytes := cX4_numberOf) (maxL := 1) (F1 := 0) (L1 := 0) (c_X4_numberOf w _ x1 _  hw) 1 gX6_arrive_X4_numberOf rfl (by decide +kernel) ⟨Nat.le_of_ble_eq_true rfl, Nat.le_of_ble_eq_true rfl⟩ rfl (Nat.le_of_ble_eq_true rfl) ⟨Nat.le_of_ble_eq_true rfl, Nat.le_of_ble_eq_true rfl⟩ rfl dX6_arrive_152 (fun x42 τ41 hw => ?_)
                refine z_iload C 0 (by rfl) dX6_arrive_155 ?_
                refine zv_i C (As := [.int x42, .int x40]) (bytes := cX0_take) (maxL := 3) (F1 := 0) (L1 := 0) (c_X0_take w _ (((i0 + 2) + 73 + 5 * (Int32.toNatClampNeg x22)) + 3) x42 x40 _ (tR2_3 (tR16 (tR5_2 h0) (tp_lt s24))) hw) (tR2_3 (tR16 (tR5_2 h0) (tp_lt s24))).2 (tE0 (tR2_3 (tR16 (tR5_2 h0) (tp_lt s24))).1) rfl 2 gX6_arrive_X0_take rfl (by decide +kernel) ⟨Nat.le_of_ble_eq_true rfl, Nat.le_of_ble_eq_true rfl⟩ rfl (Nat.le_of_ble_eq_true rfl) ⟨Nat.le_of_ble_eq_true rfl, Nat.le_of_ble_eq_true rfl⟩ rfl dX6_arrive_157 (fun x44 τ43 hw => ?_)
                refine z_if_eq (tgt := 167) C dX6_arrive_160 (by decide) (fun c45 => ?_) (fun c45 => ?_)
                · have hw := hw.1 c45
                  refine z_iconst C 1 (by decide) dX6_arrive_167 ?_
                  refine z_iadd C dX6_arrive_168 ?_
                  refine z_put C (Cn := RX6) (T := TX6) (N := 6) (ci := 5) h0.2 5 (tE5 h0.1) (tS5_5 h0.1 _) in_X6_arrive_X6 tyX6 tyX6_ok nmX6 rfl (by decide) mw_X6_arrive_6 rfl rfl (tyX6_ok 5 (by decide)) rfl rfl (Nat.le_of_ble_eq_true rfl) dX6_arrive_169 (fun τ46 eτ46 => ?_)
                  have hw := hw τ46 eτ46
                  refine z_aload_n C 1 (by rfl) dX6_arrive_172 ?_
                  refine z_iload_n C 3 (by rfl) dX6_arrive_173 ?_
                  refine zv_v C (As := [.int x22]) (bytes := cX6_sendAnswer) (maxL := 5) (F1 := 3) (L1 := 72) (c_X6_sendAnswer w _ i0 x22 _ h0 hw) h0.2 (tE5 h0.1) rfl 1 gX6_arrive_X6_sendAnswer rfl (by decide +kernel) ⟨Nat.le_of_ble_eq_true rfl, Nat.le_of_ble_eq_true rfl⟩ rfl (Nat.le_of_ble_eq_true rfl) ⟨Nat.le_of_ble_eq_true rfl, Nat.le_of_ble_eq_true rfl⟩ rfl dX6_arrive_174 (fun τ47 hw => ?_)
                  exact hR _ _ _ dX6_arrive_177 hw
                · have hw := hw.2 c45
                  refine z_iconst C 0 (by decide) dX6_arrive_163 ?_
                  refine z_goto (tgt := 168) C dX6_arrive_164 (by decide) ?_
                  refine z_iadd C dX6_arrive_168 ?_
                  refine z_put C (Cn := RX6) (T := TX6) (N := 6) (ci := 5) h0.2 5 (tE5 h0.1) (tS5_5 h0.1 _) in_X6_arrive_X6 tyX6 tyX6_ok nmX6 rfl (by decide) mw_X6_arrive_6 rfl rfl (tyX6_ok 5 (by decide)) rfl rfl (Nat.le_of_ble_eq_true rfl) dX6_arrive_169 (fun τ48 eτ48 => ?_)
                  have hw := hw τ48 eτ48
                  refine z_aload_n C 1 (by rfl) dX6_arrive_172 ?_
                  refine z_iload_n C 3 (by rfl) dX6_arrive_173 ?_
                  refine zv_v C (As := [.int x22]) (bytes := cX6_sendAnswer) (maxL := 5) (F1 := 3) (L1 := 72) (c_X6_sendAnswer w _ i0 x22 _ h0 hw) h0.2 (tE5 h0.1) rfl 1 gX6_arrive_X6_sendAnswer rfl (by decide +kernel) ⟨Nat.le_of_ble_eq_true rfl, Nat.le_of_ble_eq_true rfl⟩ rfl (Nat.le_of_ble_eq_true rfl) ⟨Nat.le_of_ble_eq_true rfl, Nat.le_of_ble_eq_true rfl⟩ rfl dX6_arrive_174 (fun τ49 hw => ?_)
                  exact hR _ _ _ dX6_arrive_177 hw
              refine z_icmp_ne (tgt := 138) C dX6_arrive_131 (by decide) (fun c50 => ?_) (fun c50 => ?_)
              · have hw := hw.1 c50
                refine z_iconst C 0 (by decide) dX6_arrive_138 ?_
                refine z_sub [1, 2, 4, 5] [(0, .ref (w.1 i0)), (1, .int x1), (3, .int x22), (4, .ref (w.1 ((i0 + 2) + 73 + 5 * (Int32.toNatClampNeg x22))))] rfl ?_
                exact jn39 0 hw
              · have hw := hw.2 c50
                refine z_iconst C 1 (by decide) dX6_arrive_134 ?_
                refine z_goto (tgt := 139) C dX6_arrive_135 (by decide) ?_
                refine z_sub [1, 2, 4, 5] [(0, .ref (w.1 i0)), (1, .int x1), (3, .int x22), (4, .ref (w.1 ((i0 + 2) + 73 + 5 * (Int32.toNatClampNeg x22))))] rfl ?_
                exact jn39 1 hw
          · have hw := hw.2 c32
            refine z_aload C 5 (by rfl) dX6_arrive_79 ?_
            refine z_get C (Cn := RX2) (T := TX2) (N := 4) (ci := 2) (tR16 (tR5_2 h0) (tp_lt s24)).2 2 (tE2 (tR16 (tR5_2 h0) (tp_lt s24)).1) in_X6_arrive_X2 rfl (by decide) mw_X6_arrive_4 rfl rfl dX6_arrive_81 ?_
            refine z_astore C [(7, .ref (w.1 (((i0 + 2) + 73 + 5 * (Int32.toNatClampNeg x22)) + 1))), (6, .int x30), (0, .ref (w.1 i0)), (1, .int x1), (2, .int x2), (3, .int x22), (4, .ref (w.1 ((i0 + 2) + 73 + 5 * (Int32.toNatClampNeg x22)))), (5, .int x28)] dX6_arrive_84 (by decide) rfl ?_
            refine z_aload C 0 (by rfl) dX6_arrive_86 ?_
            refine z_iload_n C 3 (by rfl) dX6_arrive_88 ?_
            refine zs_i C (As := [.int x1]) (bytes := cX4_numberOf) (maxL := 1) (F1 := 0) (L1 := 0) (c_X4_numberOf w _ x1 _  hw) 1 gX6_arrive_X4_numberOf rfl (by decide +kernel) ⟨Nat.le_of_ble_eq_true rfl, Nat.le_of_ble_eq_true rfl⟩ rfl (Nat.le_of_ble_eq_true rfl) ⟨Nat.le_of_ble_eq_true rfl, Nat.le_of_ble_eq_true rfl⟩ rfl dX6_arrive_89 (fun x52 τ51 hw => ?_)
            refine z_iload_n C 3 (by rfl) dX6_arrive_92 ?_
            refine zs_i C (As := [.int x1]) (bytes := cX4_roomOf) (maxL := 1) (F1 := 0) (L1 := 0) (c_X4_roomOf w _ x1 _  hw) 1 gX6_arrive_X4_roomOf rfl (by decide +kernel) ⟨Nat.le_of_ble_eq_true rfl, Nat.le_of_ble_eq_true rfl⟩ rfl (Nat.le_of_ble_eq_true rfl) ⟨Nat.le_of_ble_eq_true rfl, Nat.le_of_ble_eq_true rfl⟩ rfl dX6_arrive_93 (fun x54 τ53 hw => ?_)
            refine z_aload_n C 2 (by rfl) dX6_arrive_96 ?_
            refine z_get C (Cn := RX6) (T := TX6) (N := 6) (ci := 5) h0.2 4 (tE5 h0.1) in_X6_arrive_X6 rfl (by decide) mw_X6_arrive_5 rfl rfl dX6_arrive_97 ?_
            refine zv_i C (As := [.int x52, .int x54, .int (τ53 i0 4)]) (bytes := cX1_takeAnswer) (maxL := 4) (F1 := 3) (L1 := 63) (c_X1_takeAnswer w _ (((i0 + 2) + 73 + 5 * (Int32.toNatClampNeg x22)) + 1) x52 x54 (τ53 i0 4) _ (tR2_2 (tR16 (tR5_2 h0) (tp_lt s24))) hw) (tR2_2 (tR16 (tR5_2 h0) (tp_lt s24))).2 (tE1 (tR2_2 (tR16 (tR5_2 h0) (tp_lt s24))).1) rfl 3 gX6_arrive_X1_takeAnswer rfl (by decide +kernel) ⟨Nat.le_of_ble_eq_true rfl, Nat.le_of_ble_eq_true rfl⟩ rfl (Nat.le_of_ble_eq_true rfl) ⟨Nat.le_of_ble_eq_true rfl, Nat.le_of_ble_eq_true rfl⟩ rfl dX6_arrive_100 (fun x56 τ55 hw => ?_)
            refine z_if_eq (tgt := 116) C dX6_arrive_103 (by decide) (fun c57 => ?_) (fun c57 => ?_)
            · have hw := hw.1 c57
              refine z_goto (tgt := 177) C dX6_arrive_116 (by decide) ?_
              exact hR _ _ _ dX6_arrive_177 hw
            · have hw := hw.2 c57
              refine z_aload_n C 2 (by rfl) dX6_arrive_106 ?_
              refine z_iload_n C 5 (by rfl) dX6_arrive_107 ?_
              refine z_aload C 0 (by rfl) dX6_arrive_108 ?_
              refine zv_i C (As := []) (bytes := cX1_baseAgain) (maxL := 1) (F1 := 1) (L1 := 21) (c_X1_baseAgain w _ (((i0 + 2) + 73 + 5 * (Int32.toNatClampNeg x22)) + 1) _ (tR2_2 (tR16 (tR5_2 h0) (tp_lt s24))) hw) (tR2_2 (tR16 (tR5_2 h0) (tp_lt s24))).2 (tE1 (tR2_2 (tR16 (tR5_2 h0) (tp_lt s24))).1) rfl 0 gX6_arrive_X1_baseAgain rfl (by decide +kernel) ⟨Nat.le_of_ble_eq_true rfl, Nat.le_of_ble_eq_true rfl⟩ rfl (Nat.le_of_ble_eq_true rfl) ⟨Nat.le_of_ble_eq_true rfl, Nat.le_of_ble_eq_true rfl⟩ rfl dX6_arrive_110 (fun x59 τ58 hw => ?_)
              refine zv_v C (As := [.int x22, .int x59]) (bytes := cX6_sendThing) (maxL := 6) (F1 := 3) (L1 := 72) (c_X6_sendThing w _ i0 x22 x59 _ h0 hw) h0.2 (tE5 h0.1) rfl 2 gX6_arrive_X6_sendThing rfl (by decide +kernel) ⟨Nat.le_of_ble_eq_true rfl, Nat.le_of_ble_eq_true rfl⟩ rfl (Nat.le_of_ble_eq_true rfl) ⟨Nat.le_of_ble_eq_true rfl, Nat.le_of_ble_eq_true rfl⟩ rfl dX6_arrive_113 (fun τ60 hw => ?_)
              refine z_goto (tgt := 177) C dX6_arrive_116 (by decide) ?_
              exact hR _ _ _ dX6_arrive_177 hw
        · have hw := hw.2 c31
          refine z_aload_n C 1 (by rfl) dX6_arrive_63 ?_
          refine z_iload_n C 2 (by rfl) dX6_arrive_64 ?_
          refine z_iload_n C 3 (by rfl) dX6_arrive_65 ?_
          refine z_iload C 0 (by rfl) dX6_arrive_66 ?_
          refine zv_v C (As := [.int x1, .int x2, .int x30]) (bytes := cX6_send) (maxL := 6) (F1 := 2) (L1 := 47) (c_X6_send w _ i0 x1 x2 x30 _ h0 hw) h0.2 (tE5 h0.1) rfl 3 gX6_arrive_X6_send rfl (by decide +kernel) ⟨Nat.le_of_ble_eq_true rfl, Nat.le_of_ble_eq_true rfl⟩ rfl (Nat.le_of_ble_eq_true rfl) ⟨Nat.le_of_ble_eq_true rfl, Nat.le_of_ble_eq_true rfl⟩ rfl dX6_arrive_68 (fun τ61 hw => ?_)
          refine z_goto (tgt := 177) C dX6_arrive_71 (by decide) ?_
          exact hR _ _ _ dX6_arrive_177 hw
      refine z_if_eq (tgt := 50) C dX6_arrive_39 (by decide) (fun c62 => ?_) (fun c62 => ?_)
      · have hw := hw.1 c62
        refine z_aload C 5 (by rfl) dX6_arrive_50 ?_
        refine z_get C (Cn := RX2) (T := TX2) (N := 4) (ci := 2) (tR16 (tR5_2 h0) (tp_lt s24)).2 1 (tE2 (tR16 (tR5_2 h0) (tp_lt s24)).1) in_X6_arrive_X2 rfl (by decide) mw_X6_arrive_3 rfl rfl dX6_arrive_52 ?_
        refine z_sub [1, 2, 3, 4, 5, 0] [(0, .ref (w.1 i0)), (1, .int x1), (2, .int x2), (3, .int x22), (4, .ref (w.1 ((i0 + 2) + 73 + 5 * (Int32.toNatClampNeg x22)))), (5, .int x28)] rfl ?_
        exact jn29 (τ25 ((i0 + 2) + 73 + 5 * (Int32.toNatClampNeg x22)) 1) hw
      · have hw := hw.2 c62
        refine z_aload C 5 (by rfl) dX6_arrive_42 ?_
        refine z_get C (Cn := RX2) (T := TX2) (N := 4) (ci := 2) (tR16 (tR5_2 h0) (tp_lt s24)).2 0 (tE2 (tR16 (tR5_2 h0) (tp_lt s24)).1) in_X6_arrive_X2 rfl (by decide) mw_X6_arrive_2 rfl rfl dX6_arrive_44 ?_
        refine z_goto (tgt := 55) C dX6_arrive_47 (by decide) ?_
        refine z_sub [1, 2, 3, 4, 5, 0] [(0, .ref (w.1 i0)), (1, .int x1), (2, .int x2), (3, .int x22), (4, .ref (w.1 ((i0 + 2) + 73 + 5 * (Int32.toNatClampNeg x22)))), (5, .int x28)] rfl ?_
        exact jn29 (τ25 ((i0 + 2) + 73 + 5 * (Int32.toNatClampNeg x22)) 0) hw
    refine z_icmp_ne (tgt := 34) C dX6_arrive_27 (by decide) (fun c63 => ?_) (fun c63 => ?_)
    · have hw := hw.1 c63
      refine z_iconst C 0 (by decide) dX6_arrive_34 ?_
      refine z_sub [2, 3, 4, 1, 0] [(0, .ref (w.1 i0)), (1, .int x1), (2, .int x2), (3, .int x22), (4, .ref (w.1 ((i0 + 2) + 73 + 5 * (Int32.toNatClampNeg x22))))] rfl ?_
      exact jn27 0 hw
    · have hw := hw.2 c63
      refine z_iconst C 1 (by decide) dX6_arrive_30 ?_
      refine z_goto (tgt := 35) C dX6_arrive_31 (by decide) ?_
      refine z_sub [2, 3, 4, 1, 0] [(0, .ref (w.1 i0)), (1, .int x1), (2, .int x2), (3, .int x22), (4, .ref (w.1 ((i0 + 2) + 73 + 5 * (Int32.toNatClampNeg x22))))] rfl ?_
      exact jn27 1 hw
  · have hw := hw.2 c23
    exact hR _ _ _ dX6_arrive_13 hw
def wp_X6_letArrive (τ : TS) (i0 : Nat) (K : TS → Prop) : Prop :=
  ∃ (I23 : TS → Int32 → Prop) (u23 : TS → Int32 → Nat), I23 τ 0 ∧ ∀ (τ21 : TS) (x22 : Int32), I23 τ21 x22 → ((((τ21 1 1) ≤ x22) → (K τ21)) ∧ ((¬ (τ21 1 1) ≤ x22) → (∃ (I27 : TS → Int32 → Prop) (u27 : TS → Int32 → Nat), I27 τ21 0 ∧ ∀ (τ25 : TS) (x26 : Int32), I27 τ25 x26 → (((2 ≤ x26) → (∀ x29 : Int32, x29 = x22 + 1 → I23 τ25 x29 ∧ u23 τ25 x29 < u23 τ21 x22)) ∧ ((¬ 2 ≤ x26) → (vp_in ((2 * x22) + x26) 24 ∧ (wp_X7_land τ25 ((i0 + 1) + 2 + 3 * (Int32.toNatClampNeg ((2 * x22) + x26))) (τ25 i0 4) (fun τ31 x32 => ((x32 = (-1)) → (∀ x34 : Int32, x34 = x26 + 1 → I27 τ31 x34 ∧ u27 τ31 x34 < u27 τ25 x26)) ∧ ((¬ x32 = (-1)) → (((¬ x26 = 0) → (vp_in x22 12 ∧ (wp_X6_arrive τ31 i0 x32 (τ31 2 (Int32.toNatClampNeg x22)) (fun τ37 => ∀ x38 : Int32, x38 = x26 + 1 → I27 τ37 x38 ∧ u27 τ37 x38 < u27 τ25 x26)))) ∧ ((x26 = 0) → (vp_in x22 12 ∧ (wp_X6_arrive τ31 i0 x32 (τ31 3 (Int32.toNatClampNeg x22)) (fun τ40 => ∀ x41 : Int32, x41 = x26 + 1 → I27 τ40 x41 ∧ u27 τ40 x41 < u27 τ25 x26))))))))))))))
theorem mw_X6_letArrive_0 : Cond.fieldLink RX6 23 "TidePost$Traffic" "net" "LTidePost$Net;" ∈ wsX6_letArrive := List.mem_of_getElem? (i := 1) rfl
theorem mw_X6_letArrive_1 : Cond.fieldLink RX6 84 "TidePost$Net" "links" "I" ∈ wsX6_letArrive := List.mem_of_getElem? (i := 2) rfl
theorem mw_X6_letArrive_2 : Cond.fieldLink RX6 11 "TidePost$Traffic" "ways" "[LTidePost$Way;" ∈ wsX6_letArrive := List.mem_of_getElem? (i := 3) rfl
theorem mw_X6_letArrive_3 : Cond.fieldLink RX6 52 "TidePost$Traffic" "clock" "I" ∈ wsX6_letArrive := List.mem_of_getElem? (i := 4) rfl
theorem mw_X6_letArrive_5 : Cond.fieldLink RX6 97 "TidePost$Net" "firsts" "[I" ∈ wsX6_letArrive := List.mem_of_getElem? (i := 6) rfl
theorem mw_X6_letArrive_4 : Cond.fieldLink RX6 93 "TidePost$Net" "seconds" "[I" ∈ wsX6_letArrive := List.mem_of_getElem? (i := 5) rfl
theorem in_X6_letArrive_X6 : ∀ x ∈ wsX60, x ∈ wsX6_letArrive := fun _ h => List.mem_cons_of_mem _ (List.mem_append_left _ (List.mem_append_left _ (List.mem_append_left _ (List.mem_append_left _ (List.mem_append_left _ (List.mem_append_left _ (List.mem_append_right _ h)))))))
theorem in_X6_letArrive_X3 : ∀ x ∈ wsX30, x ∈ wsX6_letArrive := fun _ h => List.mem_cons_of_mem _ (List.mem_append_left _ (List.mem_append_left _ (List.mem_append_left _ (List.mem_append_left _ (List.mem_append_left _ (List.mem_append_right _ h))))))
set_option maxHeartbeats 4000000 in
set_option maxRecDepth 100000 in
theorem c_X6_letArrive (w : WPar) (τ : TS) (i0 : Nat) (K : TS → Prop) (h0 : tp_is w i0 5) (hw : wp_X6_letArrive τ i0 K) : MV w yX6_letArrive wsX6_letArrive 5 124 [.ref (w.1 i0)] τ K := by
  refine tp_enterV (cc := cX6_letArrive) (maxL := 4) (own := RX6) (by decide) rfl rfl (Nat.le_of_ble_eq_true rfl) (fun g C hR => ?_)
  show Zt w g τ (0, 0) 0 [(0, .ref (w.1 i0))] []
  unfold wp_X6_letArrive at hw
  refine z_iconst C 0 (by decide) dX6_letArrive_0 ?_
  refine z_istore_n C [(1, .int 0), (0, .ref (w.1 i0))] dX6_letArrive_1 (by decide) rfl ?_
  obtain ⟨I23, u23, hI23, hs23⟩ := hw
  have lp23 : ∀ (n23 : Nat) (τ21 : TS) (x22 : Int32), u23 τ21 x22 < n23 → I23 τ21 x22 → Zt w g τ21 (0, 0) 2 [(0, .ref (w.1 i0)), (1, .int x22)] [] := by
    intro n23
    induction n23 with
    | zero => intro τ21 x22 hlt23; exact absurd hlt23 (Nat.not_lt_zero _)
    | succ n23 ih23 =>
      intro τ21 x22 hlt23 hh23
      have hw := hs23 τ21 x22 hh23
      refine z_iload_n C 1 (by rfl) dX6_letArrive_2 ?_
      refine z_aload_n C 0 (by rfl) dX6_letArrive_3 ?_
      refine z_get C (Cn := RX6) (T := TX6) (N := 6) (ci := 5) h0.2 0 (tE5 h0.1) in_X6_letArrive_X6 rfl (by decide) mw_X6_letArrive_0 rfl rfl dX6_letArrive_4 ?_
      refine z_get C (Cn := RX3) (T := TX3) (N := 9) (ci := 3) (tR5_0 h0).2 1 (tE3 (tR5_0 h0).1) in_X6_letArrive_X3 rfl (by decide) mw_X6_letArrive_1 rfl rfl dX6_letArrive_7 ?_
      refine z_icmp_ge (tgt := 85) C dX6_letArrive_10 (by decide) (fun c24 => ?_) (fun c24 => ?_)
      · have hw := hw.1 c24
        exact hR _ _ _ dX6_letArrive_85 hw
      · have hw := hw.2 c24
        refine z_iconst C 0 (by decide) dX6_letArrive_13 ?_
        refine z_istore_n C [(2, .int 0), (0, .ref (w.1 i0)), (1, .int x22)] dX6_letArrive_14 (by decide) rfl ?_
        obtain ⟨I27, u27, hI27, hs27⟩ := hw
        have lp27 : ∀ (n27 : Nat) (τ25 : TS) (x26 : Int32), u27 τ25 x26 < n27 → I27 τ25 x26 → Zt w g τ25 (0, 0) 15 [(0, .ref (w.1 i0)), (1, .int x22), (2, .int x26)] [] := by
          intro n27
          induction n27 with
          | zero => intro τ25 x26 hlt27; exact absurd hlt27 (Nat.not_lt_zero _)
          | succ n27 ih27 =>
            intro τ25 x26 hlt27 hh27
            have hw := hs27 τ25 x26 hh27
            refine z_iload_n C 2 (by rfl) dX6_letArrive_15 ?_
            refine z_iconst C 2 (by decide) dX6_letArrive_16 ?_
            refine z_icmp_ge (tgt := 79) C dX6_letArrive_17 (by decide) (fun c28 => ?_) (fun c28 => ?_)
            · have hw := hw.1 c28
              obtain ⟨x29, ex29⟩ : ∃ z : Int32, z = x22 + 1 := ⟨_, rfl⟩
              have hw := hw x29 ex29
              refine z_iinc C 1 x29 [(1, .int x29), (0, .ref (w.1 i0)), (2, .int x26)] dX6_letArrive_79 (by rfl) (by rw [ex29]; rfl) (by decide) rfl ?_
              refine z_goto (tgt := 2) C dX6_letArrive_82 (by decide) ?_
              refine z_sub [1, 0] [(0, .ref (w.1 i0)), (1, .int x29)] rfl ?_
              exact ih23 τ25 x29 (Nat.lt_of_lt_of_le hw.2 (Nat.le_of_lt_succ hlt23)) hw.1
            · have hw := hw.2 c28
              refine z_aload_n C 0 (by rfl) dX6_letArrive_20 ?_
              refine z_get C (Cn := RX6) (T := TX6) (N := 6) (ci := 5) h0.2 1 (tE5 h0.1) in_X6_letArrive_X6 rfl (by decide) mw_X6_letArrive_2 rfl rfl dX6_letArrive_21 ?_
              refine z_iconst C 2 (by decide) dX6_letArrive_24 ?_
              refine z_iload_n C 1 (by rfl) dX6_letArrive_25 ?_
              refine z_imul C dX6_letArrive_26 ?_
              refine z_iload_n C 2 (by rfl) dX6_letArrive_27 ?_
              refine z_iadd C dX6_letArrive_28 ?_
              obtain ⟨s30, hw⟩ := hw
              refine z_aald_q2 C (tR5_1 h0).2 (tE15 (tR5_1 h0).1) s30 (if_pos (tp_lt s30)) dX6_letArrive_29 ?_
              refine z_aload_n C 0 (by rfl) dX6_letArrive_30 ?_
              refine z_get C (Cn := RX6) (T := TX6) (N := 6) (ci := 5) h0.2 4 (tE5 h0.1) in_X6_letArrive_X6 rfl (by decide) mw_X6_letArrive_3 rfl rfl dX6_letArrive_31 ?_
              refine zv_i C (As := [.int (τ25 i0 4)]) (bytes := cX7_land) (maxL := 4) (F1 := 1) (L1 := 22) (c_X7_land w _ ((i0 + 1) + 2 + 3 * (Int32.toNatClampNeg ((2 * x22) + x26))) (τ25 i0 4) _ (tR15 (tR5_1 h0) (tp_lt s30)) hw) (tR15 (tR5_1 h0) (tp_lt s30)).2 (tE6 (tR15 (tR5_1 h0) (tp_lt s30)).1) rfl 1 gX6_letArrive_X7_land rfl (by decide +kernel) ⟨Nat.le_of_ble_eq_true rfl, Nat.le_of_ble_eq_true rfl⟩ rfl (Nat.le_of_ble_eq_true rfl) ⟨Nat.le_of_ble_eq_true rfl, Nat.le_of_ble_eq_true rfl⟩ rfl dX6_letArrive_34 (fun x32 τ31 hw => ?_)
              refine z_istore_n C [(3, .int x32), (0, .ref (w.1 i0)), (1, .int x22), (2, .int x26)] dX6_letArrive_37 (by decide) rfl ?_
              refine z_iload_n C 0 (by rfl) dX6_letArrive_38 ?_
              refine z_iconst C (-1) (by decide) dX6_letArrive_39 ?_
              refine z_icmp_eq (tgt := 73) C dX6_letArrive_40 (by decide) (fun c33 => ?_) (fun c33 => ?_)
              · have hw := hw.1 c33
                obtain ⟨x34, ex34⟩ : ∃ z : Int32, z = x26 + 1 := ⟨_, rfl⟩
                have hw := hw x34 ex34
                refine z_iinc C 3 x34 [(2, .int x34), (3, .int x32), (0, .ref (w.1 i0)), (1, .int x22)] dX6_letArrive_73 (by rfl) (by rw [ex34]; rfl) (by decide) rfl ?_
                refine z_goto (tgt := 15) C dX6_letArrive_76 (by decide) ?_
                refine z_sub [2, 3, 0] [(0, .ref (w.1 i0)), (1, .int x22), (2, .int x34)] rfl ?_
                exact ih27 τ31 x34 (Nat.lt_of_lt_of_le hw.2 (Nat.le_of_lt_succ hlt27)) hw.1
              · have hw := hw.2 c33
                refine z_aload_n C 1 (by rfl) dX6_letArrive_43 ?_
                refine z_iload_n C 0 (by rfl) dX6_letArrive_44 ?_
                refine z_iload_n C 3 (by rfl) dX6_letArrive_45 ?_
                refine z_if_ne (tgt := 61) C dX6_letArrive_46 (by decide) (fun c35 => ?_) (fun c35 => ?_)
                · have hw := hw.1 c35
                  refine z_aload_n C 1 (by rfl) dX6_letArrive_61 ?_
                  refine z_get C (Cn := RX6) (T := TX6) (N := 6) (ci := 5) h0.2 0 (tE5 h0.1) in_X6_letArrive_X6 rfl (by decide) mw_X6_letArrive_0 rfl rfl dX6_letArrive_62 ?_
                  refine z_get C (Cn := RX3) (T := TX3) (N := 9) (ci := 3) (tR5_0 h0).2 2 (tE3 (tR5_0 h0).1) in_X6_letArrive_X3 rfl (by decide) mw_X6_letArrive_5 rfl rfl dX6_letArrive_65 ?_
                  refine z_iload_n C 2 (by rfl) dX6_letArrive_68 ?_
                  obtain ⟨s36, hw⟩ := hw
                  refine z_iald C (tR3_2 (tR5_0 h0)).2 (tE11 (tR3_2 (tR5_0 h0)).1) s36 dX6_letArrive_69 ?_
                  refine zv_v C (As := [.int x32, .int (τ31 2 (Int32.toNatClampNeg x22))]) (bytes := cX6_arrive) (maxL := 8) (F1 := 4) (L1 := 97) (c_X6_arrive w _ i0 x32 (τ31 2 (Int32.toNatClampNeg x22)) _ h0 hw) h0.2 (tE5 h0.1) rfl 2 gX6_letArrive_X6_arrive rfl (by decide +kernel) ⟨Nat.le_of_ble_eq_true rfl, Nat.le_of_ble_eq_true rfl⟩ rfl (Nat.le_of_ble_eq_true rfl) ⟨Nat.le_of_ble_eq_true rfl, Nat.le_of_ble_eq_true rfl⟩ rfl dX6_letArrive_70 (fun τ37 hw => ?_)
                  obtain ⟨x38, ex38⟩ : ∃ z : Int32, z = x26 + 1 := ⟨_, rfl⟩
                  have hw := hw x38 ex38
                  refine z_iinc C 3 x38 [(2, .int x38), (3, .int x32), (0, .ref (w.1 i0)), (1, .int x22)] dX6_letArrive_73 (by rfl) (by rw [ex38]; rfl) (by decide) rfl ?_
                  refine z_goto (tgt := 15) C dX6_letArrive_76 (by decide) ?_
                  refine z_sub [2, 3, 0] [(0, .ref (w.1 i0)), (1, .int x22), (2, .int x38)] rfl ?_
                  exact ih27 τ37 x38 (Nat.lt_of_lt_of_le hw.2 (Nat.le_of_lt_succ hlt27)) hw.1
                · have hw := hw.2 c35
                  refine z_aload_n C 1 (by rfl) dX6_letArrive_49 ?_
                  refine z_get C (Cn := RX6) (T := TX6) (N := 6) (ci := 5) h0.2 0 (tE5 h0.1) in_X6_letArrive_X6 rfl (by decide) mw_X6_letArrive_0 rfl rfl dX6_letArrive_50 ?_
                  refine z_get C (Cn := RX3) (T := TX3) (N := 9) (ci := 3) (tR5_0 h0).2 3 (tE3 (tR5_0 h0).1) in_X6_letArrive_X3 rfl (by decide) mw_X6_letArrive_4 rfl rfl dX6_letArrive_53 ?_
                  refine z_iload_n C 2 (by rfl) dX6_letArrive_56 ?_
                  obtain ⟨s39, hw⟩ := hw
                  refine z_iald C (tR3_3 (tR5_0 h0)).2 (tE11 (tR3_3 (tR5_0 h0)).1) s39 dX6_letArrive_57 ?_
                  refine z_goto (tgt := 70) C dX6_letArrive_58 (by decide) ?_
                  refine zv_v C (As := [.int x32, .int (τ31 3 (Int32.toNatClampNeg x22))]) (bytes := cX6_arrive) (maxL := 8) (F1 := 4) (L1 := 97) (c_X6_arrive w _ i0 x32 (τ31 3 (Int32.toNatClampNeg x22)) _ h0 hw) h0.2 (tE5 h0.1) rfl 2 gX6_letArrive_X6_arrive rfl (by decide +kernel) ⟨Nat.le_of_ble_eq_true rfl, Nat.le_of_ble_eq_true rfl⟩ rfl (Nat.le_of_ble_eq_true rfl) ⟨Nat.le_of_ble_eq_true rfl, Nat.le_of_ble_eq_true rfl⟩ rfl dX6_letArrive_70 (fun τ40 hw => ?_)
                  obtain ⟨x41, ex41⟩ : ∃ z : Int32, z = x26 + 1 := ⟨_, rfl⟩
                  have hw := hw x41 ex41
                  refine z_iinc C 3 x41 [(2, .int x41), (3, .int x32), (0, .ref (w.1 i0)), (1, .int x22)] dX6_letArrive_73 (by rfl) (by rw [ex41]; rfl) (by decide) rfl ?_
                  refine z_goto (tgt := 15) C dX6_letArrive_76 (by decide) ?_
                  refine z_sub [2, 3, 0] [(0, .ref (w.1 i0)), (1, .int x22), (2, .int x41)] rfl ?_
                  exact ih27 τ40 x41 (Nat.lt_of_lt_of_le hw.2 (Nat.le_of_lt_succ hlt27)) hw.1
        refine z_sub [1, 2, 0] [(0, .ref (w.1 i0)), (1, .int x22), (2, .int 0)] rfl ?_
        exact lp27 _ τ21 0 (Nat.lt_succ_self _) hI27
  refine z_sub [1, 0] [(0, .ref (w.1 i0)), (1, .int 0)] rfl ?_
  exact lp23 _ τ 0 (Nat.lt_succ_self _) hI23
def wp_X6_letTimersRunOut (τ : TS) (i0 : Nat) (K : TS → Prop) : Prop :=
  ∃ (I23 : TS → Int32 → Prop) (u23 : TS → Int32 → Nat), I23 τ 0 ∧ ∀ (τ21 : TS) (x22 : Int32), I23 τ21 x22 → ((((τ21 i0 3) ≤ x22) → (K τ21)) ∧ ((¬ (τ21 i0 3) ≤ x22) → (vp_in x22 6 ∧ (((¬ (τ21 (((i0 + 2) + 73 + 5 * (Int32.toNatClampNeg x22)) + 1) 10) = (τ21 i0 4)) → (∀ x27 : Int32, x27 = x22 + 1 → I23 τ21 x27 ∧ u23 τ21 x27 < u23 τ21 x22)) ∧ (((τ21 (((i0 + 2) + 73 + 5 * (Int32.toNatClampNeg x22)) + 1) 10) = (τ21 i0 4)) → (wp_X1_runOut τ21 (((i0 + 2) + 73 + 5 * (Int32.toNatClampNeg x22)) + 1) (τ21 i0 4) (fun τ28 x29 => ((x29 = 0) → (∀ x31 : Int32, x31 = x22 + 1 → I23 τ28 x31 ∧ u23 τ28 x31 < u23 τ21 x22)) ∧ ((¬ x29 = 0) → (((¬ (τ28 (((i0 + 2) + 73 + 5 * (Int32.toNatClampNeg x22)) + 1) 0) = 0) → (wp_X1_baseAgain τ28 (((i0 + 2) + 73 + 5 * (Int32.toNatClampNeg x22)) + 1) (fun τ33 x34 => wp_X6_sendThing τ33 i0 x22 x34 (fun τ35 => ∀ x36 : Int32, x36 = x22 + 1 → I23 τ35 x36 ∧ u23 τ35 x36 < u23 τ21 x22)))) ∧ (((τ28 (((i0 + 2) + 73 + 5 * (Int32.toNatClampNeg x22)) + 1) 0) = 0) → (wp_X6_sendHello τ28 i0 x22 (fun τ37 => ∀ x38 : Int32, x38 = x22 + 1 → I23 τ37 x38 ∧ u23 τ37 x38 < u23 τ21 x22))))))))))))
theorem mw_X6_letTimersRunOut_0 : Cond.fieldLink RX6 29 "TidePost$Traffic" "made" "I" ∈ wsX6_letTimersRunOut := List.mem_of_getElem? (i := 1) rfl
theorem mw_X6_letTimersRunOut_1 : Cond.fieldLink RX6 19 "TidePost$Traffic" "all" "[LTidePost$Connection;" ∈ wsX6_letTimersRunOut := List.mem_of_getElem? (i := 2) rfl
theorem mw_X6_letTimersRunOut_2 : Cond.fieldLink RX6 48 "TidePost$Connection" "caller" "LTidePost$Caller;" ∈ wsX6_letTimersRunOut := List.mem_of_getElem? (i := 3) rfl
theorem mw_X6_letTimersRunOut_3 : Cond.fieldLink RX6 138 "TidePost$Caller" "timer" "I" ∈ wsX6_letTimersRunOut := List.mem_of_getElem? (i := 4) rfl
theorem mw_X6_letTimersRunOut_4 : Cond.fieldLink RX6 52 "TidePost$Traffic" "clock" "I" ∈ wsX6_letTimersRunOut := List.mem_of_getElem? (i := 5) rfl
theorem mw_X6_letTimersRunOut_5 : Cond.fieldLink RX6 145 "TidePost$Caller" "state" "I" ∈ wsX6_letTimersRunOut := List.mem_of_getElem? (i := 6) rfl
theorem in_X6_letTimersRunOut_X6 : ∀ x ∈ wsX60, x ∈ wsX6_letTimersRunOut := fun _ h => List.mem_cons_of_mem _ (List.mem_append_left _ (List.mem_append_left _ (List.mem_append_left _ (List.mem_append_left _ (List.mem_append_left _ (List.mem_append_right _ h))))))
theorem in_X6_letTimersRunOut_X2 : ∀ x ∈ wsX20, x ∈ wsX6_letTimersRunOut := fun _ h => List.mem_cons_of_mem _ (List.mem_append_left _ (List.mem_append_left _ (List.mem_append_left _ (List.mem_append_left _ (List.mem_append_right _ h)))))
theorem in_X6_letTimersRunOut_X1 : ∀ x ∈ wsX10, x ∈ wsX6_letTimersRunOut := fun _ h => List.mem_cons_of_mem _ (List.mem_append_left _ (List.mem_append_left _ (List.mem_append_left _ (List.mem_append_right _ h))))
set_option maxHeartbeats 4000000 in
set_option maxRecDepth 100000 in
theorem c_X6_letTimersRunOut (w : WPar) (τ : TS) (i0 : Nat) (K : TS → Prop) (h0 : tp_is w i0 5) (hw : wp_X6_letTimersRunOut τ i0 K) : MV w yX6_letTimersRunOut wsX6_letTimersRunOut 4 97 [.ref (w.1 i0)] τ K := by
  refine tp_enterV (cc := cX6_letTimersRunOut) (maxL := 3) (own := RX6) (by decide) rfl rfl (Nat.le_of_ble_eq_true rfl) (fun g C hR => ?_)
  show Zt w g τ (0, 0) 0 [(0, .ref (w.1 i0))] []
  unfold wp_X6_letTimersRunOut at hw
  refine z_iconst C 0 (by decide) dX6_letTimersRunOut_0 ?_
  refine z_istore_n C [(1, .int 0), (0, .ref (w.1 i0))] dX6_letTimersRunOut_1 (by decide) rfl ?_
  obtain ⟨I23, u23, hI23, hs23⟩ := hw
  have lp23 : ∀ (n23 : Nat) (τ21 : TS) (x22 : Int32), u23 τ21 x22 < n23 → I23 τ21 x22 → Zt w g τ21 (0, 0) 2 [(0, .ref (w.1 i0)), (1, .int x22)] [] := by
    intro n23
    induction n23 with
    | zero => intro τ21 x22 hlt23; exact absurd hlt23 (Nat.not_lt_zero _)
    | succ n23 ih23 =>
      intro τ21 x22 hlt23 hh23
      have hw := hs23 τ21 x22 hh23
      refine z_iload_n C 1 (by rfl) dX6_letTimersRunOut_2 ?_
      refine z_aload_n C 0 (by rfl) dX6_letTimersRunOut_3 ?_
      refine z_get C (Cn := RX6) (T := TX6) (N := 6) (ci := 5) h0.2 3 (tE5 h0.1) in_X6_letTimersRunOut_X6 rfl (by decide) mw_X6_letTimersRunOut_0 rfl rfl dX6_letTimersRunOut_4 ?_
      refine z_icmp_ge (tgt := 72) C dX6_letTimersRunOut_7 (by decide) (fun c24 => ?_) (fun c24 => ?_)
      · have hw := hw.1 c24
        exact hR _ _ _ dX6_letTimersRunOut_72 hw
      · have hw := hw.2 c24
        refine z_aload_n C 0 (by rfl) dX6_letTimersRunOut_10 ?_
        refine z_get C (Cn := RX6) (T := TX6) (N := 6) (ci := 5) h0.2 2 (tE5 h0.1) in_X6_letTimersRunOut_X6 rfl (by decide) mw_X6_letTimersRunOut_1 rfl rfl dX6_letTimersRunOut_11 ?_
        refine z_iload_n C 1 (by rfl) dX6_letTimersRunOut_14 ?_
        obtain ⟨s25, hw⟩ := hw
        refine z_aald_q3 C (tR5_2 h0).2 (tE16 (tR5_2 h0).1) s25 (if_pos (tp_lt s25)) dX6_letTimersRunOut_15 ?_
        refine z_get C (Cn := RX2) (T := TX2) (N := 4) (ci := 2) (tR16 (tR5_2 h0) (tp_lt s25)).2 2 (tE2 (tR16 (tR5_2 h0) (tp_lt s25)).1) in_X6_letTimersRunOut_X2 rfl (by decide) mw_X6_letTimersRunOut_2 rfl rfl dX6_letTimersRunOut_16 ?_
        refine z_astore_n C [(2, .ref (w.1 (((i0 + 2) + 73 + 5 * (Int32.toNatClampNeg x22)) + 1))), (0, .ref (w.1 i0)), (1, .int x22)] dX6_letTimersRunOut_19 (by decide) rfl ?_
        refine z_aload_n C 0 (by rfl) dX6_letTimersRunOut_20 ?_
        refine z_get C (Cn := RX1) (T := TX1) (N := 14) (ci := 1) (tR2_2 (tR16 (tR5_2 h0) (tp_lt s25))).2 10 (tE1 (tR2_2 (tR16 (tR5_2 h0) (tp_lt s25))).1) in_X6_letTimersRunOut_X1 rfl (by decide) mw_X6_letTimersRunOut_3 rfl rfl dX6_letTimersRunOut_21 ?_
        refine z_aload_n C 1 (by rfl) dX6_letTimersRunOut_24 ?_
        refine z_get C (Cn := RX6) (T := TX6) (N := 6) (ci := 5) h0.2 4 (tE5 h0.1) in_X6_letTimersRunOut_X6 rfl (by decide) mw_X6_letTimersRunOut_4 rfl rfl dX6_letTimersRunOut_25 ?_
        refine z_icmp_ne (tgt := 66) C dX6_letTimersRunOut_28 (by decide) (fun c26 => ?_) (fun c26 => ?_)
        · have hw := hw.1 c26
          obtain ⟨x27, ex27⟩ : ∃ z : Int32, z = x22 + 1 := ⟨_, rfl⟩
          have hw := hw x27 ex27
          refine z_iinc C 2 x27 [(1, .int x27), (2, .ref (w.1 (((i0 + 2) + 73 + 5 * (Int32.toNatClampNeg x22)) + 1))), (0, .ref (w.1 i0))] dX6_letTimersRunOut_66 (by rfl) (by rw [ex27]; rfl) (by decide) rfl ?_
          refine z_goto (tgt := 2) C dX6_letTimersRunOut_69 (by decide) ?_
          refine z_sub [2, 0] [(0, .ref (w.1 i0)), (1, .int x27)] rfl ?_
          exact ih23 τ21 x27 (Nat.lt_of_lt_of_le hw.2 (Nat.le_of_lt_succ hlt23)) hw.1
        · have hw := hw.2 c26
          refine z_aload_n C 0 (by rfl) dX6_letTimersRunOut_31 ?_
          refine z_aload_n C 1 (by rfl) dX6_letTimersRunOut_32 ?_
          refine z_get C (Cn := RX6) (T := TX6) (N := 6) (ci := 5) h0.2 4 (tE5 h0.1) in_X6_letTimersRunOut_X6 rfl (by decide) mw_X6_letTimersRunOut_4 rfl rfl dX6_letTimersRunOut_33 ?_
          refine zv_i C (As := [.int (τ21 i0 4)]) (bytes := cX1_runOut) (maxL := 2) (F1 := 2) (L1 := 34) (c_X1_runOut w _ (((i0 + 2) + 73 + 5 * (Int32.toNatClampNeg x22)) + 1) (τ21 i0 4) _ (tR2_2 (tR16 (tR5_2 h0) (tp_lt s25))) hw) (tR2_2 (tR16 (tR5_2 h0) (tp_lt s25))).2 (tE1 (tR2_2 (tR16 (tR5_2 h0) (tp_lt s25))).1) rfl 1 gX6_letTimersRunOut_X1_runOut rfl (by decide +kernel) ⟨Nat.le_of_ble_eq_true rfl, Nat.le_of_ble_eq_true rfl⟩ rfl (Nat.le_of_ble_eq_true rfl) ⟨Nat.le_of_ble_eq_true rfl, Nat.le_of_ble_eq_true rfl⟩ rfl dX6_letTimersRunOut_36 (fun x29 τ28 hw => ?_)
          refine z_if_eq (tgt := 66) C dX6_letTimersRunOut_39 (by decide) (fun c30 => ?_) (fun c30 => ?_)
          · have hw := hw.1 c30
            obtain ⟨x31, ex31⟩ : ∃ z : Int32, z = x22 + 1 := ⟨_, rfl⟩
            have hw := hw x31 ex31
            refine z_iinc C 2 x31 [(1, .int x31), (2, .ref (w.1 (((i0 + 2) + 73 + 5 * (Int32.toNatClampNeg x22)) + 1))), (0, .ref (w.1 i0))] dX6_letTimersRunOut_66 (by rfl) (by rw [ex31]; rfl) (by decide) rfl ?_
            refine z_goto (tgt := 2) C dX6_letTimersRunOut_69 (by decide) ?_
            refine z_sub [2, 0] [(0, .ref (w.1 i0)), (1, .int x31)] rfl ?_
            exact ih23 τ28 x31 (Nat.lt_of_lt_of_le hw.2 (Nat.le_of_lt_succ hlt23)) hw.1
          · have hw := hw.2 c30
            refine z_aload_n C 0 (by rfl) dX6_letTimersRunOut_42 ?_
            refine z_get C (Cn := RX1) (T := TX1) (N := 14) (ci := 1) (tR2_2 (tR16 (tR5_2 h0) (tp_lt s25))).2 0 (tE1 (tR2_2 (tR16 (tR5_2 h0) (tp_lt s25))).1) in_X6_letTimersRunOut_X1 rfl (by decide) mw_X6_letTimersRunOut_5 rfl rfl dX6_letTimersRunOut_43 ?_
            refine z_if_ne (tgt := 57) C dX6_letTimersRunOut_46 (by decide) (fun c32 => ?_) (fun c32 => ?_)
            · have hw := hw.1 c32
              refine z_aload_n C 1 (by rfl) dX6_letTimersRunOut_57 ?_
              refine z_iload_n C 2 (by rfl) dX6_letTimersRunOut_58 ?_
              refine z_aload_n C 0 (by rfl) dX6_letTimersRunOut_59 ?_
              refine zv_i C (As := []) (bytes := cX1_baseAgain) (maxL := 1) (F1 := 1) (L1 := 21) (c_X1_baseAgain w _ (((i0 + 2) + 73 + 5 * (Int32.toNatClampNeg x22)) + 1) _ (tR2_2 (tR16 (tR5_2 h0) (tp_lt s25))) hw) (tR2_2 (tR16 (tR5_2 h0) (tp_lt s25))).2 (tE1 (tR2_2 (tR16 (tR5_2 h0) (tp_lt s25))).1) rfl 0 gX6_letTimersRunOut_X1_baseAgain rfl (by decide +kernel) ⟨Nat.le_of_ble_eq_true rfl, Nat.le_of_ble_eq_true rfl⟩ rfl (Nat.le_of_ble_eq_true rfl) ⟨Nat.le_of_ble_eq_true rfl, Nat.le_of_ble_eq_true rfl⟩ rfl dX6_letTimersRunOut_60 (fun x34 τ33 hw => ?_)
              refine zv_v C (As := [.int x22, .int x34]) (bytes := cX6_sendThing) (maxL := 6) (F1 := 3) (L1 := 72) (c_X6_sendThing w _ i0 x22 x34 _ h0 hw) h0.2 (tE5 h0.1) rfl 2 gX6_letTimersRunOut_X6_sendThing rfl (by decide +kernel) ⟨Nat.le_of_ble_eq_true rfl, Nat.le_of_ble_eq_true rfl⟩ rfl (Nat.le_of_ble_eq_true rfl) ⟨Nat.le_of_ble_eq_true rfl, Nat.le_of_ble_eq_true rfl⟩ rfl dX6_letTimersRunOut_63 (fun τ35 hw => ?_)
              obtain ⟨x36, ex36⟩ : ∃ z : Int32, z = x22 + 1 := ⟨_, rfl⟩
              have hw := hw x36 ex36
              refine z_iinc C 2 x36 [(1, .int x36), (2, .ref (w.1 (((i0 + 2) + 73 + 5 * (Int32.toNatClampNeg x22)) + 1))), (0, .ref (w.1 i0))] dX6_letTimersRunOut_66 (by rfl) (by rw [ex36]; rfl) (by decide) rfl ?_
              refine z_goto (tgt := 2) C dX6_letTimersRunOut_69 (by decide) ?_
              refine z_sub [2, 0] [(0, .ref (w.1 i0)), (1, .int x36)] rfl ?_
              exact ih23 τ35 x36 (Nat.lt_of_lt_of_le hw.2 (Nat.le_of_lt_succ hlt23)) hw.1
            · have hw := hw.2 c32
              refine z_aload_n C 1 (by rfl) dX6_letTimersRunOut_49 ?_
              refine z_iload_n C 2 (by rfl) dX6_letTimersRunOut_50 ?_
              refine zv_v C (As := [.int x22]) (bytes := cX6_sendHello) (maxL := 4) (F1 := 3) (L1 := 72) (c_X6_sendHello w _ i0 x22 _ h0 hw) h0.2 (tE5 h0.1) rfl 1 gX6_letTimersRunOut_X6_sendHello rfl (by decide +kernel) ⟨Nat.le_of_ble_eq_true rfl, Nat.le_of_ble_eq_true rfl⟩ rfl (Nat.le_of_ble_eq_true rfl) ⟨Nat.le_of_ble_eq_true rfl, Nat.le_of_ble_eq_true rfl⟩ rfl dX6_letTimersRunOut_51 (fun τ37 hw => ?_)
              refine z_goto (tgt := 66) C dX6_letTimersRunOut_54 (by decide) ?_
              obtain ⟨x38, ex38⟩ : ∃ z : Int32, z = x22 + 1 := ⟨_, rfl⟩
              have hw := hw x38 ex38
              refine z_iinc C 2 x38 [(1, .int x38), (2, .ref (w.1 (((i0 + 2) + 73 + 5 * (Int32.toNatClampNeg x22)) + 1))), (0, .ref (w.1 i0))] dX6_letTimersRunOut_66 (by rfl) (by rw [ex38]; rfl) (by decide) rfl ?_
              refine z_goto (tgt := 2) C dX6_letTimersRunOut_69 (by decide) ?_
              refine z_sub [2, 0] [(0, .ref (w.1 i0)), (1, .int x38)] rfl ?_
              exact ih23 τ37 x38 (Nat.lt_of_lt_of_le hw.2 (Nat.le_of_lt_succ hlt23)) hw.1
  refine z_sub [1, 0] [(0, .ref (w.1 i0)), (1, .int 0)] rfl ?_
  exact lp23 _ τ 0 (Nat.lt_succ_self _) hI23
def wp_X6_letCallersSend (τ : TS) (i0 : Nat) (K : TS → Prop) : Prop :=
  ∃ (I23 : TS → Int32 → Prop) (u23 : TS → Int32 → Nat), I23 τ 0 ∧ ∀ (τ21 : TS) (x22 : Int32), I23 τ21 x22 → ((((τ21 i0 3) ≤ x22) → (K τ21)) ∧ ((¬ (τ21 i0 3) ≤ x22) → (vp_in x22 6 ∧ (∃ (I28 : TS → Int32 → Prop) (u28 : TS → Int32 → Nat), I28 τ21 0 ∧ ∀ (τ26 : TS) (x27 : Int32), I28 τ26 x27 → (((201 ≤ x27) → (∀ x30 : Int32, x30 = x22 + 1 → I23 τ26 x30 ∧ u23 τ26 x30 < u23 τ21 x22)) ∧ ((¬ 201 ≤ x27) → (wp_X1_maySend τ26 (((i0 + 2) + 73 + 5 * (Int32.toNatClampNeg x22)) + 1) (fun τ31 x32 => ((x32 = 0) → (∀ x34 : Int32, x34 = x22 + 1 → I23 τ31 x34 ∧ u23 τ31 x34 < u23 τ21 x22)) ∧ ((¬ x32 = 0) → (wp_X6_sendThing τ31 i0 x22 (τ31 (((i0 + 2) + 73 + 5 * (Int32.toNatClampNeg x22)) + 1) 4) (fun τ35 => wp_X1_sent τ35 (((i0 + 2) + 73 + 5 * (Int32.toNatClampNeg x22)) + 1) (τ35 i0 4) (fun τ36 => ∀ x37 : Int32, x37 = x27 + 1 → I28 τ36 x37 ∧ u28 τ36 x37 < u28 τ26 x27))))))))))))
theorem mw_X6_letCallersSend_0 : Cond.fieldLink RX6 29 "TidePost$Traffic" "made" "I" ∈ wsX6_letCallersSend := List.mem_of_getElem? (i := 1) rfl
theorem mw_X6_letCallersSend_1 : Cond.fieldLink RX6 19 "TidePost$Traffic" "all" "[LTidePost$Connection;" ∈ wsX6_letCallersSend := List.mem_of_getElem? (i := 2) rfl
theorem mw_X6_letCallersSend_2 : Cond.fieldLink RX6 48 "TidePost$Connection" "caller" "LTidePost$Caller;" ∈ wsX6_letCallersSend := List.mem_of_getElem? (i := 3) rfl
theorem mw_X6_letCallersSend_3 : Cond.fieldLink RX6 152 "TidePost$Caller" "next" "I" ∈ wsX6_letCallersSend := List.mem_of_getElem? (i := 4) rfl
theorem mw_X6_letCallersSend_4 : Cond.fieldLink RX6 52 "TidePost$Traffic" "clock" "I" ∈ wsX6_letCallersSend := List.mem_of_getElem? (i := 5) rfl
theorem in_X6_letCallersSend_X6 : ∀ x ∈ wsX60, x ∈ wsX6_letCallersSend := fun _ h => List.mem_cons_of_mem _ (List.mem_append_left _ (List.mem_append_left _ (List.mem_append_left _ (List.mem_append_left _ (List.mem_append_left _ (List.mem_append_right _ h))))))
theorem in_X6_letCallersSend_X2 : ∀ x ∈ wsX20, x ∈ wsX6_letCallersSend := fun _ h => List.mem_cons_of_mem _ (List.mem_append_left _ (List.mem_append_left _ (List.mem_append_left _ (List.mem_append_left _ (List.mem_append_right _ h)))))
theorem in_X6_letCallersSend_X1 : ∀ x ∈ wsX10, x ∈ wsX6_letCallersSend := fun _ h => List.mem_cons_of_mem _ (List.mem_append_left _ (List.mem_append_left _ (List.mem_append_left _ (List.mem_append_right _ h))))
set_option maxHeartbeats 4000000 in
set_option maxRecDepth 100000 in
theorem c_X6_letCallersSend (w : WPar) (τ : TS) (i0 : Nat) (K : TS → Prop) (h0 : tp_is w i0 5) (hw : wp_X6_letCallersSend τ i0 K) : MV w yX6_letCallersSend wsX6_letCallersSend 4 97 [.ref (w.1 i0)] τ K := by
  refine tp_enterV (cc := cX6_letCallersSend) (maxL := 4) (own := RX6) (by decide) rfl rfl (Nat.le_of_ble_eq_true rfl) (fun g C hR => ?_)
  show Zt w g τ (0, 0) 0 [(0, .ref (w.1 i0))] []
  unfold wp_X6_letCallersSend at hw
  refine z_iconst C 0 (by decide) dX6_letCallersSend_0 ?_
  refine z_istore_n C [(1, .int 0), (0, .ref (w.1 i0))] dX6_letCallersSend_1 (by decide) rfl ?_
  obtain ⟨I23, u23, hI23, hs23⟩ := hw
  have lp23 : ∀ (n23 : Nat) (τ21 : TS) (x22 : Int32), u23 τ21 x22 < n23 → I23 τ21 x22 → Zt w g τ21 (0, 0) 2 [(0, .ref (w.1 i0)), (1, .int x22)] [] := by
    intro n23
    induction n23 with
    | zero => intro τ21 x22 hlt23; exact absurd hlt23 (Nat.not_lt_zero _)
    | succ n23 ih23 =>
      intro τ21 x22 hlt23 hh23
      have hw := hs23 τ21 x22 hh23
      refine z_iload_n C 1 (by rfl) dX6_letCallersSend_2 ?_
      refine z_aload_n C 0 (by rfl) dX6_letCallersSend_3 ?_
      refine z_get C (Cn := RX6) (T := TX6) (N := 6) (ci := 5) h0.2 3 (tE5 h0.1) in_X6_letCallersSend_X6 rfl (by decide) mw_X6_letCallersSend_0 rfl rfl dX6_letCallersSend_4 ?_
      refine z_icmp_ge (tgt := 65) C dX6_letCallersSend_7 (by decide) (fun c24 => ?_) (fun c24 => ?_)
      · have hw := hw.1 c24
        exact hR _ _ _ dX6_letCallersSend_65 hw
      · have hw := hw.2 c24
        refine z_aload_n C 0 (by rfl) dX6_letCallersSend_10 ?_
        refine z_get C (Cn := RX6) (T := TX6) (N := 6) (ci := 5) h0.2 2 (tE5 h0.1) in_X6_letCallersSend_X6 rfl (by decide) mw_X6_letCallersSend_1 rfl rfl dX6_letCallersSend_11 ?_
        refine z_iload_n C 1 (by rfl) dX6_letCallersSend_14 ?_
        obtain ⟨s25, hw⟩ := hw
        refine z_aald_q3 C (tR5_2 h0).2 (tE16 (tR5_2 h0).1) s25 (if_pos (tp_lt s25)) dX6_letCallersSend_15 ?_
        refine z_get C (Cn := RX2) (T := TX2) (N := 4) (ci := 2) (tR16 (tR5_2 h0) (tp_lt s25)).2 2 (tE2 (tR16 (tR5_2 h0) (tp_lt s25)).1) in_X6_letCallersSend_X2 rfl (by decide) mw_X6_letCallersSend_2 rfl rfl dX6_letCallersSend_16 ?_
        refine z_astore_n C [(2, .ref (w.1 (((i0 + 2) + 73 + 5 * (Int32.toNatClampNeg x22)) + 1))), (0, .ref (w.1 i0)), (1, .int x22)] dX6_letCallersSend_19 (by decide) rfl ?_
        refine z_iconst C 0 (by decide) dX6_letCallersSend_20 ?_
        refine z_istore_n C [(3, .int 0), (2, .ref (w.1 (((i0 + 2) + 73 + 5 * (Int32.toNatClampNeg x22)) + 1))), (0, .ref (w.1 i0)), (1, .int x22)] dX6_letCallersSend_21 (by decide) rfl ?_
        obtain ⟨I28, u28, hI28, hs28⟩ := hw
        have lp28 : ∀ (n28 : Nat) (τ26 : TS) (x27 : Int32), u28 τ26 x27 < n28 → I28 τ26 x27 → Zt w g τ26 (0, 0) 22 [(0, .ref (w.1 i0)), (1, .int x22), (2, .ref (w.1 (((i0 + 2) + 73 + 5 * (Int32.toNatClampNeg x22)) + 1))), (3, .int x27)] [] := by
          intro n28
          induction n28 with
          | zero => intro τ26 x27 hlt28; exact absurd hlt28 (Nat.not_lt_zero _)
          | succ n28 ih28 =>
            intro τ26 x27 hlt28 hh28
            have hw := hs28 τ26 x27 hh28
            refine z_iload_n C 3 (by rfl) dX6_letCallersSend_22 ?_
            refine z_sipush C 201 (by decide) dX6_letCallersSend_23 ?_
            refine z_icmp_ge (tgt := 59) C dX6_letCallersSend_26 (by decide) (fun c29 => ?_) (fun c29 => ?_)
            · have hw := hw.1 c29
              obtain ⟨x30, ex30⟩ : ∃ z : Int32, z = x22 + 1 := ⟨_, rfl⟩
              have hw := hw x30 ex30
              refine z_iinc C 1 x30 [(1, .int x30), (0, .ref (w.1 i0)), (2, .ref (w.1 (((i0 + 2) + 73 + 5 * (Int32.toNatClampNeg x22)) + 1))), (3, .int x27)] dX6_letCallersSend_59 (by rfl) (by rw [ex30]; rfl) (by decide) rfl ?_
              refine z_goto (tgt := 2) C dX6_letCallersSend_62 (by decide) ?_
              refine z_sub [1, 0] [(0, .ref (w.1 i0)), (1, .int x30)] rfl ?_
              exact ih23 τ26 x30 (Nat.lt_of_lt_of_le hw.2 (Nat.le_of_lt_succ hlt23)) hw.1
            · have hw := hw.2 c29
              refine z_aload_n C 2 (by rfl) dX6_letCallersSend_29 ?_
              refine zv_i C (As := []) (bytes := cX1_maySend) (maxL := 3) (F1 := 1) (L1 := 20) (c_X1_maySend w _ (((i0 + 2) + 73 + 5 * (Int32.toNatClampNeg x22)) + 1) _ (tR2_2 (tR16 (tR5_2 h0) (tp_lt s25))) hw) (tR2_2 (tR16 (tR5_2 h0) (tp_lt s25))).2 (tE1 (tR2_2 (tR16 (tR5_2 h0) (tp_lt s25))).1) rfl 0 gX6_letCallersSend_X1_maySend rfl (by decide +kernel) ⟨Nat.le_of_ble_eq_true rfl, Nat.le_of_ble_eq_true rfl⟩ rfl (Nat.le_of_ble_eq_true rfl) ⟨Nat.le_of_ble_eq_true rfl, Nat.le_of_ble_eq_true rfl⟩ rfl dX6_letCallersSend_30 (fun x32 τ31 hw => ?_)
              refine z_if_eq (tgt := 59) C dX6_letCallersSend_33 (by decide) (fun c33 => ?_) (fun c33 => ?_)
              · have hw := hw.1 c33
                obtain ⟨x34, ex34⟩ : ∃ z : Int32, z = x22 + 1 := ⟨_, rfl⟩
                have hw := hw x34 ex34
                refine z_iinc C 1 x34 [(1, .int x34), (0, .ref (w.1 i0)), (2, .ref (w.1 (((i0 + 2) + 73 + 5 * (Int32.toNatClampNeg x22)) + 1))), (3, .int x27)] dX6_letCallersSend_59 (by rfl) (by rw [ex34]; rfl) (by decide) rfl ?_
                refine z_goto (tgt := 2) C dX6_letCallersSend_62 (by decide) ?_
                refine z_sub [1, 0] [(0, .ref (w.1 i0)), (1, .int x34)] rfl ?_
                exact ih23 τ31 x34 (Nat.lt_of_lt_of_le hw.2 (Nat.le_of_lt_succ hlt23)) hw.1
              · have hw := hw.2 c33
                refine z_aload_n C 0 (by rfl) dX6_letCallersSend_36 ?_
                refine z_iload_n C 1 (by rfl) dX6_letCallersSend_37 ?_
                refine z_aload_n C 2 (by rfl) dX6_letCallersSend_38 ?_
                refine z_get C (Cn := RX1) (T := TX1) (N := 14) (ci := 1) (tR2_2 (tR16 (tR5_2 h0) (tp_lt s25))).2 4 (tE1 (tR2_2 (tR16 (tR5_2 h0) (tp_lt s25))).1) in_X6_letCallersSend_X1 rfl (by decide) mw_X6_letCallersSend_3 rfl rfl dX6_letCallersSend_39 ?_
                refine zv_v C (As := [.int x22, .int (τ31 (((i0 + 2) + 73 + 5 * (Int32.toNatClampNeg x22)) + 1) 4)]) (bytes := cX6_sendThing) (maxL := 6) (F1 := 3) (L1 := 72) (c_X6_sendThing w _ i0 x22 (τ31 (((i0 + 2) + 73 + 5 * (Int32.toNatClampNeg x22)) + 1) 4) _ h0 hw) h0.2 (tE5 h0.1) rfl 2 gX6_letCallersSend_X6_sendThing rfl (by decide +kernel) ⟨Nat.le_of_ble_eq_true rfl, Nat.le_of_ble_eq_true rfl⟩ rfl (Nat.le_of_ble_eq_true rfl) ⟨Nat.le_of_ble_eq_true rfl, Nat.le_of_ble_eq_true rfl⟩ rfl dX6_letCallersSend_42 (fun τ35 hw => ?_)
                refine z_aload_n C 2 (by rfl) dX6_letCallersSend_45 ?_
                refine z_aload_n C 0 (by rfl) dX6_letCallersSend_46 ?_
                refine z_get C (Cn := RX6) (T := TX6) (N := 6) (ci := 5) h0.2 4 (tE5 h0.1) in_X6_letCallersSend_X6 rfl (by decide) mw_X6_letCallersSend_4 rfl rfl dX6_letCallersSend_47 ?_
                refine zv_v C (As := [.int (τ35 i0 4)]) (bytes := cX1_sent) (maxL := 2) (F1 := 1) (L1 := 22) (c_X1_sent w _ (((i0 + 2) + 73 + 5 * (Int32.toNatClampNeg x22)) + 1) (τ35 i0 4) _ (tR2_2 (tR16 (tR5_2 h0) (tp_lt s25))) hw) (tR2_2 (tR16 (tR5_2 h0) (tp_lt s25))).2 (tE1 (tR2_2 (tR16 (tR5_2 h0) (tp_lt s25))).1) rfl 1 gX6_letCallersSend_X1_sent rfl (by decide +kernel) ⟨Nat.le_of_ble_eq_true rfl, Nat.le_of_ble_eq_true rfl⟩ rfl (Nat.le_of_ble_eq_true rfl) ⟨Nat.le_of_ble_eq_true rfl, Nat.le_of_ble_eq_true rfl⟩ rfl dX6_letCallersSend_50 (fun τ36 hw => ?_)
                obtain ⟨x37, ex37⟩ : ∃ z : Int32, z = x27 + 1 := ⟨_, rfl⟩
                have hw := hw x37 ex37
                refine z_iinc C 3 x37 [(3, .int x37), (0, .ref (w.1 i0)), (1, .int x22), (2, .ref (w.1 (((i0 + 2) + 73 + 5 * (Int32.toNatClampNeg x22)) + 1)))] dX6_letCallersSend_53 (by rfl) (by rw [ex37]; rfl) (by decide) rfl ?_
                refine z_goto (tgt := 22) C dX6_letCallersSend_56 (by decide) ?_
                refine z_sub [1, 2, 3, 0] [(0, .ref (w.1 i0)), (1, .int x22), (2, .ref (w.1 (((i0 + 2) + 73 + 5 * (Int32.toNatClampNeg x22)) + 1))), (3, .int x37)] rfl ?_
                exact ih28 τ36 x37 (Nat.lt_of_lt_of_le hw.2 (Nat.le_of_lt_succ hlt28)) hw.1
        refine z_sub [2, 3, 1, 0] [(0, .ref (w.1 i0)), (1, .int x22), (2, .ref (w.1 (((i0 + 2) + 73 + 5 * (Int32.toNatClampNeg x22)) + 1))), (3, .int 0)] rfl ?_
        exact lp28 _ τ21 0 (Nat.lt_succ_self _) hI28
  refine z_sub [1, 0] [(0, .ref (w.1 i0)), (1, .int 0)] rfl ?_
  exact lp23 _ τ 0 (Nat.lt_succ_self _) hI23
def wp_X6_letTakeOff (τ : TS) (i0 : Nat) (K : TS → Prop) : Prop :=
  ∃ (I23 : TS → Int32 → Prop) (u23 : TS → Int32 → Nat), I23 τ 0 ∧ ∀ (τ21 : TS) (x22 : Int32), I23 τ21 x22 → ((((τ21 1 1) ≤ x22) → (K τ21)) ∧ ((¬ (τ21 1 1) ≤ x22) → (vp_in x22 12 ∧ ((((τ21 6 (Int32.toNatClampNeg x22)) = 0) → (∀ x27 : Int32, x27 = x22 + 1 → I23 τ21 x27 ∧ u23 τ21 x27 < u23 τ21 x22)) ∧ ((¬ (τ21 6 (Int32.toNatClampNeg x22)) = 0) → (vp_in x22 12 ∧ (∀ x29 : Int32, x29 = ((τ21 i0 4) + (τ21 4 (Int32.toNatClampNeg x22))) → vp_in (2 * x22) 24 ∧ (wp_X7_takeOff τ21 ((i0 + 1) + 2 + 3 * (Int32.toNatClampNeg (2 * x22))) x29 (fun τ31 x32 => ∃ J33 : Int32 → Prop, (∀ (x34 : Int32), J33 x34 → (∀ τ35 : TS, τ35 = tp_up τ31 i0 5 ((τ21 i0 5) + x34) → vp_in ((2 * x22) + 1) 24 ∧ (wp_X7_takeOff τ35 ((i0 + 1) + 2 + 3 * (Int32.toNatClampNeg ((2 * x22) + 1))) x29 (fun τ37 x38 => ((x38 = 0) → (∀ τ40 : TS, τ40 = tp_up τ37 i0 5 ((τ35 i0 5) + 0) → ∀ x41 : Int32, x41 = x22 + 1 → I23 τ40 x41 ∧ u23 τ40 x41 < u23 τ21 x22)) ∧ ((¬ x38 = 0) → (∀ τ42 : TS, τ42 = tp_up τ37 i0 5 ((τ35 i0 5) + 1) → ∀ x43 : Int32, x43 = x22 + 1 → I23 τ42 x43 ∧ u23 τ42 x43 < u23 τ21 x22)))))) ∧ (((x32 = 0) → (J33 0)) ∧ ((¬ x32 = 0) → (J33 1))))))))))))
theorem mw_X6_letTakeOff_0 : Cond.fieldLink RX6 23 "TidePost$Traffic" "net" "LTidePost$Net;" ∈ wsX6_letTakeOff := List.mem_of_getElem? (i := 1) rfl
theorem mw_X6_letTakeOff_1 : Cond.fieldLink RX6 84 "TidePost$Net" "links" "I" ∈ wsX6_letTakeOff := List.mem_of_getElem? (i := 2) rfl
theorem mw_X6_letTakeOff_2 : Cond.fieldLink RX6 158 "TidePost$Net" "up" "[Z" ∈ wsX6_letTakeOff := List.mem_of_getElem? (i := 3) rfl
theorem mw_X6_letTakeOff_3 : Cond.fieldLink RX6 52 "TidePost$Traffic" "clock" "I" ∈ wsX6_letTakeOff := List.mem_of_getElem? (i := 4) rfl
theorem mw_X6_letTakeOff_4 : Cond.fieldLink RX6 162 "TidePost$Net" "delays" "[I" ∈ wsX6_letTakeOff := List.mem_of_getElem? (i := 5) rfl
theorem mw_X6_letTakeOff_5 : Cond.fieldLink RX6 69 "TidePost$Traffic" "lost" "I" ∈ wsX6_letTakeOff := List.mem_of_getElem? (i := 6) rfl
theorem mw_X6_letTakeOff_6 : Cond.fieldLink RX6 11 "TidePost$Traffic" "ways" "[LTidePost$Way;" ∈ wsX6_letTakeOff := List.mem_of_getElem? (i := 7) rfl
theorem in_X6_letTakeOff_X6 : ∀ x ∈ wsX60, x ∈ wsX6_letTakeOff := fun _ h => List.mem_cons_of_mem _ (List.mem_append_left _ (List.mem_append_left _ (List.mem_append_right _ h)))
theorem in_X6_letTakeOff_X3 : ∀ x ∈ wsX30, x ∈ wsX6_letTakeOff := fun _ h => List.mem_cons_of_mem _ (List.mem_append_left _ (List.mem_append_right _ h))
set_option maxHeartbeats 4000000 in
set_option maxRecDepth 100000 in
theorem c_X6_letTakeOff (w : WPar) (τ : TS) (i0 : Nat) (K : TS → Prop) (h0 : tp_is w i0 5) (hw : wp_X6_letTakeOff τ i0 K) : MV w yX6_letTakeOff wsX6_letTakeOff 2 44 [.ref (w.1 i0)] τ K := by
  refine tp_enterV (cc := cX6_letTakeOff) (maxL := 3) (own := RX6) (by decide) rfl rfl (Nat.le_of_ble_eq_true rfl) (fun g C hR => ?_)
  show Zt w g τ (0, 0) 0 [(0, .ref (w.1 i0))] []
  unfold wp_X6_letTakeOff at hw
  refine z_iconst C 0 (by decide) dX6_letTakeOff_0 ?_
  refine z_istore_n C [(1, .int 0), (0, .ref (w.1 i0))] dX6_letTakeOff_1 (by decide) rfl ?_
  obtain ⟨I23, u23, hI23, hs23⟩ := hw
  have lp23 : ∀ (n23 : Nat) (τ21 : TS) (x22 : Int32), u23 τ21 x22 < n23 → I23 τ21 x22 → Zt w g τ21 (0, 0) 2 [(0, .ref (w.1 i0)), (1, .int x22)] [] := by
    intro n23
    induction n23 with
    | zero => intro τ21 x22 hlt23; exact absurd hlt23 (Nat.not_lt_zero _)
    | succ n23 ih23 =>
      intro τ21 x22 hlt23 hh23
      have hw := hs23 τ21 x22 hh23
      refine z_iload_n C 1 (by rfl) dX6_letTakeOff_2 ?_
      refine z_aload_n C 0 (by rfl) dX6_letTakeOff_3 ?_
      refine z_get C (Cn := RX6) (T := TX6) (N := 6) (ci := 5) h0.2 0 (tE5 h0.1) in_X6_letTakeOff_X6 rfl (by decide) mw_X6_letTakeOff_0 rfl rfl dX6_letTakeOff_4 ?_
      refine z_get C (Cn := RX3) (T := TX3) (N := 9) (ci := 3) (tR5_0 h0).2 1 (tE3 (tR5_0 h0).1) in_X6_letTakeOff_X3 rfl (by decide) mw_X6_letTakeOff_1 rfl rfl dX6_letTakeOff_7 ?_
      refine z_icmp_ge (tgt := 106) C dX6_letTakeOff_10 (by decide) (fun c24 => ?_) (fun c24 => ?_)
      · have hw := hw.1 c24
        exact hR _ _ _ dX6_letTakeOff_106 hw
      · have hw := hw.2 c24
        refine z_aload_n C 0 (by rfl) dX6_letTakeOff_13 ?_
        refine z_get C (Cn := RX6) (T := TX6) (N := 6) (ci := 5) h0.2 0 (tE5 h0.1) in_X6_letTakeOff_X6 rfl (by decide) mw_X6_letTakeOff_0 rfl rfl dX6_letTakeOff_14 ?_
        refine z_get C (Cn := RX3) (T := TX3) (N := 9) (ci := 3) (tR5_0 h0).2 6 (tE3 (tR5_0 h0).1) in_X6_letTakeOff_X3 rfl (by decide) mw_X6_letTakeOff_2 rfl rfl dX6_letTakeOff_17 ?_
        refine z_iload_n C 1 (by rfl) dX6_letTakeOff_20 ?_
        obtain ⟨s25, hw⟩ := hw
        refine z_zald C (tR3_6 (tR5_0 h0)).2 (tE12 (tR3_6 (tR5_0 h0)).1) s25 dX6_letTakeOff_21 ?_
        refine z_if_eq (tgt := 100) C dX6_letTakeOff_22 (by decide) (fun c26 => ?_) (fun c26 => ?_)
        · have hw := hw.1 c26
          obtain ⟨x27, ex27⟩ : ∃ z : Int32, z = x22 + 1 := ⟨_, rfl⟩
          have hw := hw x27 ex27
          refine z_iinc C 1 x27 [(1, .int x27), (0, .ref (w.1 i0))] dX6_letTakeOff_100 (by rfl) (by rw [ex27]; rfl) (by decide) rfl ?_
          refine z_goto (tgt := 2) C dX6_letTakeOff_103 (by decide) ?_
          refine z_sub [1, 0] [(0, .ref (w.1 i0)), (1, .int x27)] rfl ?_
          exact ih23 τ21 x27 (Nat.lt_of_lt_of_le hw.2 (Nat.le_of_lt_succ hlt23)) hw.1
        · have hw := hw.2 c26
          refine z_aload_n C 0 (by rfl) dX6_letTakeOff_25 ?_
          refine z_get C (Cn := RX6) (T := TX6) (N := 6) (ci := 5) h0.2 4 (tE5 h0.1) in_X6_letTakeOff_X6 rfl (by decide) mw_X6_letTakeOff_3 rfl rfl dX6_letTakeOff_26 ?_
          refine z_aload_n C 0 (by rfl) dX6_letTakeOff_29 ?_
          refine z_get C (Cn := RX6) (T := TX6) (N := 6) (ci := 5) h0.2 0 (tE5 h0.1) in_X6_letTakeOff_X6 rfl (by decide) mw_X6_letTakeOff_0 rfl rfl dX6_letTakeOff_30 ?_
          refine z_get C (Cn := RX3) (T := TX3) (N := 9) (ci := 3) (tR5_0 h0).2 4 (tE3 (tR5_0 h0).1) in_X6_letTakeOff_X3 rfl (by decide) mw_X6_letTakeOff_4 rfl rfl dX6_letTakeOff_33 ?_
          refine z_iload_n C 1 (by rfl) dX6_letTakeOff_36 ?_
          obtain ⟨s28, hw⟩ := hw
          refine z_iald C (tR3_4 (tR5_0 h0)).2 (tE11 (tR3_4 (tR5_0 h0)).1) s28 dX6_letTakeOff_37 ?_
          refine z_iadd C dX6_letTakeOff_38 ?_
          refine z_top (fun x29 ex29 => ?_)
          have hw := hw x29 ex29
          refine z_istore_n C [(2, .int x29), (0, .ref (w.1 i0)), (1, .int x22)] dX6_letTakeOff_39 (by decide) rfl ?_
          refine z_aload_n C 1 (by rfl) dX6_letTakeOff_40 ?_
          refine z_dup C rfl dX6_letTakeOff_41 ?_
          refine z_get C (Cn := RX6) (T := TX6) (N := 6) (ci := 5) h0.2 5 (tE5 h0.1) in_X6_letTakeOff_X6 rfl (by decide) mw_X6_letTakeOff_5 rfl rfl dX6_letTakeOff_42 ?_
          refine z_aload_n C 1 (by rfl) dX6_letTakeOff_45 ?_
          refine z_get C (Cn := RX6) (T := TX6) (N := 6) (ci := 5) h0.2 1 (tE5 h0.1) in_X6_letTakeOff_X6 rfl (by decide) mw_X6_letTakeOff_6 rfl rfl dX6_letTakeOff_46 ?_
          refine z_iconst C 2 (by decide) dX6_letTakeOff_49 ?_
          refine z_iload_n C 2 (by rfl) dX6_letTakeOff_50 ?_
          refine z_imul C dX6_letTakeOff_51 ?_
          obtain ⟨s30, hw⟩ := hw
          refine z_aald_q2 C (tR5_1 h0).2 (tE15 (tR5_1 h0).1) s30 (if_pos (tp_lt s30)) dX6_letTakeOff_52 ?_
          refine z_iload_n C 0 (by rfl) dX6_letTakeOff_53 ?_
          refine zv_i C (As := [.int x29]) (bytes := cX7_takeOff) (maxL := 3) (F1 := 1) (L1 := 22) (c_X7_takeOff w _ ((i0 + 1) + 2 + 3 * (Int32.toNatClampNeg (2 * x22))) x29 _ (tR15 (tR5_1 h0) (tp_lt s30)) hw) (tR15 (tR5_1 h0) (tp_lt s30)).2 (tE6 (tR15 (tR5_1 h0) (tp_lt s30)).1) rfl 1 gX6_letTakeOff_X7_takeOff rfl (by decide +kernel) ⟨Nat.le_of_ble_eq_true rfl, Nat.le_of_ble_eq_true rfl⟩ rfl (Nat.le_of_ble_eq_true rfl) ⟨Nat.le_of_ble_eq_true rfl, Nat.le_of_ble_eq_true rfl⟩ rfl dX6_letTakeOff_54 (fun x32 τ31 hw => ?_)
          obtain ⟨J33, hJ33, hw⟩ := hw
          have jn33 : ∀ (x34 : Int32), J33 x34 → Zt w g τ31 (0, 0) 65 [(0, .ref (w.1 i0)), (1, .int x22), (2, .int x29)] [.int x34, .int (τ21 i0 5), .ref (w.1 i0)] := by
            intro x34 hj33
            have hw := hJ33 x34 hj33
            refine z_iadd C dX6_letTakeOff_65 ?_
            refine z_put C (Cn := RX6) (T := TX6) (N := 6) (ci := 5) h0.2 5 (tE5 h0.1) (tS5_5 h0.1 _) in_X6_letTakeOff_X6 tyX6 tyX6_ok nmX6 rfl (by decide) mw_X6_letTakeOff_5 rfl rfl (tyX6_ok 5 (by decide)) rfl rfl (Nat.le_of_ble_eq_true rfl) dX6_letTakeOff_66 (fun τ35 eτ35 => ?_)
            have hw := hw τ35 eτ35
            refine z_aload_n C 0 (by rfl) dX6_letTakeOff_69 ?_
            refine z_dup C rfl dX6_letTakeOff_70 ?_
            refine z_get C (Cn := RX6) (T := TX6) (N := 6) (ci := 5) h0.2 5 (tE5 h0.1) in_X6_letTakeOff_X6 rfl (by decide) mw_X6_letTakeOff_5 rfl rfl dX6_letTakeOff_71 ?_
            refine z_aload_n C 0 (by rfl) dX6_letTakeOff_74 ?_
            refine z_get C (Cn := RX6) (T := TX6) (N := 6) (ci := 5) h0.2 1 (tE5 h0.1) in_X6_letTakeOff_X6 rfl (by decide) mw_X6_letTakeOff_6 rfl rfl dX6_letTakeOff_75 ?_
            refine z_iconst C 2 (by decide) dX6_letTakeOff_78 ?_
            refine z_iload_n C 1 (by rfl) dX6_letTakeOff_79 ?_
            refine z_imul C dX6_letTakeOff_80 ?_
            refine z_iconst C 1 (by decide) dX6_letTakeOff_81 ?_
            refine z_iadd C dX6_letTakeOff_82 ?_
            obtain ⟨s36, hw⟩ := hw
            refine z_aald_q2 C (tR5_1 h0).2 (tE15 (tR5_1 h0).1) s36 (if_pos (tp_lt s36)) dX6_letTakeOff_83 ?_
            refine z_iload_n C 2 (by rfl) dX6_letTakeOff_84 ?_
            refine zv_i C (As := [.int x29]) (bytes := cX7_takeOff) (maxL := 3) (F1 := 1) (L1 := 22) (c_X7_takeOff w _ ((i0 + 1) + 2 + 3 * (Int32.toNatClampNeg ((2 * x22) + 1))) x29 _ (tR15 (tR5_1 h0) (tp_lt s36)) hw) (tR15 (tR5_1 h0) (tp_lt s36)).2 (tE6 (tR15 (tR5_1 h0) (tp_lt s36)).1) rfl 1 gX6_letTakeOff_X7_takeOff rfl (by decide +kernel) ⟨Nat.le_of_ble_eq_true rfl, Nat.le_of_ble_eq_true rfl⟩ rfl (Nat.le_of_ble_eq_true rfl) ⟨Nat.le_of_ble_eq_true rfl, Nat.le_of_ble_eq_true rfl⟩ rfl dX6_letTakeOff_85 (fun x38 τ37 hw => ?_)
            refine z_if_eq (tgt := 95) C dX6_letTakeOff_88 (by decide) (fun c39 => ?_) (fun c39 => ?_)
            · have hw := hw.1 c39
              refine z_iconst C 0 (by decide) dX6_letTakeOff_95 ?_
              refine z_iadd C dX6_letTakeOff_96 ?_
              refine z_put C (Cn := RX6) (T := TX6) (N := 6) (ci := 5) h0.2 5 (tE5 h0.1) (tS5_5 h0.1 _) in_X6_letTakeOff_X6 tyX6 tyX6_ok nmX6 rfl (by decide) mw_X6_letTakeOff_5 rfl rfl (tyX6_ok 5 (by decide)) rfl rfl (Nat.le_of_ble_eq_true rfl) dX6_letTakeOff_97 (fun τ40 eτ40 => ?_)
              have hw := hw τ40 eτ40
              obtain ⟨x41, ex41⟩ : ∃ z : Int32, z = x22 + 1 := ⟨_, rfl⟩
              have hw := hw x41 ex41
              refine z_iinc C 1 x41 [(1, .int x41), (0, .ref (w.1 i0)), (2, .int x29)] dX6_letTakeOff_100 (by rfl) (by rw [ex41]; rfl) (by decide) rfl ?_
              refine z_goto (tgt := 2) C dX6_letTakeOff_103 (by decide) ?_
              refine z_sub [1, 0] [(0, .ref (w.1 i0)), (1, .int x41)] rfl ?_
              exact ih23 τ40 x41 (Nat.lt_of_lt_of_le hw.2 (Nat.le_of_lt_succ hlt23)) hw.1
            · have hw := hw.2 c39
              refine z_iconst C 1 (by decide) dX6_letTakeOff_91 ?_
              refine z_goto (tgt := 96) C dX6_letTakeOff_92 (by decide) ?_
              refine z_iadd C dX6_letTakeOff_96 ?_
              refine z_put C (Cn := RX6) (T := TX6) (N := 6) (ci := 5) h0.2 5 (tE5 h0.1) (tS5_5 h0.1 _) in_X6_letTakeOff_X6 tyX6 tyX6_ok nmX6 rfl (by decide) mw_X6_letTakeOff_5 rfl rfl (tyX6_ok 5 (by decide)) rfl rfl (Nat.le_of_ble_eq_true rfl) dX6_letTakeOff_97 (fun τ42 eτ42 => ?_)
              have hw := hw τ42 eτ42
              obtain ⟨x43, ex43⟩ : ∃ z : Int32, z = x22 + 1 := ⟨_, rfl⟩
              have hw := hw x43 ex43
              refine z_iinc C 1 x43 [(1, .int x43), (0, .ref (w.1 i0)), (2, .int x29)] dX6_letTakeOff_100 (by rfl) (by rw [ex43]; rfl) (by decide) rfl ?_
              refine z_goto (tgt := 2) C dX6_letTakeOff_103 (by decide) ?_
              refine z_sub [1, 0] [(0, .ref (w.1 i0)), (1, .int x43)] rfl ?_
              exact ih23 τ42 x43 (Nat.lt_of_lt_of_le hw.2 (Nat.le_of_lt_succ hlt23)) hw.1
          refine z_if_eq (tgt := 64) C dX6_letTakeOff_57 (by decide) (fun c44 => ?_) (fun c44 => ?_)
          · have hw := hw.1 c44
            refine z_iconst C 0 (by decide) dX6_letTakeOff_64 ?_
            refine z_sub [1, 2, 0] [(0, .ref (w.1 i0)), (1, .int x22), (2, .int x29)] rfl ?_
            exact jn33 0 hw
          · have hw := hw.2 c44
            refine z_iconst C 1 (by decide) dX6_letTakeOff_60 ?_
            refine z_goto (tgt := 65) C dX6_letTakeOff_61 (by decide) ?_
            refine z_sub [1, 2, 0] [(0, .ref (w.1 i0)), (1, .int x22), (2, .int x29)] rfl ?_
            exact jn33 1 hw
  refine z_sub [1, 0] [(0, .ref (w.1 i0)), (1, .int 0)] rfl ?_
  exact lp23 _ τ 0 (Nat.lt_succ_self _) hI23
def wp_X6_tick (τ : TS) (i0 : Nat) (K : TS → Prop) : Prop :=
  ∀ τ21 : TS, τ21 = tp_up τ i0 4 ((τ i0 4) + 1) → wp_X6_letArrive τ21 i0 (fun τ22 => wp_X6_letTimersRunOut τ22 i0 (fun τ23 => wp_X6_letCallersSend τ23 i0 (fun τ24 => wp_X6_letTakeOff τ24 i0 (fun τ25 => K τ25))))
theorem mw_X6_tick_0 : Cond.fieldLink RX6 52 "TidePost$Traffic" "clock" "I" ∈ wsX6_tick := List.mem_of_getElem? (i := 1) rfl
theorem in_X6_tick_X6 : ∀ x ∈ wsX60, x ∈ wsX6_tick := fun _ h => List.mem_cons_of_mem _ (List.mem_append_left _ (List.mem_append_left _ (List.mem_append_left _ (List.mem_append_left _ (List.mem_append_left _ (List.mem_append_left _ (List.mem_append_right _ h)))))))
set_option maxHeartbeats 4000000 in
set_option maxRecDepth 100000 in
theorem c_X6_tick (w : WPar) (τ : TS) (i0 : Nat) (K : TS → Prop) (h0 : tp_is w i0 5) (hw : wp_X6_tick τ i0 K) : MV w yX6_tick wsX6_tick 6 147 [.ref (w.1 i0)] τ K := by
  refine tp_enterV (cc := cX6_tick) (maxL := 1) (own := RX6) (by decide) rfl rfl (Nat.le_of_ble_eq_true rfl) (fun g C hR => ?_)
  show Zt w g τ (0, 0) 0 [(0, .ref (w.1 i0))] []
  unfold wp_X6_tick at hw
  refine z_aload_n C 0 (by rfl) dX6_tick_0 ?_
  refine z_dup C rfl dX6_tick_1 ?_
  refine z_get C (Cn := RX6) (T := TX6) (N := 6) (ci := 5) h0.2 4 (tE5 h0.1) in_X6_tick_X6 rfl (by decide) mw_X6_tick_0 rfl rfl dX6_tick_2 ?_
  refine z_iconst C 1 (by decide) dX6_tick_5 ?_
  refine z_iadd C dX6_tick_6 ?_
  refine z_put C (Cn := RX6) (T := TX6) (N := 6) (ci := 5) h0.2 4 (tE5 h0.1) (tS5_4 h0.1 _) in_X6_tick_X6 tyX6 tyX6_ok nmX6 rfl (by decide) mw_X6_tick_0 rfl rfl (tyX6_ok 4 (by decide)) rfl rfl (Nat.le_of_ble_eq_true rfl) dX6_tick_7 (fun τ21 eτ21 => ?_)
  have hw := hw τ21 eτ21
  refine z_aload_n C 0 (by rfl) dX6_tick_10 ?_
  refine zv_v C (As := []) (bytes := cX6_letArrive) (maxL := 4) (F1 := 5) (L1 := 124) (c_X6_letArrive w _ i0 _ h0 hw) h0.2 (tE5 h0.1) rfl 0 gX6_tick_X6_letArrive rfl (by decide +kernel) ⟨Nat.le_of_ble_eq_true rfl, Nat.le_of_ble_eq_true rfl⟩ rfl (Nat.le_of_ble_eq_true rfl) ⟨Nat.le_of_ble_eq_true rfl, Nat.le_of_ble_eq_true rfl⟩ rfl dX6_tick_11 (fun τ22 hw => ?_)
  refine z_aload_n C 0 (by rfl) dX6_tick_14 ?_
  refine zv_v C (As := []) (bytes := cX6_letTimersRunOut) (maxL := 3) (F1 := 4) (L1 := 97) (c_X6_letTimersRunOut w _ i0 _ h0 hw) h0.2 (tE5 h0.1) rfl 0 gX6_tick_X6_letTimersRunOut rfl (by decide +kernel) ⟨Nat.le_of_ble_eq_true rfl, Nat.le_of_ble_eq_true rfl⟩ rfl (Nat.le_of_ble_eq_true rfl) ⟨Nat.le_of_ble_eq_true rfl, Nat.le_of_ble_eq_true rfl⟩ rfl dX6_tick_15 (fun τ23 hw => ?_)
  refine z_aload_n C 0 (by rfl) dX6_tick_18 ?_
  refine zv_v C (As := []) (bytes := cX6_letCallersSend) (maxL := 4) (F1 := 4) (L1 := 97) (c_X6_letCallersSend w _ i0 _ h0 hw) h0.2 (tE5 h0.1) rfl 0 gX6_tick_X6_letCallersSend rfl (by decide +kernel) ⟨Nat.le_of_ble_eq_true rfl, Nat.le_of_ble_eq_true rfl⟩ rfl (Nat.le_of_ble_eq_true rfl) ⟨Nat.le_of_ble_eq_true rfl, Nat.le_of_ble_eq_true rfl⟩ rfl dX6_tick_19 (fun τ24 hw => ?_)
  refine z_aload_n C 0 (by rfl) dX6_tick_22 ?_
  refine zv_v C (As := []) (bytes := cX6_letTakeOff) (maxL := 3) (F1 := 2) (L1 := 44) (c_X6_letTakeOff w _ i0 _ h0 hw) h0.2 (tE5 h0.1) rfl 0 gX6_tick_X6_letTakeOff rfl (by decide +kernel) ⟨Nat.le_of_ble_eq_true rfl, Nat.le_of_ble_eq_true rfl⟩ rfl (Nat.le_of_ble_eq_true rfl) ⟨Nat.le_of_ble_eq_true rfl, Nat.le_of_ble_eq_true rfl⟩ rfl dX6_tick_23 (fun τ25 hw => ?_)
  exact hR _ _ _ dX6_tick_26 hw
def wp_X6_copyFrom (τ : TS) (i0 : Nat) (j1 : Nat) (K : TS → Prop) : Prop :=
  ∃ (I23 : TS → Int32 → Prop) (u23 : TS → Int32 → Nat), I23 τ 0 ∧ ∀ (τ21 : TS) (x22 : Int32), I23 τ21 x22 → ((((2 * (τ21 1 1)) ≤ x22) → (∃ (I27 : TS → Int32 → Prop) (u27 : TS → Int32 → Nat), I27 τ21 0 ∧ ∀ (τ25 : TS) (x26 : Int32), I27 τ25 x26 → ((((τ25 j1 3) ≤ x26) → (∀ τ29 : TS, τ29 = tp_up τ25 i0 3 (τ25 j1 3) → ∀ τ30 : TS, τ30 = tp_up τ29 i0 4 (τ29 j1 4) → ∀ τ31 : TS, τ31 = tp_up τ30 i0 5 (τ30 j1 5) → K τ31)) ∧ ((¬ (τ25 j1 3) ≤ x26) → (vp_in x26 6 ∧ (vp_in x26 6 ∧ (wp_X2_copyFrom τ25 ((i0 + 2) + 73 + 5 * (Int32.toNatClampNeg x26)) ((j1 + 2) + 73 + 5 * (Int32.toNatClampNeg x26)) (fun τ34 => ∀ x35 : Int32, x35 = x26 + 1 → I27 τ34 x35 ∧ u27 τ34 x35 < u27 τ25 x26)))))))) ∧ ((¬ (2 * (τ21 1 1)) ≤ x22) → (vp_in x22 24 ∧ (vp_in x22 24 ∧ (wp_X7_copyFrom τ21 ((i0 + 1) + 2 + 3 * (Int32.toNatClampNeg x22)) ((j1 + 1) + 2 + 3 * (Int32.toNatClampNeg x22)) (fun τ38 => ∀ x39 : Int32, x39 = x22 + 1 → I23 τ38 x39 ∧ u23 τ38 x39 < u23 τ21 x22))))))
theorem mw_X6_copyFrom_0 : Cond.fieldLink RX6 23 "TidePost$Traffic" "net" "LTidePost$Net;" ∈ wsX6_copyFrom := List.mem_of_getElem? (i := 1) rfl
theorem mw_X6_copyFrom_1 : Cond.fieldLink RX6 84 "TidePost$Net" "links" "I" ∈ wsX6_copyFrom := List.mem_of_getElem? (i := 2) rfl
theorem mw_X6_copyFrom_3 : Cond.fieldLink RX6 29 "TidePost$Traffic" "made" "I" ∈ wsX6_copyFrom := List.mem_of_getElem? (i := 4) rfl
theorem mw_X6_copyFrom_5 : Cond.fieldLink RX6 52 "TidePost$Traffic" "clock" "I" ∈ wsX6_copyFrom := List.mem_of_getElem? (i := 6) rfl
theorem mw_X6_copyFrom_6 : Cond.fieldLink RX6 69 "TidePost$Traffic" "lost" "I" ∈ wsX6_copyFrom := List.mem_of_getElem? (i := 7) rfl
theorem mw_X6_copyFrom_4 : Cond.fieldLink RX6 19 "TidePost$Traffic" "all" "[LTidePost$Connection;" ∈ wsX6_copyFrom := List.mem_of_getElem? (i := 5) rfl
theorem mw_X6_copyFrom_2 : Cond.fieldLink RX6 11 "TidePost$Traffic" "ways" "[LTidePost$Way;" ∈ wsX6_copyFrom := List.mem_of_getElem? (i := 3) rfl
theorem in_X6_copyFrom_X6 : ∀ x ∈ wsX60, x ∈ wsX6_copyFrom := fun _ h => List.mem_cons_of_mem _ (List.mem_append_left _ (List.mem_append_left _ (List.mem_append_left _ (List.mem_append_left _ (List.mem_append_left _ (List.mem_append_left _ (List.mem_append_right _ h)))))))
theorem in_X6_copyFrom_X3 : ∀ x ∈ wsX30, x ∈ wsX6_copyFrom := fun _ h => List.mem_cons_of_mem _ (List.mem_append_left _ (List.mem_append_left _ (List.mem_append_left _ (List.mem_append_left _ (List.mem_append_left _ (List.mem_append_right _ h))))))
set_option maxHeartbeats 4000000 in
set_option maxRecDepth 100000 in
theorem c_X6_copyFrom (w : WPar) (τ : TS) (i0 : Nat) (j1 : Nat) (K : TS → Prop) (h0 : tp_is w i0 5) (h1 : tp_is w j1 5) (hw : wp_X6_copyFrom τ i0 j1 K) : MV w yX6_copyFrom wsX6_copyFrom 3 63 [.ref (w.1 i0), .ref (w.1 j1)] τ K := by
  refine tp_enterV (cc := cX6_copyFrom) (maxL := 3) (own := RX6) (by decide) rfl rfl (Nat.le_of_ble_eq_true rfl) (fun g C hR => ?_)
  show Zt w g τ (0, 0) 0 [(0, .ref (w.1 i0)), (1, .ref (w.1 j1))] []
  unfold wp_X6_copyFrom at hw
  refine z_iconst C 0 (by decide) dX6_copyFrom_0 ?_
  refine z_istore_n C [(2, .int 0), (0, .ref (w.1 i0)), (1, .ref (w.1 j1))] dX6_copyFrom_1 (by decide) rfl ?_
  obtain ⟨I23, u23, hI23, hs23⟩ := hw
  have lp23 : ∀ (n23 : Nat) (τ21 : TS) (x22 : Int32), u23 τ21 x22 < n23 → I23 τ21 x22 → Zt w g τ21 (0, 0) 2 [(0, .ref (w.1 i0)), (1, .ref (w.1 j1)), (2, .int x22)] [] := by
    intro n23
    induction n23 with
    | zero => intro τ21 x22 hlt23; exact absurd hlt23 (Nat.not_lt_zero _)
    | succ n23 ih23 =>
      intro τ21 x22 hlt23 hh23
      have hw := hs23 τ21 x22 hh23
      refine z_iload_n C 2 (by rfl) dX6_copyFrom_2 ?_
      refine z_iconst C 2 (by decide) dX6_copyFrom_3 ?_
      refine z_aload_n C 0 (by rfl) dX6_copyFrom_4 ?_
      refine z_get C (Cn := RX6) (T := TX6) (N := 6) (ci := 5) h0.2 0 (tE5 h0.1) in_X6_copyFrom_X6 rfl (by decide) mw_X6_copyFrom_0 rfl rfl dX6_copyFrom_5 ?_
      refine z_get C (Cn := RX3) (T := TX3) (N := 9) (ci := 3) (tR5_0 h0).2 1 (tE3 (tR5_0 h0).1) in_X6_copyFrom_X3 rfl (by decide) mw_X6_copyFrom_1 rfl rfl dX6_copyFrom_8 ?_
      refine z_imul C dX6_copyFrom_11 ?_
      refine z_icmp_ge (tgt := 36) C dX6_copyFrom_12 (by decide) (fun c24 => ?_) (fun c24 => ?_)
      · have hw := hw.1 c24
        refine z_iconst C 0 (by decide) dX6_copyFrom_36 ?_
        refine z_istore_n C [(2, .int 0), (0, .ref (w.1 i0)), (1, .ref (w.1 j1))] dX6_copyFrom_37 (by decide) rfl ?_
        obtain ⟨I27, u27, hI27, hs27⟩ := hw
        have lp27 : ∀ (n27 : Nat) (τ25 : TS) (x26 : Int32), u27 τ25 x26 < n27 → I27 τ25 x26 → Zt w g τ25 (0, 0) 38 [(0, .ref (w.1 i0)), (1, .ref (w.1 j1)), (2, .int x26)] [] := by
          intro n27
          induction n27 with
          | zero => intro τ25 x26 hlt27; exact absurd hlt27 (Nat.not_lt_zero _)
          | succ n27 ih27 =>
            intro τ25 x26 hlt27 hh27
            have hw := hs27 τ25 x26 hh27
            refine z_iload_n C 2 (by rfl) dX6_copyFrom_38 ?_
            refine z_aload_n C 1 (by rfl) dX6_copyFrom_39 ?_
            refine z_get C (Cn := RX6) (T := TX6) (N := 6) (ci := 5) h1.2 3 (tE5 h1.1) in_X6_copyFrom_X6 rfl (by decide) mw_X6_copyFrom_3 rfl rfl dX6_copyFrom_40 ?_
            refine z_icmp_ge (tgt := 67) C dX6_copyFrom_43 (by decide) (fun c28 => ?_) (fun c28 => ?_)
            · have hw := hw.1 c28
              refine z_aload_n C 0 (by rfl) dX6_copyFrom_67 ?_
              refine z_aload_n C 1 (by rfl) dX6_copyFrom_68 ?_
              refine z_get C (Cn := RX6) (T := TX6) (N := 6) (ci := 5) h1.2 3 (tE5 h1.1) in_X6_copyFrom_X6 rfl (by decide) mw_X6_copyFrom_3 rfl rfl dX6_copyFrom_69 ?_
              refine z_put C (Cn := RX6) (T := TX6) (N := 6) (ci := 5) h0.2 3 (tE5 h0.1) (tS5_3 h0.1 _) in_X6_copyFrom_X6 tyX6 tyX6_ok nmX6 rfl (by decide) mw_X6_copyFrom_3 rfl rfl (tyX6_ok 3 (by decide)) rfl rfl (Nat.le_of_ble_eq_true rfl) dX6_copyFrom_72 (fun τ29 eτ29 => ?_)
              have hw := hw τ29 eτ29
              refine z_aload_n C 0 (by rfl) dX6_copyFrom_75 ?_
              refine z_aload_n C 1 (by rfl) dX6_copyFrom_76 ?_
              refine z_get C (Cn := RX6) (T := TX6) (N := 6) (ci := 5) h1.2 4 (tE5 h1.1) in_X6_copyFrom_X6 rfl (by decide) mw_X6_copyFrom_5 rfl rfl dX6_copyFrom_77 ?_
              refine z_put C (Cn := RX6) (T := TX6) (N := 6) (ci := 5) h0.2 4 (tE5 h0.1) (tS5_4 h0.1 _) in_X6_copyFrom_X6 tyX6 tyX6_ok nmX6 rfl (by decide) mw_X6_copyFrom_5 rfl rfl (tyX6_ok 4 (by decide)) rfl rfl (Nat.le_of_ble_eq_true rfl) dX6_copyFrom_80 (fun τ30 eτ30 => ?_)
              have hw := hw τ30 eτ30
              refine z_aload_n C 0 (by rfl) dX6_copyFrom_83 ?_
              refine z_aload_n C 1 (by rfl) dX6_copyFrom_84 ?_
              refine z_get C (Cn := RX6) (T := TX6) (N := 6) (ci := 5) h1.2 5 (tE5 h1.1) in_X6_copyFrom_X6 rfl (by decide) mw_X6_copyFrom_6 rfl rfl dX6_copyFrom_85 ?_
              refine z_put C (Cn := RX6) (T := TX6) (N := 6) (ci := 5) h0.2 5 (tE5 h0.1) (tS5_5 h0.1 _) in_X6_copyFrom_X6 tyX6 tyX6_ok nmX6 rfl (by decide) mw_X6_copyFrom_6 rfl rfl (tyX6_ok 5 (by decide)) rfl rfl (Nat.le_of_ble_eq_true rfl) dX6_copyFrom_88 (fun τ31 eτ31 => ?_)
              have hw := hw τ31 eτ31
              exact hR _ _ _ dX6_copyFrom_91 hw
            · have hw := hw.2 c28
              refine z_aload_n C 0 (by rfl) dX6_copyFrom_46 ?_
              refine z_get C (Cn := RX6) (T := TX6) (N := 6) (ci := 5) h0.2 2 (tE5 h0.1) in_X6_copyFrom_X6 rfl (by decide) mw_X6_copyFrom_4 rfl rfl dX6_copyFrom_47 ?_
              refine z_iload_n C 2 (by rfl) dX6_copyFrom_50 ?_
              obtain ⟨s32, hw⟩ := hw
              refine z_aald_q3 C (tR5_2 h0).2 (tE16 (tR5_2 h0).1) s32 (if_pos (tp_lt s32)) dX6_copyFrom_51 ?_
              refine z_aload_n C 1 (by rfl) dX6_copyFrom_52 ?_
              refine z_get C (Cn := RX6) (T := TX6) (N := 6) (ci := 5) h1.2 2 (tE5 h1.1) in_X6_copyFrom_X6 rfl (by decide) mw_X6_copyFrom_4 rfl rfl dX6_copyFrom_53 ?_
              refine z_iload_n C 2 (by rfl) dX6_copyFrom_56 ?_
              obtain ⟨s33, hw⟩ := hw
              refine z_aald_q3 C (tR5_2 h1).2 (tE16 (tR5_2 h1).1) s33 (if_pos (tp_lt s33)) dX6_copyFrom_57 ?_
              refine zv_v C (As := [.ref (w.1 ((j1 + 2) + 73 + 5 * (Int32.toNatClampNeg x26)))]) (bytes := cX2_copyFrom) (maxL := 2) (F1 := 2) (L1 := 42) (c_X2_copyFrom w _ ((i0 + 2) + 73 + 5 * (Int32.toNatClampNeg x26)) ((j1 + 2) + 73 + 5 * (Int32.toNatClampNeg x26)) _ (tR16 (tR5_2 h0) (tp_lt s32)) (tR16 (tR5_2 h1) (tp_lt s33)) hw) (tR16 (tR5_2 h0) (tp_lt s32)).2 (tE2 (tR16 (tR5_2 h0) (tp_lt s32)).1) rfl 1 gX6_copyFrom_X2_copyFrom rfl (by decide +kernel) ⟨Nat.le_of_ble_eq_true rfl, Nat.le_of_ble_eq_true rfl⟩ rfl (Nat.le_of_ble_eq_true rfl) ⟨Nat.le_of_ble_eq_true rfl, Nat.le_of_ble_eq_true rfl⟩ rfl dX6_copyFrom_58 (fun τ34 hw => ?_)
              obtain ⟨x35, ex35⟩ : ∃ z : Int32, z = x26 + 1 := ⟨_, rfl⟩
              have hw := hw x35 ex35
              refine z_iinc C 2 x35 [(2, .int x35), (0, .ref (w.1 i0)), (1, .ref (w.1 j1))] dX6_copyFrom_61 (by rfl) (by rw [ex35]; rfl) (by decide) rfl ?_
              refine z_goto (tgt := 38) C dX6_copyFrom_64 (by decide) ?_
              refine z_sub [1, 2, 0] [(0, .ref (w.1 i0)), (1, .ref (w.1 j1)), (2, .int x35)] rfl ?_
              exact ih27 τ34 x35 (Nat.lt_of_lt_of_le hw.2 (Nat.le_of_lt_succ hlt27)) hw.1
        refine z_sub [1, 2, 0] [(0, .ref (w.1 i0)), (1, .ref (w.1 j1)), (2, .int 0)] rfl ?_
        exact lp27 _ τ21 0 (Nat.lt_succ_self _) hI27
      · have hw := hw.2 c24
        refine z_aload_n C 0 (by rfl) dX6_copyFrom_15 ?_
        refine z_get C (Cn := RX6) (T := TX6) (N := 6) (ci := 5) h0.2 1 (tE5 h0.1) in_X6_copyFrom_X6 rfl (by decide) mw_X6_copyFrom_2 rfl rfl dX6_copyFrom_16 ?_
        refine z_iload_n C 2 (by rfl) dX6_copyFrom_19 ?_
        obtain ⟨s36, hw⟩ := hw
        refine z_aald_q2 C (tR5_1 h0).2 (tE15 (tR5_1 h0).1) s36 (if_pos (tp_lt s36)) dX6_copyFrom_20 ?_
        refine z_aload_n C 1 (by rfl) dX6_copyFrom_21 ?_
        refine z_get C (Cn := RX6) (T := TX6) (N := 6) (ci := 5) h1.2 1 (tE5 h1.1) in_X6_copyFrom_X6 rfl (by decide) mw_X6_copyFrom_2 rfl rfl dX6_copyFrom_22 ?_
        refine z_iload_n C 2 (by rfl) dX6_copyFrom_25 ?_
        obtain ⟨s37, hw⟩ := hw
        refine z_aald_q2 C (tR5_1 h1).2 (tE15 (tR5_1 h1).1) s37 (if_pos (tp_lt s37)) dX6_copyFrom_26 ?_
        refine zv_v C (As := [.ref (w.1 ((j1 + 1) + 2 + 3 * (Int32.toNatClampNeg x22)))]) (bytes := cX7_copyFrom) (maxL := 2) (F1 := 1) (L1 := 18) (c_X7_copyFrom w _ ((i0 + 1) + 2 + 3 * (Int32.toNatClampNeg x22)) ((j1 + 1) + 2 + 3 * (Int32.toNatClampNeg x22)) _ (tR15 (tR5_1 h0) (tp_lt s36)) (tR15 (tR5_1 h1) (tp_lt s37)) hw) (tR15 (tR5_1 h0) (tp_lt s36)).2 (tE6 (tR15 (tR5_1 h0) (tp_lt s36)).1) rfl 1 gX6_copyFrom_X7_copyFrom rfl (by decide +kernel) ⟨Nat.le_of_ble_eq_true rfl, Nat.le_of_ble_eq_true rfl⟩ rfl (Nat.le_of_ble_eq_true rfl) ⟨Nat.le_of_ble_eq_true rfl, Nat.le_of_ble_eq_true rfl⟩ rfl dX6_copyFrom_27 (fun τ38 hw => ?_)
        obtain ⟨x39, ex39⟩ : ∃ z : Int32, z = x22 + 1 := ⟨_, rfl⟩
        have hw := hw x39 ex39
        refine z_iinc C 2 x39 [(2, .int x39), (0, .ref (w.1 i0)), (1, .ref (w.1 j1))] dX6_copyFrom_30 (by rfl) (by rw [ex39]; rfl) (by decide) rfl ?_
        refine z_goto (tgt := 2) C dX6_copyFrom_33 (by decide) ?_
        refine z_sub [1, 2, 0] [(0, .ref (w.1 i0)), (1, .ref (w.1 j1)), (2, .int x39)] rfl ?_
        exact ih23 τ38 x39 (Nat.lt_of_lt_of_le hw.2 (Nat.le_of_lt_succ hlt23)) hw.1
  refine z_sub [1, 2, 0] [(0, .ref (w.1 i0)), (1, .ref (w.1 j1)), (2, .int 0)] rfl ?_
  exact lp23 _ τ 0 (Nat.lt_succ_self _) hI23
