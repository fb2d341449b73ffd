def wp_L_act (τ : TS) (j0 : Nat) (x1 : Int32) (x2 : Int32) (j3 : Nat) (j4 : Nat) (K : TS → Int32 → Prop) : Prop :=
  wp_X8_connections τ j0 (fun τ21 x22 => ∀ x23 : Int32, x23 = (if 1 < x22 then x22 else 1) → wp_L_below τ21 (x2 >>> (4 &&& 31)) x23 (fun τ24 x25 => wp_L_below τ24 (x2 >>> (3 &&& 31)) x1 (fun τ26 x27 => wp_L_below τ26 (x2 >>> (6 &&& 31)) x1 (fun τ28 x29 => wp_X8_clock τ28 j0 (fun τ30 x31 => ∃ JH : TS → Prop, (∀ τ32 : TS, JH τ32 → ((wp_X8_clock τ32 j0 (fun τ33 x34 => ((¬ x34 = x31) → (K τ33 0)) ∧ ((x34 = x31) → (K τ33 1)))) ∧ (wp_X8_clock τ32 j0 (fun τ36 x37 => ((¬ x37 = x31) → (K τ36 0)) ∧ ((x37 = x31) → (K τ36 1)))) ∧ (wp_X8_clock τ32 j0 (fun τ39 x40 => ((¬ x40 = x31) → (K τ39 0)) ∧ ((x40 = x31) → (K τ39 1)))))) ∧ (wp_L_below τ30 x2 14 (fun τ42 x43 => ((Int32.toInt x43 < 0 ∨ 9 < Int32.toInt x43) → (wp_L_below τ42 (x2 >>> (4 &&& 31)) 12 (fun τ45 x46 => ∀ x47 : Int32, x47 = (1 + x46) → wp_X8_pass τ45 j0 x47 (fun τ48 x49 => ((x49 = (x31 + x47)) → (∀ x51 : Int32, x51 = (x31 + x47) → wp_X8_clock τ48 j0 (fun τ52 x53 => ((¬ x53 = x51) → (K τ52 0)) ∧ ((x53 = x51) → (K τ52 1))))) ∧ ((¬ x49 = (x31 + x47)) → (K τ48 0)))))) ∧ ((x43 = 0 ∨ x43 = 1) → (wp_L_below τ42 (x2 >>> (5 &&& 31)) 9 (fun τ55 x56 => wp_L_below τ55 (x2 >>> (7 &&& 31)) 20 (fun τ57 x58 => wpx_X8_addLink τ57 j0 x27 x29 (1 + x56) (1 + x58) (fun τ59 x60 => wp_X8_clock τ59 j0 (fun τ61 x62 => ((¬ x62 = x31) → (K τ61 0)) ∧ ((x62 = x31) → (K τ61 1)))) (fun τ59 _ => JH τ59))))) ∧ ((x43 = 2) → (wp_L_below τ42 (x2 >>> (8 &&& 31)) 16 (fun τ64 x65 => wpx_X8_call τ64 j0 x27 x29 (1 + x65) (fun τ66 x67 => vp_in x67 6 ∧ (∀ τ69 : TS, τ69 = tp_up τ66 j3 (Int32.toNatClampNeg x67) x2 → wp_X8_clock τ69 j0 (fun τ70 x71 => ((¬ x71 = x31) → (K τ70 0)) ∧ ((x71 = x31) → (K τ70 1))))) (fun τ66 _ => JH τ66)))) ∧ ((x43 = 3 ∨ x43 = 4) → (wpx_X8_given τ42 j0 x25 (fun τ73 x74 => vp_in x25 6 ∧ (wp_L_below τ73 (x2 >>> (7 &&& 31)) 12 (fun τ76 x77 => wpx_X8_give τ76 j0 x25 ((τ73 j3 (Int32.toNatClampNeg x25)) + x74) (1 + x77) (fun τ78 x79 => wp_X8_clock τ78 j0 (fun τ80 x81 => ((¬ x81 = x31) → (K τ80 0)) ∧ ((x81 = x31) → (K τ80 1)))) (fun τ78 _ => JH τ78)))) (fun τ73 _ => JH τ73))) ∧ ((x43 = 5) → (wp_L_below τ42 (x2 >>> (8 &&& 31)) 4 (fun τ83 x84 => ((¬ x84 = 0) → (wp_X8_clock τ83 j0 (fun τ86 x87 => ((¬ x87 = x31) → (K τ86 0)) ∧ ((x87 = x31) → (K τ86 1))))) ∧ ((x84 = 0) → (wpx_X8_close τ83 j0 x25 (fun τ89 x90 => wp_X8_clock τ89 j0 (fun τ91 x92 => ((¬ x92 = x31) → (K τ91 0)) ∧ ((x92 = x31) → (K τ91 1)))) (fun τ89 _ => JH τ89)))))) ∧ ((x43 = 6 ∨ x43 = 7) → (wp_L_below τ42 (x2 >>> (7 &&& 31)) 9 (fun τ94 x95 => wpx_X8_readable τ94 j0 x25 (fun τ96 x97 => ∀ x98 : Int32, x98 = (if x97 < (1 + x95) then x97 else (1 + x95)) → ∃ (I102 : TS → Int32 → Int32 → Prop) (u102 : TS → Int32 → Int32 → Nat), I102 τ96 0 0 ∧ ∀ (τ99 : TS) (x100 : Int32) (x101 : Int32), I102 τ99 x100 x101 → (((x98 ≤ x101) → (wp_L_below τ99 (x2 >>> (7 &&& 31)) 9 (fun τ104 x105 => wpx_X8_read τ104 j0 x25 (1 + x105) (fun τ106 x107 => ((x107 = x100) → (vp_in x25 6 ∧ (vp_in x25 6 ∧ (∀ τ111 : TS, τ111 = tp_up τ106 j4 (Int32.toNatClampNeg x25) ((τ106 j4 (Int32.toNatClampNeg x25)) + x98) → wp_X8_hasRead τ111 j0 x25 (fun τ112 x113 => vp_in x25 6 ∧ (((¬ x113 = (τ112 j4 (Int32.toNatClampNeg x25))) → (K τ112 0)) ∧ ((x113 = (τ112 j4 (Int32.toNatClampNeg x25))) → (K τ112 1)))))))) ∧ ((¬ x107 = x100) → (K τ106 0))) (fun τ106 _ => JH τ106)))) ∧ ((¬ x98 ≤ x101) → (vp_in x25 6 ∧ (vp_in x25 6 ∧ (∀ x118 : Int32, x118 = (x100 + (((τ99 j3 (Int32.toNatClampNeg x25)) + (τ99 j4 (Int32.toNatClampNeg x25))) + x101)) → ∀ x119 : Int32, x119 = x101 + 1 → I102 τ99 x118 x119 ∧ u102 τ99 x118 x119 < u102 τ99 x100 x101)))))) (fun τ96 _ => JH τ96)))) ∧ ((x43 = 8) → (wp_L_below τ42 (x2 >>> (5 &&& 31)) 3 (fun τ120 x121 => ((¬ x121 = 0) → (wp_X8_clock τ120 j0 (fun τ123 x124 => ((¬ x124 = x31) → (K τ123 0)) ∧ ((x124 = x31) → (K τ123 1))))) ∧ ((x121 = 0) → (wp_X8_links τ120 j0 (fun τ126 x127 => ∀ x128 : Int32, x128 = (if 1 < x127 then x127 else 1) → wp_L_below τ126 (x2 >>> (7 &&& 31)) x128 (fun τ129 x130 => wpx_X8_turn τ129 j0 x130 (fun τ131 x132 => wp_X8_clock τ131 j0 (fun τ133 x134 => ((¬ x134 = x31) → (K τ133 0)) ∧ ((x134 = x31) → (K τ133 1)))) (fun τ131 _ => JH τ131)))))))) ∧ ((x43 = 9) → (wp_X8_links τ42 j0 (fun τ136 x137 => ∀ x138 : Int32, x138 = (if 1 < x137 then x137 else 1) → wp_L_below τ136 (x2 >>> (7 &&& 31)) x138 (fun τ139 x140 => wp_L_below τ139 (x2 >>> (5 &&& 31)) 2 (fun τ141 x142 => wp_L_below τ141 (x2 >>> (6 &&& 31)) 4 (fun τ143 x144 => wpx_X8_lose τ143 j0 x140 x142 x144 (fun τ145 x146 => wp_X8_clock τ145 j0 (fun τ147 x148 => ((¬ x148 = x31) → (K τ147 0)) ∧ ((x148 = x31) → (K τ147 1)))) (fun τ145 _ => JH τ145))))))))))))))
theorem mw_L_act_3 : Cond.methodLink RL 45 Lib.Math.max.name ∈ wsL_act := List.mem_of_getElem? (i := 4) rfl
theorem mw_L_act_4 : Cond.static Lib.Math.max.name ∈ wsL_act := List.mem_of_getElem? (i := 5) rfl
theorem mw_L_act_5 : Cond.initialized "java/lang/Math" ∈ wsL_act := List.mem_of_getElem? (i := 6) rfl
theorem mw_L_act_6 : Cond.code Lib.Math.max.name Lib.Math.max.code 2 (some .int) ∈ wsL_act := List.mem_of_getElem? (i := 7) rfl
theorem mw_L_act_0 : Cond.classLink RL 94 "java/lang/IndexOutOfBoundsException" ∈ wsL_act := List.mem_of_getElem? (i := 1) rfl
theorem mw_L_act_1 : Cond.classLink RL 96 "java/lang/IllegalArgumentException" ∈ wsL_act := List.mem_of_getElem? (i := 2) rfl
theorem mw_L_act_2 : Cond.classLink RL 98 "java/lang/IllegalStateException" ∈ wsL_act := List.mem_of_getElem? (i := 3) rfl
theorem mw_L_act_7 : Cond.methodLink RL 73 Lib.Math.min.name ∈ wsL_act := List.mem_of_getElem? (i := 8) rfl
theorem mw_L_act_8 : Cond.static Lib.Math.min.name ∈ wsL_act := List.mem_of_getElem? (i := 9) rfl
theorem mw_L_act_9 : Cond.code Lib.Math.min.name Lib.Math.min.code 2 (some .int) ∈ wsL_act := List.mem_of_getElem? (i := 10) rfl
set_option maxHeartbeats 8000000 in
set_option maxRecDepth 100000 in
theorem c_L_act (w : WPar) (τ : TS) (j0 : Nat) (x1 : Int32) (x2 : Int32) (j3 : Nat) (j4 : Nat) (K : TS → Int32 → Prop) (hl : w.2.1.stackTraces = false) (h0 : tp_is w j0 7) (h3 : tp_is w j3 19) (h4 : tp_is w j4 19) (hw : wp_L_act τ j0 x1 x2 j3 j4 K) : MA w yL_act wsL_act 9 189 5 30 [.ref (w.1 j0), .int x1, .int x2, .ref (w.1 j3), .ref (w.1 j4)] τ K := by
  refine tp_enterA (cc := cL_act) (maxL := 14) (own := RL) hl (by decide) rfl rfl (Nat.le_of_ble_eq_true rfl) (fun g C D A hR => ?_)
  show Zt w g τ (0, 0) 0 [(0, .ref (w.1 j0)), (1, .int x1), (2, .int x2), (3, .ref (w.1 j3)), (4, .ref (w.1 j4))] []
  unfold wp_L_act at hw
  refine z_iload_n C 2 (by rfl) dL_act_0 ?_
  refine z_iconst C 4 (by decide) dL_act_1 ?_
  refine z_ishr C dL_act_2 ?_
  refine z_iconst C 1 (by decide) dL_act_3 ?_
  refine z_aload_n C 0 (by rfl) dL_act_4 ?_
  refine zv_i C (As := []) (bytes := cX8_connections) (maxL := 1) (F1 := 0) (L1 := 0) (c_X8_connections w _ j0 _ h0 hw) h0.2 (tE7 h0.1) rfl 0 gL_act_X8_connections rfl (by decide +kernel) ⟨Nat.le_of_ble_eq_true rfl, Nat.le_of_ble_eq_true rfl⟩ rfl (Nat.le_of_ble_eq_true rfl) ⟨Nat.le_of_ble_eq_true rfl, Nat.le_of_ble_eq_true rfl⟩ rfl dL_act_5 (fun x22 τ21 hw => ?_)
  refine z_max C mw_L_act_3 mw_L_act_4 mw_L_act_5 mw_L_act_6 (Nat.le_of_ble_eq_true rfl) (Nat.le_of_ble_eq_true rfl) (Nat.le_of_ble_eq_true rfl) (Nat.le_of_ble_eq_true rfl) dL_act_8 ?_
  refine z_top (fun x23 ex23 => ?_)
  have hw := hw x23 ex23
  refine zs_i C (As := [.int (x2 >>> (4 &&& 31)), .int x23]) (bytes := cL_below) (maxL := 2) (F1 := 0) (L1 := 0) (c_L_below w _ (x2 >>> (4 &&& 31)) x23 _  hw) 2 gL_act_L_below rfl (by decide +kernel) ⟨Nat.le_of_ble_eq_true rfl, Nat.le_of_ble_eq_true rfl⟩ rfl (Nat.le_of_ble_eq_true rfl) ⟨Nat.le_of_ble_eq_true rfl, Nat.le_of_ble_eq_true rfl⟩ rfl dL_act_11 (fun x25 τ24 hw => ?_)
  refine z_istore C [(5, .int x25), (0, .ref (w.1 j0)), (1, .int x1), (2, .int x2), (3, .ref (w.1 j3)), (4, .ref (w.1 j4))] dL_act_14 (by decide) rfl ?_
  refine z_iload_n C 3 (by rfl) dL_act_16 ?_
  refine z_iconst C 3 (by decide) dL_act_17 ?_
  refine z_ishr C dL_act_18 ?_
  refine z_iload_n C 2 (by rfl) dL_act_19 ?_
  refine zs_i C (As := [.int (x2 >>> (3 &&& 31)), .int x1]) (bytes := cL_below) (maxL := 2) (F1 := 0) (L1 := 0) (c_L_below w _ (x2 >>> (3 &&& 31)) x1 _  hw) 2 gL_act_L_below rfl (by decide +kernel) ⟨Nat.le_of_ble_eq_true rfl, Nat.le_of_ble_eq_true rfl⟩ rfl (Nat.le_of_ble_eq_true rfl) ⟨Nat.le_of_ble_eq_true rfl, Nat.le_of_ble_eq_true rfl⟩ rfl dL_act_20 (fun x27 τ26 hw => ?_)
  refine z_istore C [(6, .int x27), (5, .int x25), (0, .ref (w.1 j0)), (1, .int x1), (2, .int x2), (3, .ref (w.1 j3)), (4, .ref (w.1 j4))] dL_act_23 (by decide) rfl ?_
  refine z_iload_n C 4 (by rfl) dL_act_25 ?_
  refine z_bipush C 6 (by decide) dL_act_26 ?_
  refine z_ishr C dL_act_28 ?_
  refine z_iload_n C 3 (by rfl) dL_act_29 ?_
  refine zs_i C (As := [.int (x2 >>> (6 &&& 31)), .int x1]) (bytes := cL_below) (maxL := 2) (F1 := 0) (L1 := 0) (c_L_below w _ (x2 >>> (6 &&& 31)) x1 _  hw) 2 gL_act_L_below rfl (by decide +kernel) ⟨Nat.le_of_ble_eq_true rfl, Nat.le_of_ble_eq_true rfl⟩ rfl (Nat.le_of_ble_eq_true rfl) ⟨Nat.le_of_ble_eq_true rfl, Nat.le_of_ble_eq_true rfl⟩ rfl dL_act_30 (fun x29 τ28 hw => ?_)
  refine z_istore C [(7, .int x29), (6, .int x27), (5, .int x25), (0, .ref (w.1 j0)), (1, .int x1), (2, .int x2), (3, .ref (w.1 j3)), (4, .ref (w.1 j4))] dL_act_33 (by decide) rfl ?_
  refine z_aload_n C 3 (by rfl) dL_act_35 ?_
  refine zv_i C (As := []) (bytes := cX8_clock) (maxL := 1) (F1 := 0) (L1 := 0) (c_X8_clock w _ j0 _ h0 hw) h0.2 (tE7 h0.1) rfl 0 gL_act_X8_clock rfl (by decide +kernel) ⟨Nat.le_of_ble_eq_true rfl, Nat.le_of_ble_eq_true rfl⟩ rfl (Nat.le_of_ble_eq_true rfl) ⟨Nat.le_of_ble_eq_true rfl, Nat.le_of_ble_eq_true rfl⟩ rfl dL_act_36 (fun x31 τ30 hw => ?_)
  refine z_istore C [(8, .int x31), (7, .int x29), (6, .int x27), (5, .int x25), (0, .ref (w.1 j0)), (1, .int x1), (2, .int x2), (3, .ref (w.1 j3)), (4, .ref (w.1 j4))] dL_act_39 (by decide) rfl ?_
  obtain ⟨JH, hJH, hw⟩ := hw
  have hh441 : ∀ (τ32 : TS) (q : Nat), JH τ32 → Zt w g τ32 (5, 30) 441 [(0, .ref (w.1 j0)), (8, .int x31)] [.ref q] := by
    intro τ32 q hq
    have hw := (hJH τ32 hq).1
    refine z_astore C [(9, .ref q), (0, .ref (w.1 j0)), (8, .int x31)] dL_act_441 (by decide) rfl ?_
    refine z_aload_n C 1 (by rfl) dL_act_443 ?_
    refine zv_i C (As := []) (bytes := cX8_clock) (maxL := 1) (F1 := 0) (L1 := 0) (c_X8_clock w _ j0 _ h0 hw) h0.2 (tE7 h0.1) rfl 0 gL_act_X8_clock rfl (by decide +kernel) ⟨Nat.le_of_ble_eq_true rfl, Nat.le_of_ble_eq_true rfl⟩ rfl (Nat.le_of_ble_eq_true rfl) ⟨Nat.le_of_ble_eq_true rfl, Nat.le_of_ble_eq_true rfl⟩ rfl dL_act_444 (fun x34 τ33 hw => ?_)
    refine z_iload C 2 (by rfl) dL_act_447 ?_
    refine z_icmp_ne (tgt := 456) C dL_act_449 (by decide) (fun c35 => ?_) (fun c35 => ?_)
    · have hw := hw.1 c35
      refine z_iconst C 0 (by decide) dL_act_456 ?_
      exact hR _ _ _ _ dL_act_457 rfl hw
    · have hw := hw.2 c35
      refine z_iconst C 1 (by decide) dL_act_452 ?_
      refine z_goto (tgt := 457) C dL_act_453 (by decide) ?_
      exact hR _ _ _ _ dL_act_457 rfl hw
  have hh458 : ∀ (τ32 : TS) (q : Nat), JH τ32 → Zt w g τ32 (5, 30) 458 [(0, .ref (w.1 j0)), (8, .int x31)] [.ref q] := by
    intro τ32 q hq
    have hw := (hJH τ32 hq).2.1
    refine z_astore C [(9, .ref q), (0, .ref (w.1 j0)), (8, .int x31)] dL_act_458 (by decide) rfl ?_
    refine z_aload_n C 1 (by rfl) dL_act_460 ?_
    refine zv_i C (As := []) (bytes := cX8_clock) (maxL := 1) (F1 := 0) (L1 := 0) (c_X8_clock w _ j0 _ h0 hw) h0.2 (tE7 h0.1) rfl 0 gL_act_X8_clock rfl (by decide +kernel) ⟨Nat.le_of_ble_eq_true rfl, Nat.le_of_ble_eq_true rfl⟩ rfl (Nat.le_of_ble_eq_true rfl) ⟨Nat.le_of_ble_eq_true rfl, Nat.le_of_ble_eq_true rfl⟩ rfl dL_act_461 (fun x37 τ36 hw => ?_)
    refine z_iload C 2 (by rfl) dL_act_464 ?_
    refine z_icmp_ne (tgt := 473) C dL_act_466 (by decide) (fun c38 => ?_) (fun c38 => ?_)
    · have hw := hw.1 c38
      refine z_iconst C 0 (by decide) dL_act_473 ?_
      exact hR _ _ _ _ dL_act_474 rfl hw
    · have hw := hw.2 c38
      refine z_iconst C 1 (by decide) dL_act_469 ?_
      refine z_goto (tgt := 474) C dL_act_470 (by decide) ?_
      exact hR _ _ _ _ dL_act_474 rfl hw
  have hh475 : ∀ (τ32 : TS) (q : Nat), JH τ32 → Zt w g τ32 (5, 30) 475 [(0, .ref (w.1 j0)), (8, .int x31)] [.ref q] := by
    intro τ32 q hq
    have hw := (hJH τ32 hq).2.2
    refine z_astore C [(9, .ref q), (0, .ref (w.1 j0)), (8, .int x31)] dL_act_475 (by decide) rfl ?_
    refine z_aload_n C 1 (by rfl) dL_act_477 ?_
    refine zv_i C (As := []) (bytes := cX8_clock) (maxL := 1) (F1 := 0) (L1 := 0) (c_X8_clock w _ j0 _ h0 hw) h0.2 (tE7 h0.1) rfl 0 gL_act_X8_clock rfl (by decide +kernel) ⟨Nat.le_of_ble_eq_true rfl, Nat.le_of_ble_eq_true rfl⟩ rfl (Nat.le_of_ble_eq_true rfl) ⟨Nat.le_of_ble_eq_true rfl, Nat.le_of_ble_eq_true rfl⟩ rfl dL_act_478 (fun x40 τ39 hw => ?_)
    refine z_iload C 2 (by rfl) dL_act_481 ?_
    refine z_icmp_ne (tgt := 490) C dL_act_483 (by decide) (fun c41 => ?_) (fun c41 => ?_)
    · have hw := hw.1 c41
      refine z_iconst C 0 (by decide) dL_act_490 ?_
      exact hR _ _ _ _ dL_act_491 rfl hw
    · have hw := hw.2 c41
      refine z_iconst C 1 (by decide) dL_act_486 ?_
      refine z_goto (tgt := 491) C dL_act_487 (by decide) ?_
      exact hR _ _ _ _ dL_act_491 rfl hw
  refine z_iload_n C 6 (by rfl) dL_act_41 ?_
  refine z_bipush C 14 (by decide) dL_act_42 ?_
  refine zs_i C (As := [.int x2, .int 14]) (bytes := cL_below) (maxL := 2) (F1 := 0) (L1 := 0) (c_L_below w _ x2 14 _  hw) 2 gL_act_L_below rfl (by decide +kernel) ⟨Nat.le_of_ble_eq_true rfl, Nat.le_of_ble_eq_true rfl⟩ rfl (Nat.le_of_ble_eq_true rfl) ⟨Nat.le_of_ble_eq_true rfl, Nat.le_of_ble_eq_true rfl⟩ rfl dL_act_44 (fun x43 τ42 hw => ?_)
  have hsw := tp_sw10 x43
  rcases hsw with c44 | c44 | c44 | c44 | c44 | c44 | c44 | c44
  · have hw := hw.1 c44
    refine z_swOut (tgt := 403) C dL_act_47 c44 (by decide) ?_
    refine z_iconst C 1 (by decide) dL_act_403 ?_
    refine z_iload_n C 6 (by rfl) dL_act_404 ?_
    refine z_iconst C 4 (by decide) dL_act_405 ?_
    refine z_ishr C dL_act_406 ?_
    refine z_bipush C 12 (by decide) dL_act_407 ?_
    refine zs_i C (As := [.int (x2 >>> (4 &&& 31)), .int 12]) (bytes := cL_below) (maxL := 2) (F1 := 0) (L1 := 0) (c_L_below w _ (x2 >>> (4 &&& 31)) 12 _  hw) 2 gL_act_L_below rfl (by decide +kernel) ⟨Nat.le_of_ble_eq_true rfl, Nat.le_of_ble_eq_true rfl⟩ rfl (Nat.le_of_ble_eq_true rfl) ⟨Nat.le_of_ble_eq_true rfl, Nat.le_of_ble_eq_true rfl⟩ rfl dL_act_409 (fun x46 τ45 hw => ?_)
    refine z_iadd C dL_act_412 ?_
    refine z_top (fun x47 ex47 => ?_)
    have hw := hw x47 ex47
    refine z_istore C [(13, .int x47), (8, .int x31), (7, .int x29), (6, .int x27), (5, .int x25), (0, .ref (w.1 j0)), (1, .int x1), (2, .int x2), (3, .ref (w.1 j3)), (4, .ref (w.1 j4))] dL_act_413 (by decide) rfl ?_
    refine z_aload_n C 5 (by rfl) dL_act_415 ?_
    refine z_iload C 0 (by rfl) dL_act_416 ?_
    refine zv_i C (As := [.int x47]) (bytes := cX8_pass) (maxL := 3) (F1 := 7) (L1 := 167) (c_X8_pass w _ j0 x47 _ h0 hw) h0.2 (tE7 h0.1) rfl 1 gL_act_X8_pass rfl (by decide +kernel) ⟨Nat.le_of_ble_eq_true rfl, Nat.le_of_ble_eq_true rfl⟩ rfl (Nat.le_of_ble_eq_true rfl) ⟨Nat.le_of_ble_eq_true rfl, Nat.le_of_ble_eq_true rfl⟩ rfl dL_act_418 (fun x49 τ48 hw => ?_)
    refine z_iload C 1 (by rfl) dL_act_421 ?_
    refine z_iload C 0 (by rfl) dL_act_423 ?_
    refine z_iadd C dL_act_425 ?_
    refine z_icmp_eq (tgt := 431) C dL_act_426 (by decide) (fun c50 => ?_) (fun c50 => ?_)
    · have hw := hw.1 c50
      refine z_iload C 1 (by rfl) dL_act_431 ?_
      refine z_iload C 0 (by rfl) dL_act_433 ?_
      refine z_iadd C dL_act_435 ?_
      refine z_top (fun x51 ex51 => ?_)
      have hw := hw x51 ex51
      refine z_istore C [(8, .int x51), (13, .int x47), (7, .int x29), (6, .int x27), (5, .int x25), (0, .ref (w.1 j0)), (1, .int x1), (2, .int x2), (3, .ref (w.1 j3)), (4, .ref (w.1 j4))] dL_act_436 (by decide) rfl ?_
      refine z_goto (tgt := 492) C dL_act_438 (by decide) ?_
      refine z_aload_n C 5 (by rfl) dL_act_492 ?_
      refine zv_i C (As := []) (bytes := cX8_clock) (maxL := 1) (F1 := 0) (L1 := 0) (c_X8_clock w _ j0 _ h0 hw) h0.2 (tE7 h0.1) rfl 0 gL_act_X8_clock rfl (by decide +kernel) ⟨Nat.le_of_ble_eq_true rfl, Nat.le_of_ble_eq_true rfl⟩ rfl (Nat.le_of_ble_eq_true rfl) ⟨Nat.le_of_ble_eq_true rfl, Nat.le_of_ble_eq_true rfl⟩ rfl dL_act_493 (fun x53 τ52 hw => ?_)
      refine z_iload C 0 (by rfl) dL_act_496 ?_
      refine z_icmp_ne (tgt := 505) C dL_act_498 (by decide) (fun c54 => ?_) (fun c54 => ?_)
      · have hw := hw.1 c54
        refine z_iconst C 0 (by decide) dL_act_505 ?_
        refine z_widen (5, 30) (Nat.le_of_ble_eq_true rfl) (Nat.le_of_ble_eq_true rfl) ?_
        exact hR _ _ _ _ dL_act_506 rfl hw
      · have hw := hw.2 c54
        refine z_iconst C 1 (by decide) dL_act_501 ?_
        refine z_goto (tgt := 506) C dL_act_502 (by decide) ?_
        refine z_widen (5, 30) (Nat.le_of_ble_eq_true rfl) (Nat.le_of_ble_eq_true rfl) ?_
        exact hR _ _ _ _ dL_act_506 rfl hw
    · have hw := hw.2 c50
      refine z_iconst C 0 (by decide) dL_act_429 ?_
      refine z_widen (5, 30) (Nat.le_of_ble_eq_true rfl) (Nat.le_of_ble_eq_true rfl) ?_
      exact hR _ _ _ _ dL_act_430 rfl hw
  · have hw := hw.2.1 c44
    refine z_swIn (tgt := 100) C dL_act_47 (by rcases c44 with rfl | rfl <;> decide) (by rcases c44 with rfl | rfl <;> decide) (by rcases c44 with rfl | rfl <;> rfl) (by decide) ?_
    refine z_aload_n C 4 (by rfl) dL_act_100 ?_
    refine z_iload C 2 (by rfl) dL_act_101 ?_
    refine z_iload C 1 (by rfl) dL_act_103 ?_
    refine z_iconst C 1 (by decide) dL_act_105 ?_
    refine z_iload_n C 6 (by rfl) dL_act_106 ?_
    refine z_iconst C 5 (by decide) dL_act_107 ?_
    refine z_ishr C dL_act_108 ?_
    refine z_bipush C 9 (by decide) dL_act_109 ?_
    refine zs_i C (As := [.int (x2 >>> (5 &&& 31)), .int 9]) (bytes := cL_below) (maxL := 2) (F1 := 0) (L1 := 0) (c_L_below w _ (x2 >>> (5 &&& 31)) 9 _  hw) 2 gL_act_L_below rfl (by decide +kernel) ⟨Nat.le_of_ble_eq_true rfl, Nat.le_of_ble_eq_true rfl⟩ rfl (Nat.le_of_ble_eq_true rfl) ⟨Nat.le_of_ble_eq_true rfl, Nat.le_of_ble_eq_true rfl⟩ rfl dL_act_111 (fun x56 τ55 hw => ?_)
    refine z_iadd C dL_act_114 ?_
    refine z_iconst C 1 (by decide) dL_act_115 ?_
    refine z_iload_n C 6 (by rfl) dL_act_116 ?_
    refine z_bipush C 7 (by decide) dL_act_117 ?_
    refine z_ishr C dL_act_119 ?_
    refine z_bipush C 20 (by decide) dL_act_120 ?_
    refine zs_i C (As := [.int (x2 >>> (7 &&& 31)), .int 20]) (bytes := cL_below) (maxL := 2) (F1 := 0) (L1 := 0) (c_L_below w _ (x2 >>> (7 &&& 31)) 20 _  hw) 2 gL_act_L_below rfl (by decide +kernel) ⟨Nat.le_of_ble_eq_true rfl, Nat.le_of_ble_eq_true rfl⟩ rfl (Nat.le_of_ble_eq_true rfl) ⟨Nat.le_of_ble_eq_true rfl, Nat.le_of_ble_eq_true rfl⟩ rfl dL_act_122 (fun x58 τ57 hw => ?_)
    refine z_iadd C dL_act_125 ?_
    refine xv_i C D (As := [.int x27, .int x29, .int (1 + x56), .int (1 + x58)]) (bytes := cX8_addLink) (maxL := 5) (F1 := 7) (L1 := 104) (mc := 5) (ms := 30) (cx_X8_addLink w _ j0 x27 x29 (1 + x56) (1 + x58) _ _ hl h0 hw) h0.2 (tE7 h0.1) rfl 4 gL_act_X8_addLink rfl (by decide +kernel) ⟨Nat.le_of_ble_eq_true rfl, Nat.le_of_ble_eq_true rfl⟩ rfl (Nat.le_of_ble_eq_true rfl) (k2 := (5, 30)) rfl ⟨Nat.le_of_ble_eq_true rfl, Nat.le_of_ble_eq_true rfl⟩ rfl dL_act_126 (fun τ59 cd hx => ?_) (fun x60 τ59 hw => ?_)
    · rcases cd with _ | _ | cd
      · refine z_catch C A (cd := 0) (i := 0) (hp := 441) (ct := 94) rfl rfl rfl (by decide) mw_L_act_0 D (by decide) (fun _ hN => fun _ h => absurd h List.not_mem_nil) (fun q => ?_)
        refine z_sub [4, 0] [(0, .ref (w.1 j0)), (8, .int x31)] rfl ?_
        exact hh441 _ q hx
      · refine z_catch C A (cd := 1) (i := 4) (hp := 458) (ct := 96) rfl rfl rfl (by decide) mw_L_act_1 D (by decide) (fun _ hN => List.forall_mem_cons.mpr ⟨Or.inr ⟨by decide, _, mw_L_act_0, hN.1⟩, List.forall_mem_cons.mpr ⟨Or.inl (by decide), List.forall_mem_cons.mpr ⟨Or.inl (by decide), List.forall_mem_cons.mpr ⟨Or.inl (by decide), fun _ h => absurd h List.not_mem_nil⟩⟩⟩⟩) (fun q => ?_)
        refine z_sub [4, 0] [(0, .ref (w.1 j0)), (8, .int x31)] rfl ?_
        exact hh458 _ q hx
      · show Zx w g _ _ _ _ (tp_exn 2)
        refine z_catch C A (cd := 2) (i := 8) (hp := 475) (ct := 98) rfl rfl rfl (by decide) mw_L_act_2 D (by decide) (fun _ hN => List.forall_mem_cons.mpr ⟨Or.inr ⟨by decide, _, mw_L_act_0, hN.2.1⟩, List.forall_mem_cons.mpr ⟨Or.inl (by decide), List.forall_mem_cons.mpr ⟨Or.inl (by decide), List.forall_mem_cons.mpr ⟨Or.inl (by decide), List.forall_mem_cons.mpr ⟨Or.inr ⟨by decide, _, mw_L_act_1, hN.2.2⟩, List.forall_mem_cons.mpr ⟨Or.inl (by decide), List.forall_mem_cons.mpr ⟨Or.inl (by decide), List.forall_mem_cons.mpr ⟨Or.inl (by decide), fun _ h => absurd h List.not_mem_nil⟩⟩⟩⟩⟩⟩⟩⟩) (fun q => ?_)
        refine z_sub [4, 0] [(0, .ref (w.1 j0)), (8, .int x31)] rfl ?_
        exact hh475 _ q hx
    refine z_pop C rfl dL_act_129 ?_
    refine z_goto (tgt := 438) C dL_act_130 (by decide) ?_
    refine z_goto (tgt := 492) C dL_act_438 (by decide) ?_
    refine z_aload_n C 4 (by rfl) dL_act_492 ?_
    refine zv_i C (As := []) (bytes := cX8_clock) (maxL := 1) (F1 := 0) (L1 := 0) (c_X8_clock w _ j0 _ h0 hw) h0.2 (tE7 h0.1) rfl 0 gL_act_X8_clock rfl (by decide +kernel) ⟨Nat.le_of_ble_eq_true rfl, Nat.le_of_ble_eq_true rfl⟩ rfl (Nat.le_of_ble_eq_true rfl) ⟨Nat.le_of_ble_eq_true rfl, Nat.le_of_ble_eq_true rfl⟩ rfl dL_act_493 (fun x62 τ61 hw => ?_)
    refine z_iload C 0 (by rfl) dL_act_496 ?_
    refine z_icmp_ne (tgt := 505) C dL_act_498 (by decide) (fun c63 => ?_) (fun c63 => ?_)
    · have hw := hw.1 c63
      refine z_iconst C 0 (by decide) dL_act_505 ?_
      exact hR _ _ _ _ dL_act_506 rfl hw
    · have hw := hw.2 c63
      refine z_iconst C 1 (by decide) dL_act_501 ?_
      refine z_goto (tgt := 506) C dL_act_502 (by decide) ?_
      exact hR _ _ _ _ dL_act_506 rfl hw
  · have hw := hw.2.2.1 c44
    refine z_swIn (tgt := 133) C dL_act_47 (by rcases c44 with rfl <;> decide) (by rcases c44 with rfl <;> decide) (by rcases c44 with rfl <;> rfl) (by decide) ?_
    refine z_aload_n C 4 (by rfl) dL_act_133 ?_
    refine z_iload C 2 (by rfl) dL_act_134 ?_
    refine z_iload C 1 (by rfl) dL_act_136 ?_
    refine z_iconst C 1 (by decide) dL_act_138 ?_
    refine z_iload_n C 6 (by rfl) dL_act_139 ?_
    refine z_bipush C 8 (by decide) dL_act_140 ?_
    refine z_ishr C dL_act_142 ?_
    refine z_bipush C 16 (by decide) dL_act_143 ?_
    refine zs_i C (As := [.int (x2 >>> (8 &&& 31)), .int 16]) (bytes := cL_below) (maxL := 2) (F1 := 0) (L1 := 0) (c_L_below w _ (x2 >>> (8 &&& 31)) 16 _  hw) 2 gL_act_L_below rfl (by decide +kernel) ⟨Nat.le_of_ble_eq_true rfl, Nat.le_of_ble_eq_true rfl⟩ rfl (Nat.le_of_ble_eq_true rfl) ⟨Nat.le_of_ble_eq_true rfl, Nat.le_of_ble_eq_true rfl⟩ rfl dL_act_145 (fun x65 τ64 hw => ?_)
    refine z_iadd C dL_act_148 ?_
    refine xv_i C D (As := [.int x27, .int x29, .int (1 + x65)]) (bytes := cX8_call) (maxL := 4) (F1 := 7) (L1 := 120) (mc := 4) (ms := 24) (cx_X8_call w _ j0 x27 x29 (1 + x65) _ _ hl h0 hw) h0.2 (tE7 h0.1) rfl 3 gL_act_X8_call rfl (by decide +kernel) ⟨Nat.le_of_ble_eq_true rfl, Nat.le_of_ble_eq_true rfl⟩ rfl (Nat.le_of_ble_eq_true rfl) (k2 := (4, 24)) rfl ⟨Nat.le_of_ble_eq_true rfl, Nat.le_of_ble_eq_true rfl⟩ rfl dL_act_149 (fun τ66 cd hx => ?_) (fun x67 τ66 hw => ?_)
    · rcases cd with _ | _ | cd
      · refine z_catch C A (cd := 0) (i := 0) (hp := 441) (ct := 94) rfl rfl rfl (by decide) mw_L_act_0 D (by decide) (fun _ hN => fun _ h => absurd h List.not_mem_nil) (fun q => ?_)
        refine z_widen (5, 30) (Nat.le_of_ble_eq_true rfl) (Nat.le_of_ble_eq_true rfl) ?_
        refine z_sub [4, 0] [(0, .ref (w.1 j0)), (8, .int x31)] rfl ?_
        exact hh441 _ q hx
      · refine z_catch C A (cd := 1) (i := 4) (hp := 458) (ct := 96) rfl rfl rfl (by decide) mw_L_act_1 D (by decide) (fun _ hN => List.forall_mem_cons.mpr ⟨Or.inr ⟨by decide, _, mw_L_act_0, hN.1⟩, List.forall_mem_cons.mpr ⟨Or.inl (by decide), List.forall_mem_cons.mpr ⟨Or.inl (by decide), List.forall_mem_cons.mpr ⟨Or.inl (by decide), fun _ h => absurd h List.not_mem_nil⟩⟩⟩⟩) (fun q => ?_)
        refine z_widen (5, 30) (Nat.le_of_ble_eq_true rfl) (Nat.le_of_ble_eq_true rfl) ?_
        refine z_sub [4, 0] [(0, .ref (w.1 j0)), (8, .int x31)] rfl ?_
        exact hh458 _ q hx
      · show Zx w g _ _ _ _ (tp_exn 2)
        refine z_catch C A (cd := 2) (i := 8) (hp := 475) (ct := 98) rfl rfl rfl (by decide) mw_L_act_2 D (by decide) (fun _ hN => List.forall_mem_cons.mpr ⟨Or.inr ⟨by decide, _, mw_L_act_0, hN.2.1⟩, List.forall_mem_cons.mpr ⟨Or.inl (by decide), List.forall_mem_cons.mpr ⟨Or.inl (by decide), List.forall_mem_cons.mpr ⟨Or.inl (by decide), List.forall_mem_cons.mpr ⟨Or.inr ⟨by decide, _, mw_L_act_1, hN.2.2⟩, List.forall_mem_cons.mpr ⟨Or.inl (by decide), List.forall_mem_cons.mpr ⟨Or.inl (by decide), List.forall_mem_cons.mpr ⟨Or.inl (by decide), fun _ h => absurd h List.not_mem_nil⟩⟩⟩⟩⟩⟩⟩⟩) (fun q => ?_)
        refine z_widen (5, 30) (Nat.le_of_ble_eq_true rfl) (Nat.le_of_ble_eq_true rfl) ?_
        refine z_sub [4, 0] [(0, .ref (w.1 j0)), (8, .int x31)] rfl ?_
        exact hh475 _ q hx
    refine z_istore C [(9, .int x67), (8, .int x31), (7, .int x29), (6, .int x27), (5, .int x25), (0, .ref (w.1 j0)), (1, .int x1), (2, .int x2), (3, .ref (w.1 j3)), (4, .ref (w.1 j4))] dL_act_152 (by decide) rfl ?_
    refine z_aload_n C 8 (by rfl) dL_act_154 ?_
    refine z_iload C 0 (by rfl) dL_act_155 ?_
    refine z_iload_n C 7 (by rfl) dL_act_157 ?_
    obtain ⟨s68, hw⟩ := hw
    refine z_iast C h3.2 (fun _ => tE19 h3.1) s68 dL_act_158 (fun τ69 eτ69 => ?_)
    have hw := hw τ69 eτ69
    refine z_goto (tgt := 438) C dL_act_159 (by decide) ?_
    refine z_goto (tgt := 492) C dL_act_438 (by decide) ?_
    refine z_aload_n C 5 (by rfl) dL_act_492 ?_
    refine zv_i C (As := []) (bytes := cX8_clock) (maxL := 1) (F1 := 0) (L1 := 0) (c_X8_clock w _ j0 _ h0 hw) h0.2 (tE7 h0.1) rfl 0 gL_act_X8_clock rfl (by decide +kernel) ⟨Nat.le_of_ble_eq_true rfl, Nat.le_of_ble_eq_true rfl⟩ rfl (Nat.le_of_ble_eq_true rfl) ⟨Nat.le_of_ble_eq_true rfl, Nat.le_of_ble_eq_true rfl⟩ rfl dL_act_493 (fun x71 τ70 hw => ?_)
    refine z_iload C 1 (by rfl) dL_act_496 ?_
    refine z_icmp_ne (tgt := 505) C dL_act_498 (by decide) (fun c72 => ?_) (fun c72 => ?_)
    · have hw := hw.1 c72
      refine z_iconst C 0 (by decide) dL_act_505 ?_
      refine z_widen (5, 30) (Nat.le_of_ble_eq_true rfl) (Nat.le_of_ble_eq_true rfl) ?_
      exact hR _ _ _ _ dL_act_506 rfl hw
    · have hw := hw.2 c72
      refine z_iconst C 1 (by decide) dL_act_501 ?_
      refine z_goto (tgt := 506) C dL_act_502 (by decide) ?_
      refine z_widen (5, 30) (Nat.le_of_ble_eq_true rfl) (Nat.le_of_ble_eq_true rfl) ?_
      exact hR _ _ _ _ dL_act_506 rfl hw
  · have hw := hw.2.2.2.1 c44
    refine z_swIn (tgt := 162) C dL_act_47 (by rcases c44 with rfl | rfl <;> decide) (by rcases c44 with rfl | rfl <;> decide) (by rcases c44 with rfl | rfl <;> rfl) (by decide) ?_
    refine z_aload_n C 4 (by rfl) dL_act_162 ?_
    refine z_iload C 3 (by rfl) dL_act_163 ?_
    refine xv_i C D (As := [.int x25]) (bytes := cX8_given) (maxL := 2) (F1 := 8) (L1 := 124) (mc := 1) (ms := 6) (cx_X8_given w _ j0 x25 _ _ hl h0 hw) h0.2 (tE7 h0.1) rfl 1 gL_act_X8_given rfl (by decide +kernel) ⟨Nat.le_of_ble_eq_true rfl, Nat.le_of_ble_eq_true rfl⟩ rfl (Nat.le_of_ble_eq_true rfl) (k2 := (1, 6)) rfl ⟨Nat.le_of_ble_eq_true rfl, Nat.le_of_ble_eq_true rfl⟩ rfl dL_act_165 (fun τ73 cd hx => ?_) (fun x74 τ73 hw => ?_)
    · rcases cd with _ | _ | cd
      · refine z_catch C A (cd := 0) (i := 0) (hp := 441) (ct := 94) rfl rfl rfl (by decide) mw_L_act_0 D (by decide) (fun _ hN => fun _ h => absurd h List.not_mem_nil) (fun q => ?_)
        refine z_widen (5, 30) (Nat.le_of_ble_eq_true rfl) (Nat.le_of_ble_eq_true rfl) ?_
        refine z_sub [4, 0] [(0, .ref (w.1 j0)), (8, .int x31)] rfl ?_
        exact hh441 _ q hx
      · refine z_catch C A (cd := 1) (i := 4) (hp := 458) (ct := 96) rfl rfl rfl (by decide) mw_L_act_1 D (by decide) (fun _ hN => List.forall_mem_cons.mpr ⟨Or.inr ⟨by decide, _, mw_L_act_0, hN.1⟩, List.forall_mem_cons.mpr ⟨Or.inl (by decide), List.forall_mem_cons.mpr ⟨Or.inl (by decide), List.forall_mem_cons.mpr ⟨Or.inl (by decide), fun _ h => absurd h List.not_mem_nil⟩⟩⟩⟩) (fun q => ?_)
        refine z_widen (5, 30) (Nat.le_of_ble_eq_true rfl) (Nat.le_of_ble_eq_true rfl) ?_
        refine z_sub [4, 0] [(0, .ref (w.1 j0)), (8, .int x31)] rfl ?_
        exact hh458 _ q hx
      · show Zx w g _ _ _ _ (tp_exn 2)
        refine z_catch C A (cd := 2) (i := 8) (hp := 475) (ct := 98) rfl rfl rfl (by decide) mw_L_act_2 D (by decide) (fun _ hN => List.forall_mem_cons.mpr ⟨Or.inr ⟨by decide, _, mw_L_act_0, hN.2.1⟩, List.forall_mem_cons.mpr ⟨Or.inl (by decide), List.forall_mem_cons.mpr ⟨Or.inl (by decide), List.forall_mem_cons.mpr ⟨Or.inl (by decide), List.forall_mem_cons.mpr ⟨Or.inr ⟨by decide, _, mw_L_act_1, hN.2.2⟩, List.forall_mem_cons.mpr ⟨Or.inl (by decide), List.forall_mem_cons.mpr ⟨Or.inl (by decide), List.forall_mem_cons.mpr ⟨Or.inl (by decide), fun _ h => absurd h List.not_mem_nil⟩⟩⟩⟩⟩⟩⟩⟩) (fun q => ?_)
        refine z_widen (5, 30) (Nat.le_of_ble_eq_true rfl) (Nat.le_of_ble_eq_true rfl) ?_
        refine z_sub [4, 0] [(0, .ref (w.1 j0)), (8, .int x31)] rfl ?_
        exact hh475 _ q hx
    refine z_istore C [(10, .int x74), (8, .int x31), (7, .int x29), (6, .int x27), (5, .int x25), (0, .ref (w.1 j0)), (1, .int x1), (2, .int x2), (3, .ref (w.1 j3)), (4, .ref (w.1 j4))] dL_act_168 (by decide) rfl ?_
    refine z_aload_n C 5 (by rfl) dL_act_170 ?_
    refine z_iload C 4 (by rfl) dL_act_171 ?_
    refine z_aload_n C 8 (by rfl) dL_act_173 ?_
    refine z_iload C 4 (by rfl) dL_act_174 ?_
    obtain ⟨s75, hw⟩ := hw
    refine z_iald C h3.2 (tE19 h3.1) s75 dL_act_176 ?_
    refine z_iload C 0 (by rfl) dL_act_177 ?_
    refine z_iadd C dL_act_179 ?_
    refine z_iconst C 1 (by decide) dL_act_180 ?_
    refine z_iload_n C 7 (by rfl) dL_act_181 ?_
    refine z_bipush C 7 (by decide) dL_act_182 ?_
    refine z_ishr C dL_act_184 ?_
    refine z_bipush C 12 (by decide) dL_act_185 ?_
    refine zs_i C (As := [.int (x2 >>> (7 &&& 31)), .int 12]) (bytes := cL_below) (maxL := 2) (F1 := 0) (L1 := 0) (c_L_below w _ (x2 >>> (7 &&& 31)) 12 _  hw) 2 gL_act_L_below rfl (by decide +kernel) ⟨Nat.le_of_ble_eq_true rfl, Nat.le_of_ble_eq_true rfl⟩ rfl (Nat.le_of_ble_eq_true rfl) ⟨Nat.le_of_ble_eq_true rfl, Nat.le_of_ble_eq_true rfl⟩ rfl dL_act_187 (fun x77 τ76 hw => ?_)
    refine z_iadd C dL_act_190 ?_
    refine xv_i C D (As := [.int x25, .int ((τ73 j3 (Int32.toNatClampNeg x25)) + x74), .int (1 + x77)]) (bytes := cX8_give) (maxL := 6) (F1 := 8) (L1 := 124) (mc := 4) (ms := 24) (cx_X8_give w _ j0 x25 ((τ73 j3 (Int32.toNatClampNeg x25)) + x74) (1 + x77) _ _ hl h0 hw) h0.2 (tE7 h0.1) rfl 3 gL_act_X8_give rfl (by decide +kernel) ⟨Nat.le_of_ble_eq_true rfl, Nat.le_of_ble_eq_true rfl⟩ rfl (Nat.le_of_ble_eq_true rfl) (k2 := (5, 30)) rfl ⟨Nat.le_of_ble_eq_true rfl, Nat.le_of_ble_eq_true rfl⟩ rfl dL_act_191 (fun τ78 cd hx => ?_) (fun x79 τ78 hw => ?_)
    · rcases cd with _ | _ | cd
      · refine z_catch C A (cd := 0) (i := 0) (hp := 441) (ct := 94) rfl rfl rfl (by decide) mw_L_act_0 D (by decide) (fun _ hN => fun _ h => absurd h List.not_mem_nil) (fun q => ?_)
        refine z_sub [5, 1] [(0, .ref (w.1 j0)), (8, .int x31)] rfl ?_
        exact hh441 _ q hx
      · refine z_catch C A (cd := 1) (i := 4) (hp := 458) (ct := 96) rfl rfl rfl (by decide) mw_L_act_1 D (by decide) (fun _ hN => List.forall_mem_cons.mpr ⟨Or.inr ⟨by decide, _, mw_L_act_0, hN.1⟩, List.forall_mem_cons.mpr ⟨Or.inl (by decide), List.forall_mem_cons.mpr ⟨Or.inl (by decide), List.forall_mem_cons.mpr ⟨Or.inl (by decide), fun _ h => absurd h List.not_mem_nil⟩⟩⟩⟩) (fun q => ?_)
        refine z_sub [5, 1] [(0, .ref (w.1 j0)), (8, .int x31)] rfl ?_
        exact hh458 _ q hx
      · show Zx w g _ _ _ _ (tp_exn 2)
        refine z_catch C A (cd := 2) (i := 8) (hp := 475) (ct := 98) rfl rfl rfl (by decide) mw_L_act_2 D (by decide) (fun _ hN => List.forall_mem_cons.mpr ⟨Or.inr ⟨by decide, _, mw_L_act_0, hN.2.1⟩, List.forall_mem_cons.mpr ⟨Or.inl (by decide), List.forall_mem_cons.mpr ⟨Or.inl (by decide), List.forall_mem_cons.mpr ⟨Or.inl (by decide), List.forall_mem_cons.mpr ⟨Or.inr ⟨by decide, _, mw_L_act_1, hN.2.2⟩, List.forall_mem_cons.mpr ⟨Or.inl (by decide), List.forall_mem_cons.mpr ⟨Or.inl (by decide), List.forall_mem_cons.mpr ⟨Or.inl (by decide), fun _ h => absurd h List.not_mem_nil⟩⟩⟩⟩⟩⟩⟩⟩) (fun q => ?_)
        refine z_sub [5, 1] [(0, .ref (w.1 j0)), (8, .int x31)] rfl ?_
        exact hh475 _ q hx
    refine z_pop C rfl dL_act_194 ?_
    refine z_goto (tgt := 438) C dL_act_195 (by decide) ?_
    refine z_goto (tgt := 492) C dL_act_438 (by decide) ?_
    refine z_aload_n C 5 (by rfl) dL_act_492 ?_
    refine zv_i C (As := []) (bytes := cX8_clock) (maxL := 1) (F1 := 0) (L1 := 0) (c_X8_clock w _ j0 _ h0 hw) h0.2 (tE7 h0.1) rfl 0 gL_act_X8_clock rfl (by decide +kernel) ⟨Nat.le_of_ble_eq_true rfl, Nat.le_of_ble_eq_true rfl⟩ rfl (Nat.le_of_ble_eq_true rfl) ⟨Nat.le_of_ble_eq_true rfl, Nat.le_of_ble_eq_true rfl⟩ rfl dL_act_493 (fun x81 τ80 hw => ?_)
    refine z_iload C 1 (by rfl) dL_act_496 ?_
    refine z_icmp_ne (tgt := 505) C dL_act_498 (by decide) (fun c82 => ?_) (fun c82 => ?_)
    · have hw := hw.1 c82
      refine z_iconst C 0 (by decide) dL_act_505 ?_
      exact hR _ _ _ _ dL_act_506 rfl hw
    · have hw := hw.2 c82
      refine z_iconst C 1 (by decide) dL_act_501 ?_
      refine z_goto (tgt := 506) C dL_act_502 (by decide) ?_
      exact hR _ _ _ _ dL_act_506 rfl hw
  · have hw := hw.2.2.2.2.1 c44
    refine z_swIn (tgt := 198) C dL_act_47 (by rcases c44 with rfl <;> decide) (by rcases c44 with rfl <;> decide) (by rcases c44 with rfl <;> rfl) (by decide) ?_
    refine z_iload_n C 6 (by rfl) dL_act_198 ?_
    refine z_bipush C 8 (by decide) dL_act_199 ?_
    refine z_ishr C dL_act_201 ?_
    refine z_iconst C 4 (by decide) dL_act_202 ?_
    refine zs_i C (As := [.int (x2 >>> (8 &&& 31)), .int 4]) (bytes := cL_below) (maxL := 2) (F1 := 0) (L1 := 0) (c_L_below w _ (x2 >>> (8 &&& 31)) 4 _  hw) 2 gL_act_L_below rfl (by decide +kernel) ⟨Nat.le_of_ble_eq_true rfl, Nat.le_of_ble_eq_true rfl⟩ rfl (Nat.le_of_ble_eq_true rfl) ⟨Nat.le_of_ble_eq_true rfl, Nat.le_of_ble_eq_true rfl⟩ rfl dL_act_203 (fun x84 τ83 hw => ?_)
    refine z_if_ne (tgt := 438) C dL_act_206 (by decide) (fun c85 => ?_) (fun c85 => ?_)
    · have hw := hw.1 c85
      refine z_goto (tgt := 492) C dL_act_438 (by decide) ?_
      refine z_aload_n C 4 (by rfl) dL_act_492 ?_
      refine zv_i C (As := []) (bytes := cX8_clock) (maxL := 1) (F1 := 0) (L1 := 0) (c_X8_clock w _ j0 _ h0 hw) h0.2 (tE7 h0.1) rfl 0 gL_act_X8_clock rfl (by decide +kernel) ⟨Nat.le_of_ble_eq_true rfl, Nat.le_of_ble_eq_true rfl⟩ rfl (Nat.le_of_ble_eq_true rfl) ⟨Nat.le_of_ble_eq_true rfl, Nat.le_of_ble_eq_true rfl⟩ rfl dL_act_493 (fun x87 τ86 hw => ?_)
      refine z_iload C 0 (by rfl) dL_act_496 ?_
      refine z_icmp_ne (tgt := 505) C dL_act_498 (by decide) (fun c88 => ?_) (fun c88 => ?_)
      · have hw := hw.1 c88
        refine z_iconst C 0 (by decide) dL_act_505 ?_
        refine z_widen (5, 30) (Nat.le_of_ble_eq_true rfl) (Nat.le_of_ble_eq_true rfl) ?_
        exact hR _ _ _ _ dL_act_506 rfl hw
      · have hw := hw.2 c88
        refine z_iconst C 1 (by decide) dL_act_501 ?_
        refine z_goto (tgt := 506) C dL_act_502 (by decide) ?_
        refine z_widen (5, 30) (Nat.le_of_ble_eq_true rfl) (Nat.le_of_ble_eq_true rfl) ?_
        exact hR _ _ _ _ dL_act_506 rfl hw
    · have hw := hw.2 c85
      refine z_aload_n C 4 (by rfl) dL_act_209 ?_
      refine z_iload C 3 (by rfl) dL_act_210 ?_
      refine xv_i C D (As := [.int x25]) (bytes := cX8_close) (maxL := 3) (F1 := 8) (L1 := 124) (mc := 2) (ms := 12) (cx_X8_close w _ j0 x25 _ _ hl h0 hw) h0.2 (tE7 h0.1) rfl 1 gL_act_X8_close rfl (by decide +kernel) ⟨Nat.le_of_ble_eq_true rfl, Nat.le_of_ble_eq_true rfl⟩ rfl (Nat.le_of_ble_eq_true rfl) (k2 := (2, 12)) rfl ⟨Nat.le_of_ble_eq_true rfl, Nat.le_of_ble_eq_true rfl⟩ rfl dL_act_212 (fun τ89 cd hx => ?_) (fun x90 τ89 hw => ?_)
      · rcases cd with _ | _ | cd
        · refine z_catch C A (cd := 0) (i := 0) (hp := 441) (ct := 94) rfl rfl rfl (by decide) mw_L_act_0 D (by decide) (fun _ hN => fun _ h => absurd h List.not_mem_nil) (fun q => ?_)
          refine z_widen (5, 30) (Nat.le_of_ble_eq_true rfl) (Nat.le_of_ble_eq_true rfl) ?_
          refine z_sub [4, 0] [(0, .ref (w.1 j0)), (8, .int x31)] rfl ?_
          exact hh441 _ q hx
        · refine z_catch C A (cd := 1) (i := 4) (hp := 458) (ct := 96) rfl rfl rfl (by decide) mw_L_act_1 D (by decide) (fun _ hN => List.forall_mem_cons.mpr ⟨Or.inr ⟨by decide, _, mw_L_act_0, hN.1⟩, List.forall_mem_cons.mpr ⟨Or.inl (by decide), List.forall_mem_cons.mpr ⟨Or.inl (by decide), List.forall_mem_cons.mpr ⟨Or.inl (by decide), fun _ h => absurd h List.not_mem_nil⟩⟩⟩⟩) (fun q => ?_)
          refine z_widen (5, 30) (Nat.le_of_ble_eq_true rfl) (Nat.le_of_ble_eq_true rfl) ?_
          refine z_sub [4, 0] [(0, .ref (w.1 j0)), (8, .int x31)] rfl ?_
          exact hh458 _ q hx
        · show Zx w g _ _ _ _ (tp_exn 2)
          refine z_catch C A (cd := 2) (i := 8) (hp := 475) (ct := 98) rfl rfl rfl (by decide) mw_L_act_2 D (by decide) (fun _ hN => List.forall_mem_cons.mpr ⟨Or.inr ⟨by decide, _, mw_L_act_0, hN.2.1⟩, List.forall_mem_cons.mpr ⟨Or.inl (by decide), List.forall_mem_cons.mpr ⟨Or.inl (by decide), List.forall_mem_cons.mpr ⟨Or.inl (by decide), List.forall_mem_cons.mpr ⟨Or.inr ⟨by decide, _, mw_L_act_1, hN.2.2⟩, List.forall_mem_cons.mpr ⟨Or.inl (by decide), List.forall_mem_cons.mpr ⟨Or.inl (by decide), List.forall_mem_cons.mpr ⟨Or.inl (by decide), fun _ h => absurd h List.not_mem_nil⟩⟩⟩⟩⟩⟩⟩⟩) (fun q => ?_)
          refine z_widen (5, 30) (Nat.le_of_ble_eq_true rfl) (Nat.le_of_ble_eq_true rfl) ?_
          refine z_sub [4, 0] [(0, .ref (w.1 j0)), (8, .int x31)] rfl ?_
          exact hh475 _ q hx
      refine z_pop C rfl dL_act_215 ?_
      refine z_goto (tgt := 438) C dL_act_216 (by decide) ?_
      refine z_goto (tgt := 492) C dL_act_438 (by decide) ?_
      refine z_aload_n C 4 (by rfl) dL_act_492 ?_
      refine zv_i C (As := []) (bytes := cX8_clock) (maxL := 1) (F1 := 0) (L1 := 0) (c_X8_clock w _ j0 _ h0 hw) h0.2 (tE7 h0.1) rfl 0 gL_act_X8_clock rfl (by decide +kernel) ⟨Nat.le_of_ble_eq_true rfl, Nat.le_of_ble_eq_true rfl⟩ rfl (Nat.le_of_ble_eq_true rfl) ⟨Nat.le_of_ble_eq_true rfl, Nat.le_of_ble_eq_true rfl⟩ rfl dL_act_493 (fun x92 τ91 hw => ?_)
      refine z_iload C 0 (by rfl) dL_act_496 ?_
      refine z_icmp_ne (tgt := 505) C dL_act_498 (by decide) (fun c93 => ?_) (fun c93 => ?_)
      · have hw := hw.1 c93
        refine z_iconst C 0 (by decide) dL_act_505 ?_
        refine z_widen (5, 30) (Nat.le_of_ble_eq_true rfl) (Nat.le_of_ble_eq_true rfl) ?_
        exact hR _ _ _ _ dL_act_506 rfl hw
      · have hw := hw.2 c93
        refine z_iconst C 1 (by decide) dL_act_501 ?_
        refine z_goto (tgt := 506) C dL_act_502 (by decide) ?_
        refine z_widen (5, 30) (Nat.le_of_ble_eq_true rfl) (Nat.le_of_ble_eq_true rfl) ?_
        exact hR _ _ _ _ dL_act_506 rfl hw
  · have hw := hw.2.2.2.2.2.1 c44
    refine z_swIn (tgt := 219) C dL_act_47 (by rcases c44 with rfl | rfl <;> decide) (by rcases c44 with rfl | rfl <;> decide) (by rcases c44 with rfl | rfl <;> rfl) (by decide) ?_
    refine z_iconst C 1 (by decide) dL_act_219 ?_
    refine z_iload_n C 6 (by rfl) dL_act_220 ?_
    refine z_bipush C 7 (by decide) dL_act_221 ?_
    refine z_ishr C dL_act_223 ?_
    refine z_bipush C 9 (by decide) dL_act_224 ?_
    refine zs_i C (As := [.int (x2 >>> (7 &&& 31)), .int 9]) (bytes := cL_below) (maxL := 2) (F1 := 0) (L1 := 0) (c_L_below w _ (x2 >>> (7 &&& 31)) 9 _  hw) 2 gL_act_L_below rfl (by decide +kernel) ⟨Nat.le_of_ble_eq_true rfl, Nat.le_of_ble_eq_true rfl⟩ rfl (Nat.le_of_ble_eq_true rfl) ⟨Nat.le_of_ble_eq_true rfl, Nat.le_of_ble_eq_true rfl⟩ rfl dL_act_226 (fun x95 τ94 hw => ?_)
    refine z_iadd C dL_act_229 ?_
    refine z_aload_n C 4 (by rfl) dL_act_230 ?_
    refine z_iload C 3 (by rfl) dL_act_231 ?_
    refine xv_i C D (As := [.int x25]) (bytes := cX8_readable) (maxL := 2) (F1 := 7) (L1 := 103) (mc := 1) (ms := 6) (cx_X8_readable w _ j0 x25 _ _ hl h0 hw) h0.2 (tE7 h0.1) rfl 1 gL_act_X8_readable rfl (by decide +kernel) ⟨Nat.le_of_ble_eq_true rfl, Nat.le_of_ble_eq_true rfl⟩ rfl (Nat.le_of_ble_eq_true rfl) (k2 := (1, 6)) rfl ⟨Nat.le_of_ble_eq_true rfl, Nat.le_of_ble_eq_true rfl⟩ rfl dL_act_233 (fun τ96 cd hx => ?_) (fun x97 τ96 hw => ?_)
    · rcases cd with _ | _ | cd
      · refine z_catch C A (cd := 0) (i := 0) (hp := 441) (ct := 94) rfl rfl rfl (by decide) mw_L_act_0 D (by decide) (fun _ hN => fun _ h => absurd h List.not_mem_nil) (fun q => ?_)
        refine z_widen (5, 30) (Nat.le_of_ble_eq_true rfl) (Nat.le_of_ble_eq_true rfl) ?_
        refine z_sub [4, 0] [(0, .ref (w.1 j0)), (8, .int x31)] rfl ?_
        exact hh441 _ q hx
      · refine z_catch C A (cd := 1) (i := 4) (hp := 458) (ct := 96) rfl rfl rfl (by decide) mw_L_act_1 D (by decide) (fun _ hN => List.forall_mem_cons.mpr ⟨Or.inr ⟨by decide, _, mw_L_act_0, hN.1⟩, List.forall_mem_cons.mpr ⟨Or.inl (by decide), List.forall_mem_cons.mpr ⟨Or.inl (by decide), List.forall_mem_cons.mpr ⟨Or.inl (by decide), fun _ h => absurd h List.not_mem_nil⟩⟩⟩⟩) (fun q => ?_)
        refine z_widen (5, 30) (Nat.le_of_ble_eq_true rfl) (Nat.le_of_ble_eq_true rfl) ?_
        refine z_sub [4, 0] [(0, .ref (w.1 j0)), (8, .int x31)] rfl ?_
        exact hh458 _ q hx
      · show Zx w g _ _ _ _ (tp_exn 2)
        refine z_catch C A (cd := 2) (i := 8) (hp := 475) (ct := 98) rfl rfl rfl (by decide) mw_L_act_2 D (by decide) (fun _ hN => List.forall_mem_cons.mpr ⟨Or.inr ⟨by decide, _, mw_L_act_0, hN.2.1⟩, List.forall_mem_cons.mpr ⟨Or.inl (by decide), List.forall_mem_cons.mpr ⟨Or.inl (by decide), List.forall_mem_cons.mpr ⟨Or.inl (by decide), List.forall_mem_cons.mpr ⟨Or.inr ⟨by decide, _, mw_L_act_1, hN.2.2⟩, List.forall_mem_cons.mpr ⟨Or.inl (by decide), List.forall_mem_cons.mpr ⟨Or.inl (by decide), List.forall_mem_cons.mpr ⟨Or.inl (by decide), fun _ h => absurd h List.not_mem_nil⟩⟩⟩⟩⟩⟩⟩⟩) (fun q => ?_)
        refine z_widen (5, 30) (Nat.le_of_ble_eq_true rfl) (Nat.le_of_ble_eq_true rfl) ?_
        refine z_sub [4, 0] [(0, .ref (w.1 j0)), (8, .int x31)] rfl ?_
        exact hh475 _ q hx
    refine z_min C mw_L_act_7 mw_L_act_8 mw_L_act_5 mw_L_act_9 (Nat.le_of_ble_eq_true rfl) (Nat.le_of_ble_eq_true rfl) (Nat.le_of_ble_eq_true rfl) (Nat.le_of_ble_eq_true rfl) dL_act_236 ?_
    refine z_top (fun x98 ex98 => ?_)
    have hw := hw x98 ex98
    refine z_istore C [(11, .int x98), (8, .int x31), (7, .int x29), (6, .int x27), (5, .int x25), (0, .ref (w.1 j0)), (1, .int x1), (2, .int x2), (3, .ref (w.1 j3)), (4, .ref (w.1 j4))] dL_act_239 (by decide) rfl ?_
    refine z_iconst C 0 (by decide) dL_act_241 ?_
    refine z_istore C [(12, .int 0), (11, .int x98), (8, .int x31), (7, .int x29), (6, .int x27), (5, .int x25), (0, .ref (w.1 j0)), (1, .int x1), (2, .int x2), (3, .ref (w.1 j3)), (4, .ref (w.1 j4))] dL_act_242 (by decide) rfl ?_
    refine z_iconst C 0 (by decide) dL_act_244 ?_
    refine z_istore C [(13, .int 0), (12, .int 0), (11, .int x98), (8, .int x31), (7, .int x29), (6, .int x27), (5, .int x25), (0, .ref (w.1 j0)), (1, .int x1), (2, .int x2), (3, .ref (w.1 j3)), (4, .ref (w.1 j4))] dL_act_245 (by decide) rfl ?_
    obtain ⟨I102, u102, hI102, hs102⟩ := hw
    have lp102 : ∀ (n102 : Nat) (τ99 : TS) (x100 : Int32) (x101 : Int32), u102 τ99 x100 x101 < n102 → I102 τ99 x100 x101 → Zt w g τ99 (1, 6) 247 [(0, .ref (w.1 j0)), (2, .int x2), (3, .ref (w.1 j3)), (4, .ref (w.1 j4)), (5, .int x25), (8, .int x31), (11, .int x98), (12, .int x100), (13, .int x101)] [] := by
      intro n102
      induction n102 with
      | zero => intro τ99 x100 x101 hlt102; exact absurd hlt102 (Nat.not_lt_zero _)
      | succ n102 ih102 =>
        intro τ99 x100 x101 hlt102 hh102
        have hw := hs102 τ99 x100 x101 hh102
        refine z_iload C 8 (by rfl) dL_act_247 ?_
        refine z_iload C 6 (by rfl) dL_act_249 ?_
        refine z_icmp_ge (tgt := 278) C dL_act_251 (by decide) (fun c103 => ?_) (fun c103 => ?_)
        · have hw := hw.1 c103
          refine z_aload_n C 0 (by rfl) dL_act_278 ?_
          refine z_iload C 4 (by rfl) dL_act_279 ?_
          refine z_iconst C 1 (by decide) dL_act_281 ?_
          refine z_iload_n C 1 (by rfl) dL_act_282 ?_
          refine z_bipush C 7 (by decide) dL_act_283 ?_
          refine z_ishr C dL_act_285 ?_
          refine z_bipush C 9 (by decide) dL_act_286 ?_
          refine zs_i C (As := [.int (x2 >>> (7 &&& 31)), .int 9]) (bytes := cL_below) (maxL := 2) (F1 := 0) (L1 := 0) (c_L_below w _ (x2 >>> (7 &&& 31)) 9 _  hw) 2 gL_act_L_below rfl (by decide +kernel) ⟨Nat.le_of_ble_eq_true rfl, Nat.le_of_ble_eq_true rfl⟩ rfl (Nat.le_of_ble_eq_true rfl) ⟨Nat.le_of_ble_eq_true rfl, Nat.le_of_ble_eq_true rfl⟩ rfl dL_act_288 (fun x105 τ104 hw => ?_)
          refine z_iadd C dL_act_291 ?_
          refine xv_i C D (As := [.int x25, .int (1 + x105)]) (bytes := cX8_read) (maxL := 9) (F1 := 7) (L1 := 104) (mc := 3) (ms := 18) (cx_X8_read w _ j0 x25 (1 + x105) _ _ hl h0 hw) h0.2 (tE7 h0.1) rfl 2 gL_act_X8_read rfl (by decide +kernel) ⟨Nat.le_of_ble_eq_true rfl, Nat.le_of_ble_eq_true rfl⟩ rfl (Nat.le_of_ble_eq_true rfl) (k2 := (4, 24)) rfl ⟨Nat.le_of_ble_eq_true rfl, Nat.le_of_ble_eq_true rfl⟩ rfl dL_act_292 (fun τ106 cd hx => ?_) (fun x107 τ106 hw => ?_)
          · rcases cd with _ | _ | cd
            · refine z_catch C A (cd := 0) (i := 0) (hp := 441) (ct := 94) rfl rfl rfl (by decide) mw_L_act_0 D (by decide) (fun _ hN => fun _ h => absurd h List.not_mem_nil) (fun q => ?_)
              refine z_widen (5, 30) (Nat.le_of_ble_eq_true rfl) (Nat.le_of_ble_eq_true rfl) ?_
              refine z_sub [0, 5] [(0, .ref (w.1 j0)), (8, .int x31)] rfl ?_
              exact hh441 _ q hx
            · refine z_catch C A (cd := 1) (i := 4) (hp := 458) (ct := 96) rfl rfl rfl (by decide) mw_L_act_1 D (by decide) (fun _ hN => List.forall_mem_cons.mpr ⟨Or.inr ⟨by decide, _, mw_L_act_0, hN.1⟩, List.forall_mem_cons.mpr ⟨Or.inl (by decide), List.forall_mem_cons.mpr ⟨Or.inl (by decide), List.forall_mem_cons.mpr ⟨Or.inl (by decide), fun _ h => absurd h List.not_mem_nil⟩⟩⟩⟩) (fun q => ?_)
              refine z_widen (5, 30) (Nat.le_of_ble_eq_true rfl) (Nat.le_of_ble_eq_true rfl) ?_
              refine z_sub [0, 5] [(0, .ref (w.1 j0)), (8, .int x31)] rfl ?_
              exact hh458 _ q hx
            · show Zx w g _ _ _ _ (tp_exn 2)
              refine z_catch C A (cd := 2) (i := 8) (hp := 475) (ct := 98) rfl rfl rfl (by decide) mw_L_act_2 D (by decide) (fun _ hN => List.forall_mem_cons.mpr ⟨Or.inr ⟨by decide, _, mw_L_act_0, hN.2.1⟩, List.forall_mem_cons.mpr ⟨Or.inl (by decide), List.forall_mem_cons.mpr ⟨Or.inl (by decide), List.forall_mem_cons.mpr ⟨Or.inl (by decide), List.forall_mem_cons.mpr ⟨Or.inr ⟨by decide, _, mw_L_act_1, hN.2.2⟩, List.forall_mem_cons.mpr ⟨Or.inl (by decide), List.forall_mem_cons.mpr ⟨Or.inl (by decide), List.forall_mem_cons.mpr ⟨Or.inl (by decide), fun _ h => absurd h List.not_mem_nil⟩⟩⟩⟩⟩⟩⟩⟩) (fun q => ?_)
              refine z_widen (5, 30) (Nat.le_of_ble_eq_true rfl) (Nat.le_of_ble_eq_true rfl) ?_
              refine z_sub [0, 5] [(0, .ref (w.1 j0)), (8, .int x31)] rfl ?_
              exact hh475 _ q hx
          refine z_iload C 7 (by rfl) dL_act_295 ?_
          refine z_icmp_eq (tgt := 302) C dL_act_297 (by decide) (fun c108 => ?_) (fun c108 => ?_)
          · have hw := hw.1 c108
            refine z_aload C 3 (by rfl) dL_act_302 ?_
            refine z_iload C 4 (by rfl) dL_act_304 ?_
            refine z_dup2 C rfl rfl dL_act_306 ?_
            obtain ⟨s109, hw⟩ := hw
            refine z_iald C h4.2 (tE19 h4.1) s109 dL_act_307 ?_
            refine z_iload C 6 (by rfl) dL_act_308 ?_
            refine z_iadd C dL_act_310 ?_
            obtain ⟨s110, hw⟩ := hw
            refine z_iast C h4.2 (fun _ => tE19 h4.1) s110 dL_act_311 (fun τ111 eτ111 => ?_)
            have hw := hw τ111 eτ111
            refine z_aload_n C 0 (by rfl) dL_act_312 ?_
            refine z_iload C 4 (by rfl) dL_act_313 ?_
            refine zv_i C (As := [.int x25]) (bytes := cX8_hasRead) (maxL := 2) (F1 := 1) (L1 := 21) (c_X8_hasRead w _ j0 x25 _ h0 hw) h0.2 (tE7 h0.1) rfl 1 gL_act_X8_hasRead rfl (by decide +kernel) ⟨Nat.le_of_ble_eq_true rfl, Nat.le_of_ble_eq_true rfl⟩ rfl (Nat.le_of_ble_eq_true rfl) ⟨Nat.le_of_ble_eq_true rfl, Nat.le_of_ble_eq_true rfl⟩ rfl dL_act_315 (fun x113 τ112 hw => ?_)
            refine z_aload C 3 (by rfl) dL_act_318 ?_
            refine z_iload C 4 (by rfl) dL_act_320 ?_
            obtain ⟨s114, hw⟩ := hw
            refine z_iald C h4.2 (tE19 h4.1) s114 dL_act_322 ?_
            refine z_icmp_ne (tgt := 330) C dL_act_323 (by decide) (fun c115 => ?_) (fun c115 => ?_)
            · have hw := hw.1 c115
              refine z_iconst C 0 (by decide) dL_act_330 ?_
              refine z_widen (5, 30) (Nat.le_of_ble_eq_true rfl) (Nat.le_of_ble_eq_true rfl) ?_
              exact hR _ _ _ _ dL_act_331 rfl hw
            · have hw := hw.2 c115
              refine z_iconst C 1 (by decide) dL_act_326 ?_
              refine z_goto (tgt := 331) C dL_act_327 (by decide) ?_
              refine z_widen (5, 30) (Nat.le_of_ble_eq_true rfl) (Nat.le_of_ble_eq_true rfl) ?_
              exact hR _ _ _ _ dL_act_331 rfl hw
          · have hw := hw.2 c108
            refine z_iconst C 0 (by decide) dL_act_300 ?_
            refine z_widen (5, 30) (Nat.le_of_ble_eq_true rfl) (Nat.le_of_ble_eq_true rfl) ?_
            exact hR _ _ _ _ dL_act_301 rfl hw
        · have hw := hw.2 c103
          refine z_iload C 7 (by rfl) dL_act_254 ?_
          refine z_aload_n C 2 (by rfl) dL_act_256 ?_
          refine z_iload C 4 (by rfl) dL_act_257 ?_
          obtain ⟨s116, hw⟩ := hw
          refine z_iald C h3.2 (tE19 h3.1) s116 dL_act_259 ?_
          refine z_aload C 3 (by rfl) dL_act_260 ?_
          refine z_iload C 4 (by rfl) dL_act_262 ?_
          obtain ⟨s117, hw⟩ := hw
          refine z_iald C h4.2 (tE19 h4.1) s117 dL_act_264 ?_
          refine z_iadd C dL_act_265 ?_
          refine z_iload C 8 (by rfl) dL_act_266 ?_
          refine z_iadd C dL_act_268 ?_
          refine z_iadd C dL_act_269 ?_
          refine z_top (fun x118 ex118 => ?_)
          have hw := hw x118 ex118
          refine z_istore C [(12, .int x118), (0, .ref (w.1 j0)), (2, .int x2), (3, .ref (w.1 j3)), (4, .ref (w.1 j4)), (5, .int x25), (8, .int x31), (11, .int x98), (13, .int x101)] dL_act_270 (by decide) rfl ?_
          obtain ⟨x119, ex119⟩ : ∃ z : Int32, z = x101 + 1 := ⟨_, rfl⟩
          have hw := hw x119 ex119
          refine z_iinc C 8 x119 [(13, .int x119), (12, .int x118), (0, .ref (w.1 j0)), (2, .int x2), (3, .ref (w.1 j3)), (4, .ref (w.1 j4)), (5, .int x25), (8, .int x31), (11, .int x98)] dL_act_272 (by rfl) (by rw [ex119]; rfl) (by decide) rfl ?_
          refine z_goto (tgt := 247) C dL_act_275 (by decide) ?_
          refine z_sub [2, 3, 4, 5, 6, 7, 8, 1, 0] [(0, .ref (w.1 j0)), (2, .int x2), (3, .ref (w.1 j3)), (4, .ref (w.1 j4)), (5, .int x25), (8, .int x31), (11, .int x98), (12, .int x118), (13, .int x119)] rfl ?_
          exact ih102 τ99 x118 x119 (Nat.lt_of_lt_of_le hw.2 (Nat.le_of_lt_succ hlt102)) hw.1
    refine z_sub [7, 9, 10, 11, 6, 3, 2, 1, 0] [(0, .ref (w.1 j0)), (2, .int x2), (3, .ref (w.1 j3)), (4, .ref (w.1 j4)), (5, .int x25), (8, .int x31), (11, .int x98), (12, .int 0), (13, .int 0)] rfl ?_
    exact lp102 _ τ96 0 0 (Nat.lt_succ_self _) hI102
  · have hw := hw.2.2.2.2.2.2.1 c44
    refine z_swIn (tgt := 332) C dL_act_47 (by rcases c44 with rfl <;> decide) (by rcases c44 with rfl <;> decide) (by rcases c44 with rfl <;> rfl) (by decide) ?_
    refine z_iload_n C 6 (by rfl) dL_act_332 ?_
    refine z_iconst C 5 (by decide) dL_act_333 ?_
    refine z_ishr C dL_act_334 ?_
    refine z_iconst C 3 (by decide) dL_act_335 ?_
    refine zs_i C (As := [.int (x2 >>> (5 &&& 31)), .int 3]) (bytes := cL_below) (maxL := 2) (F1 := 0) (L1 := 0) (c_L_below w _ (x2 >>> (5 &&& 31)) 3 _  hw) 2 gL_act_L_below rfl (by decide +kernel) ⟨Nat.le_of_ble_eq_true rfl, Nat.le_of_ble_eq_true rfl⟩ rfl (Nat.le_of_ble_eq_true rfl) ⟨Nat.le_of_ble_eq_true rfl, Nat.le_of_ble_eq_true rfl⟩ rfl dL_act_336 (fun x121 τ120 hw => ?_)
    refine z_if_ne (tgt := 438) C dL_act_339 (by decide) (fun c122 => ?_) (fun c122 => ?_)
    · have hw := hw.1 c122
      refine z_goto (tgt := 492) C dL_act_438 (by decide) ?_
      refine z_aload_n C 4 (by rfl) dL_act_492 ?_
      refine zv_i C (As := []) (bytes := cX8_clock) (maxL := 1) (F1 := 0) (L1 := 0) (c_X8_clock w _ j0 _ h0 hw) h0.2 (tE7 h0.1) rfl 0 gL_act_X8_clock rfl (by decide +kernel) ⟨Nat.le_of_ble_eq_true rfl, Nat.le_of_ble_eq_true rfl⟩ rfl (Nat.le_of_ble_eq_true rfl) ⟨Nat.le_of_ble_eq_true rfl, Nat.le_of_ble_eq_true rfl⟩ rfl dL_act_493 (fun x124 τ123 hw => ?_)
      refine z_iload C 0 (by rfl) dL_act_496 ?_
      refine z_icmp_ne (tgt := 505) C dL_act_498 (by decide) (fun c125 => ?_) (fun c125 => ?_)
      · have hw := hw.1 c125
        refine z_iconst C 0 (by decide) dL_act_505 ?_
        refine z_widen (5, 30) (Nat.le_of_ble_eq_true rfl) (Nat.le_of_ble_eq_true rfl) ?_
        exact hR _ _ _ _ dL_act_506 rfl hw
      · have hw := hw.2 c125
        refine z_iconst C 1 (by decide) dL_act_501 ?_
        refine z_goto (tgt := 506) C dL_act_502 (by decide) ?_
        refine z_widen (5, 30) (Nat.le_of_ble_eq_true rfl) (Nat.le_of_ble_eq_true rfl) ?_
        exact hR _ _ _ _ dL_act_506 rfl hw
    · have hw := hw.2 c122
      refine z_aload_n C 4 (by rfl) dL_act_342 ?_
      refine z_iload_n C 6 (by rfl) dL_act_343 ?_
      refine z_bipush C 7 (by decide) dL_act_344 ?_
      refine z_ishr C dL_act_346 ?_
      refine z_iconst C 1 (by decide) dL_act_347 ?_
      refine z_aload_n C 4 (by rfl) dL_act_348 ?_
      refine zv_i C (As := []) (bytes := cX8_links) (maxL := 1) (F1 := 0) (L1 := 0) (c_X8_links w _ j0 _ h0 hw) h0.2 (tE7 h0.1) rfl 0 gL_act_X8_links rfl (by decide +kernel) ⟨Nat.le_of_ble_eq_true rfl, Nat.le_of_ble_eq_true rfl⟩ rfl (Nat.le_of_ble_eq_true rfl) ⟨Nat.le_of_ble_eq_true rfl, Nat.le_of_ble_eq_true rfl⟩ rfl dL_act_349 (fun x127 τ126 hw => ?_)
      refine z_max C mw_L_act_3 mw_L_act_4 mw_L_act_5 mw_L_act_6 (Nat.le_of_ble_eq_true rfl) (Nat.le_of_ble_eq_true rfl) (Nat.le_of_ble_eq_true rfl) (Nat.le_of_ble_eq_true rfl) dL_act_352 ?_
      refine z_top (fun x128 ex128 => ?_)
      have hw := hw x128 ex128
      refine zs_i C (As := [.int (x2 >>> (7 &&& 31)), .int x128]) (bytes := cL_below) (maxL := 2) (F1 := 0) (L1 := 0) (c_L_below w _ (x2 >>> (7 &&& 31)) x128 _  hw) 2 gL_act_L_below rfl (by decide +kernel) ⟨Nat.le_of_ble_eq_true rfl, Nat.le_of_ble_eq_true rfl⟩ rfl (Nat.le_of_ble_eq_true rfl) ⟨Nat.le_of_ble_eq_true rfl, Nat.le_of_ble_eq_true rfl⟩ rfl dL_act_355 (fun x130 τ129 hw => ?_)
      refine xv_i C D (As := [.int x130]) (bytes := cX8_turn) (maxL := 2) (F1 := 7) (L1 := 103) (mc := 1) (ms := 6) (cx_X8_turn w _ j0 x130 _ _ hl h0 hw) h0.2 (tE7 h0.1) rfl 1 gL_act_X8_turn rfl (by decide +kernel) ⟨Nat.le_of_ble_eq_true rfl, Nat.le_of_ble_eq_true rfl⟩ rfl (Nat.le_of_ble_eq_true rfl) (k2 := (1, 6)) rfl ⟨Nat.le_of_ble_eq_true rfl, Nat.le_of_ble_eq_true rfl⟩ rfl dL_act_358 (fun τ131 cd hx => ?_) (fun x132 τ131 hw => ?_)
      · rcases cd with _ | _ | cd
        · refine z_catch C A (cd := 0) (i := 2) (hp := 441) (ct := 94) rfl rfl rfl (by decide) mw_L_act_0 D (by decide) (fun _ hN => List.forall_mem_cons.mpr ⟨Or.inl (by decide), List.forall_mem_cons.mpr ⟨Or.inl (by decide), fun _ h => absurd h List.not_mem_nil⟩⟩) (fun q => ?_)
          refine z_widen (5, 30) (Nat.le_of_ble_eq_true rfl) (Nat.le_of_ble_eq_true rfl) ?_
          refine z_sub [4, 0] [(0, .ref (w.1 j0)), (8, .int x31)] rfl ?_
          exact hh441 _ q hx
        · refine z_catch C A (cd := 1) (i := 6) (hp := 458) (ct := 96) rfl rfl rfl (by decide) mw_L_act_1 D (by decide) (fun _ hN => List.forall_mem_cons.mpr ⟨Or.inl (by decide), List.forall_mem_cons.mpr ⟨Or.inl (by decide), List.forall_mem_cons.mpr ⟨Or.inr ⟨by decide, _, mw_L_act_0, hN.1⟩, List.forall_mem_cons.mpr ⟨Or.inl (by decide), List.forall_mem_cons.mpr ⟨Or.inl (by decide), List.forall_mem_cons.mpr ⟨Or.inl (by decide), fun _ h => absurd h List.not_mem_nil⟩⟩⟩⟩⟩⟩) (fun q => ?_)
          refine z_widen (5, 30) (Nat.le_of_ble_eq_true rfl) (Nat.le_of_ble_eq_true rfl) ?_
          refine z_sub [4, 0] [(0, .ref (w.1 j0)), (8, .int x31)] rfl ?_
          exact hh458 _ q hx
        · show Zx w g _ _ _ _ (tp_exn 2)
          refine z_catch C A (cd := 2) (i := 10) (hp := 475) (ct := 98) rfl rfl rfl (by decide) mw_L_act_2 D (by decide) (fun _ hN => List.forall_mem_cons.mpr ⟨Or.inl (by decide), List.forall_mem_cons.mpr ⟨Or.inl (by decide), List.forall_mem_cons.mpr ⟨Or.inr ⟨by decide, _, mw_L_act_0, hN.2.1⟩, List.forall_mem_cons.mpr ⟨Or.inl (by decide), List.forall_mem_cons.mpr ⟨Or.inl (by decide), List.forall_mem_cons.mpr ⟨Or.inl (by decide), List.forall_mem_cons.mpr ⟨Or.inr ⟨by decide, _, mw_L_act_1, hN.2.2⟩, List.forall_mem_cons.mpr ⟨Or.inl (by decide), List.forall_mem_cons.mpr ⟨Or.inl (by decide), List.forall_mem_cons.mpr ⟨Or.inl (by decide), fun _ h => absurd h List.not_mem_nil⟩⟩⟩⟩⟩⟩⟩⟩⟩⟩) (fun q => ?_)
          refine z_widen (5, 30) (Nat.le_of_ble_eq_true rfl) (Nat.le_of_ble_eq_true rfl) ?_
          refine z_sub [4, 0] [(0, .ref (w.1 j0)), (8, .int x31)] rfl ?_
          exact hh475 _ q hx
      refine z_pop C rfl dL_act_361 ?_
      refine z_goto (tgt := 438) C dL_act_362 (by decide) ?_
      refine z_goto (tgt := 492) C dL_act_438 (by decide) ?_
      refine z_aload_n C 4 (by rfl) dL_act_492 ?_
      refine zv_i C (As := []) (bytes := cX8_clock) (maxL := 1) (F1 := 0) (L1 := 0) (c_X8_clock w _ j0 _ h0 hw) h0.2 (tE7 h0.1) rfl 0 gL_act_X8_clock rfl (by decide +kernel) ⟨Nat.le_of_ble_eq_true rfl, Nat.le_of_ble_eq_true rfl⟩ rfl (Nat.le_of_ble_eq_true rfl) ⟨Nat.le_of_ble_eq_true rfl, Nat.le_of_ble_eq_true rfl⟩ rfl dL_act_493 (fun x134 τ133 hw => ?_)
      refine z_iload C 0 (by rfl) dL_act_496 ?_
      refine z_icmp_ne (tgt := 505) C dL_act_498 (by decide) (fun c135 => ?_) (fun c135 => ?_)
      · have hw := hw.1 c135
        refine z_iconst C 0 (by decide) dL_act_505 ?_
        refine z_widen (5, 30) (Nat.le_of_ble_eq_true rfl) (Nat.le_of_ble_eq_true rfl) ?_
        exact hR _ _ _ _ dL_act_506 rfl hw
      · have hw := hw.2 c135
        refine z_iconst C 1 (by decide) dL_act_501 ?_
        refine z_goto (tgt := 506) C dL_act_502 (by decide) ?_
        refine z_widen (5, 30) (Nat.le_of_ble_eq_true rfl) (Nat.le_of_ble_eq_true rfl) ?_
        exact hR _ _ _ _ dL_act_506 rfl hw
  · have hw := hw.2.2.2.2.2.2.2 c44
    refine z_swIn (tgt := 365) C dL_act_47 (by rcases c44 with rfl <;> decide) (by rcases c44 with rfl <;> decide) (by rcases c44 with rfl <;> rfl) (by decide) ?_
    refine z_aload_n C 4 (by rfl) dL_act_365 ?_
    refine z_iload_n C 6 (by rfl) dL_act_366 ?_
    refine z_bipush C 7 (by decide) dL_act_367 ?_
    refine z_ishr C dL_act_369 ?_
    refine z_iconst C 1 (by decide) dL_act_370 ?_
    refine z_aload_n C 4 (by rfl) dL_act_371 ?_
    refine zv_i C (As := []) (bytes := cX8_links) (maxL := 1) (F1 := 0) (L1 := 0) (c_X8_links w _ j0 _ h0 hw) h0.2 (tE7 h0.1) rfl 0 gL_act_X8_links rfl (by decide +kernel) ⟨Nat.le_of_ble_eq_true rfl, Nat.le_of_ble_eq_true rfl⟩ rfl (Nat.le_of_ble_eq_true rfl) ⟨Nat.le_of_ble_eq_true rfl, Nat.le_of_ble_eq_true rfl⟩ rfl dL_act_372 (fun x137 τ136 hw => ?_)
    refine z_max C mw_L_act_3 mw_L_act_4 mw_L_act_5 mw_L_act_6 (Nat.le_of_ble_eq_true rfl) (Nat.le_of_ble_eq_true rfl) (Nat.le_of_ble_eq_true rfl) (Nat.le_of_ble_eq_true rfl) dL_act_375 ?_
    refine z_top (fun x138 ex138 => ?_)
    have hw := hw x138 ex138
    refine zs_i C (As := [.int (x2 >>> (7 &&& 31)), .int x138]) (bytes := cL_below) (maxL := 2) (F1 := 0) (L1 := 0) (c_L_below w _ (x2 >>> (7 &&& 31)) x138 _  hw) 2 gL_act_L_below rfl (by decide +kernel) ⟨Nat.le_of_ble_eq_true rfl, Nat.le_of_ble_eq_true rfl⟩ rfl (Nat.le_of_ble_eq_true rfl) ⟨Nat.le_of_ble_eq_true rfl, Nat.le_of_ble_eq_true rfl⟩ rfl dL_act_378 (fun x140 τ139 hw => ?_)
    refine z_iload_n C 6 (by rfl) dL_act_381 ?_
    refine z_iconst C 5 (by decide) dL_act_382 ?_
    refine z_ishr C dL_act_383 ?_
    refine z_iconst C 2 (by decide) dL_act_384 ?_
    refine zs_i C (As := [.int (x2 >>> (5 &&& 31)), .int 2]) (bytes := cL_below) (maxL := 2) (F1 := 0) (L1 := 0) (c_L_below w _ (x2 >>> (5 &&& 31)) 2 _  hw) 2 gL_act_L_below rfl (by decide +kernel) ⟨Nat.le_of_ble_eq_true rfl, Nat.le_of_ble_eq_true rfl⟩ rfl (Nat.le_of_ble_eq_true rfl) ⟨Nat.le_of_ble_eq_true rfl, Nat.le_of_ble_eq_true rfl⟩ rfl dL_act_385 (fun x142 τ141 hw => ?_)
    refine z_iload_n C 6 (by rfl) dL_act_388 ?_
    refine z_bipush C 6 (by decide) dL_act_389 ?_
    refine z_ishr C dL_act_391 ?_
    refine z_iconst C 4 (by decide) dL_act_392 ?_
    refine zs_i C (As := [.int (x2 >>> (6 &&& 31)), .int 4]) (bytes := cL_below) (maxL := 2) (F1 := 0) (L1 := 0) (c_L_below w _ (x2 >>> (6 &&& 31)) 4 _  hw) 2 gL_act_L_below rfl (by decide +kernel) ⟨Nat.le_of_ble_eq_true rfl, Nat.le_of_ble_eq_true rfl⟩ rfl (Nat.le_of_ble_eq_true rfl) ⟨Nat.le_of_ble_eq_true rfl, Nat.le_of_ble_eq_true rfl⟩ rfl dL_act_393 (fun x144 τ143 hw => ?_)
    refine xv_i C D (As := [.int x140, .int x142, .int x144]) (bytes := cX8_lose) (maxL := 6) (F1 := 8) (L1 := 125) (mc := 3) (ms := 18) (cx_X8_lose w _ j0 x140 x142 x144 _ _ hl h0 hw) h0.2 (tE7 h0.1) rfl 3 gL_act_X8_lose rfl (by decide +kernel) ⟨Nat.le_of_ble_eq_true rfl, Nat.le_of_ble_eq_true rfl⟩ rfl (Nat.le_of_ble_eq_true rfl) (k2 := (3, 18)) rfl ⟨Nat.le_of_ble_eq_true rfl, Nat.le_of_ble_eq_true rfl⟩ rfl dL_act_396 (fun τ145 cd hx => ?_) (fun x146 τ145 hw => ?_)
    · rcases cd with _ | _ | cd
      · refine z_catch C A (cd := 0) (i := 2) (hp := 441) (ct := 94) rfl rfl rfl (by decide) mw_L_act_0 D (by decide) (fun _ hN => List.forall_mem_cons.mpr ⟨Or.inl (by decide), List.forall_mem_cons.mpr ⟨Or.inl (by decide), fun _ h => absurd h List.not_mem_nil⟩⟩) (fun q => ?_)
        refine z_widen (5, 30) (Nat.le_of_ble_eq_true rfl) (Nat.le_of_ble_eq_true rfl) ?_
        refine z_sub [4, 0] [(0, .ref (w.1 j0)), (8, .int x31)] rfl ?_
        exact hh441 _ q hx
      · refine z_catch C A (cd := 1) (i := 6) (hp := 458) (ct := 96) rfl rfl rfl (by decide) mw_L_act_1 D (by decide) (fun _ hN => List.forall_mem_cons.mpr ⟨Or.inl (by decide), List.forall_mem_cons.mpr ⟨Or.inl (by decide), List.forall_mem_cons.mpr ⟨Or.inr ⟨by decide, _, mw_L_act_0, hN.1⟩, List.forall_mem_cons.mpr ⟨Or.inl (by decide), List.forall_mem_cons.mpr ⟨Or.inl (by decide), List.forall_mem_cons.mpr ⟨Or.inl (by decide), fun _ h => absurd h List.not_mem_nil⟩⟩⟩⟩⟩⟩) (fun q => ?_)
        refine z_widen (5, 30) (Nat.le_of_ble_eq_true rfl) (Nat.le_of_ble_eq_true rfl) ?_
        refine z_sub [4, 0] [(0, .ref (w.1 j0)), (8, .int x31)] rfl ?_
        exact hh458 _ q hx
      · show Zx w g _ _ _ _ (tp_exn 2)
        refine z_catch C A (cd := 2) (i := 10) (hp := 475) (ct := 98) rfl rfl rfl (by decide) mw_L_act_2 D (by decide) (fun _ hN => List.forall_mem_cons.mpr ⟨Or.inl (by decide), List.forall_mem_cons.mpr ⟨Or.inl (by decide), List.forall_mem_cons.mpr ⟨Or.inr ⟨by decide, _, mw_L_act_0, hN.2.1⟩, List.forall_mem_cons.mpr ⟨Or.inl (by decide), List.forall_mem_cons.mpr ⟨Or.inl (by decide), List.forall_mem_cons.mpr ⟨Or.inl (by decide), List.forall_mem_cons.mpr ⟨Or.inr ⟨by decide, _, mw_L_act_1, hN.2.2⟩, List.forall_mem_cons.mpr ⟨Or.inl (by decide), List.forall_mem_cons.mpr ⟨Or.inl (by decide), List.forall_mem_cons.mpr ⟨Or.inl (by decide), fun _ h => absurd h List.not_mem_nil⟩⟩⟩⟩⟩⟩⟩⟩⟩⟩) (fun q => ?_)
        refine z_widen (5, 30) (Nat.le_of_ble_eq_true rfl) (Nat.le_of_ble_eq_true rfl) ?_
        refine z_sub [4, 0] [(0, .ref (w.1 j0)), (8, .int x31)] rfl ?_
        exact hh475 _ q hx
    refine z_pop C rfl dL_act_399 ?_
    refine z_goto (tgt := 438) C dL_act_400 (by decide) ?_
    refine z_goto (tgt := 492) C dL_act_438 (by decide) ?_
    refine z_aload_n C 4 (by rfl) dL_act_492 ?_
    refine zv_i C (As := []) (bytes := cX8_clock) (maxL := 1) (F1 := 0) (L1 := 0) (c_X8_clock w _ j0 _ h0 hw) h0.2 (tE7 h0.1) rfl 0 gL_act_X8_clock rfl (by decide +kernel) ⟨Nat.le_of_ble_eq_true rfl, Nat.le_of_ble_eq_true rfl⟩ rfl (Nat.le_of_ble_eq_true rfl) ⟨Nat.le_of_ble_eq_true rfl, Nat.le_of_ble_eq_true rfl⟩ rfl dL_act_493 (fun x148 τ147 hw => ?_)
    refine z_iload C 0 (by rfl) dL_act_496 ?_
    refine z_icmp_ne (tgt := 505) C dL_act_498 (by decide) (fun c149 => ?_) (fun c149 => ?_)
    · have hw := hw.1 c149
      refine z_iconst C 0 (by decide) dL_act_505 ?_
      refine z_widen (5, 30) (Nat.le_of_ble_eq_true rfl) (Nat.le_of_ble_eq_true rfl) ?_
      exact hR _ _ _ _ dL_act_506 rfl hw
    · have hw := hw.2 c149
      refine z_iconst C 1 (by decide) dL_act_501 ?_
      refine z_goto (tgt := 506) C dL_act_502 (by decide) ?_
      refine z_widen (5, 30) (Nat.le_of_ble_eq_true rfl) (Nat.le_of_ble_eq_true rfl) ?_
      exact hR _ _ _ _ dL_act_506 rfl hw
