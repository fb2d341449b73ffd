def wl_40 (τ : TS) (xs : Nat → Int32) (K : TS → Prop) : Prop :=
  wp_L_hasRead τ 0 (xs 1) 503 (fun τ21 x22 => wp_X11_hasRead τ21 234 (xs 1) (fun τ23 x24 => wp_X11_thrown τ23 234 (fun τ25 x26 => ((x26 = x22) → (((¬ x22 = 0) → (K τ25)) ∧ ((x22 = 0) → ((((lg_cmp (tp_jl (τ25 503 0) (τ25 503 1)) (Int32.toInt64 x24)) = 0) → (K τ25)) ∧ ((¬ (lg_cmp (tp_jl (τ25 503 0) (τ25 503 1)) (Int32.toInt64 x24)) = 0) → False))))) ∧ ((¬ x26 = x22) → False))))
set_option maxHeartbeats 4000000 in
set_option maxRecDepth 100000 in
theorem cl_40 {w : WPar} {g : Cxt} {τ : TS} {b : Nat} {xs : Nat → Int32} (C : Cok w g cL_law RL wsL_law 9 14 560 600002 7302232) (D : CX w g) (N3 : tp_N3g g) (S : CS w g b 5 xs) (hl : w.2.1.stackTraces = false) (hN : tp_N w = 504) (h1 : tp_is w 0 7) (h2 : tp_is w 234 20) (h3 : tp_is w 503 33) (K : TS → Prop) (hK : ∀ τ2, K τ2 → Zt w g τ2 (512, 23300) 2739 [(4, .int 0), (3, .ref (w.1 503)), (2, .ref (w.1 234)), (1, .ref (w.1 0)), (0, .ref b)] []) (hw : wl_40 τ xs K) : Zt w g τ (504, 23236) 2412 [(4, .int 0), (3, .ref (w.1 503)), (2, .ref (w.1 234)), (1, .ref (w.1 0)), (0, .ref b)] [] := by
  unfold wl_40 at hw
  refine z_aload_n C 3 (by rfl) dL_law_2412 ?_
  refine z_aload_n C 4 (by rfl) dL_law_2413 ?_
  refine z_iload C 0 (by rfl) dL_law_2414 ?_
  refine z_iconst C 1 (by decide) dL_law_2416 ?_
  refine z_iadd C dL_law_2417 ?_
  refine z_sldn C S 1 (by decide) (by unfold vp_in; decide) dL_law_2418 ?_
  refine z_aload_n C 1 (by rfl) dL_law_2419 ?_
  refine zs_act C D N3 (hh := [(0, 9, 12, 19)]) (As := [.ref (w.1 0), .int (xs 1), .ref (w.1 503)]) (bytes := cL_hasRead) (maxL := 4) (F1 := 8) (L1 := 124) (mc := 1) (ms := 6) (c_L_hasRead w _ 0 (xs 1) 503 _ hl h1 h3 hw) 3 gL_law_L_hasRead rfl (by decide +kernel) ⟨Nat.le_of_ble_eq_true rfl, Nat.le_of_ble_eq_true rfl⟩ rfl (Nat.le_of_ble_eq_true rfl) (k2 := (505, 23242)) rfl ⟨Nat.le_of_ble_eq_true rfl, Nat.le_of_ble_eq_true rfl⟩ rfl dL_law_2420 (fun x22 τ21 hw => ?_)
  refine z_istore C [(5, .int x22), (4, .int 0), (3, .ref (w.1 503)), (2, .ref (w.1 234)), (1, .ref (w.1 0)), (0, .ref b)] dL_law_2423 (by decide) rfl ?_
  refine z_aload_n C 3 (by rfl) dL_law_2425 ?_
  refine z_aload_n C 5 (by rfl) dL_law_2426 ?_
  refine z_iload C 1 (by rfl) dL_law_2427 ?_
  refine z_iconst C 1 (by decide) dL_law_2429 ?_
  refine z_iadd C dL_law_2430 ?_
  refine z_sldn C S 1 (by decide) (by unfold vp_in; decide) dL_law_2431 ?_
  refine zv_i C (As := [.int (xs 1)]) (bytes := cX11_hasRead) (maxL := 2) (F1 := 3) (L1 := 65) (c_X11_hasRead w _ 234 (xs 1) _ h2 hw) h2.2 (tE20 h2.1) rfl 1 gL_law_X11_hasRead rfl (by decide +kernel) ⟨Nat.le_of_ble_eq_true rfl, Nat.le_of_ble_eq_true rfl⟩ rfl (Nat.le_of_ble_eq_true rfl) ⟨Nat.le_of_ble_eq_true rfl, Nat.le_of_ble_eq_true rfl⟩ rfl dL_law_2432 (fun x24 τ23 hw => ?_)
  refine z_istore C [(6, .int x24), (5, .int x22), (4, .int 0), (3, .ref (w.1 503)), (2, .ref (w.1 234)), (1, .ref (w.1 0)), (0, .ref b)] dL_law_2435 (by decide) rfl ?_
  refine z_aload_n C 4 (by rfl) dL_law_2437 ?_
  refine zv_i C (As := []) (bytes := cX11_thrown) (maxL := 1) (F1 := 0) (L1 := 0) (c_X11_thrown w _ 234 _ h2 hw) h2.2 (tE20 h2.1) rfl 0 gL_law_X11_thrown rfl (by decide +kernel) ⟨Nat.le_of_ble_eq_true rfl, Nat.le_of_ble_eq_true rfl⟩ rfl (Nat.le_of_ble_eq_true rfl) ⟨Nat.le_of_ble_eq_true rfl, Nat.le_of_ble_eq_true rfl⟩ rfl dL_law_2438 (fun x26 τ25 hw => ?_)
  refine z_iload C 1 (by rfl) dL_law_2441 ?_
  refine z_icmp_eq (tgt := 2448) C dL_law_2443 (by decide) (fun c27 => ?_) (fun c27 => ?_)
  · have hw := hw.1 c27
    refine z_iload C 1 (by rfl) dL_law_2448 ?_
    refine z_if_ne (tgt := 2465) C dL_law_2450 (by decide) (fun c28 => ?_) (fun c28 => ?_)
    · have hw := hw.1 c28
      refine z_goto (tgt := 2739) C dL_law_2465 (by decide) ?_
      refine z_widen (512, 23300) (Nat.le_of_ble_eq_true rfl) (Nat.le_of_ble_eq_true rfl) ?_
      refine z_sub [2, 3, 4, 5, 6] [(4, .int 0), (3, .ref (w.1 503)), (2, .ref (w.1 234)), (1, .ref (w.1 0)), (0, .ref b)] rfl ?_
      exact hK _ hw
    · have hw := hw.2 c28
      refine z_aload_n C 3 (by rfl) dL_law_2453 ?_
      refine z_iconst C 0 (by decide) dL_law_2454 ?_
      refine z_lald C (x := 0) h3 (by unfold vp_in; decide) dL_law_2455 ?_
      refine z_iload C 0 (by rfl) dL_law_2456 ?_
      refine z_i2l C dL_law_2458 ?_
      refine z_lcmp C dL_law_2459 ?_
      refine z_if_eq (tgt := 2465) C dL_law_2460 (by decide) (fun c29 => ?_) (fun c29 => ?_)
      · have hw := hw.1 c29
        refine z_goto (tgt := 2739) C dL_law_2465 (by decide) ?_
        refine z_widen (512, 23300) (Nat.le_of_ble_eq_true rfl) (Nat.le_of_ble_eq_true rfl) ?_
        refine z_sub [2, 3, 4, 5, 6] [(4, .int 0), (3, .ref (w.1 503)), (2, .ref (w.1 234)), (1, .ref (w.1 0)), (0, .ref b)] rfl ?_
        exact hK _ hw
      · have hw := hw.2 c29
        refine z_iconst C 0 (by decide) dL_law_2463 ?_
        exact hw.elim
  · have hw := hw.2 c27
    refine z_iconst C 0 (by decide) dL_law_2446 ?_
    exact hw.elim
def wl_41 (τ : TS) (xs : Nat → Int32) (K : TS → Prop) : Prop :=
  wp_X8_meanWindow τ 0 (fun τ21 y22 => wp_X11_meanWindow τ21 234 (fun τ23 y24 => (((Op.cmpValue (FP.dcmp y22 y24) .l) = 0) → (K τ23)) ∧ ((¬ (Op.cmpValue (FP.dcmp y22 y24) .l) = 0) → ((((Op.cmpValue (FP.dcmp y22 y22) .l) = 0) → False) ∧ ((¬ (Op.cmpValue (FP.dcmp y22 y22) .l) = 0) → (((¬ (Op.cmpValue (FP.dcmp y24 y24) .l) = 0) → (K τ23)) ∧ (((Op.cmpValue (FP.dcmp y24 y24) .l) = 0) → False)))))))
set_option maxHeartbeats 4000000 in
set_option maxRecDepth 100000 in
theorem cl_41 {w : WPar} {g : Cxt} {τ : TS} {b : Nat} {xs : Nat → Int32} (C : Cok w g cL_law RL wsL_law 9 14 560 600002 7302232) (D : CX w g) (N3 : tp_N3g g) (S : CS w g b 5 xs) (hl : w.2.1.stackTraces = false) (hN : tp_N w = 504) (h1 : tp_is w 0 7) (h2 : tp_is w 234 20) (h3 : tp_is w 503 33) (K : TS → Prop) (hK : ∀ τ2, K τ2 → Zt w g τ2 (512, 23300) 2739 [(4, .int 0), (3, .ref (w.1 503)), (2, .ref (w.1 234)), (1, .ref (w.1 0)), (0, .ref b)] []) (hw : wl_41 τ xs K) : Zt w g τ (504, 23236) 2468 [(4, .int 0), (3, .ref (w.1 503)), (2, .ref (w.1 234)), (1, .ref (w.1 0)), (0, .ref b)] [] := by
  unfold wl_41 at hw
  refine z_aload_n C 3 (by rfl) dL_law_2468 ?_
  refine zv_d C (As := []) (bytes := cX8_meanWindow) (maxL := 6) (F1 := 0) (L1 := 0) (c_X8_meanWindow w _ 0 _ h1 hw) h1.2 (tE7 h1.1) rfl 0 gL_law_X8_meanWindow rfl (by decide +kernel) ⟨Nat.le_of_ble_eq_true rfl, Nat.le_of_ble_eq_true rfl⟩ rfl (Nat.le_of_ble_eq_true rfl) ⟨Nat.le_of_ble_eq_true rfl, Nat.le_of_ble_eq_true rfl⟩ rfl dL_law_2469 (fun y22 τ21 hw => ?_)
  refine z_dstore C [(5, .double y22), (4, .int 0), (3, .ref (w.1 503)), (2, .ref (w.1 234)), (1, .ref (w.1 0)), (0, .ref b)] dL_law_2472 (by decide) rfl ?_
  refine z_aload_n C 3 (by rfl) dL_law_2474 ?_
  refine zv_d C (As := []) (bytes := cX11_meanWindow) (maxL := 4) (F1 := 0) (L1 := 0) (c_X11_meanWindow w _ 234 _ h2 hw) h2.2 (tE20 h2.1) rfl 0 gL_law_X11_meanWindow rfl (by decide +kernel) ⟨Nat.le_of_ble_eq_true rfl, Nat.le_of_ble_eq_true rfl⟩ rfl (Nat.le_of_ble_eq_true rfl) ⟨Nat.le_of_ble_eq_true rfl, Nat.le_of_ble_eq_true rfl⟩ rfl dL_law_2475 (fun y24 τ23 hw => ?_)
  refine z_dstore C [(7, .double y24), (5, .double y22), (4, .int 0), (3, .ref (w.1 503)), (2, .ref (w.1 234)), (1, .ref (w.1 0)), (0, .ref b)] dL_law_2478 (by decide) rfl ?_
  refine z_dload C 1 (by rfl) dL_law_2480 ?_
  refine z_dload C 0 (by rfl) dL_law_2482 ?_
  refine z_dcmp C dL_law_2484 ?_
  refine z_if_eq (tgt := 2506) C dL_law_2485 (by decide) (fun c25 => ?_) (fun c25 => ?_)
  · have hw := hw.1 c25
    refine z_goto (tgt := 2739) C dL_law_2506 (by decide) ?_
    refine z_widen (512, 23300) (Nat.le_of_ble_eq_true rfl) (Nat.le_of_ble_eq_true rfl) ?_
    refine z_sub [2, 3, 4, 5, 6] [(4, .int 0), (3, .ref (w.1 503)), (2, .ref (w.1 234)), (1, .ref (w.1 0)), (0, .ref b)] rfl ?_
    exact hK _ hw
  · have hw := hw.2 c25
    refine z_dload C 1 (by rfl) dL_law_2488 ?_
    refine z_dload C 1 (by rfl) dL_law_2490 ?_
    refine z_dcmp C dL_law_2492 ?_
    refine z_if_eq (tgt := 2504) C dL_law_2493 (by decide) (fun c26 => ?_) (fun c26 => ?_)
    · have hw := hw.1 c26
      refine z_iconst C 0 (by decide) dL_law_2504 ?_
      exact hw.elim
    · have hw := hw.2 c26
      refine z_dload C 0 (by rfl) dL_law_2496 ?_
      refine z_dload C 0 (by rfl) dL_law_2498 ?_
      refine z_dcmp C dL_law_2500 ?_
      refine z_if_ne (tgt := 2506) C dL_law_2501 (by decide) (fun c27 => ?_) (fun c27 => ?_)
      · have hw := hw.1 c27
        refine z_goto (tgt := 2739) C dL_law_2506 (by decide) ?_
        refine z_widen (512, 23300) (Nat.le_of_ble_eq_true rfl) (Nat.le_of_ble_eq_true rfl) ?_
        refine z_sub [2, 3, 4, 5, 6] [(4, .int 0), (3, .ref (w.1 503)), (2, .ref (w.1 234)), (1, .ref (w.1 0)), (0, .ref b)] rfl ?_
        exact hK _ hw
      · have hw := hw.2 c27
        refine z_iconst C 0 (by decide) dL_law_2504 ?_
        exact hw.elim
def wl_42 (τ : TS) (xs : Nat → Int32) (K : TS → Prop) : Prop :=
  wp_L_ticksUntil τ 0 (xs 1) (xs 2) (xs 3) 503 (fun τ21 x22 => wp_X11_ticksUntil τ21 234 (xs 1) (xs 2) (xs 3) (fun τ23 x24 => wp_X11_thrown τ23 234 (fun τ25 x26 => ((x26 = x22) → (((¬ x22 = 0) → (K τ25)) ∧ ((x22 = 0) → ((((lg_cmp (tp_jl (τ25 503 0) (τ25 503 1)) (Int32.toInt64 x24)) = 0) → (K τ25)) ∧ ((¬ (lg_cmp (tp_jl (τ25 503 0) (τ25 503 1)) (Int32.toInt64 x24)) = 0) → False))))) ∧ ((¬ x26 = x22) → False))))
set_option maxHeartbeats 4000000 in
set_option maxRecDepth 100000 in
theorem cl_42 {w : WPar} {g : Cxt} {τ : TS} {b : Nat} {xs : Nat → Int32} (C : Cok w g cL_law RL wsL_law 9 14 560 600002 7302232) (D : CX w g) (N3 : tp_N3g g) (S : CS w g b 5 xs) (hl : w.2.1.stackTraces = false) (hN : tp_N w = 504) (h1 : tp_is w 0 7) (h2 : tp_is w 234 20) (h3 : tp_is w 503 33) (K : TS → Prop) (hK : ∀ τ2, K τ2 → Zt w g τ2 (512, 23300) 2739 [(4, .int 0), (3, .ref (w.1 503)), (2, .ref (w.1 234)), (1, .ref (w.1 0)), (0, .ref b)] []) (hw : wl_42 τ xs K) : Zt w g τ (504, 23236) 2509 [(4, .int 0), (3, .ref (w.1 503)), (2, .ref (w.1 234)), (1, .ref (w.1 0)), (0, .ref b)] [] := by
  unfold wl_42 at hw
  refine z_aload_n C 3 (by rfl) dL_law_2509 ?_
  refine z_aload_n C 4 (by rfl) dL_law_2510 ?_
  refine z_iload C 0 (by rfl) dL_law_2511 ?_
  refine z_iconst C 1 (by decide) dL_law_2513 ?_
  refine z_iadd C dL_law_2514 ?_
  refine z_sldn C S 1 (by decide) (by unfold vp_in; decide) dL_law_2515 ?_
  refine z_aload_n C 4 (by rfl) dL_law_2516 ?_
  refine z_iload C 0 (by rfl) dL_law_2517 ?_
  refine z_iconst C 2 (by decide) dL_law_2519 ?_
  refine z_iadd C dL_law_2520 ?_
  refine z_sldn C S 2 (by decide) (by unfold vp_in; decide) dL_law_2521 ?_
  refine z_aload_n C 4 (by rfl) dL_law_2522 ?_
  refine z_iload C 0 (by rfl) dL_law_2523 ?_
  refine z_iconst C 3 (by decide) dL_law_2525 ?_
  refine z_iadd C dL_law_2526 ?_
  refine z_sldn C S 3 (by decide) (by unfold vp_in; decide) dL_law_2527 ?_
  refine z_aload_n C 1 (by rfl) dL_law_2528 ?_
  refine zs_act C D N3 (hh := [(0, 12, 15, 19), (0, 12, 19, 21)]) (As := [.ref (w.1 0), .int (xs 1), .int (xs 2), .int (xs 3), .ref (w.1 503)]) (bytes := cL_ticksUntil) (maxL := 6) (F1 := 9) (L1 := 149) (mc := 2) (ms := 12) (c_L_ticksUntil w _ 0 (xs 1) (xs 2) (xs 3) 503 _ hl h1 h3 hw) 5 gL_law_L_ticksUntil rfl (by decide +kernel) ⟨Nat.le_of_ble_eq_true rfl, Nat.le_of_ble_eq_true rfl⟩ rfl (Nat.le_of_ble_eq_true rfl) (k2 := (506, 23248)) rfl ⟨Nat.le_of_ble_eq_true rfl, Nat.le_of_ble_eq_true rfl⟩ rfl dL_law_2529 (fun x22 τ21 hw => ?_)
  refine z_istore C [(5, .int x22), (4, .int 0), (3, .ref (w.1 503)), (2, .ref (w.1 234)), (1, .ref (w.1 0)), (0, .ref b)] dL_law_2532 (by decide) rfl ?_
  refine z_aload_n C 3 (by rfl) dL_law_2534 ?_
  refine z_aload_n C 5 (by rfl) dL_law_2535 ?_
  refine z_iload C 1 (by rfl) dL_law_2536 ?_
  refine z_iconst C 1 (by decide) dL_law_2538 ?_
  refine z_iadd C dL_law_2539 ?_
  refine z_sldn C S 1 (by decide) (by unfold vp_in; decide) dL_law_2540 ?_
  refine z_aload_n C 5 (by rfl) dL_law_2541 ?_
  refine z_iload C 1 (by rfl) dL_law_2542 ?_
  refine z_iconst C 2 (by decide) dL_law_2544 ?_
  refine z_iadd C dL_law_2545 ?_
  refine z_sldn C S 2 (by decide) (by unfold vp_in; decide) dL_law_2546 ?_
  refine z_aload_n C 5 (by rfl) dL_law_2547 ?_
  refine z_iload C 1 (by rfl) dL_law_2548 ?_
  refine z_iconst C 3 (by decide) dL_law_2550 ?_
  refine z_iadd C dL_law_2551 ?_
  refine z_sldn C S 3 (by decide) (by unfold vp_in; decide) dL_law_2552 ?_
  refine zv_i C (As := [.int (xs 1), .int (xs 2), .int (xs 3)]) (bytes := cX11_ticksUntil) (maxL := 5) (F1 := 3) (L1 := 61) (c_X11_ticksUntil w _ 234 (xs 1) (xs 2) (xs 3) _ h2 hw) h2.2 (tE20 h2.1) rfl 3 gL_law_X11_ticksUntil rfl (by decide +kernel) ⟨Nat.le_of_ble_eq_true rfl, Nat.le_of_ble_eq_true rfl⟩ rfl (Nat.le_of_ble_eq_true rfl) ⟨Nat.le_of_ble_eq_true rfl, Nat.le_of_ble_eq_true rfl⟩ rfl dL_law_2553 (fun x24 τ23 hw => ?_)
  refine z_istore C [(6, .int x24), (5, .int x22), (4, .int 0), (3, .ref (w.1 503)), (2, .ref (w.1 234)), (1, .ref (w.1 0)), (0, .ref b)] dL_law_2556 (by decide) rfl ?_
  refine z_aload_n C 4 (by rfl) dL_law_2558 ?_
  refine zv_i C (As := []) (bytes := cX11_thrown) (maxL := 1) (F1 := 0) (L1 := 0) (c_X11_thrown w _ 234 _ h2 hw) h2.2 (tE20 h2.1) rfl 0 gL_law_X11_thrown rfl (by decide +kernel) ⟨Nat.le_of_ble_eq_true rfl, Nat.le_of_ble_eq_true rfl⟩ rfl (Nat.le_of_ble_eq_true rfl) ⟨Nat.le_of_ble_eq_true rfl, Nat.le_of_ble_eq_true rfl⟩ rfl dL_law_2559 (fun x26 τ25 hw => ?_)
  refine z_iload C 1 (by rfl) dL_law_2562 ?_
  refine z_icmp_eq (tgt := 2569) C dL_law_2564 (by decide) (fun c27 => ?_) (fun c27 => ?_)
  · have hw := hw.1 c27
    refine z_iload C 1 (by rfl) dL_law_2569 ?_
    refine z_if_ne (tgt := 2586) C dL_law_2571 (by decide) (fun c28 => ?_) (fun c28 => ?_)
    · have hw := hw.1 c28
      refine z_goto (tgt := 2739) C dL_law_2586 (by decide) ?_
      refine z_widen (512, 23300) (Nat.le_of_ble_eq_true rfl) (Nat.le_of_ble_eq_true rfl) ?_
      refine z_sub [2, 3, 4, 5, 6] [(4, .int 0), (3, .ref (w.1 503)), (2, .ref (w.1 234)), (1, .ref (w.1 0)), (0, .ref b)] rfl ?_
      exact hK _ hw
    · have hw := hw.2 c28
      refine z_aload_n C 3 (by rfl) dL_law_2574 ?_
      refine z_iconst C 0 (by decide) dL_law_2575 ?_
      refine z_lald C (x := 0) h3 (by unfold vp_in; decide) dL_law_2576 ?_
      refine z_iload C 0 (by rfl) dL_law_2577 ?_
      refine z_i2l C dL_law_2579 ?_
      refine z_lcmp C dL_law_2580 ?_
      refine z_if_eq (tgt := 2586) C dL_law_2581 (by decide) (fun c29 => ?_) (fun c29 => ?_)
      · have hw := hw.1 c29
        refine z_goto (tgt := 2739) C dL_law_2586 (by decide) ?_
        refine z_widen (512, 23300) (Nat.le_of_ble_eq_true rfl) (Nat.le_of_ble_eq_true rfl) ?_
        refine z_sub [2, 3, 4, 5, 6] [(4, .int 0), (3, .ref (w.1 503)), (2, .ref (w.1 234)), (1, .ref (w.1 0)), (0, .ref b)] rfl ?_
        exact hK _ hw
      · have hw := hw.2 c29
        refine z_iconst C 0 (by decide) dL_law_2584 ?_
        exact hw.elim
  · have hw := hw.2 c27
    refine z_iconst C 0 (by decide) dL_law_2567 ?_
    exact hw.elim
def wl_43 (τ : TS) (xs : Nat → Int32) (K : TS → Prop) : Prop :=
  wp_L_lostIn τ 0 (xs 1) 503 (fun τ21 x22 => wp_X11_lostIn τ21 234 (xs 1) (fun τ23 x24 => wp_X11_thrown τ23 234 (fun τ25 x26 => ((x26 = x22) → (((¬ x22 = 0) → (K τ25)) ∧ ((x22 = 0) → ((((lg_cmp (tp_jl (τ25 503 0) (τ25 503 1)) (Int32.toInt64 x24)) = 0) → (K τ25)) ∧ ((¬ (lg_cmp (tp_jl (τ25 503 0) (τ25 503 1)) (Int32.toInt64 x24)) = 0) → False))))) ∧ ((¬ x26 = x22) → False))))
set_option maxHeartbeats 4000000 in
set_option maxRecDepth 100000 in
theorem cl_43 {w : WPar} {g : Cxt} {τ : TS} {b : Nat} {xs : Nat → Int32} (C : Cok w g cL_law RL wsL_law 9 14 560 600002 7302232) (D : CX w g) (N3 : tp_N3g g) (S : CS w g b 5 xs) (hl : w.2.1.stackTraces = false) (hN : tp_N w = 504) (h1 : tp_is w 0 7) (h2 : tp_is w 234 20) (h3 : tp_is w 503 33) (K : TS → Prop) (hK : ∀ τ2, K τ2 → Zt w g τ2 (512, 23300) 2739 [(4, .int 0), (3, .ref (w.1 503)), (2, .ref (w.1 234)), (1, .ref (w.1 0)), (0, .ref b)] []) (hw : wl_43 τ xs K) : Zt w g τ (504, 23236) 2589 [(4, .int 0), (3, .ref (w.1 503)), (2, .ref (w.1 234)), (1, .ref (w.1 0)), (0, .ref b)] [] := by
  unfold wl_43 at hw
  refine z_aload_n C 3 (by rfl) dL_law_2589 ?_
  refine z_aload_n C 4 (by rfl) dL_law_2590 ?_
  refine z_iload C 0 (by rfl) dL_law_2591 ?_
  refine z_iconst C 1 (by decide) dL_law_2593 ?_
  refine z_iadd C dL_law_2594 ?_
  refine z_sldn C S 1 (by decide) (by unfold vp_in; decide) dL_law_2595 ?_
  refine z_aload_n C 1 (by rfl) dL_law_2596 ?_
  refine zs_act C D N3 (hh := [(0, 9, 12, 21)]) (As := [.ref (w.1 0), .int (xs 1), .ref (w.1 503)]) (bytes := cL_lostIn) (maxL := 4) (F1 := 8) (L1 := 126) (mc := 1) (ms := 6) (c_L_lostIn w _ 0 (xs 1) 503 _ hl h1 h3 hw) 3 gL_law_L_lostIn rfl (by decide +kernel) ⟨Nat.le_of_ble_eq_true rfl, Nat.le_of_ble_eq_true rfl⟩ rfl (Nat.le_of_ble_eq_true rfl) (k2 := (505, 23242)) rfl ⟨Nat.le_of_ble_eq_true rfl, Nat.le_of_ble_eq_true rfl⟩ rfl dL_law_2597 (fun x22 τ21 hw => ?_)
  refine z_istore C [(5, .int x22), (4, .int 0), (3, .ref (w.1 503)), (2, .ref (w.1 234)), (1, .ref (w.1 0)), (0, .ref b)] dL_law_2600 (by decide) rfl ?_
  refine z_aload_n C 3 (by rfl) dL_law_2602 ?_
  refine z_aload_n C 5 (by rfl) dL_law_2603 ?_
  refine z_iload C 1 (by rfl) dL_law_2604 ?_
  refine z_iconst C 1 (by decide) dL_law_2606 ?_
  refine z_iadd C dL_law_2607 ?_
  refine z_sldn C S 1 (by decide) (by unfold vp_in; decide) dL_law_2608 ?_
  refine zv_i C (As := [.int (xs 1)]) (bytes := cX11_lostIn) (maxL := 3) (F1 := 3) (L1 := 61) (c_X11_lostIn w _ 234 (xs 1) _ h2 hw) h2.2 (tE20 h2.1) rfl 1 gL_law_X11_lostIn rfl (by decide +kernel) ⟨Nat.le_of_ble_eq_true rfl, Nat.le_of_ble_eq_true rfl⟩ rfl (Nat.le_of_ble_eq_true rfl) ⟨Nat.le_of_ble_eq_true rfl, Nat.le_of_ble_eq_true rfl⟩ rfl dL_law_2609 (fun x24 τ23 hw => ?_)
  refine z_istore C [(6, .int x24), (5, .int x22), (4, .int 0), (3, .ref (w.1 503)), (2, .ref (w.1 234)), (1, .ref (w.1 0)), (0, .ref b)] dL_law_2612 (by decide) rfl ?_
  refine z_aload_n C 4 (by rfl) dL_law_2614 ?_
  refine zv_i C (As := []) (bytes := cX11_thrown) (maxL := 1) (F1 := 0) (L1 := 0) (c_X11_thrown w _ 234 _ h2 hw) h2.2 (tE20 h2.1) rfl 0 gL_law_X11_thrown rfl (by decide +kernel) ⟨Nat.le_of_ble_eq_true rfl, Nat.le_of_ble_eq_true rfl⟩ rfl (Nat.le_of_ble_eq_true rfl) ⟨Nat.le_of_ble_eq_true rfl, Nat.le_of_ble_eq_true rfl⟩ rfl dL_law_2615 (fun x26 τ25 hw => ?_)
  refine z_iload C 1 (by rfl) dL_law_2618 ?_
  refine z_icmp_eq (tgt := 2625) C dL_law_2620 (by decide) (fun c27 => ?_) (fun c27 => ?_)
  · have hw := hw.1 c27
    refine z_iload C 1 (by rfl) dL_law_2625 ?_
    refine z_if_ne (tgt := 2642) C dL_law_2627 (by decide) (fun c28 => ?_) (fun c28 => ?_)
    · have hw := hw.1 c28
      refine z_goto (tgt := 2739) C dL_law_2642 (by decide) ?_
      refine z_widen (512, 23300) (Nat.le_of_ble_eq_true rfl) (Nat.le_of_ble_eq_true rfl) ?_
      refine z_sub [2, 3, 4, 5, 6] [(4, .int 0), (3, .ref (w.1 503)), (2, .ref (w.1 234)), (1, .ref (w.1 0)), (0, .ref b)] rfl ?_
      exact hK _ hw
    · have hw := hw.2 c28
      refine z_aload_n C 3 (by rfl) dL_law_2630 ?_
      refine z_iconst C 0 (by decide) dL_law_2631 ?_
      refine z_lald C (x := 0) h3 (by unfold vp_in; decide) dL_law_2632 ?_
      refine z_iload C 0 (by rfl) dL_law_2633 ?_
      refine z_i2l C dL_law_2635 ?_
      refine z_lcmp C dL_law_2636 ?_
      refine z_if_eq (tgt := 2642) C dL_law_2637 (by decide) (fun c29 => ?_) (fun c29 => ?_)
      · have hw := hw.1 c29
        refine z_goto (tgt := 2739) C dL_law_2642 (by decide) ?_
        refine z_widen (512, 23300) (Nat.le_of_ble_eq_true rfl) (Nat.le_of_ble_eq_true rfl) ?_
        refine z_sub [2, 3, 4, 5, 6] [(4, .int 0), (3, .ref (w.1 503)), (2, .ref (w.1 234)), (1, .ref (w.1 0)), (0, .ref b)] rfl ?_
        exact hK _ hw
      · have hw := hw.2 c29
        refine z_iconst C 0 (by decide) dL_law_2640 ?_
        exact hw.elim
  · have hw := hw.2 c27
    refine z_iconst C 0 (by decide) dL_law_2623 ?_
    exact hw.elim
def wl_44 (τ : TS) (xs : Nat → Int32) (K : TS → Prop) : Prop :=
  wp_L_distanceWithout τ 0 (xs 1) (xs 2) (xs 3) 503 (fun τ21 x22 => wp_X11_distanceWithout τ21 234 (xs 1) (xs 2) (xs 3) (fun τ23 x24 => wp_X11_thrown τ23 234 (fun τ25 x26 => ((x26 = x22) → (((¬ x22 = 0) → (K τ25)) ∧ ((x22 = 0) → ((((lg_cmp (tp_jl (τ25 503 0) (τ25 503 1)) (Int32.toInt64 x24)) = 0) → (K τ25)) ∧ ((¬ (lg_cmp (tp_jl (τ25 503 0) (τ25 503 1)) (Int32.toInt64 x24)) = 0) → False))))) ∧ ((¬ x26 = x22) → False))))
set_option maxHeartbeats 4000000 in
set_option maxRecDepth 100000 in
theorem cl_44 {w : WPar} {g : Cxt} {τ : TS} {b : Nat} {xs : Nat → Int32} (C : Cok w g cL_law RL wsL_law 9 14 560 600002 7302232) (D : CX w g) (N3 : tp_N3g g) (S : CS w g b 5 xs) (hl : w.2.1.stackTraces = false) (hN : tp_N w = 504) (h1 : tp_is w 0 7) (h2 : tp_is w 234 20) (h3 : tp_is w 503 33) (K : TS → Prop) (hK : ∀ τ2, K τ2 → Zt w g τ2 (512, 23300) 2739 [(4, .int 0), (3, .ref (w.1 503)), (2, .ref (w.1 234)), (1, .ref (w.1 0)), (0, .ref b)] []) (hw : wl_44 τ xs K) : Zt w g τ (504, 23236) 2645 [(4, .int 0), (3, .ref (w.1 503)), (2, .ref (w.1 234)), (1, .ref (w.1 0)), (0, .ref b)] [] := by
  unfold wl_44 at hw
  refine z_aload_n C 3 (by rfl) dL_law_2645 ?_
  refine z_aload_n C 4 (by rfl) dL_law_2646 ?_
  refine z_iload C 0 (by rfl) dL_law_2647 ?_
  refine z_iconst C 1 (by decide) dL_law_2649 ?_
  refine z_iadd C dL_law_2650 ?_
  refine z_sldn C S 1 (by decide) (by unfold vp_in; decide) dL_law_2651 ?_
  refine z_aload_n C 4 (by rfl) dL_law_2652 ?_
  refine z_iload C 0 (by rfl) dL_law_2653 ?_
  refine z_iconst C 2 (by decide) dL_law_2655 ?_
  refine z_iadd C dL_law_2656 ?_
  refine z_sldn C S 2 (by decide) (by unfold vp_in; decide) dL_law_2657 ?_
  refine z_aload_n C 4 (by rfl) dL_law_2658 ?_
  refine z_iload C 0 (by rfl) dL_law_2659 ?_
  refine z_iconst C 3 (by decide) dL_law_2661 ?_
  refine z_iadd C dL_law_2662 ?_
  refine z_sldn C S 3 (by decide) (by unfold vp_in; decide) dL_law_2663 ?_
  refine z_aload_n C 1 (by rfl) dL_law_2664 ?_
  refine zs_act C D N3 (hh := [(0, 12, 15, 19)]) (As := [.ref (w.1 0), .int (xs 1), .int (xs 2), .int (xs 3), .ref (w.1 503)]) (bytes := cL_distanceWithout) (maxL := 6) (F1 := 8) (L1 := 126) (mc := 3) (ms := 18) (c_L_distanceWithout w _ 0 (xs 1) (xs 2) (xs 3) 503 _ hl h1 h3 hw) 5 gL_law_L_distanceWithout rfl (by decide +kernel) ⟨Nat.le_of_ble_eq_true rfl, Nat.le_of_ble_eq_true rfl⟩ rfl (Nat.le_of_ble_eq_true rfl) (k2 := (507, 23254)) rfl ⟨Nat.le_of_ble_eq_true rfl, Nat.le_of_ble_eq_true rfl⟩ rfl dL_law_2665 (fun x22 τ21 hw => ?_)
  refine z_istore C [(5, .int x22), (4, .int 0), (3, .ref (w.1 503)), (2, .ref (w.1 234)), (1, .ref (w.1 0)), (0, .ref b)] dL_law_2668 (by decide) rfl ?_
  refine z_aload_n C 3 (by rfl) dL_law_2670 ?_
  refine z_aload_n C 5 (by rfl) dL_law_2671 ?_
  refine z_iload C 1 (by rfl) dL_law_2672 ?_
  refine z_iconst C 1 (by decide) dL_law_2674 ?_
  refine z_iadd C dL_law_2675 ?_
  refine z_sldn C S 1 (by decide) (by unfold vp_in; decide) dL_law_2676 ?_
  refine z_aload_n C 5 (by rfl) dL_law_2677 ?_
  refine z_iload C 1 (by rfl) dL_law_2678 ?_
  refine z_iconst C 2 (by decide) dL_law_2680 ?_
  refine z_iadd C dL_law_2681 ?_
  refine z_sldn C S 2 (by decide) (by unfold vp_in; decide) dL_law_2682 ?_
  refine z_aload_n C 5 (by rfl) dL_law_2683 ?_
  refine z_iload C 1 (by rfl) dL_law_2684 ?_
  refine z_iconst C 3 (by decide) dL_law_2686 ?_
  refine z_iadd C dL_law_2687 ?_
  refine z_sldn C S 3 (by decide) (by unfold vp_in; decide) dL_law_2688 ?_
  refine zv_i C (As := [.int (xs 1), .int (xs 2), .int (xs 3)]) (bytes := cX11_distanceWithout) (maxL := 4) (F1 := 3) (L1 := 61) (c_X11_distanceWithout w _ 234 (xs 1) (xs 2) (xs 3) _ h2 hw) h2.2 (tE20 h2.1) rfl 3 gL_law_X11_distanceWithout rfl (by decide +kernel) ⟨Nat.le_of_ble_eq_true rfl, Nat.le_of_ble_eq_true rfl⟩ rfl (Nat.le_of_ble_eq_true rfl) ⟨Nat.le_of_ble_eq_true rfl, Nat.le_of_ble_eq_true rfl⟩ rfl dL_law_2689 (fun x24 τ23 hw => ?_)
  refine z_istore C [(6, .int x24), (5, .int x22), (4, .int 0), (3, .ref (w.1 503)), (2, .ref (w.1 234)), (1, .ref (w.1 0)), (0, .ref b)] dL_law_2692 (by decide) rfl ?_
  refine z_aload_n C 4 (by rfl) dL_law_2694 ?_
  refine zv_i C (As := []) (bytes := cX11_thrown) (maxL := 1) (F1 := 0) (L1 := 0) (c_X11_thrown w _ 234 _ h2 hw) h2.2 (tE20 h2.1) rfl 0 gL_law_X11_thrown rfl (by decide +kernel) ⟨Nat.le_of_ble_eq_true rfl, Nat.le_of_ble_eq_true rfl⟩ rfl (Nat.le_of_ble_eq_true rfl) ⟨Nat.le_of_ble_eq_true rfl, Nat.le_of_ble_eq_true rfl⟩ rfl dL_law_2695 (fun x26 τ25 hw => ?_)
  refine z_iload C 1 (by rfl) dL_law_2698 ?_
  refine z_icmp_eq (tgt := 2705) C dL_law_2700 (by decide) (fun c27 => ?_) (fun c27 => ?_)
  · have hw := hw.1 c27
    refine z_iload C 1 (by rfl) dL_law_2705 ?_
    refine z_if_ne (tgt := 2722) C dL_law_2707 (by decide) (fun c28 => ?_) (fun c28 => ?_)
    · have hw := hw.1 c28
      refine z_goto (tgt := 2739) C dL_law_2722 (by decide) ?_
      refine z_widen (512, 23300) (Nat.le_of_ble_eq_true rfl) (Nat.le_of_ble_eq_true rfl) ?_
      refine z_sub [2, 3, 4, 5, 6] [(4, .int 0), (3, .ref (w.1 503)), (2, .ref (w.1 234)), (1, .ref (w.1 0)), (0, .ref b)] rfl ?_
      exact hK _ hw
    · have hw := hw.2 c28
      refine z_aload_n C 3 (by rfl) dL_law_2710 ?_
      refine z_iconst C 0 (by decide) dL_law_2711 ?_
      refine z_lald C (x := 0) h3 (by unfold vp_in; decide) dL_law_2712 ?_
      refine z_iload C 0 (by rfl) dL_law_2713 ?_
      refine z_i2l C dL_law_2715 ?_
      refine z_lcmp C dL_law_2716 ?_
      refine z_if_eq (tgt := 2722) C dL_law_2717 (by decide) (fun c29 => ?_) (fun c29 => ?_)
      · have hw := hw.1 c29
        refine z_goto (tgt := 2739) C dL_law_2722 (by decide) ?_
        refine z_widen (512, 23300) (Nat.le_of_ble_eq_true rfl) (Nat.le_of_ble_eq_true rfl) ?_
        refine z_sub [2, 3, 4, 5, 6] [(4, .int 0), (3, .ref (w.1 503)), (2, .ref (w.1 234)), (1, .ref (w.1 0)), (0, .ref b)] rfl ?_
        exact hK _ hw
      · have hw := hw.2 c29
        refine z_iconst C 0 (by decide) dL_law_2720 ?_
        exact hw.elim
  · have hw := hw.2 c27
    refine z_iconst C 0 (by decide) dL_law_2703 ?_
    exact hw.elim
def wl_45 (τ : TS) (xs : Nat → Int32) (K : TS → Prop) : Prop :=
  wp_X8_digest τ 0 (fun τ21 y22 => wp_X11_digest τ21 (fun τ23 y24 => (((lg_cmp y22 y24) = 0) → (K τ23)) ∧ ((¬ (lg_cmp y22 y24) = 0) → False)))
set_option maxHeartbeats 4000000 in
set_option maxRecDepth 100000 in
theorem cl_45 {w : WPar} {g : Cxt} {τ : TS} {b : Nat} {xs : Nat → Int32} (C : Cok w g cL_law RL wsL_law 9 14 560 600002 7302232) (D : CX w g) (N3 : tp_N3g g) (S : CS w g b 5 xs) (hl : w.2.1.stackTraces = false) (hN : tp_N w = 504) (h1 : tp_is w 0 7) (h2 : tp_is w 234 20) (h3 : tp_is w 503 33) (K : TS → Prop) (hK : ∀ τ2, K τ2 → Zt w g τ2 (512, 23300) 2739 [(4, .int 0), (3, .ref (w.1 503)), (2, .ref (w.1 234)), (1, .ref (w.1 0)), (0, .ref b)] []) (hw : wl_45 τ xs K) : Zt w g τ (504, 23236) 2725 [(4, .int 0), (3, .ref (w.1 503)), (2, .ref (w.1 234)), (1, .ref (w.1 0)), (0, .ref b)] [] := by
  unfold wl_45 at hw
  refine z_aload_n C 3 (by rfl) dL_law_2725 ?_
  refine zv_l C (As := []) (bytes := cX8_digest) (maxL := 4) (F1 := 1) (L1 := 22) (c_X8_digest w _ 0 _ h1 hw) h1.2 (tE7 h1.1) rfl 0 gL_law_X8_digest rfl (by decide +kernel) ⟨Nat.le_of_ble_eq_true rfl, Nat.le_of_ble_eq_true rfl⟩ rfl (Nat.le_of_ble_eq_true rfl) ⟨Nat.le_of_ble_eq_true rfl, Nat.le_of_ble_eq_true rfl⟩ rfl dL_law_2726 (fun y22 τ21 hw => ?_)
  refine z_aload_n C 2 (by rfl) dL_law_2729 ?_
  refine zv_lg C (As := []) (bytes := cX11_digest) (maxL := 9) (F1 := 1) (L1 := 22) (mc := 1) (ms := 6) (c_X11_digest w _ _ hN h2 hw) h2.2 (tE20 h2.1) rfl 0 gL_law_X11_digest rfl (by decide +kernel) ⟨Nat.le_of_ble_eq_true rfl, Nat.le_of_ble_eq_true rfl⟩ rfl (Nat.le_of_ble_eq_true rfl) (k2 := (505, 23242)) rfl ⟨Nat.le_of_ble_eq_true rfl, Nat.le_of_ble_eq_true rfl⟩ rfl dL_law_2730 (fun y24 τ23 hw => ?_)
  refine z_lcmp C dL_law_2733 ?_
  refine z_if_eq (tgt := 2739) C dL_law_2734 (by decide) (fun c25 => ?_) (fun c25 => ?_)
  · have hw := hw.1 c25
    refine z_widen (512, 23300) (Nat.le_of_ble_eq_true rfl) (Nat.le_of_ble_eq_true rfl) ?_
    exact hK _ hw
  · have hw := hw.2 c25
    refine z_iconst C 0 (by decide) dL_law_2737 ?_
    exact hw.elim
