def wl_24 (τ : TS) (xs : Nat → Int32) (K : TS → Prop) : Prop :=
  wp_L_next τ 0 (xs 1) 503 (fun τ21 x22 => wp_X11_next τ21 234 (xs 1) (fun τ23 x24 => wp_X11_thrown τ23 234 (fun τ25 x26 => ((x26 = x22) → (((¬ x22 = 0) → (K τ25)) ∧ ((x22 = 0) → ((((lg_cmp (tp_jl (τ25 503 0) (τ25 503 1)) (Int32.toInt64 x24)) = 0) → (K τ25)) ∧ ((¬ (lg_cmp (tp_jl (τ25 503 0) (τ25 503 1)) (Int32.toInt64 x24)) = 0) → False))))) ∧ ((¬ x26 = x22) → False))))
set_option maxHeartbeats 4000000 in
set_option maxRecDepth 100000 in
theorem cl_24 {w : WPar} {g : Cxt} {τ : TS} {b : Nat} {xs : Nat → Int32} (C : Cok w g cL_law RL wsL_law 9 14 560 600002 7302232) (D : CX w g) (N3 : tp_N3g g) (S : CS w g b 5 xs) (hl : w.2.1.stackTraces = false) (hN : tp_N w = 504) (h1 : tp_is w 0 7) (h2 : tp_is w 234 20) (h3 : tp_is w 503 33) (K : TS → Prop) (hK : ∀ τ2, K τ2 → Zt w g τ2 (512, 23300) 2739 [(4, .int 0), (3, .ref (w.1 503)), (2, .ref (w.1 234)), (1, .ref (w.1 0)), (0, .ref b)] []) (hw : wl_24 τ xs K) : Zt w g τ (504, 23236) 1497 [(4, .int 0), (3, .ref (w.1 503)), (2, .ref (w.1 234)), (1, .ref (w.1 0)), (0, .ref b)] [] := by
  unfold wl_24 at hw
  refine z_aload_n C 3 (by rfl) dL_law_1497 ?_
  refine z_aload_n C 4 (by rfl) dL_law_1498 ?_
  refine z_iload C 0 (by rfl) dL_law_1499 ?_
  refine z_iconst C 1 (by decide) dL_law_1501 ?_
  refine z_iadd C dL_law_1502 ?_
  refine z_sldn C S 1 (by decide) (by unfold vp_in; decide) dL_law_1503 ?_
  refine z_aload_n C 1 (by rfl) dL_law_1504 ?_
  refine zs_act C D N3 (hh := [(0, 9, 12, 19)]) (As := [.ref (w.1 0), .int (xs 1), .ref (w.1 503)]) (bytes := cL_next) (maxL := 4) (F1 := 9) (L1 := 145) (mc := 1) (ms := 6) (c_L_next w _ 0 (xs 1) 503 _ hl h1 h3 hw) 3 gL_law_L_next rfl (by decide +kernel) ⟨Nat.le_of_ble_eq_true rfl, Nat.le_of_ble_eq_true rfl⟩ rfl (Nat.le_of_ble_eq_true rfl) (k2 := (505, 23242)) rfl ⟨Nat.le_of_ble_eq_true rfl, Nat.le_of_ble_eq_true rfl⟩ rfl dL_law_1505 (fun x22 τ21 hw => ?_)
  refine z_istore C [(5, .int x22), (4, .int 0), (3, .ref (w.1 503)), (2, .ref (w.1 234)), (1, .ref (w.1 0)), (0, .ref b)] dL_law_1508 (by decide) rfl ?_
  refine z_aload_n C 3 (by rfl) dL_law_1510 ?_
  refine z_aload_n C 5 (by rfl) dL_law_1511 ?_
  refine z_iload C 1 (by rfl) dL_law_1512 ?_
  refine z_iconst C 1 (by decide) dL_law_1514 ?_
  refine z_iadd C dL_law_1515 ?_
  refine z_sldn C S 1 (by decide) (by unfold vp_in; decide) dL_law_1516 ?_
  refine zv_i C (As := [.int (xs 1)]) (bytes := cX11_next) (maxL := 2) (F1 := 3) (L1 := 65) (c_X11_next w _ 234 (xs 1) _ h2 hw) h2.2 (tE20 h2.1) rfl 1 gL_law_X11_next rfl (by decide +kernel) ⟨Nat.le_of_ble_eq_true rfl, Nat.le_of_ble_eq_true rfl⟩ rfl (Nat.le_of_ble_eq_true rfl) ⟨Nat.le_of_ble_eq_true rfl, Nat.le_of_ble_eq_true rfl⟩ rfl dL_law_1517 (fun x24 τ23 hw => ?_)
  refine z_istore C [(6, .int x24), (5, .int x22), (4, .int 0), (3, .ref (w.1 503)), (2, .ref (w.1 234)), (1, .ref (w.1 0)), (0, .ref b)] dL_law_1520 (by decide) rfl ?_
  refine z_aload_n C 4 (by rfl) dL_law_1522 ?_
  refine zv_i C (As := []) (bytes := cX11_thrown) (maxL := 1) (F1 := 0) (L1 := 0) (c_X11_thrown w _ 234 _ h2 hw) h2.2 (tE20 h2.1) rfl 0 gL_law_X11_thrown rfl (by decide +kernel) ⟨Nat.le_of_ble_eq_true rfl, Nat.le_of_ble_eq_true rfl⟩ rfl (Nat.le_of_ble_eq_true rfl) ⟨Nat.le_of_ble_eq_true rfl, Nat.le_of_ble_eq_true rfl⟩ rfl dL_law_1523 (fun x26 τ25 hw => ?_)
  refine z_iload C 1 (by rfl) dL_law_1526 ?_
  refine z_icmp_eq (tgt := 1533) C dL_law_1528 (by decide) (fun c27 => ?_) (fun c27 => ?_)
  · have hw := hw.1 c27
    refine z_iload C 1 (by rfl) dL_law_1533 ?_
    refine z_if_ne (tgt := 1550) C dL_law_1535 (by decide) (fun c28 => ?_) (fun c28 => ?_)
    · have hw := hw.1 c28
      refine z_goto (tgt := 2739) C dL_law_1550 (by decide) ?_
      refine z_widen (512, 23300) (Nat.le_of_ble_eq_true rfl) (Nat.le_of_ble_eq_true rfl) ?_
      refine z_sub [2, 3, 4, 5, 6] [(4, .int 0), (3, .ref (w.1 503)), (2, .ref (w.1 234)), (1, .ref (w.1 0)), (0, .ref b)] rfl ?_
      exact hK _ hw
    · have hw := hw.2 c28
      refine z_aload_n C 3 (by rfl) dL_law_1538 ?_
      refine z_iconst C 0 (by decide) dL_law_1539 ?_
      refine z_lald C (x := 0) h3 (by unfold vp_in; decide) dL_law_1540 ?_
      refine z_iload C 0 (by rfl) dL_law_1541 ?_
      refine z_i2l C dL_law_1543 ?_
      refine z_lcmp C dL_law_1544 ?_
      refine z_if_eq (tgt := 1550) C dL_law_1545 (by decide) (fun c29 => ?_) (fun c29 => ?_)
      · have hw := hw.1 c29
        refine z_goto (tgt := 2739) C dL_law_1550 (by decide) ?_
        refine z_widen (512, 23300) (Nat.le_of_ble_eq_true rfl) (Nat.le_of_ble_eq_true rfl) ?_
        refine z_sub [2, 3, 4, 5, 6] [(4, .int 0), (3, .ref (w.1 503)), (2, .ref (w.1 234)), (1, .ref (w.1 0)), (0, .ref b)] rfl ?_
        exact hK _ hw
      · have hw := hw.2 c29
        refine z_iconst C 0 (by decide) dL_law_1548 ?_
        exact hw.elim
  · have hw := hw.2 c27
    refine z_iconst C 0 (by decide) dL_law_1531 ?_
    exact hw.elim
def wl_25 (τ : TS) (xs : Nat → Int32) (K : TS → Prop) : Prop :=
  wp_L_window τ 0 (xs 1) 503 (fun τ21 x22 => wp_X11_window τ21 234 (xs 1) (fun τ23 x24 => wp_X11_thrown τ23 234 (fun τ25 x26 => ((x26 = x22) → (((¬ x22 = 0) → (K τ25)) ∧ ((x22 = 0) → ((((lg_cmp (tp_jl (τ25 503 0) (τ25 503 1)) (Int32.toInt64 x24)) = 0) → (K τ25)) ∧ ((¬ (lg_cmp (tp_jl (τ25 503 0) (τ25 503 1)) (Int32.toInt64 x24)) = 0) → False))))) ∧ ((¬ x26 = x22) → False))))
set_option maxHeartbeats 4000000 in
set_option maxRecDepth 100000 in
theorem cl_25 {w : WPar} {g : Cxt} {τ : TS} {b : Nat} {xs : Nat → Int32} (C : Cok w g cL_law RL wsL_law 9 14 560 600002 7302232) (D : CX w g) (N3 : tp_N3g g) (S : CS w g b 5 xs) (hl : w.2.1.stackTraces = false) (hN : tp_N w = 504) (h1 : tp_is w 0 7) (h2 : tp_is w 234 20) (h3 : tp_is w 503 33) (K : TS → Prop) (hK : ∀ τ2, K τ2 → Zt w g τ2 (512, 23300) 2739 [(4, .int 0), (3, .ref (w.1 503)), (2, .ref (w.1 234)), (1, .ref (w.1 0)), (0, .ref b)] []) (hw : wl_25 τ xs K) : Zt w g τ (504, 23236) 1553 [(4, .int 0), (3, .ref (w.1 503)), (2, .ref (w.1 234)), (1, .ref (w.1 0)), (0, .ref b)] [] := by
  unfold wl_25 at hw
  refine z_aload_n C 3 (by rfl) dL_law_1553 ?_
  refine z_aload_n C 4 (by rfl) dL_law_1554 ?_
  refine z_iload C 0 (by rfl) dL_law_1555 ?_
  refine z_iconst C 1 (by decide) dL_law_1557 ?_
  refine z_iadd C dL_law_1558 ?_
  refine z_sldn C S 1 (by decide) (by unfold vp_in; decide) dL_law_1559 ?_
  refine z_aload_n C 1 (by rfl) dL_law_1560 ?_
  refine zs_act C D N3 (hh := [(0, 9, 12, 19)]) (As := [.ref (w.1 0), .int (xs 1), .ref (w.1 503)]) (bytes := cL_window) (maxL := 4) (F1 := 9) (L1 := 145) (mc := 1) (ms := 6) (c_L_window w _ 0 (xs 1) 503 _ hl h1 h3 hw) 3 gL_law_L_window rfl (by decide +kernel) ⟨Nat.le_of_ble_eq_true rfl, Nat.le_of_ble_eq_true rfl⟩ rfl (Nat.le_of_ble_eq_true rfl) (k2 := (505, 23242)) rfl ⟨Nat.le_of_ble_eq_true rfl, Nat.le_of_ble_eq_true rfl⟩ rfl dL_law_1561 (fun x22 τ21 hw => ?_)
  refine z_istore C [(5, .int x22), (4, .int 0), (3, .ref (w.1 503)), (2, .ref (w.1 234)), (1, .ref (w.1 0)), (0, .ref b)] dL_law_1564 (by decide) rfl ?_
  refine z_aload_n C 3 (by rfl) dL_law_1566 ?_
  refine z_aload_n C 5 (by rfl) dL_law_1567 ?_
  refine z_iload C 1 (by rfl) dL_law_1568 ?_
  refine z_iconst C 1 (by decide) dL_law_1570 ?_
  refine z_iadd C dL_law_1571 ?_
  refine z_sldn C S 1 (by decide) (by unfold vp_in; decide) dL_law_1572 ?_
  refine zv_i C (As := [.int (xs 1)]) (bytes := cX11_window) (maxL := 2) (F1 := 3) (L1 := 65) (c_X11_window w _ 234 (xs 1) _ h2 hw) h2.2 (tE20 h2.1) rfl 1 gL_law_X11_window rfl (by decide +kernel) ⟨Nat.le_of_ble_eq_true rfl, Nat.le_of_ble_eq_true rfl⟩ rfl (Nat.le_of_ble_eq_true rfl) ⟨Nat.le_of_ble_eq_true rfl, Nat.le_of_ble_eq_true rfl⟩ rfl dL_law_1573 (fun x24 τ23 hw => ?_)
  refine z_istore C [(6, .int x24), (5, .int x22), (4, .int 0), (3, .ref (w.1 503)), (2, .ref (w.1 234)), (1, .ref (w.1 0)), (0, .ref b)] dL_law_1576 (by decide) rfl ?_
  refine z_aload_n C 4 (by rfl) dL_law_1578 ?_
  refine zv_i C (As := []) (bytes := cX11_thrown) (maxL := 1) (F1 := 0) (L1 := 0) (c_X11_thrown w _ 234 _ h2 hw) h2.2 (tE20 h2.1) rfl 0 gL_law_X11_thrown rfl (by decide +kernel) ⟨Nat.le_of_ble_eq_true rfl, Nat.le_of_ble_eq_true rfl⟩ rfl (Nat.le_of_ble_eq_true rfl) ⟨Nat.le_of_ble_eq_true rfl, Nat.le_of_ble_eq_true rfl⟩ rfl dL_law_1579 (fun x26 τ25 hw => ?_)
  refine z_iload C 1 (by rfl) dL_law_1582 ?_
  refine z_icmp_eq (tgt := 1589) C dL_law_1584 (by decide) (fun c27 => ?_) (fun c27 => ?_)
  · have hw := hw.1 c27
    refine z_iload C 1 (by rfl) dL_law_1589 ?_
    refine z_if_ne (tgt := 1606) C dL_law_1591 (by decide) (fun c28 => ?_) (fun c28 => ?_)
    · have hw := hw.1 c28
      refine z_goto (tgt := 2739) C dL_law_1606 (by decide) ?_
      refine z_widen (512, 23300) (Nat.le_of_ble_eq_true rfl) (Nat.le_of_ble_eq_true rfl) ?_
      refine z_sub [2, 3, 4, 5, 6] [(4, .int 0), (3, .ref (w.1 503)), (2, .ref (w.1 234)), (1, .ref (w.1 0)), (0, .ref b)] rfl ?_
      exact hK _ hw
    · have hw := hw.2 c28
      refine z_aload_n C 3 (by rfl) dL_law_1594 ?_
      refine z_iconst C 0 (by decide) dL_law_1595 ?_
      refine z_lald C (x := 0) h3 (by unfold vp_in; decide) dL_law_1596 ?_
      refine z_iload C 0 (by rfl) dL_law_1597 ?_
      refine z_i2l C dL_law_1599 ?_
      refine z_lcmp C dL_law_1600 ?_
      refine z_if_eq (tgt := 1606) C dL_law_1601 (by decide) (fun c29 => ?_) (fun c29 => ?_)
      · have hw := hw.1 c29
        refine z_goto (tgt := 2739) C dL_law_1606 (by decide) ?_
        refine z_widen (512, 23300) (Nat.le_of_ble_eq_true rfl) (Nat.le_of_ble_eq_true rfl) ?_
        refine z_sub [2, 3, 4, 5, 6] [(4, .int 0), (3, .ref (w.1 503)), (2, .ref (w.1 234)), (1, .ref (w.1 0)), (0, .ref b)] rfl ?_
        exact hK _ hw
      · have hw := hw.2 c29
        refine z_iconst C 0 (by decide) dL_law_1604 ?_
        exact hw.elim
  · have hw := hw.2 c27
    refine z_iconst C 0 (by decide) dL_law_1587 ?_
    exact hw.elim
def wl_26 (τ : TS) (xs : Nat → Int32) (K : TS → Prop) : Prop :=
  wp_L_threshold τ 0 (xs 1) 503 (fun τ21 x22 => wp_X11_threshold τ21 234 (xs 1) (fun τ23 x24 => wp_X11_thrown τ23 234 (fun τ25 x26 => ((x26 = x22) → (((¬ x22 = 0) → (K τ25)) ∧ ((x22 = 0) → ((((lg_cmp (tp_jl (τ25 503 0) (τ25 503 1)) (Int32.toInt64 x24)) = 0) → (K τ25)) ∧ ((¬ (lg_cmp (tp_jl (τ25 503 0) (τ25 503 1)) (Int32.toInt64 x24)) = 0) → False))))) ∧ ((¬ x26 = x22) → False))))
set_option maxHeartbeats 4000000 in
set_option maxRecDepth 100000 in
theorem cl_26 {w : WPar} {g : Cxt} {τ : TS} {b : Nat} {xs : Nat → Int32} (C : Cok w g cL_law RL wsL_law 9 14 560 600002 7302232) (D : CX w g) (N3 : tp_N3g g) (S : CS w g b 5 xs) (hl : w.2.1.stackTraces = false) (hN : tp_N w = 504) (h1 : tp_is w 0 7) (h2 : tp_is w 234 20) (h3 : tp_is w 503 33) (K : TS → Prop) (hK : ∀ τ2, K τ2 → Zt w g τ2 (512, 23300) 2739 [(4, .int 0), (3, .ref (w.1 503)), (2, .ref (w.1 234)), (1, .ref (w.1 0)), (0, .ref b)] []) (hw : wl_26 τ xs K) : Zt w g τ (504, 23236) 1609 [(4, .int 0), (3, .ref (w.1 503)), (2, .ref (w.1 234)), (1, .ref (w.1 0)), (0, .ref b)] [] := by
  unfold wl_26 at hw
  refine z_aload_n C 3 (by rfl) dL_law_1609 ?_
  refine z_aload_n C 4 (by rfl) dL_law_1610 ?_
  refine z_iload C 0 (by rfl) dL_law_1611 ?_
  refine z_iconst C 1 (by decide) dL_law_1613 ?_
  refine z_iadd C dL_law_1614 ?_
  refine z_sldn C S 1 (by decide) (by unfold vp_in; decide) dL_law_1615 ?_
  refine z_aload_n C 1 (by rfl) dL_law_1616 ?_
  refine zs_act C D N3 (hh := [(0, 9, 12, 19)]) (As := [.ref (w.1 0), .int (xs 1), .ref (w.1 503)]) (bytes := cL_threshold) (maxL := 4) (F1 := 9) (L1 := 145) (mc := 1) (ms := 6) (c_L_threshold w _ 0 (xs 1) 503 _ hl h1 h3 hw) 3 gL_law_L_threshold rfl (by decide +kernel) ⟨Nat.le_of_ble_eq_true rfl, Nat.le_of_ble_eq_true rfl⟩ rfl (Nat.le_of_ble_eq_true rfl) (k2 := (505, 23242)) rfl ⟨Nat.le_of_ble_eq_true rfl, Nat.le_of_ble_eq_true rfl⟩ rfl dL_law_1617 (fun x22 τ21 hw => ?_)
  refine z_istore C [(5, .int x22), (4, .int 0), (3, .ref (w.1 503)), (2, .ref (w.1 234)), (1, .ref (w.1 0)), (0, .ref b)] dL_law_1620 (by decide) rfl ?_
  refine z_aload_n C 3 (by rfl) dL_law_1622 ?_
  refine z_aload_n C 5 (by rfl) dL_law_1623 ?_
  refine z_iload C 1 (by rfl) dL_law_1624 ?_
  refine z_iconst C 1 (by decide) dL_law_1626 ?_
  refine z_iadd C dL_law_1627 ?_
  refine z_sldn C S 1 (by decide) (by unfold vp_in; decide) dL_law_1628 ?_
  refine zv_i C (As := [.int (xs 1)]) (bytes := cX11_threshold) (maxL := 2) (F1 := 3) (L1 := 65) (c_X11_threshold w _ 234 (xs 1) _ h2 hw) h2.2 (tE20 h2.1) rfl 1 gL_law_X11_threshold rfl (by decide +kernel) ⟨Nat.le_of_ble_eq_true rfl, Nat.le_of_ble_eq_true rfl⟩ rfl (Nat.le_of_ble_eq_true rfl) ⟨Nat.le_of_ble_eq_true rfl, Nat.le_of_ble_eq_true rfl⟩ rfl dL_law_1629 (fun x24 τ23 hw => ?_)
  refine z_istore C [(6, .int x24), (5, .int x22), (4, .int 0), (3, .ref (w.1 503)), (2, .ref (w.1 234)), (1, .ref (w.1 0)), (0, .ref b)] dL_law_1632 (by decide) rfl ?_
  refine z_aload_n C 4 (by rfl) dL_law_1634 ?_
  refine zv_i C (As := []) (bytes := cX11_thrown) (maxL := 1) (F1 := 0) (L1 := 0) (c_X11_thrown w _ 234 _ h2 hw) h2.2 (tE20 h2.1) rfl 0 gL_law_X11_thrown rfl (by decide +kernel) ⟨Nat.le_of_ble_eq_true rfl, Nat.le_of_ble_eq_true rfl⟩ rfl (Nat.le_of_ble_eq_true rfl) ⟨Nat.le_of_ble_eq_true rfl, Nat.le_of_ble_eq_true rfl⟩ rfl dL_law_1635 (fun x26 τ25 hw => ?_)
  refine z_iload C 1 (by rfl) dL_law_1638 ?_
  refine z_icmp_eq (tgt := 1645) C dL_law_1640 (by decide) (fun c27 => ?_) (fun c27 => ?_)
  · have hw := hw.1 c27
    refine z_iload C 1 (by rfl) dL_law_1645 ?_
    refine z_if_ne (tgt := 1662) C dL_law_1647 (by decide) (fun c28 => ?_) (fun c28 => ?_)
    · have hw := hw.1 c28
      refine z_goto (tgt := 2739) C dL_law_1662 (by decide) ?_
      refine z_widen (512, 23300) (Nat.le_of_ble_eq_true rfl) (Nat.le_of_ble_eq_true rfl) ?_
      refine z_sub [2, 3, 4, 5, 6] [(4, .int 0), (3, .ref (w.1 503)), (2, .ref (w.1 234)), (1, .ref (w.1 0)), (0, .ref b)] rfl ?_
      exact hK _ hw
    · have hw := hw.2 c28
      refine z_aload_n C 3 (by rfl) dL_law_1650 ?_
      refine z_iconst C 0 (by decide) dL_law_1651 ?_
      refine z_lald C (x := 0) h3 (by unfold vp_in; decide) dL_law_1652 ?_
      refine z_iload C 0 (by rfl) dL_law_1653 ?_
      refine z_i2l C dL_law_1655 ?_
      refine z_lcmp C dL_law_1656 ?_
      refine z_if_eq (tgt := 1662) C dL_law_1657 (by decide) (fun c29 => ?_) (fun c29 => ?_)
      · have hw := hw.1 c29
        refine z_goto (tgt := 2739) C dL_law_1662 (by decide) ?_
        refine z_widen (512, 23300) (Nat.le_of_ble_eq_true rfl) (Nat.le_of_ble_eq_true rfl) ?_
        refine z_sub [2, 3, 4, 5, 6] [(4, .int 0), (3, .ref (w.1 503)), (2, .ref (w.1 234)), (1, .ref (w.1 0)), (0, .ref b)] rfl ?_
        exact hK _ hw
      · have hw := hw.2 c29
        refine z_iconst C 0 (by decide) dL_law_1660 ?_
        exact hw.elim
  · have hw := hw.2 c27
    refine z_iconst C 0 (by decide) dL_law_1643 ?_
    exact hw.elim
def wl_27 (τ : TS) (xs : Nat → Int32) (K : TS → Prop) : Prop :=
  wp_L_room τ 0 (xs 1) 503 (fun τ21 x22 => wp_X11_room τ21 234 (xs 1) (fun τ23 x24 => wp_X11_thrown τ23 234 (fun τ25 x26 => ((x26 = x22) → (((¬ x22 = 0) → (K τ25)) ∧ ((x22 = 0) → ((((lg_cmp (tp_jl (τ25 503 0) (τ25 503 1)) (Int32.toInt64 x24)) = 0) → (K τ25)) ∧ ((¬ (lg_cmp (tp_jl (τ25 503 0) (τ25 503 1)) (Int32.toInt64 x24)) = 0) → False))))) ∧ ((¬ x26 = x22) → False))))
set_option maxHeartbeats 4000000 in
set_option maxRecDepth 100000 in
theorem cl_27 {w : WPar} {g : Cxt} {τ : TS} {b : Nat} {xs : Nat → Int32} (C : Cok w g cL_law RL wsL_law 9 14 560 600002 7302232) (D : CX w g) (N3 : tp_N3g g) (S : CS w g b 5 xs) (hl : w.2.1.stackTraces = false) (hN : tp_N w = 504) (h1 : tp_is w 0 7) (h2 : tp_is w 234 20) (h3 : tp_is w 503 33) (K : TS → Prop) (hK : ∀ τ2, K τ2 → Zt w g τ2 (512, 23300) 2739 [(4, .int 0), (3, .ref (w.1 503)), (2, .ref (w.1 234)), (1, .ref (w.1 0)), (0, .ref b)] []) (hw : wl_27 τ xs K) : Zt w g τ (504, 23236) 1665 [(4, .int 0), (3, .ref (w.1 503)), (2, .ref (w.1 234)), (1, .ref (w.1 0)), (0, .ref b)] [] := by
  unfold wl_27 at hw
  refine z_aload_n C 3 (by rfl) dL_law_1665 ?_
  refine z_aload_n C 4 (by rfl) dL_law_1666 ?_
  refine z_iload C 0 (by rfl) dL_law_1667 ?_
  refine z_iconst C 1 (by decide) dL_law_1669 ?_
  refine z_iadd C dL_law_1670 ?_
  refine z_sldn C S 1 (by decide) (by unfold vp_in; decide) dL_law_1671 ?_
  refine z_aload_n C 1 (by rfl) dL_law_1672 ?_
  refine zs_act C D N3 (hh := [(0, 9, 12, 19)]) (As := [.ref (w.1 0), .int (xs 1), .ref (w.1 503)]) (bytes := cL_room) (maxL := 4) (F1 := 9) (L1 := 145) (mc := 1) (ms := 6) (c_L_room w _ 0 (xs 1) 503 _ hl h1 h3 hw) 3 gL_law_L_room rfl (by decide +kernel) ⟨Nat.le_of_ble_eq_true rfl, Nat.le_of_ble_eq_true rfl⟩ rfl (Nat.le_of_ble_eq_true rfl) (k2 := (505, 23242)) rfl ⟨Nat.le_of_ble_eq_true rfl, Nat.le_of_ble_eq_true rfl⟩ rfl dL_law_1673 (fun x22 τ21 hw => ?_)
  refine z_istore C [(5, .int x22), (4, .int 0), (3, .ref (w.1 503)), (2, .ref (w.1 234)), (1, .ref (w.1 0)), (0, .ref b)] dL_law_1676 (by decide) rfl ?_
  refine z_aload_n C 3 (by rfl) dL_law_1678 ?_
  refine z_aload_n C 5 (by rfl) dL_law_1679 ?_
  refine z_iload C 1 (by rfl) dL_law_1680 ?_
  refine z_iconst C 1 (by decide) dL_law_1682 ?_
  refine z_iadd C dL_law_1683 ?_
  refine z_sldn C S 1 (by decide) (by unfold vp_in; decide) dL_law_1684 ?_
  refine zv_i C (As := [.int (xs 1)]) (bytes := cX11_room) (maxL := 2) (F1 := 3) (L1 := 65) (c_X11_room w _ 234 (xs 1) _ h2 hw) h2.2 (tE20 h2.1) rfl 1 gL_law_X11_room rfl (by decide +kernel) ⟨Nat.le_of_ble_eq_true rfl, Nat.le_of_ble_eq_true rfl⟩ rfl (Nat.le_of_ble_eq_true rfl) ⟨Nat.le_of_ble_eq_true rfl, Nat.le_of_ble_eq_true rfl⟩ rfl dL_law_1685 (fun x24 τ23 hw => ?_)
  refine z_istore C [(6, .int x24), (5, .int x22), (4, .int 0), (3, .ref (w.1 503)), (2, .ref (w.1 234)), (1, .ref (w.1 0)), (0, .ref b)] dL_law_1688 (by decide) rfl ?_
  refine z_aload_n C 4 (by rfl) dL_law_1690 ?_
  refine zv_i C (As := []) (bytes := cX11_thrown) (maxL := 1) (F1 := 0) (L1 := 0) (c_X11_thrown w _ 234 _ h2 hw) h2.2 (tE20 h2.1) rfl 0 gL_law_X11_thrown rfl (by decide +kernel) ⟨Nat.le_of_ble_eq_true rfl, Nat.le_of_ble_eq_true rfl⟩ rfl (Nat.le_of_ble_eq_true rfl) ⟨Nat.le_of_ble_eq_true rfl, Nat.le_of_ble_eq_true rfl⟩ rfl dL_law_1691 (fun x26 τ25 hw => ?_)
  refine z_iload C 1 (by rfl) dL_law_1694 ?_
  refine z_icmp_eq (tgt := 1701) C dL_law_1696 (by decide) (fun c27 => ?_) (fun c27 => ?_)
  · have hw := hw.1 c27
    refine z_iload C 1 (by rfl) dL_law_1701 ?_
    refine z_if_ne (tgt := 1718) C dL_law_1703 (by decide) (fun c28 => ?_) (fun c28 => ?_)
    · have hw := hw.1 c28
      refine z_goto (tgt := 2739) C dL_law_1718 (by decide) ?_
      refine z_widen (512, 23300) (Nat.le_of_ble_eq_true rfl) (Nat.le_of_ble_eq_true rfl) ?_
      refine z_sub [2, 3, 4, 5, 6] [(4, .int 0), (3, .ref (w.1 503)), (2, .ref (w.1 234)), (1, .ref (w.1 0)), (0, .ref b)] rfl ?_
      exact hK _ hw
    · have hw := hw.2 c28
      refine z_aload_n C 3 (by rfl) dL_law_1706 ?_
      refine z_iconst C 0 (by decide) dL_law_1707 ?_
      refine z_lald C (x := 0) h3 (by unfold vp_in; decide) dL_law_1708 ?_
      refine z_iload C 0 (by rfl) dL_law_1709 ?_
      refine z_i2l C dL_law_1711 ?_
      refine z_lcmp C dL_law_1712 ?_
      refine z_if_eq (tgt := 1718) C dL_law_1713 (by decide) (fun c29 => ?_) (fun c29 => ?_)
      · have hw := hw.1 c29
        refine z_goto (tgt := 2739) C dL_law_1718 (by decide) ?_
        refine z_widen (512, 23300) (Nat.le_of_ble_eq_true rfl) (Nat.le_of_ble_eq_true rfl) ?_
        refine z_sub [2, 3, 4, 5, 6] [(4, .int 0), (3, .ref (w.1 503)), (2, .ref (w.1 234)), (1, .ref (w.1 0)), (0, .ref b)] rfl ?_
        exact hK _ hw
      · have hw := hw.2 c29
        refine z_iconst C 0 (by decide) dL_law_1716 ?_
        exact hw.elim
  · have hw := hw.2 c27
    refine z_iconst C 0 (by decide) dL_law_1699 ?_
    exact hw.elim
def wl_28 (τ : TS) (xs : Nat → Int32) (K : TS → Prop) : Prop :=
  wp_L_like τ 0 (xs 1) 503 (fun τ21 x22 => wp_X11_like τ21 234 (xs 1) (fun τ23 x24 => wp_X11_thrown τ23 234 (fun τ25 x26 => ((x26 = x22) → (((¬ x22 = 0) → (K τ25)) ∧ ((x22 = 0) → ((((lg_cmp (tp_jl (τ25 503 0) (τ25 503 1)) (Int32.toInt64 x24)) = 0) → (K τ25)) ∧ ((¬ (lg_cmp (tp_jl (τ25 503 0) (τ25 503 1)) (Int32.toInt64 x24)) = 0) → False))))) ∧ ((¬ x26 = x22) → False))))
set_option maxHeartbeats 4000000 in
set_option maxRecDepth 100000 in
theorem cl_28 {w : WPar} {g : Cxt} {τ : TS} {b : Nat} {xs : Nat → Int32} (C : Cok w g cL_law RL wsL_law 9 14 560 600002 7302232) (D : CX w g) (N3 : tp_N3g g) (S : CS w g b 5 xs) (hl : w.2.1.stackTraces = false) (hN : tp_N w = 504) (h1 : tp_is w 0 7) (h2 : tp_is w 234 20) (h3 : tp_is w 503 33) (K : TS → Prop) (hK : ∀ τ2, K τ2 → Zt w g τ2 (512, 23300) 2739 [(4, .int 0), (3, .ref (w.1 503)), (2, .ref (w.1 234)), (1, .ref (w.1 0)), (0, .ref b)] []) (hw : wl_28 τ xs K) : Zt w g τ (504, 23236) 1721 [(4, .int 0), (3, .ref (w.1 503)), (2, .ref (w.1 234)), (1, .ref (w.1 0)), (0, .ref b)] [] := by
  unfold wl_28 at hw
  refine z_aload_n C 3 (by rfl) dL_law_1721 ?_
  refine z_aload_n C 4 (by rfl) dL_law_1722 ?_
  refine z_iload C 0 (by rfl) dL_law_1723 ?_
  refine z_iconst C 1 (by decide) dL_law_1725 ?_
  refine z_iadd C dL_law_1726 ?_
  refine z_sldn C S 1 (by decide) (by unfold vp_in; decide) dL_law_1727 ?_
  refine z_aload_n C 1 (by rfl) dL_law_1728 ?_
  refine zs_act C D N3 (hh := [(0, 9, 12, 19)]) (As := [.ref (w.1 0), .int (xs 1), .ref (w.1 503)]) (bytes := cL_like) (maxL := 4) (F1 := 9) (L1 := 145) (mc := 1) (ms := 6) (c_L_like w _ 0 (xs 1) 503 _ hl h1 h3 hw) 3 gL_law_L_like rfl (by decide +kernel) ⟨Nat.le_of_ble_eq_true rfl, Nat.le_of_ble_eq_true rfl⟩ rfl (Nat.le_of_ble_eq_true rfl) (k2 := (505, 23242)) rfl ⟨Nat.le_of_ble_eq_true rfl, Nat.le_of_ble_eq_true rfl⟩ rfl dL_law_1729 (fun x22 τ21 hw => ?_)
  refine z_istore C [(5, .int x22), (4, .int 0), (3, .ref (w.1 503)), (2, .ref (w.1 234)), (1, .ref (w.1 0)), (0, .ref b)] dL_law_1732 (by decide) rfl ?_
  refine z_aload_n C 3 (by rfl) dL_law_1734 ?_
  refine z_aload_n C 5 (by rfl) dL_law_1735 ?_
  refine z_iload C 1 (by rfl) dL_law_1736 ?_
  refine z_iconst C 1 (by decide) dL_law_1738 ?_
  refine z_iadd C dL_law_1739 ?_
  refine z_sldn C S 1 (by decide) (by unfold vp_in; decide) dL_law_1740 ?_
  refine zv_i C (As := [.int (xs 1)]) (bytes := cX11_like) (maxL := 2) (F1 := 3) (L1 := 65) (c_X11_like w _ 234 (xs 1) _ h2 hw) h2.2 (tE20 h2.1) rfl 1 gL_law_X11_like rfl (by decide +kernel) ⟨Nat.le_of_ble_eq_true rfl, Nat.le_of_ble_eq_true rfl⟩ rfl (Nat.le_of_ble_eq_true rfl) ⟨Nat.le_of_ble_eq_true rfl, Nat.le_of_ble_eq_true rfl⟩ rfl dL_law_1741 (fun x24 τ23 hw => ?_)
  refine z_istore C [(6, .int x24), (5, .int x22), (4, .int 0), (3, .ref (w.1 503)), (2, .ref (w.1 234)), (1, .ref (w.1 0)), (0, .ref b)] dL_law_1744 (by decide) rfl ?_
  refine z_aload_n C 4 (by rfl) dL_law_1746 ?_
  refine zv_i C (As := []) (bytes := cX11_thrown) (maxL := 1) (F1 := 0) (L1 := 0) (c_X11_thrown w _ 234 _ h2 hw) h2.2 (tE20 h2.1) rfl 0 gL_law_X11_thrown rfl (by decide +kernel) ⟨Nat.le_of_ble_eq_true rfl, Nat.le_of_ble_eq_true rfl⟩ rfl (Nat.le_of_ble_eq_true rfl) ⟨Nat.le_of_ble_eq_true rfl, Nat.le_of_ble_eq_true rfl⟩ rfl dL_law_1747 (fun x26 τ25 hw => ?_)
  refine z_iload C 1 (by rfl) dL_law_1750 ?_
  refine z_icmp_eq (tgt := 1757) C dL_law_1752 (by decide) (fun c27 => ?_) (fun c27 => ?_)
  · have hw := hw.1 c27
    refine z_iload C 1 (by rfl) dL_law_1757 ?_
    refine z_if_ne (tgt := 1774) C dL_law_1759 (by decide) (fun c28 => ?_) (fun c28 => ?_)
    · have hw := hw.1 c28
      refine z_goto (tgt := 2739) C dL_law_1774 (by decide) ?_
      refine z_widen (512, 23300) (Nat.le_of_ble_eq_true rfl) (Nat.le_of_ble_eq_true rfl) ?_
      refine z_sub [2, 3, 4, 5, 6] [(4, .int 0), (3, .ref (w.1 503)), (2, .ref (w.1 234)), (1, .ref (w.1 0)), (0, .ref b)] rfl ?_
      exact hK _ hw
    · have hw := hw.2 c28
      refine z_aload_n C 3 (by rfl) dL_law_1762 ?_
      refine z_iconst C 0 (by decide) dL_law_1763 ?_
      refine z_lald C (x := 0) h3 (by unfold vp_in; decide) dL_law_1764 ?_
      refine z_iload C 0 (by rfl) dL_law_1765 ?_
      refine z_i2l C dL_law_1767 ?_
      refine z_lcmp C dL_law_1768 ?_
      refine z_if_eq (tgt := 1774) C dL_law_1769 (by decide) (fun c29 => ?_) (fun c29 => ?_)
      · have hw := hw.1 c29
        refine z_goto (tgt := 2739) C dL_law_1774 (by decide) ?_
        refine z_widen (512, 23300) (Nat.le_of_ble_eq_true rfl) (Nat.le_of_ble_eq_true rfl) ?_
        refine z_sub [2, 3, 4, 5, 6] [(4, .int 0), (3, .ref (w.1 503)), (2, .ref (w.1 234)), (1, .ref (w.1 0)), (0, .ref b)] rfl ?_
        exact hK _ hw
      · have hw := hw.2 c29
        refine z_iconst C 0 (by decide) dL_law_1772 ?_
        exact hw.elim
  · have hw := hw.2 c27
    refine z_iconst C 0 (by decide) dL_law_1755 ?_
    exact hw.elim
def wl_29 (τ : TS) (xs : Nat → Int32) (K : TS → Prop) : Prop :=
  wp_L_recover τ 0 (xs 1) 503 (fun τ21 x22 => wp_X11_recover τ21 234 (xs 1) (fun τ23 x24 => wp_X11_thrown τ23 234 (fun τ25 x26 => ((x26 = x22) → (((¬ x22 = 0) → (K τ25)) ∧ ((x22 = 0) → ((((lg_cmp (tp_jl (τ25 503 0) (τ25 503 1)) (Int32.toInt64 x24)) = 0) → (K τ25)) ∧ ((¬ (lg_cmp (tp_jl (τ25 503 0) (τ25 503 1)) (Int32.toInt64 x24)) = 0) → False))))) ∧ ((¬ x26 = x22) → False))))
set_option maxHeartbeats 4000000 in
set_option maxRecDepth 100000 in
theorem cl_29 {w : WPar} {g : Cxt} {τ : TS} {b : Nat} {xs : Nat → Int32} (C : Cok w g cL_law RL wsL_law 9 14 560 600002 7302232) (D : CX w g) (N3 : tp_N3g g) (S : CS w g b 5 xs) (hl : w.2.1.stackTraces = false) (hN : tp_N w = 504) (h1 : tp_is w 0 7) (h2 : tp_is w 234 20) (h3 : tp_is w 503 33) (K : TS → Prop) (hK : ∀ τ2, K τ2 → Zt w g τ2 (512, 23300) 2739 [(4, .int 0), (3, .ref (w.1 503)), (2, .ref (w.1 234)), (1, .ref (w.1 0)), (0, .ref b)] []) (hw : wl_29 τ xs K) : Zt w g τ (504, 23236) 1777 [(4, .int 0), (3, .ref (w.1 503)), (2, .ref (w.1 234)), (1, .ref (w.1 0)), (0, .ref b)] [] := by
  unfold wl_29 at hw
  refine z_aload_n C 3 (by rfl) dL_law_1777 ?_
  refine z_aload_n C 4 (by rfl) dL_law_1778 ?_
  refine z_iload C 0 (by rfl) dL_law_1779 ?_
  refine z_iconst C 1 (by decide) dL_law_1781 ?_
  refine z_iadd C dL_law_1782 ?_
  refine z_sldn C S 1 (by decide) (by unfold vp_in; decide) dL_law_1783 ?_
  refine z_aload_n C 1 (by rfl) dL_law_1784 ?_
  refine zs_act C D N3 (hh := [(0, 9, 12, 19)]) (As := [.ref (w.1 0), .int (xs 1), .ref (w.1 503)]) (bytes := cL_recover) (maxL := 4) (F1 := 9) (L1 := 145) (mc := 1) (ms := 6) (c_L_recover w _ 0 (xs 1) 503 _ hl h1 h3 hw) 3 gL_law_L_recover rfl (by decide +kernel) ⟨Nat.le_of_ble_eq_true rfl, Nat.le_of_ble_eq_true rfl⟩ rfl (Nat.le_of_ble_eq_true rfl) (k2 := (505, 23242)) rfl ⟨Nat.le_of_ble_eq_true rfl, Nat.le_of_ble_eq_true rfl⟩ rfl dL_law_1785 (fun x22 τ21 hw => ?_)
  refine z_istore C [(5, .int x22), (4, .int 0), (3, .ref (w.1 503)), (2, .ref (w.1 234)), (1, .ref (w.1 0)), (0, .ref b)] dL_law_1788 (by decide) rfl ?_
  refine z_aload_n C 3 (by rfl) dL_law_1790 ?_
  refine z_aload_n C 5 (by rfl) dL_law_1791 ?_
  refine z_iload C 1 (by rfl) dL_law_1792 ?_
  refine z_iconst C 1 (by decide) dL_law_1794 ?_
  refine z_iadd C dL_law_1795 ?_
  refine z_sldn C S 1 (by decide) (by unfold vp_in; decide) dL_law_1796 ?_
  refine zv_i C (As := [.int (xs 1)]) (bytes := cX11_recover) (maxL := 2) (F1 := 3) (L1 := 65) (c_X11_recover w _ 234 (xs 1) _ h2 hw) h2.2 (tE20 h2.1) rfl 1 gL_law_X11_recover rfl (by decide +kernel) ⟨Nat.le_of_ble_eq_true rfl, Nat.le_of_ble_eq_true rfl⟩ rfl (Nat.le_of_ble_eq_true rfl) ⟨Nat.le_of_ble_eq_true rfl, Nat.le_of_ble_eq_true rfl⟩ rfl dL_law_1797 (fun x24 τ23 hw => ?_)
  refine z_istore C [(6, .int x24), (5, .int x22), (4, .int 0), (3, .ref (w.1 503)), (2, .ref (w.1 234)), (1, .ref (w.1 0)), (0, .ref b)] dL_law_1800 (by decide) rfl ?_
  refine z_aload_n C 4 (by rfl) dL_law_1802 ?_
  refine zv_i C (As := []) (bytes := cX11_thrown) (maxL := 1) (F1 := 0) (L1 := 0) (c_X11_thrown w _ 234 _ h2 hw) h2.2 (tE20 h2.1) rfl 0 gL_law_X11_thrown rfl (by decide +kernel) ⟨Nat.le_of_ble_eq_true rfl, Nat.le_of_ble_eq_true rfl⟩ rfl (Nat.le_of_ble_eq_true rfl) ⟨Nat.le_of_ble_eq_true rfl, Nat.le_of_ble_eq_true rfl⟩ rfl dL_law_1803 (fun x26 τ25 hw => ?_)
  refine z_iload C 1 (by rfl) dL_law_1806 ?_
  refine z_icmp_eq (tgt := 1813) C dL_law_1808 (by decide) (fun c27 => ?_) (fun c27 => ?_)
  · have hw := hw.1 c27
    refine z_iload C 1 (by rfl) dL_law_1813 ?_
    refine z_if_ne (tgt := 1830) C dL_law_1815 (by decide) (fun c28 => ?_) (fun c28 => ?_)
    · have hw := hw.1 c28
      refine z_goto (tgt := 2739) C dL_law_1830 (by decide) ?_
      refine z_widen (512, 23300) (Nat.le_of_ble_eq_true rfl) (Nat.le_of_ble_eq_true rfl) ?_
      refine z_sub [2, 3, 4, 5, 6] [(4, .int 0), (3, .ref (w.1 503)), (2, .ref (w.1 234)), (1, .ref (w.1 0)), (0, .ref b)] rfl ?_
      exact hK _ hw
    · have hw := hw.2 c28
      refine z_aload_n C 3 (by rfl) dL_law_1818 ?_
      refine z_iconst C 0 (by decide) dL_law_1819 ?_
      refine z_lald C (x := 0) h3 (by unfold vp_in; decide) dL_law_1820 ?_
      refine z_iload C 0 (by rfl) dL_law_1821 ?_
      refine z_i2l C dL_law_1823 ?_
      refine z_lcmp C dL_law_1824 ?_
      refine z_if_eq (tgt := 1830) C dL_law_1825 (by decide) (fun c29 => ?_) (fun c29 => ?_)
      · have hw := hw.1 c29
        refine z_goto (tgt := 2739) C dL_law_1830 (by decide) ?_
        refine z_widen (512, 23300) (Nat.le_of_ble_eq_true rfl) (Nat.le_of_ble_eq_true rfl) ?_
        refine z_sub [2, 3, 4, 5, 6] [(4, .int 0), (3, .ref (w.1 503)), (2, .ref (w.1 234)), (1, .ref (w.1 0)), (0, .ref b)] rfl ?_
        exact hK _ hw
      · have hw := hw.2 c29
        refine z_iconst C 0 (by decide) dL_law_1828 ?_
        exact hw.elim
  · have hw := hw.2 c27
    refine z_iconst C 0 (by decide) dL_law_1811 ?_
    exact hw.elim
def wl_30 (τ : TS) (xs : Nat → Int32) (K : TS → Prop) : Prop :=
  wp_L_round τ 0 (xs 1) 503 (fun τ21 x22 => wp_X11_round τ21 234 (xs 1) (fun τ23 x24 => wp_X11_thrown τ23 234 (fun τ25 x26 => ((x26 = x22) → (((¬ x22 = 0) → (K τ25)) ∧ ((x22 = 0) → ((((lg_cmp (tp_jl (τ25 503 0) (τ25 503 1)) (Int32.toInt64 x24)) = 0) → (K τ25)) ∧ ((¬ (lg_cmp (tp_jl (τ25 503 0) (τ25 503 1)) (Int32.toInt64 x24)) = 0) → False))))) ∧ ((¬ x26 = x22) → False))))
set_option maxHeartbeats 4000000 in
set_option maxRecDepth 100000 in
theorem cl_30 {w : WPar} {g : Cxt} {τ : TS} {b : Nat} {xs : Nat → Int32} (C : Cok w g cL_law RL wsL_law 9 14 560 600002 7302232) (D : CX w g) (N3 : tp_N3g g) (S : CS w g b 5 xs) (hl : w.2.1.stackTraces = false) (hN : tp_N w = 504) (h1 : tp_is w 0 7) (h2 : tp_is w 234 20) (h3 : tp_is w 503 33) (K : TS → Prop) (hK : ∀ τ2, K τ2 → Zt w g τ2 (512, 23300) 2739 [(4, .int 0), (3, .ref (w.1 503)), (2, .ref (w.1 234)), (1, .ref (w.1 0)), (0, .ref b)] []) (hw : wl_30 τ xs K) : Zt w g τ (504, 23236) 1833 [(4, .int 0), (3, .ref (w.1 503)), (2, .ref (w.1 234)), (1, .ref (w.1 0)), (0, .ref b)] [] := by
  unfold wl_30 at hw
  refine z_aload_n C 3 (by rfl) dL_law_1833 ?_
  refine z_aload_n C 4 (by rfl) dL_law_1834 ?_
  refine z_iload C 0 (by rfl) dL_law_1835 ?_
  refine z_iconst C 1 (by decide) dL_law_1837 ?_
  refine z_iadd C dL_law_1838 ?_
  refine z_sldn C S 1 (by decide) (by unfold vp_in; decide) dL_law_1839 ?_
  refine z_aload_n C 1 (by rfl) dL_law_1840 ?_
  refine zs_act C D N3 (hh := [(0, 9, 12, 19)]) (As := [.ref (w.1 0), .int (xs 1), .ref (w.1 503)]) (bytes := cL_round) (maxL := 4) (F1 := 9) (L1 := 145) (mc := 1) (ms := 6) (c_L_round w _ 0 (xs 1) 503 _ hl h1 h3 hw) 3 gL_law_L_round rfl (by decide +kernel) ⟨Nat.le_of_ble_eq_true rfl, Nat.le_of_ble_eq_true rfl⟩ rfl (Nat.le_of_ble_eq_true rfl) (k2 := (505, 23242)) rfl ⟨Nat.le_of_ble_eq_true rfl, Nat.le_of_ble_eq_true rfl⟩ rfl dL_law_1841 (fun x22 τ21 hw => ?_)
  refine z_istore C [(5, .int x22), (4, .int 0), (3, .ref (w.1 503)), (2, .ref (w.1 234)), (1, .ref (w.1 0)), (0, .ref b)] dL_law_1844 (by decide) rfl ?_
  refine z_aload_n C 3 (by rfl) dL_law_1846 ?_
  refine z_aload_n C 5 (by rfl) dL_law_1847 ?_
  refine z_iload C 1 (by rfl) dL_law_1848 ?_
  refine z_iconst C 1 (by decide) dL_law_1850 ?_
  refine z_iadd C dL_law_1851 ?_
  refine z_sldn C S 1 (by decide) (by unfold vp_in; decide) dL_law_1852 ?_
  refine zv_i C (As := [.int (xs 1)]) (bytes := cX11_round) (maxL := 2) (F1 := 3) (L1 := 65) (c_X11_round w _ 234 (xs 1) _ h2 hw) h2.2 (tE20 h2.1) rfl 1 gL_law_X11_round rfl (by decide +kernel) ⟨Nat.le_of_ble_eq_true rfl, Nat.le_of_ble_eq_true rfl⟩ rfl (Nat.le_of_ble_eq_true rfl) ⟨Nat.le_of_ble_eq_true rfl, Nat.le_of_ble_eq_true rfl⟩ rfl dL_law_1853 (fun x24 τ23 hw => ?_)
  refine z_istore C [(6, .int x24), (5, .int x22), (4, .int 0), (3, .ref (w.1 503)), (2, .ref (w.1 234)), (1, .ref (w.1 0)), (0, .ref b)] dL_law_1856 (by decide) rfl ?_
  refine z_aload_n C 4 (by rfl) dL_law_1858 ?_
  refine zv_i C (As := []) (bytes := cX11_thrown) (maxL := 1) (F1 := 0) (L1 := 0) (c_X11_thrown w _ 234 _ h2 hw) h2.2 (tE20 h2.1) rfl 0 gL_law_X11_thrown rfl (by decide +kernel) ⟨Nat.le_of_ble_eq_true rfl, Nat.le_of_ble_eq_true rfl⟩ rfl (Nat.le_of_ble_eq_true rfl) ⟨Nat.le_of_ble_eq_true rfl, Nat.le_of_ble_eq_true rfl⟩ rfl dL_law_1859 (fun x26 τ25 hw => ?_)
  refine z_iload C 1 (by rfl) dL_law_1862 ?_
  refine z_icmp_eq (tgt := 1869) C dL_law_1864 (by decide) (fun c27 => ?_) (fun c27 => ?_)
  · have hw := hw.1 c27
    refine z_iload C 1 (by rfl) dL_law_1869 ?_
    refine z_if_ne (tgt := 1886) C dL_law_1871 (by decide) (fun c28 => ?_) (fun c28 => ?_)
    · have hw := hw.1 c28
      refine z_goto (tgt := 2739) C dL_law_1886 (by decide) ?_
      refine z_widen (512, 23300) (Nat.le_of_ble_eq_true rfl) (Nat.le_of_ble_eq_true rfl) ?_
      refine z_sub [2, 3, 4, 5, 6] [(4, .int 0), (3, .ref (w.1 503)), (2, .ref (w.1 234)), (1, .ref (w.1 0)), (0, .ref b)] rfl ?_
      exact hK _ hw
    · have hw := hw.2 c28
      refine z_aload_n C 3 (by rfl) dL_law_1874 ?_
      refine z_iconst C 0 (by decide) dL_law_1875 ?_
      refine z_lald C (x := 0) h3 (by unfold vp_in; decide) dL_law_1876 ?_
      refine z_iload C 0 (by rfl) dL_law_1877 ?_
      refine z_i2l C dL_law_1879 ?_
      refine z_lcmp C dL_law_1880 ?_
      refine z_if_eq (tgt := 1886) C dL_law_1881 (by decide) (fun c29 => ?_) (fun c29 => ?_)
      · have hw := hw.1 c29
        refine z_goto (tgt := 2739) C dL_law_1886 (by decide) ?_
        refine z_widen (512, 23300) (Nat.le_of_ble_eq_true rfl) (Nat.le_of_ble_eq_true rfl) ?_
        refine z_sub [2, 3, 4, 5, 6] [(4, .int 0), (3, .ref (w.1 503)), (2, .ref (w.1 234)), (1, .ref (w.1 0)), (0, .ref b)] rfl ?_
        exact hK _ hw
      · have hw := hw.2 c29
        refine z_iconst C 0 (by decide) dL_law_1884 ?_
        exact hw.elim
  · have hw := hw.2 c27
    refine z_iconst C 0 (by decide) dL_law_1867 ?_
    exact hw.elim
def wl_31 (τ : TS) (xs : Nat → Int32) (K : TS → Prop) : Prop :=
  wp_L_swing τ 0 (xs 1) 503 (fun τ21 x22 => wp_X11_swing τ21 234 (xs 1) (fun τ23 x24 => wp_X11_thrown τ23 234 (fun τ25 x26 => ((x26 = x22) → (((¬ x22 = 0) → (K τ25)) ∧ ((x22 = 0) → ((((lg_cmp (tp_jl (τ25 503 0) (τ25 503 1)) (Int32.toInt64 x24)) = 0) → (K τ25)) ∧ ((¬ (lg_cmp (tp_jl (τ25 503 0) (τ25 503 1)) (Int32.toInt64 x24)) = 0) → False))))) ∧ ((¬ x26 = x22) → False))))
set_option maxHeartbeats 4000000 in
set_option maxRecDepth 100000 in
theorem cl_31 {w : WPar} {g : Cxt} {τ : TS} {b : Nat} {xs : Nat → Int32} (C : Cok w g cL_law RL wsL_law 9 14 560 600002 7302232) (D : CX w g) (N3 : tp_N3g g) (S : CS w g b 5 xs) (hl : w.2.1.stackTraces = false) (hN : tp_N w = 504) (h1 : tp_is w 0 7) (h2 : tp_is w 234 20) (h3 : tp_is w 503 33) (K : TS → Prop) (hK : ∀ τ2, K τ2 → Zt w g τ2 (512, 23300) 2739 [(4, .int 0), (3, .ref (w.1 503)), (2, .ref (w.1 234)), (1, .ref (w.1 0)), (0, .ref b)] []) (hw : wl_31 τ xs K) : Zt w g τ (504, 23236) 1889 [(4, .int 0), (3, .ref (w.1 503)), (2, .ref (w.1 234)), (1, .ref (w.1 0)), (0, .ref b)] [] := by
  unfold wl_31 at hw
  refine z_aload_n C 3 (by rfl) dL_law_1889 ?_
  refine z_aload_n C 4 (by rfl) dL_law_1890 ?_
  refine z_iload C 0 (by rfl) dL_law_1891 ?_
  refine z_iconst C 1 (by decide) dL_law_1893 ?_
  refine z_iadd C dL_law_1894 ?_
  refine z_sldn C S 1 (by decide) (by unfold vp_in; decide) dL_law_1895 ?_
  refine z_aload_n C 1 (by rfl) dL_law_1896 ?_
  refine zs_act C D N3 (hh := [(0, 9, 12, 19)]) (As := [.ref (w.1 0), .int (xs 1), .ref (w.1 503)]) (bytes := cL_swing) (maxL := 4) (F1 := 9) (L1 := 145) (mc := 1) (ms := 6) (c_L_swing w _ 0 (xs 1) 503 _ hl h1 h3 hw) 3 gL_law_L_swing rfl (by decide +kernel) ⟨Nat.le_of_ble_eq_true rfl, Nat.le_of_ble_eq_true rfl⟩ rfl (Nat.le_of_ble_eq_true rfl) (k2 := (505, 23242)) rfl ⟨Nat.le_of_ble_eq_true rfl, Nat.le_of_ble_eq_true rfl⟩ rfl dL_law_1897 (fun x22 τ21 hw => ?_)
  refine z_istore C [(5, .int x22), (4, .int 0), (3, .ref (w.1 503)), (2, .ref (w.1 234)), (1, .ref (w.1 0)), (0, .ref b)] dL_law_1900 (by decide) rfl ?_
  refine z_aload_n C 3 (by rfl) dL_law_1902 ?_
  refine z_aload_n C 5 (by rfl) dL_law_1903 ?_
  refine z_iload C 1 (by rfl) dL_law_1904 ?_
  refine z_iconst C 1 (by decide) dL_law_1906 ?_
  refine z_iadd C dL_law_1907 ?_
  refine z_sldn C S 1 (by decide) (by unfold vp_in; decide) dL_law_1908 ?_
  refine zv_i C (As := [.int (xs 1)]) (bytes := cX11_swing) (maxL := 2) (F1 := 3) (L1 := 65) (c_X11_swing w _ 234 (xs 1) _ h2 hw) h2.2 (tE20 h2.1) rfl 1 gL_law_X11_swing rfl (by decide +kernel) ⟨Nat.le_of_ble_eq_true rfl, Nat.le_of_ble_eq_true rfl⟩ rfl (Nat.le_of_ble_eq_true rfl) ⟨Nat.le_of_ble_eq_true rfl, Nat.le_of_ble_eq_true rfl⟩ rfl dL_law_1909 (fun x24 τ23 hw => ?_)
  refine z_istore C [(6, .int x24), (5, .int x22), (4, .int 0), (3, .ref (w.1 503)), (2, .ref (w.1 234)), (1, .ref (w.1 0)), (0, .ref b)] dL_law_1912 (by decide) rfl ?_
  refine z_aload_n C 4 (by rfl) dL_law_1914 ?_
  refine zv_i C (As := []) (bytes := cX11_thrown) (maxL := 1) (F1 := 0) (L1 := 0) (c_X11_thrown w _ 234 _ h2 hw) h2.2 (tE20 h2.1) rfl 0 gL_law_X11_thrown rfl (by decide +kernel) ⟨Nat.le_of_ble_eq_true rfl, Nat.le_of_ble_eq_true rfl⟩ rfl (Nat.le_of_ble_eq_true rfl) ⟨Nat.le_of_ble_eq_true rfl, Nat.le_of_ble_eq_true rfl⟩ rfl dL_law_1915 (fun x26 τ25 hw => ?_)
  refine z_iload C 1 (by rfl) dL_law_1918 ?_
  refine z_icmp_eq (tgt := 1925) C dL_law_1920 (by decide) (fun c27 => ?_) (fun c27 => ?_)
  · have hw := hw.1 c27
    refine z_iload C 1 (by rfl) dL_law_1925 ?_
    refine z_if_ne (tgt := 1942) C dL_law_1927 (by decide) (fun c28 => ?_) (fun c28 => ?_)
    · have hw := hw.1 c28
      refine z_goto (tgt := 2739) C dL_law_1942 (by decide) ?_
      refine z_widen (512, 23300) (Nat.le_of_ble_eq_true rfl) (Nat.le_of_ble_eq_true rfl) ?_
      refine z_sub [2, 3, 4, 5, 6] [(4, .int 0), (3, .ref (w.1 503)), (2, .ref (w.1 234)), (1, .ref (w.1 0)), (0, .ref b)] rfl ?_
      exact hK _ hw
    · have hw := hw.2 c28
      refine z_aload_n C 3 (by rfl) dL_law_1930 ?_
      refine z_iconst C 0 (by decide) dL_law_1931 ?_
      refine z_lald C (x := 0) h3 (by unfold vp_in; decide) dL_law_1932 ?_
      refine z_iload C 0 (by rfl) dL_law_1933 ?_
      refine z_i2l C dL_law_1935 ?_
      refine z_lcmp C dL_law_1936 ?_
      refine z_if_eq (tgt := 1942) C dL_law_1937 (by decide) (fun c29 => ?_) (fun c29 => ?_)
      · have hw := hw.1 c29
        refine z_goto (tgt := 2739) C dL_law_1942 (by decide) ?_
        refine z_widen (512, 23300) (Nat.le_of_ble_eq_true rfl) (Nat.le_of_ble_eq_true rfl) ?_
        refine z_sub [2, 3, 4, 5, 6] [(4, .int 0), (3, .ref (w.1 503)), (2, .ref (w.1 234)), (1, .ref (w.1 0)), (0, .ref b)] rfl ?_
        exact hK _ hw
      · have hw := hw.2 c29
        refine z_iconst C 0 (by decide) dL_law_1940 ?_
        exact hw.elim
  · have hw := hw.2 c27
    refine z_iconst C 0 (by decide) dL_law_1923 ?_
    exact hw.elim
