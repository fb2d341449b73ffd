def wl_8 (τ : TS) (xs : Nat → Int32) (K : TS → Prop) : Prop :=
  wp_L_pass τ 0 (xs 1) 503 (fun τ21 x22 => wp_X11_pass τ21 234 (xs 1) (fun τ23 x24 => wp_X11_thrown τ23 234 (fun τ25 x26 => ((x26 = x22) → (((¬ x22 = 0) → (K τ25)) ∧ ((x22 = 0) → ((((lg_cmp (tp_jl (τ25 503 0) (τ25 503 1)) (Int32.toInt64 x24)) = 0) → (K τ25)) ∧ ((¬ (lg_cmp (tp_jl (τ25 503 0) (τ25 503 1)) (Int32.toInt64 x24)) = 0) → False))))) ∧ ((¬ x26 = x22) → False))))
set_option maxHeartbeats 4000000 in
set_option maxRecDepth 100000 in
theorem cl_8 {w : WPar} {g : Cxt} {τ : TS} {b : Nat} {xs : Nat → Int32} (C : Cok w g cL_law RL wsL_law 9 14 560 600002 7302232) (D : CX w g) (N3 : tp_N3g g) (S : CS w g b 5 xs) (hl : w.2.1.stackTraces = false) (hN : tp_N w = 504) (h1 : tp_is w 0 7) (h2 : tp_is w 234 20) (h3 : tp_is w 503 33) (K : TS → Prop) (hK : ∀ τ2, K τ2 → Zt w g τ2 (512, 23300) 2739 [(4, .int 0), (3, .ref (w.1 503)), (2, .ref (w.1 234)), (1, .ref (w.1 0)), (0, .ref b)] []) (hw : wl_8 τ xs K) : Zt w g τ (504, 23236) 792 [(4, .int 0), (3, .ref (w.1 503)), (2, .ref (w.1 234)), (1, .ref (w.1 0)), (0, .ref b)] [] := by
  unfold wl_8 at hw
  refine z_aload_n C 3 (by rfl) dL_law_792 ?_
  refine z_aload_n C 4 (by rfl) dL_law_793 ?_
  refine z_iload C 0 (by rfl) dL_law_794 ?_
  refine z_iconst C 1 (by decide) dL_law_796 ?_
  refine z_iadd C dL_law_797 ?_
  refine z_sldn C S 1 (by decide) (by unfold vp_in; decide) dL_law_798 ?_
  refine z_aload_n C 1 (by rfl) dL_law_799 ?_
  refine zs_act C D N3 (hh := [(0, 9, 12, 21)]) (As := [.ref (w.1 0), .int (xs 1), .ref (w.1 503)]) (bytes := cL_pass) (maxL := 4) (F1 := 8) (L1 := 126) (mc := 1) (ms := 6) (c_L_pass w _ 0 (xs 1) 503 _ hl h1 h3 hw) 3 gL_law_L_pass rfl (by decide +kernel) ⟨Nat.le_of_ble_eq_true rfl, Nat.le_of_ble_eq_true rfl⟩ rfl (Nat.le_of_ble_eq_true rfl) (k2 := (505, 23242)) rfl ⟨Nat.le_of_ble_eq_true rfl, Nat.le_of_ble_eq_true rfl⟩ rfl dL_law_800 (fun x22 τ21 hw => ?_)
  refine z_istore C [(5, .int x22), (4, .int 0), (3, .ref (w.1 503)), (2, .ref (w.1 234)), (1, .ref (w.1 0)), (0, .ref b)] dL_law_803 (by decide) rfl ?_
  refine z_aload_n C 3 (by rfl) dL_law_805 ?_
  refine z_aload_n C 5 (by rfl) dL_law_806 ?_
  refine z_iload C 1 (by rfl) dL_law_807 ?_
  refine z_iconst C 1 (by decide) dL_law_809 ?_
  refine z_iadd C dL_law_810 ?_
  refine z_sldn C S 1 (by decide) (by unfold vp_in; decide) dL_law_811 ?_
  refine zv_i C (As := [.int (xs 1)]) (bytes := cX11_pass) (maxL := 3) (F1 := 1) (L1 := 22) (c_X11_pass w _ 234 (xs 1) _ h2 hw) h2.2 (tE20 h2.1) rfl 1 gL_law_X11_pass rfl (by decide +kernel) ⟨Nat.le_of_ble_eq_true rfl, Nat.le_of_ble_eq_true rfl⟩ rfl (Nat.le_of_ble_eq_true rfl) ⟨Nat.le_of_ble_eq_true rfl, Nat.le_of_ble_eq_true rfl⟩ rfl dL_law_812 (fun x24 τ23 hw => ?_)
  refine z_istore C [(6, .int x24), (5, .int x22), (4, .int 0), (3, .ref (w.1 503)), (2, .ref (w.1 234)), (1, .ref (w.1 0)), (0, .ref b)] dL_law_815 (by decide) rfl ?_
  refine z_aload_n C 4 (by rfl) dL_law_817 ?_
  refine zv_i C (As := []) (bytes := cX11_thrown) (maxL := 1) (F1 := 0) (L1 := 0) (c_X11_thrown w _ 234 _ h2 hw) h2.2 (tE20 h2.1) rfl 0 gL_law_X11_thrown rfl (by decide +kernel) ⟨Nat.le_of_ble_eq_true rfl, Nat.le_of_ble_eq_true rfl⟩ rfl (Nat.le_of_ble_eq_true rfl) ⟨Nat.le_of_ble_eq_true rfl, Nat.le_of_ble_eq_true rfl⟩ rfl dL_law_818 (fun x26 τ25 hw => ?_)
  refine z_iload C 1 (by rfl) dL_law_821 ?_
  refine z_icmp_eq (tgt := 828) C dL_law_823 (by decide) (fun c27 => ?_) (fun c27 => ?_)
  · have hw := hw.1 c27
    refine z_iload C 1 (by rfl) dL_law_828 ?_
    refine z_if_ne (tgt := 845) C dL_law_830 (by decide) (fun c28 => ?_) (fun c28 => ?_)
    · have hw := hw.1 c28
      refine z_goto (tgt := 2739) C dL_law_845 (by decide) ?_
      refine z_widen (512, 23300) (Nat.le_of_ble_eq_true rfl) (Nat.le_of_ble_eq_true rfl) ?_
      refine z_sub [2, 3, 4, 5, 6] [(4, .int 0), (3, .ref (w.1 503)), (2, .ref (w.1 234)), (1, .ref (w.1 0)), (0, .ref b)] rfl ?_
      exact hK _ hw
    · have hw := hw.2 c28
      refine z_aload_n C 3 (by rfl) dL_law_833 ?_
      refine z_iconst C 0 (by decide) dL_law_834 ?_
      refine z_lald C (x := 0) h3 (by unfold vp_in; decide) dL_law_835 ?_
      refine z_iload C 0 (by rfl) dL_law_836 ?_
      refine z_i2l C dL_law_838 ?_
      refine z_lcmp C dL_law_839 ?_
      refine z_if_eq (tgt := 845) C dL_law_840 (by decide) (fun c29 => ?_) (fun c29 => ?_)
      · have hw := hw.1 c29
        refine z_goto (tgt := 2739) C dL_law_845 (by decide) ?_
        refine z_widen (512, 23300) (Nat.le_of_ble_eq_true rfl) (Nat.le_of_ble_eq_true rfl) ?_
        refine z_sub [2, 3, 4, 5, 6] [(4, .int 0), (3, .ref (w.1 503)), (2, .ref (w.1 234)), (1, .ref (w.1 0)), (0, .ref b)] rfl ?_
        exact hK _ hw
      · have hw := hw.2 c29
        refine z_iconst C 0 (by decide) dL_law_843 ?_
        exact hw.elim
  · have hw := hw.2 c27
    refine z_iconst C 0 (by decide) dL_law_826 ?_
    exact hw.elim
def wl_9 (τ : TS) (xs : Nat → Int32) (K : TS → Prop) : Prop :=
  wp_X8_clock τ 0 (fun τ21 x22 => wp_X11_clock τ21 234 (fun τ23 x24 => ((x22 = x24) → (K τ23)) ∧ ((¬ x22 = x24) → False)))
set_option maxHeartbeats 4000000 in
set_option maxRecDepth 100000 in
theorem cl_9 {w : WPar} {g : Cxt} {τ : TS} {b : Nat} {xs : Nat → Int32} (C : Cok w g cL_law RL wsL_law 9 14 560 600002 7302232) (D : CX w g) (N3 : tp_N3g g) (S : CS w g b 5 xs) (hl : w.2.1.stackTraces = false) (hN : tp_N w = 504) (h1 : tp_is w 0 7) (h2 : tp_is w 234 20) (h3 : tp_is w 503 33) (K : TS → Prop) (hK : ∀ τ2, K τ2 → Zt w g τ2 (512, 23300) 2739 [(4, .int 0), (3, .ref (w.1 503)), (2, .ref (w.1 234)), (1, .ref (w.1 0)), (0, .ref b)] []) (hw : wl_9 τ xs K) : Zt w g τ (504, 23236) 848 [(4, .int 0), (3, .ref (w.1 503)), (2, .ref (w.1 234)), (1, .ref (w.1 0)), (0, .ref b)] [] := by
  unfold wl_9 at hw
  refine z_aload_n C 3 (by rfl) dL_law_848 ?_
  refine zv_i C (As := []) (bytes := cX8_clock) (maxL := 1) (F1 := 0) (L1 := 0) (c_X8_clock w _ 0 _ h1 hw) h1.2 (tE7 h1.1) rfl 0 gL_law_X8_clock rfl (by decide +kernel) ⟨Nat.le_of_ble_eq_true rfl, Nat.le_of_ble_eq_true rfl⟩ rfl (Nat.le_of_ble_eq_true rfl) ⟨Nat.le_of_ble_eq_true rfl, Nat.le_of_ble_eq_true rfl⟩ rfl dL_law_849 (fun x22 τ21 hw => ?_)
  refine z_aload_n C 2 (by rfl) dL_law_852 ?_
  refine zv_i C (As := []) (bytes := cX11_clock) (maxL := 1) (F1 := 0) (L1 := 0) (c_X11_clock w _ 234 _ h2 hw) h2.2 (tE20 h2.1) rfl 0 gL_law_X11_clock rfl (by decide +kernel) ⟨Nat.le_of_ble_eq_true rfl, Nat.le_of_ble_eq_true rfl⟩ rfl (Nat.le_of_ble_eq_true rfl) ⟨Nat.le_of_ble_eq_true rfl, Nat.le_of_ble_eq_true rfl⟩ rfl dL_law_853 (fun x24 τ23 hw => ?_)
  refine z_icmp_eq (tgt := 2739) C dL_law_856 (by decide) (fun c25 => ?_) (fun c25 => ?_)
  · have hw := hw.1 c25
    refine z_widen (512, 23300) (Nat.le_of_ble_eq_true rfl) (Nat.le_of_ble_eq_true rfl) ?_
    exact hK _ hw
  · have hw := hw.2 c25
    refine z_iconst C 0 (by decide) dL_law_859 ?_
    exact hw.elim
def wl_10 (τ : TS) (xs : Nat → Int32) (K : TS → Prop) : Prop :=
  wp_X8_nodes τ 0 (fun τ21 x22 => wp_X11_nodes τ21 234 (fun τ23 x24 => ((x22 = x24) → (K τ23)) ∧ ((¬ x22 = x24) → False)))
set_option maxHeartbeats 4000000 in
set_option maxRecDepth 100000 in
theorem cl_10 {w : WPar} {g : Cxt} {τ : TS} {b : Nat} {xs : Nat → Int32} (C : Cok w g cL_law RL wsL_law 9 14 560 600002 7302232) (D : CX w g) (N3 : tp_N3g g) (S : CS w g b 5 xs) (hl : w.2.1.stackTraces = false) (hN : tp_N w = 504) (h1 : tp_is w 0 7) (h2 : tp_is w 234 20) (h3 : tp_is w 503 33) (K : TS → Prop) (hK : ∀ τ2, K τ2 → Zt w g τ2 (512, 23300) 2739 [(4, .int 0), (3, .ref (w.1 503)), (2, .ref (w.1 234)), (1, .ref (w.1 0)), (0, .ref b)] []) (hw : wl_10 τ xs K) : Zt w g τ (504, 23236) 861 [(4, .int 0), (3, .ref (w.1 503)), (2, .ref (w.1 234)), (1, .ref (w.1 0)), (0, .ref b)] [] := by
  unfold wl_10 at hw
  refine z_aload_n C 3 (by rfl) dL_law_861 ?_
  refine zv_i C (As := []) (bytes := cX8_nodes) (maxL := 1) (F1 := 0) (L1 := 0) (c_X8_nodes w _ 0 _ h1 hw) h1.2 (tE7 h1.1) rfl 0 gL_law_X8_nodes rfl (by decide +kernel) ⟨Nat.le_of_ble_eq_true rfl, Nat.le_of_ble_eq_true rfl⟩ rfl (Nat.le_of_ble_eq_true rfl) ⟨Nat.le_of_ble_eq_true rfl, Nat.le_of_ble_eq_true rfl⟩ rfl dL_law_862 (fun x22 τ21 hw => ?_)
  refine z_aload_n C 2 (by rfl) dL_law_865 ?_
  refine zv_i C (As := []) (bytes := cX11_nodes) (maxL := 1) (F1 := 0) (L1 := 0) (c_X11_nodes w _ 234 _ h2 hw) h2.2 (tE20 h2.1) rfl 0 gL_law_X11_nodes rfl (by decide +kernel) ⟨Nat.le_of_ble_eq_true rfl, Nat.le_of_ble_eq_true rfl⟩ rfl (Nat.le_of_ble_eq_true rfl) ⟨Nat.le_of_ble_eq_true rfl, Nat.le_of_ble_eq_true rfl⟩ rfl dL_law_866 (fun x24 τ23 hw => ?_)
  refine z_icmp_eq (tgt := 2739) C dL_law_869 (by decide) (fun c25 => ?_) (fun c25 => ?_)
  · have hw := hw.1 c25
    refine z_widen (512, 23300) (Nat.le_of_ble_eq_true rfl) (Nat.le_of_ble_eq_true rfl) ?_
    exact hK _ hw
  · have hw := hw.2 c25
    refine z_iconst C 0 (by decide) dL_law_872 ?_
    exact hw.elim
def wl_11 (τ : TS) (xs : Nat → Int32) (K : TS → Prop) : Prop :=
  wp_X8_links τ 0 (fun τ21 x22 => wp_X11_links τ21 234 (fun τ23 x24 => ((x22 = x24) → (K τ23)) ∧ ((¬ x22 = x24) → False)))
set_option maxHeartbeats 4000000 in
set_option maxRecDepth 100000 in
theorem cl_11 {w : WPar} {g : Cxt} {τ : TS} {b : Nat} {xs : Nat → Int32} (C : Cok w g cL_law RL wsL_law 9 14 560 600002 7302232) (D : CX w g) (N3 : tp_N3g g) (S : CS w g b 5 xs) (hl : w.2.1.stackTraces = false) (hN : tp_N w = 504) (h1 : tp_is w 0 7) (h2 : tp_is w 234 20) (h3 : tp_is w 503 33) (K : TS → Prop) (hK : ∀ τ2, K τ2 → Zt w g τ2 (512, 23300) 2739 [(4, .int 0), (3, .ref (w.1 503)), (2, .ref (w.1 234)), (1, .ref (w.1 0)), (0, .ref b)] []) (hw : wl_11 τ xs K) : Zt w g τ (504, 23236) 874 [(4, .int 0), (3, .ref (w.1 503)), (2, .ref (w.1 234)), (1, .ref (w.1 0)), (0, .ref b)] [] := by
  unfold wl_11 at hw
  refine z_aload_n C 3 (by rfl) dL_law_874 ?_
  refine zv_i C (As := []) (bytes := cX8_links) (maxL := 1) (F1 := 0) (L1 := 0) (c_X8_links w _ 0 _ h1 hw) h1.2 (tE7 h1.1) rfl 0 gL_law_X8_links rfl (by decide +kernel) ⟨Nat.le_of_ble_eq_true rfl, Nat.le_of_ble_eq_true rfl⟩ rfl (Nat.le_of_ble_eq_true rfl) ⟨Nat.le_of_ble_eq_true rfl, Nat.le_of_ble_eq_true rfl⟩ rfl dL_law_875 (fun x22 τ21 hw => ?_)
  refine z_aload_n C 2 (by rfl) dL_law_878 ?_
  refine zv_i C (As := []) (bytes := cX11_links) (maxL := 1) (F1 := 0) (L1 := 0) (c_X11_links w _ 234 _ h2 hw) h2.2 (tE20 h2.1) rfl 0 gL_law_X11_links rfl (by decide +kernel) ⟨Nat.le_of_ble_eq_true rfl, Nat.le_of_ble_eq_true rfl⟩ rfl (Nat.le_of_ble_eq_true rfl) ⟨Nat.le_of_ble_eq_true rfl, Nat.le_of_ble_eq_true rfl⟩ rfl dL_law_879 (fun x24 τ23 hw => ?_)
  refine z_icmp_eq (tgt := 2739) C dL_law_882 (by decide) (fun c25 => ?_) (fun c25 => ?_)
  · have hw := hw.1 c25
    refine z_widen (512, 23300) (Nat.le_of_ble_eq_true rfl) (Nat.le_of_ble_eq_true rfl) ?_
    exact hK _ hw
  · have hw := hw.2 c25
    refine z_iconst C 0 (by decide) dL_law_885 ?_
    exact hw.elim
def wl_12 (τ : TS) (xs : Nat → Int32) (K : TS → Prop) : Prop :=
  wp_L_isUp τ 0 (xs 1) 503 (fun τ21 x22 => wp_X11_isUp τ21 234 (xs 1) (fun τ23 x24 => wp_X11_thrown τ23 234 (fun τ25 x26 => ((x26 = x22) → (((¬ x22 = 0) → (K τ25)) ∧ ((x22 = 0) → (((x24 = 0) → ((((lg_cmp (tp_jl (τ25 503 0) (τ25 503 1)) 0) = 0) → (K τ25)) ∧ ((¬ (lg_cmp (tp_jl (τ25 503 0) (τ25 503 1)) 0) = 0) → False))) ∧ ((¬ x24 = 0) → ((((lg_cmp (tp_jl (τ25 503 0) (τ25 503 1)) 1) = 0) → (K τ25)) ∧ ((¬ (lg_cmp (tp_jl (τ25 503 0) (τ25 503 1)) 1) = 0) → False))))))) ∧ ((¬ x26 = x22) → False))))
set_option maxHeartbeats 4000000 in
set_option maxRecDepth 100000 in
theorem cl_12 {w : WPar} {g : Cxt} {τ : TS} {b : Nat} {xs : Nat → Int32} (C : Cok w g cL_law RL wsL_law 9 14 560 600002 7302232) (D : CX w g) (N3 : tp_N3g g) (S : CS w g b 5 xs) (hl : w.2.1.stackTraces = false) (hN : tp_N w = 504) (h1 : tp_is w 0 7) (h2 : tp_is w 234 20) (h3 : tp_is w 503 33) (K : TS → Prop) (hK : ∀ τ2, K τ2 → Zt w g τ2 (512, 23300) 2739 [(4, .int 0), (3, .ref (w.1 503)), (2, .ref (w.1 234)), (1, .ref (w.1 0)), (0, .ref b)] []) (hw : wl_12 τ xs K) : Zt w g τ (504, 23236) 887 [(4, .int 0), (3, .ref (w.1 503)), (2, .ref (w.1 234)), (1, .ref (w.1 0)), (0, .ref b)] [] := by
  unfold wl_12 at hw
  refine z_aload_n C 3 (by rfl) dL_law_887 ?_
  refine z_aload_n C 4 (by rfl) dL_law_888 ?_
  refine z_iload C 0 (by rfl) dL_law_889 ?_
  refine z_iconst C 1 (by decide) dL_law_891 ?_
  refine z_iadd C dL_law_892 ?_
  refine z_sldn C S 1 (by decide) (by unfold vp_in; decide) dL_law_893 ?_
  refine z_aload_n C 1 (by rfl) dL_law_894 ?_
  refine zs_act C D N3 (hh := [(0, 16, 19, 19)]) (As := [.ref (w.1 0), .int (xs 1), .ref (w.1 503)]) (bytes := cL_isUp) (maxL := 4) (F1 := 8) (L1 := 124) (mc := 1) (ms := 6) (c_L_isUp w _ 0 (xs 1) 503 _ hl h1 h3 hw) 3 gL_law_L_isUp rfl (by decide +kernel) ⟨Nat.le_of_ble_eq_true rfl, Nat.le_of_ble_eq_true rfl⟩ rfl (Nat.le_of_ble_eq_true rfl) (k2 := (505, 23242)) rfl ⟨Nat.le_of_ble_eq_true rfl, Nat.le_of_ble_eq_true rfl⟩ rfl dL_law_895 (fun x22 τ21 hw => ?_)
  refine z_istore C [(5, .int x22), (4, .int 0), (3, .ref (w.1 503)), (2, .ref (w.1 234)), (1, .ref (w.1 0)), (0, .ref b)] dL_law_898 (by decide) rfl ?_
  refine z_aload_n C 3 (by rfl) dL_law_900 ?_
  refine z_aload_n C 5 (by rfl) dL_law_901 ?_
  refine z_iload C 1 (by rfl) dL_law_902 ?_
  refine z_iconst C 1 (by decide) dL_law_904 ?_
  refine z_iadd C dL_law_905 ?_
  refine z_sldn C S 1 (by decide) (by unfold vp_in; decide) dL_law_906 ?_
  refine zv_i C (As := [.int (xs 1)]) (bytes := cX11_isUp) (maxL := 2) (F1 := 2) (L1 := 43) (c_X11_isUp w _ 234 (xs 1) _ h2 hw) h2.2 (tE20 h2.1) rfl 1 gL_law_X11_isUp rfl (by decide +kernel) ⟨Nat.le_of_ble_eq_true rfl, Nat.le_of_ble_eq_true rfl⟩ rfl (Nat.le_of_ble_eq_true rfl) ⟨Nat.le_of_ble_eq_true rfl, Nat.le_of_ble_eq_true rfl⟩ rfl dL_law_907 (fun x24 τ23 hw => ?_)
  refine z_istore C [(6, .int x24), (5, .int x22), (4, .int 0), (3, .ref (w.1 503)), (2, .ref (w.1 234)), (1, .ref (w.1 0)), (0, .ref b)] dL_law_910 (by decide) rfl ?_
  refine z_aload_n C 4 (by rfl) dL_law_912 ?_
  refine zv_i C (As := []) (bytes := cX11_thrown) (maxL := 1) (F1 := 0) (L1 := 0) (c_X11_thrown w _ 234 _ h2 hw) h2.2 (tE20 h2.1) rfl 0 gL_law_X11_thrown rfl (by decide +kernel) ⟨Nat.le_of_ble_eq_true rfl, Nat.le_of_ble_eq_true rfl⟩ rfl (Nat.le_of_ble_eq_true rfl) ⟨Nat.le_of_ble_eq_true rfl, Nat.le_of_ble_eq_true rfl⟩ rfl dL_law_913 (fun x26 τ25 hw => ?_)
  refine z_iload C 1 (by rfl) dL_law_916 ?_
  refine z_icmp_eq (tgt := 923) C dL_law_918 (by decide) (fun c27 => ?_) (fun c27 => ?_)
  · have hw := hw.1 c27
    refine z_iload C 1 (by rfl) dL_law_923 ?_
    refine z_if_ne (tgt := 947) C dL_law_925 (by decide) (fun c28 => ?_) (fun c28 => ?_)
    · have hw := hw.1 c28
      refine z_goto (tgt := 2739) C dL_law_947 (by decide) ?_
      refine z_widen (512, 23300) (Nat.le_of_ble_eq_true rfl) (Nat.le_of_ble_eq_true rfl) ?_
      refine z_sub [2, 3, 4, 5, 6] [(4, .int 0), (3, .ref (w.1 503)), (2, .ref (w.1 234)), (1, .ref (w.1 0)), (0, .ref b)] rfl ?_
      exact hK _ hw
    · have hw := hw.2 c28
      refine z_aload_n C 3 (by rfl) dL_law_928 ?_
      refine z_iconst C 0 (by decide) dL_law_929 ?_
      refine z_lald C (x := 0) h3 (by unfold vp_in; decide) dL_law_930 ?_
      refine z_iload C 0 (by rfl) dL_law_931 ?_
      refine z_if_eq (tgt := 940) C dL_law_933 (by decide) (fun c29 => ?_) (fun c29 => ?_)
      · have hw := hw.1 c29
        refine z_lconst C 0 (by decide) dL_law_940 ?_
        refine z_lcmp C dL_law_941 ?_
        refine z_if_eq (tgt := 947) C dL_law_942 (by decide) (fun c30 => ?_) (fun c30 => ?_)
        · have hw := hw.1 c30
          refine z_goto (tgt := 2739) C dL_law_947 (by decide) ?_
          refine z_widen (512, 23300) (Nat.le_of_ble_eq_true rfl) (Nat.le_of_ble_eq_true rfl) ?_
          refine z_sub [2, 3, 4, 5, 6] [(4, .int 0), (3, .ref (w.1 503)), (2, .ref (w.1 234)), (1, .ref (w.1 0)), (0, .ref b)] rfl ?_
          exact hK _ hw
        · have hw := hw.2 c30
          refine z_iconst C 0 (by decide) dL_law_945 ?_
          exact hw.elim
      · have hw := hw.2 c29
        refine z_lconst C 1 (by decide) dL_law_936 ?_
        refine z_goto (tgt := 941) C dL_law_937 (by decide) ?_
        refine z_lcmp C dL_law_941 ?_
        refine z_if_eq (tgt := 947) C dL_law_942 (by decide) (fun c31 => ?_) (fun c31 => ?_)
        · have hw := hw.1 c31
          refine z_goto (tgt := 2739) C dL_law_947 (by decide) ?_
          refine z_widen (512, 23300) (Nat.le_of_ble_eq_true rfl) (Nat.le_of_ble_eq_true rfl) ?_
          refine z_sub [2, 3, 4, 5, 6] [(4, .int 0), (3, .ref (w.1 503)), (2, .ref (w.1 234)), (1, .ref (w.1 0)), (0, .ref b)] rfl ?_
          exact hK _ hw
        · have hw := hw.2 c31
          refine z_iconst C 0 (by decide) dL_law_945 ?_
          exact hw.elim
  · have hw := hw.2 c27
    refine z_iconst C 0 (by decide) dL_law_921 ?_
    exact hw.elim
def wl_13 (τ : TS) (xs : Nat → Int32) (K : TS → Prop) : Prop :=
  wp_L_distance τ 0 (xs 1) (xs 2) 503 (fun τ21 x22 => wp_X11_distance τ21 234 (xs 1) (xs 2) (fun τ23 x24 => wp_X11_thrown τ23 234 (fun τ25 x26 => ((x26 = x22) → (((¬ x22 = 0) → (K τ25)) ∧ ((x22 = 0) → ((((lg_cmp (tp_jl (τ25 503 0) (τ25 503 1)) (Int32.toInt64 x24)) = 0) → (K τ25)) ∧ ((¬ (lg_cmp (tp_jl (τ25 503 0) (τ25 503 1)) (Int32.toInt64 x24)) = 0) → False))))) ∧ ((¬ x26 = x22) → False))))
set_option maxHeartbeats 4000000 in
set_option maxRecDepth 100000 in
theorem cl_13 {w : WPar} {g : Cxt} {τ : TS} {b : Nat} {xs : Nat → Int32} (C : Cok w g cL_law RL wsL_law 9 14 560 600002 7302232) (D : CX w g) (N3 : tp_N3g g) (S : CS w g b 5 xs) (hl : w.2.1.stackTraces = false) (hN : tp_N w = 504) (h1 : tp_is w 0 7) (h2 : tp_is w 234 20) (h3 : tp_is w 503 33) (K : TS → Prop) (hK : ∀ τ2, K τ2 → Zt w g τ2 (512, 23300) 2739 [(4, .int 0), (3, .ref (w.1 503)), (2, .ref (w.1 234)), (1, .ref (w.1 0)), (0, .ref b)] []) (hw : wl_13 τ xs K) : Zt w g τ (504, 23236) 950 [(4, .int 0), (3, .ref (w.1 503)), (2, .ref (w.1 234)), (1, .ref (w.1 0)), (0, .ref b)] [] := by
  unfold wl_13 at hw
  refine z_aload_n C 3 (by rfl) dL_law_950 ?_
  refine z_aload_n C 4 (by rfl) dL_law_951 ?_
  refine z_iload C 0 (by rfl) dL_law_952 ?_
  refine z_iconst C 1 (by decide) dL_law_954 ?_
  refine z_iadd C dL_law_955 ?_
  refine z_sldn C S 1 (by decide) (by unfold vp_in; decide) dL_law_956 ?_
  refine z_aload_n C 4 (by rfl) dL_law_957 ?_
  refine z_iload C 0 (by rfl) dL_law_958 ?_
  refine z_iconst C 2 (by decide) dL_law_960 ?_
  refine z_iadd C dL_law_961 ?_
  refine z_sldn C S 2 (by decide) (by unfold vp_in; decide) dL_law_962 ?_
  refine z_aload_n C 1 (by rfl) dL_law_963 ?_
  refine zs_act C D N3 (hh := [(0, 10, 13, 19)]) (As := [.ref (w.1 0), .int (xs 1), .int (xs 2), .ref (w.1 503)]) (bytes := cL_distance) (maxL := 5) (F1 := 8) (L1 := 125) (mc := 2) (ms := 12) (c_L_distance w _ 0 (xs 1) (xs 2) 503 _ hl h1 h3 hw) 4 gL_law_L_distance rfl (by decide +kernel) ⟨Nat.le_of_ble_eq_true rfl, Nat.le_of_ble_eq_true rfl⟩ rfl (Nat.le_of_ble_eq_true rfl) (k2 := (506, 23248)) rfl ⟨Nat.le_of_ble_eq_true rfl, Nat.le_of_ble_eq_true rfl⟩ rfl dL_law_964 (fun x22 τ21 hw => ?_)
  refine z_istore C [(5, .int x22), (4, .int 0), (3, .ref (w.1 503)), (2, .ref (w.1 234)), (1, .ref (w.1 0)), (0, .ref b)] dL_law_967 (by decide) rfl ?_
  refine z_aload_n C 3 (by rfl) dL_law_969 ?_
  refine z_aload_n C 5 (by rfl) dL_law_970 ?_
  refine z_iload C 1 (by rfl) dL_law_971 ?_
  refine z_iconst C 1 (by decide) dL_law_973 ?_
  refine z_iadd C dL_law_974 ?_
  refine z_sldn C S 1 (by decide) (by unfold vp_in; decide) dL_law_975 ?_
  refine z_aload_n C 5 (by rfl) dL_law_976 ?_
  refine z_iload C 1 (by rfl) dL_law_977 ?_
  refine z_iconst C 2 (by decide) dL_law_979 ?_
  refine z_iadd C dL_law_980 ?_
  refine z_sldn C S 2 (by decide) (by unfold vp_in; decide) dL_law_981 ?_
  refine zv_i C (As := [.int (xs 1), .int (xs 2)]) (bytes := cX11_distance) (maxL := 3) (F1 := 2) (L1 := 43) (c_X11_distance w _ 234 (xs 1) (xs 2) _ h2 hw) h2.2 (tE20 h2.1) rfl 2 gL_law_X11_distance rfl (by decide +kernel) ⟨Nat.le_of_ble_eq_true rfl, Nat.le_of_ble_eq_true rfl⟩ rfl (Nat.le_of_ble_eq_true rfl) ⟨Nat.le_of_ble_eq_true rfl, Nat.le_of_ble_eq_true rfl⟩ rfl dL_law_982 (fun x24 τ23 hw => ?_)
  refine z_istore C [(6, .int x24), (5, .int x22), (4, .int 0), (3, .ref (w.1 503)), (2, .ref (w.1 234)), (1, .ref (w.1 0)), (0, .ref b)] dL_law_985 (by decide) rfl ?_
  refine z_aload_n C 4 (by rfl) dL_law_987 ?_
  refine zv_i C (As := []) (bytes := cX11_thrown) (maxL := 1) (F1 := 0) (L1 := 0) (c_X11_thrown w _ 234 _ h2 hw) h2.2 (tE20 h2.1) rfl 0 gL_law_X11_thrown rfl (by decide +kernel) ⟨Nat.le_of_ble_eq_true rfl, Nat.le_of_ble_eq_true rfl⟩ rfl (Nat.le_of_ble_eq_true rfl) ⟨Nat.le_of_ble_eq_true rfl, Nat.le_of_ble_eq_true rfl⟩ rfl dL_law_988 (fun x26 τ25 hw => ?_)
  refine z_iload C 1 (by rfl) dL_law_991 ?_
  refine z_icmp_eq (tgt := 998) C dL_law_993 (by decide) (fun c27 => ?_) (fun c27 => ?_)
  · have hw := hw.1 c27
    refine z_iload C 1 (by rfl) dL_law_998 ?_
    refine z_if_ne (tgt := 1015) C dL_law_1000 (by decide) (fun c28 => ?_) (fun c28 => ?_)
    · have hw := hw.1 c28
      refine z_goto (tgt := 2739) C dL_law_1015 (by decide) ?_
      refine z_widen (512, 23300) (Nat.le_of_ble_eq_true rfl) (Nat.le_of_ble_eq_true rfl) ?_
      refine z_sub [2, 3, 4, 5, 6] [(4, .int 0), (3, .ref (w.1 503)), (2, .ref (w.1 234)), (1, .ref (w.1 0)), (0, .ref b)] rfl ?_
      exact hK _ hw
    · have hw := hw.2 c28
      refine z_aload_n C 3 (by rfl) dL_law_1003 ?_
      refine z_iconst C 0 (by decide) dL_law_1004 ?_
      refine z_lald C (x := 0) h3 (by unfold vp_in; decide) dL_law_1005 ?_
      refine z_iload C 0 (by rfl) dL_law_1006 ?_
      refine z_i2l C dL_law_1008 ?_
      refine z_lcmp C dL_law_1009 ?_
      refine z_if_eq (tgt := 1015) C dL_law_1010 (by decide) (fun c29 => ?_) (fun c29 => ?_)
      · have hw := hw.1 c29
        refine z_goto (tgt := 2739) C dL_law_1015 (by decide) ?_
        refine z_widen (512, 23300) (Nat.le_of_ble_eq_true rfl) (Nat.le_of_ble_eq_true rfl) ?_
        refine z_sub [2, 3, 4, 5, 6] [(4, .int 0), (3, .ref (w.1 503)), (2, .ref (w.1 234)), (1, .ref (w.1 0)), (0, .ref b)] rfl ?_
        exact hK _ hw
      · have hw := hw.2 c29
        refine z_iconst C 0 (by decide) dL_law_1013 ?_
        exact hw.elim
  · have hw := hw.2 c27
    refine z_iconst C 0 (by decide) dL_law_996 ?_
    exact hw.elim
def wl_14 (τ : TS) (xs : Nat → Int32) (K : TS → Prop) : Prop :=
  wp_L_nextLink τ 0 (xs 1) (xs 2) 503 (fun τ21 x22 => wp_X11_nextLink τ21 234 (xs 1) (xs 2) (fun τ23 x24 => wp_X11_thrown τ23 234 (fun τ25 x26 => ((x26 = x22) → (((¬ x22 = 0) → (K τ25)) ∧ ((x22 = 0) → ((((lg_cmp (tp_jl (τ25 503 0) (τ25 503 1)) (Int32.toInt64 x24)) = 0) → (K τ25)) ∧ ((¬ (lg_cmp (tp_jl (τ25 503 0) (τ25 503 1)) (Int32.toInt64 x24)) = 0) → False))))) ∧ ((¬ x26 = x22) → False))))
set_option maxHeartbeats 4000000 in
set_option maxRecDepth 100000 in
theorem cl_14 {w : WPar} {g : Cxt} {τ : TS} {b : Nat} {xs : Nat → Int32} (C : Cok w g cL_law RL wsL_law 9 14 560 600002 7302232) (D : CX w g) (N3 : tp_N3g g) (S : CS w g b 5 xs) (hl : w.2.1.stackTraces = false) (hN : tp_N w = 504) (h1 : tp_is w 0 7) (h2 : tp_is w 234 20) (h3 : tp_is w 503 33) (K : TS → Prop) (hK : ∀ τ2, K τ2 → Zt w g τ2 (512, 23300) 2739 [(4, .int 0), (3, .ref (w.1 503)), (2, .ref (w.1 234)), (1, .ref (w.1 0)), (0, .ref b)] []) (hw : wl_14 τ xs K) : Zt w g τ (504, 23236) 1018 [(4, .int 0), (3, .ref (w.1 503)), (2, .ref (w.1 234)), (1, .ref (w.1 0)), (0, .ref b)] [] := by
  unfold wl_14 at hw
  refine z_aload_n C 3 (by rfl) dL_law_1018 ?_
  refine z_aload_n C 4 (by rfl) dL_law_1019 ?_
  refine z_iload C 0 (by rfl) dL_law_1020 ?_
  refine z_iconst C 1 (by decide) dL_law_1022 ?_
  refine z_iadd C dL_law_1023 ?_
  refine z_sldn C S 1 (by decide) (by unfold vp_in; decide) dL_law_1024 ?_
  refine z_aload_n C 4 (by rfl) dL_law_1025 ?_
  refine z_iload C 0 (by rfl) dL_law_1026 ?_
  refine z_iconst C 2 (by decide) dL_law_1028 ?_
  refine z_iadd C dL_law_1029 ?_
  refine z_sldn C S 2 (by decide) (by unfold vp_in; decide) dL_law_1030 ?_
  refine z_aload_n C 1 (by rfl) dL_law_1031 ?_
  refine zs_act C D N3 (hh := [(0, 10, 13, 19)]) (As := [.ref (w.1 0), .int (xs 1), .int (xs 2), .ref (w.1 503)]) (bytes := cL_nextLink) (maxL := 5) (F1 := 8) (L1 := 125) (mc := 2) (ms := 12) (c_L_nextLink w _ 0 (xs 1) (xs 2) 503 _ hl h1 h3 hw) 4 gL_law_L_nextLink rfl (by decide +kernel) ⟨Nat.le_of_ble_eq_true rfl, Nat.le_of_ble_eq_true rfl⟩ rfl (Nat.le_of_ble_eq_true rfl) (k2 := (506, 23248)) rfl ⟨Nat.le_of_ble_eq_true rfl, Nat.le_of_ble_eq_true rfl⟩ rfl dL_law_1032 (fun x22 τ21 hw => ?_)
  refine z_istore C [(5, .int x22), (4, .int 0), (3, .ref (w.1 503)), (2, .ref (w.1 234)), (1, .ref (w.1 0)), (0, .ref b)] dL_law_1035 (by decide) rfl ?_
  refine z_aload_n C 3 (by rfl) dL_law_1037 ?_
  refine z_aload_n C 5 (by rfl) dL_law_1038 ?_
  refine z_iload C 1 (by rfl) dL_law_1039 ?_
  refine z_iconst C 1 (by decide) dL_law_1041 ?_
  refine z_iadd C dL_law_1042 ?_
  refine z_sldn C S 1 (by decide) (by unfold vp_in; decide) dL_law_1043 ?_
  refine z_aload_n C 5 (by rfl) dL_law_1044 ?_
  refine z_iload C 1 (by rfl) dL_law_1045 ?_
  refine z_iconst C 2 (by decide) dL_law_1047 ?_
  refine z_iadd C dL_law_1048 ?_
  refine z_sldn C S 2 (by decide) (by unfold vp_in; decide) dL_law_1049 ?_
  refine zv_i C (As := [.int (xs 1), .int (xs 2)]) (bytes := cX11_nextLink) (maxL := 3) (F1 := 2) (L1 := 43) (c_X11_nextLink w _ 234 (xs 1) (xs 2) _ h2 hw) h2.2 (tE20 h2.1) rfl 2 gL_law_X11_nextLink rfl (by decide +kernel) ⟨Nat.le_of_ble_eq_true rfl, Nat.le_of_ble_eq_true rfl⟩ rfl (Nat.le_of_ble_eq_true rfl) ⟨Nat.le_of_ble_eq_true rfl, Nat.le_of_ble_eq_true rfl⟩ rfl dL_law_1050 (fun x24 τ23 hw => ?_)
  refine z_istore C [(6, .int x24), (5, .int x22), (4, .int 0), (3, .ref (w.1 503)), (2, .ref (w.1 234)), (1, .ref (w.1 0)), (0, .ref b)] dL_law_1053 (by decide) rfl ?_
  refine z_aload_n C 4 (by rfl) dL_law_1055 ?_
  refine zv_i C (As := []) (bytes := cX11_thrown) (maxL := 1) (F1 := 0) (L1 := 0) (c_X11_thrown w _ 234 _ h2 hw) h2.2 (tE20 h2.1) rfl 0 gL_law_X11_thrown rfl (by decide +kernel) ⟨Nat.le_of_ble_eq_true rfl, Nat.le_of_ble_eq_true rfl⟩ rfl (Nat.le_of_ble_eq_true rfl) ⟨Nat.le_of_ble_eq_true rfl, Nat.le_of_ble_eq_true rfl⟩ rfl dL_law_1056 (fun x26 τ25 hw => ?_)
  refine z_iload C 1 (by rfl) dL_law_1059 ?_
  refine z_icmp_eq (tgt := 1066) C dL_law_1061 (by decide) (fun c27 => ?_) (fun c27 => ?_)
  · have hw := hw.1 c27
    refine z_iload C 1 (by rfl) dL_law_1066 ?_
    refine z_if_ne (tgt := 1083) C dL_law_1068 (by decide) (fun c28 => ?_) (fun c28 => ?_)
    · have hw := hw.1 c28
      refine z_goto (tgt := 2739) C dL_law_1083 (by decide) ?_
      refine z_widen (512, 23300) (Nat.le_of_ble_eq_true rfl) (Nat.le_of_ble_eq_true rfl) ?_
      refine z_sub [2, 3, 4, 5, 6] [(4, .int 0), (3, .ref (w.1 503)), (2, .ref (w.1 234)), (1, .ref (w.1 0)), (0, .ref b)] rfl ?_
      exact hK _ hw
    · have hw := hw.2 c28
      refine z_aload_n C 3 (by rfl) dL_law_1071 ?_
      refine z_iconst C 0 (by decide) dL_law_1072 ?_
      refine z_lald C (x := 0) h3 (by unfold vp_in; decide) dL_law_1073 ?_
      refine z_iload C 0 (by rfl) dL_law_1074 ?_
      refine z_i2l C dL_law_1076 ?_
      refine z_lcmp C dL_law_1077 ?_
      refine z_if_eq (tgt := 1083) C dL_law_1078 (by decide) (fun c29 => ?_) (fun c29 => ?_)
      · have hw := hw.1 c29
        refine z_goto (tgt := 2739) C dL_law_1083 (by decide) ?_
        refine z_widen (512, 23300) (Nat.le_of_ble_eq_true rfl) (Nat.le_of_ble_eq_true rfl) ?_
        refine z_sub [2, 3, 4, 5, 6] [(4, .int 0), (3, .ref (w.1 503)), (2, .ref (w.1 234)), (1, .ref (w.1 0)), (0, .ref b)] rfl ?_
        exact hK _ hw
      · have hw := hw.2 c29
        refine z_iconst C 0 (by decide) dL_law_1081 ?_
        exact hw.elim
  · have hw := hw.2 c27
    refine z_iconst C 0 (by decide) dL_law_1064 ?_
    exact hw.elim
def wl_15 (τ : TS) (xs : Nat → Int32) (K : TS → Prop) : Prop :=
  wp_L_queued τ 0 (xs 1) (xs 2) 503 (fun τ21 x22 => wp_X11_queued τ21 234 (xs 1) (xs 2) (fun τ23 x24 => wp_X11_thrown τ23 234 (fun τ25 x26 => ((x26 = x22) → (((¬ x22 = 0) → (K τ25)) ∧ ((x22 = 0) → ((((lg_cmp (tp_jl (τ25 503 0) (τ25 503 1)) (Int32.toInt64 x24)) = 0) → (K τ25)) ∧ ((¬ (lg_cmp (tp_jl (τ25 503 0) (τ25 503 1)) (Int32.toInt64 x24)) = 0) → False))))) ∧ ((¬ x26 = x22) → False))))
set_option maxHeartbeats 4000000 in
set_option maxRecDepth 100000 in
theorem cl_15 {w : WPar} {g : Cxt} {τ : TS} {b : Nat} {xs : Nat → Int32} (C : Cok w g cL_law RL wsL_law 9 14 560 600002 7302232) (D : CX w g) (N3 : tp_N3g g) (S : CS w g b 5 xs) (hl : w.2.1.stackTraces = false) (hN : tp_N w = 504) (h1 : tp_is w 0 7) (h2 : tp_is w 234 20) (h3 : tp_is w 503 33) (K : TS → Prop) (hK : ∀ τ2, K τ2 → Zt w g τ2 (512, 23300) 2739 [(4, .int 0), (3, .ref (w.1 503)), (2, .ref (w.1 234)), (1, .ref (w.1 0)), (0, .ref b)] []) (hw : wl_15 τ xs K) : Zt w g τ (504, 23236) 1086 [(4, .int 0), (3, .ref (w.1 503)), (2, .ref (w.1 234)), (1, .ref (w.1 0)), (0, .ref b)] [] := by
  unfold wl_15 at hw
  refine z_aload_n C 3 (by rfl) dL_law_1086 ?_
  refine z_aload_n C 4 (by rfl) dL_law_1087 ?_
  refine z_iload C 0 (by rfl) dL_law_1088 ?_
  refine z_iconst C 1 (by decide) dL_law_1090 ?_
  refine z_iadd C dL_law_1091 ?_
  refine z_sldn C S 1 (by decide) (by unfold vp_in; decide) dL_law_1092 ?_
  refine z_aload_n C 4 (by rfl) dL_law_1093 ?_
  refine z_iload C 0 (by rfl) dL_law_1094 ?_
  refine z_iconst C 2 (by decide) dL_law_1096 ?_
  refine z_iadd C dL_law_1097 ?_
  refine z_sldn C S 2 (by decide) (by unfold vp_in; decide) dL_law_1098 ?_
  refine z_aload_n C 1 (by rfl) dL_law_1099 ?_
  refine zs_act C D N3 (hh := [(0, 10, 13, 19)]) (As := [.ref (w.1 0), .int (xs 1), .int (xs 2), .ref (w.1 503)]) (bytes := cL_queued) (maxL := 5) (F1 := 9) (L1 := 147) (mc := 2) (ms := 12) (c_L_queued w _ 0 (xs 1) (xs 2) 503 _ hl h1 h3 hw) 4 gL_law_L_queued rfl (by decide +kernel) ⟨Nat.le_of_ble_eq_true rfl, Nat.le_of_ble_eq_true rfl⟩ rfl (Nat.le_of_ble_eq_true rfl) (k2 := (506, 23248)) rfl ⟨Nat.le_of_ble_eq_true rfl, Nat.le_of_ble_eq_true rfl⟩ rfl dL_law_1100 (fun x22 τ21 hw => ?_)
  refine z_istore C [(5, .int x22), (4, .int 0), (3, .ref (w.1 503)), (2, .ref (w.1 234)), (1, .ref (w.1 0)), (0, .ref b)] dL_law_1103 (by decide) rfl ?_
  refine z_aload_n C 3 (by rfl) dL_law_1105 ?_
  refine z_aload_n C 5 (by rfl) dL_law_1106 ?_
  refine z_iload C 1 (by rfl) dL_law_1107 ?_
  refine z_iconst C 1 (by decide) dL_law_1109 ?_
  refine z_iadd C dL_law_1110 ?_
  refine z_sldn C S 1 (by decide) (by unfold vp_in; decide) dL_law_1111 ?_
  refine z_aload_n C 5 (by rfl) dL_law_1112 ?_
  refine z_iload C 1 (by rfl) dL_law_1113 ?_
  refine z_iconst C 2 (by decide) dL_law_1115 ?_
  refine z_iadd C dL_law_1116 ?_
  refine z_sldn C S 2 (by decide) (by unfold vp_in; decide) dL_law_1117 ?_
  refine zv_i C (As := [.int (xs 1), .int (xs 2)]) (bytes := cX11_queued) (maxL := 3) (F1 := 3) (L1 := 65) (c_X11_queued w _ 234 (xs 1) (xs 2) _ h2 hw) h2.2 (tE20 h2.1) rfl 2 gL_law_X11_queued rfl (by decide +kernel) ⟨Nat.le_of_ble_eq_true rfl, Nat.le_of_ble_eq_true rfl⟩ rfl (Nat.le_of_ble_eq_true rfl) ⟨Nat.le_of_ble_eq_true rfl, Nat.le_of_ble_eq_true rfl⟩ rfl dL_law_1118 (fun x24 τ23 hw => ?_)
  refine z_istore C [(6, .int x24), (5, .int x22), (4, .int 0), (3, .ref (w.1 503)), (2, .ref (w.1 234)), (1, .ref (w.1 0)), (0, .ref b)] dL_law_1121 (by decide) rfl ?_
  refine z_aload_n C 4 (by rfl) dL_law_1123 ?_
  refine zv_i C (As := []) (bytes := cX11_thrown) (maxL := 1) (F1 := 0) (L1 := 0) (c_X11_thrown w _ 234 _ h2 hw) h2.2 (tE20 h2.1) rfl 0 gL_law_X11_thrown rfl (by decide +kernel) ⟨Nat.le_of_ble_eq_true rfl, Nat.le_of_ble_eq_true rfl⟩ rfl (Nat.le_of_ble_eq_true rfl) ⟨Nat.le_of_ble_eq_true rfl, Nat.le_of_ble_eq_true rfl⟩ rfl dL_law_1124 (fun x26 τ25 hw => ?_)
  refine z_iload C 1 (by rfl) dL_law_1127 ?_
  refine z_icmp_eq (tgt := 1134) C dL_law_1129 (by decide) (fun c27 => ?_) (fun c27 => ?_)
  · have hw := hw.1 c27
    refine z_iload C 1 (by rfl) dL_law_1134 ?_
    refine z_if_ne (tgt := 1151) C dL_law_1136 (by decide) (fun c28 => ?_) (fun c28 => ?_)
    · have hw := hw.1 c28
      refine z_goto (tgt := 2739) C dL_law_1151 (by decide) ?_
      refine z_widen (512, 23300) (Nat.le_of_ble_eq_true rfl) (Nat.le_of_ble_eq_true rfl) ?_
      refine z_sub [2, 3, 4, 5, 6] [(4, .int 0), (3, .ref (w.1 503)), (2, .ref (w.1 234)), (1, .ref (w.1 0)), (0, .ref b)] rfl ?_
      exact hK _ hw
    · have hw := hw.2 c28
      refine z_aload_n C 3 (by rfl) dL_law_1139 ?_
      refine z_iconst C 0 (by decide) dL_law_1140 ?_
      refine z_lald C (x := 0) h3 (by unfold vp_in; decide) dL_law_1141 ?_
      refine z_iload C 0 (by rfl) dL_law_1142 ?_
      refine z_i2l C dL_law_1144 ?_
      refine z_lcmp C dL_law_1145 ?_
      refine z_if_eq (tgt := 1151) C dL_law_1146 (by decide) (fun c29 => ?_) (fun c29 => ?_)
      · have hw := hw.1 c29
        refine z_goto (tgt := 2739) C dL_law_1151 (by decide) ?_
        refine z_widen (512, 23300) (Nat.le_of_ble_eq_true rfl) (Nat.le_of_ble_eq_true rfl) ?_
        refine z_sub [2, 3, 4, 5, 6] [(4, .int 0), (3, .ref (w.1 503)), (2, .ref (w.1 234)), (1, .ref (w.1 0)), (0, .ref b)] rfl ?_
        exact hK _ hw
      · have hw := hw.2 c29
        refine z_iconst C 0 (by decide) dL_law_1149 ?_
        exact hw.elim
  · have hw := hw.2 c27
    refine z_iconst C 0 (by decide) dL_law_1132 ?_
    exact hw.elim
