def wl_32 (τ : TS) (xs : Nat → Int32) (K : TS → Prop) : Prop :=
  wp_L_timeout τ 0 (xs 1) 503 (fun τ21 x22 => wp_X11_timeout τ21 234 (xs 1) (fun τ23 x24 => wp_X11_thrown τ23 234 (fun τ25 x26 => ((x26 = x22) → (((¬ x22 = 0) → (K τ25)) ∧ ((x22 = 0) → ((((lg_cmp (tp_jl (τ25 503 0) (τ25 503 1)) (Int32.toInt64 x24)) = 0) → (K τ25)) ∧ ((¬ (lg_cmp (tp_jl (τ25 503 0) (τ25 503 1)) (Int32.toInt64 x24)) = 0) → False))))) ∧ ((¬ x26 = x22) → False))))
set_option maxHeartbeats 4000000 in
set_option maxRecDepth 100000 in
theorem cl_32 {w : WPar} {g : Cxt} {τ : TS} {b : Nat} {xs : Nat → Int32} (C : Cok w g cL_law RL wsL_law 9 14 560 600002 7302232) (D : CX w g) (N3 : tp_N3g g) (S : CS w g b 5 xs) (hl : w.2.1.stackTraces = false) (hN : tp_N w = 504) (h1 : tp_is w 0 7) (h2 : tp_is w 234 20) (h3 : tp_is w 503 33) (K : TS → Prop) (hK : ∀ τ2, K τ2 → Zt w g τ2 (512, 23300) 2739 [(4, .int 0), (3, .ref (w.1 503)), (2, .ref (w.1 234)), (1, .ref (w.1 0)), (0, .ref b)] []) (hw : wl_32 τ xs K) : Zt w g τ (504, 23236) 1945 [(4, .int 0), (3, .ref (w.1 503)), (2, .ref (w.1 234)), (1, .ref (w.1 0)), (0, .ref b)] [] := by
  unfold wl_32 at hw
  refine z_aload_n C 3 (by rfl) dL_law_1945 ?_
  refine z_aload_n C 4 (by rfl) dL_law_1946 ?_
  refine z_iload C 0 (by rfl) dL_law_1947 ?_
  refine z_iconst C 1 (by decide) dL_law_1949 ?_
  refine z_iadd C dL_law_1950 ?_
  refine z_sldn C S 1 (by decide) (by unfold vp_in; decide) dL_law_1951 ?_
  refine z_aload_n C 1 (by rfl) dL_law_1952 ?_
  refine zs_act C D N3 (hh := [(0, 9, 12, 19)]) (As := [.ref (w.1 0), .int (xs 1), .ref (w.1 503)]) (bytes := cL_timeout) (maxL := 4) (F1 := 9) (L1 := 145) (mc := 1) (ms := 6) (c_L_timeout w _ 0 (xs 1) 503 _ hl h1 h3 hw) 3 gL_law_L_timeout rfl (by decide +kernel) ⟨Nat.le_of_ble_eq_true rfl, Nat.le_of_ble_eq_true rfl⟩ rfl (Nat.le_of_ble_eq_true rfl) (k2 := (505, 23242)) rfl ⟨Nat.le_of_ble_eq_true rfl, Nat.le_of_ble_eq_true rfl⟩ rfl dL_law_1953 (fun x22 τ21 hw => ?_)
  refine z_istore C [(5, .int x22), (4, .int 0), (3, .ref (w.1 503)), (2, .ref (w.1 234)), (1, .ref (w.1 0)), (0, .ref b)] dL_law_1956 (by decide) rfl ?_
  refine z_aload_n C 3 (by rfl) dL_law_1958 ?_
  refine z_aload_n C 5 (by rfl) dL_law_1959 ?_
  refine z_iload C 1 (by rfl) dL_law_1960 ?_
  refine z_iconst C 1 (by decide) dL_law_1962 ?_
  refine z_iadd C dL_law_1963 ?_
  refine z_sldn C S 1 (by decide) (by unfold vp_in; decide) dL_law_1964 ?_
  refine zv_i C (As := [.int (xs 1)]) (bytes := cX11_timeout) (maxL := 2) (F1 := 3) (L1 := 65) (c_X11_timeout w _ 234 (xs 1) _ h2 hw) h2.2 (tE20 h2.1) rfl 1 gL_law_X11_timeout rfl (by decide +kernel) ⟨Nat.le_of_ble_eq_true rfl, Nat.le_of_ble_eq_true rfl⟩ rfl (Nat.le_of_ble_eq_true rfl) ⟨Nat.le_of_ble_eq_true rfl, Nat.le_of_ble_eq_true rfl⟩ rfl dL_law_1965 (fun x24 τ23 hw => ?_)
  refine z_istore C [(6, .int x24), (5, .int x22), (4, .int 0), (3, .ref (w.1 503)), (2, .ref (w.1 234)), (1, .ref (w.1 0)), (0, .ref b)] dL_law_1968 (by decide) rfl ?_
  refine z_aload_n C 4 (by rfl) dL_law_1970 ?_
  refine zv_i C (As := []) (bytes := cX11_thrown) (maxL := 1) (F1 := 0) (L1 := 0) (c_X11_thrown w _ 234 _ h2 hw) h2.2 (tE20 h2.1) rfl 0 gL_law_X11_thrown rfl (by decide +kernel) ⟨Nat.le_of_ble_eq_true rfl, Nat.le_of_ble_eq_true rfl⟩ rfl (Nat.le_of_ble_eq_true rfl) ⟨Nat.le_of_ble_eq_true rfl, Nat.le_of_ble_eq_true rfl⟩ rfl dL_law_1971 (fun x26 τ25 hw => ?_)
  refine z_iload C 1 (by rfl) dL_law_1974 ?_
  refine z_icmp_eq (tgt := 1981) C dL_law_1976 (by decide) (fun c27 => ?_) (fun c27 => ?_)
  · have hw := hw.1 c27
    refine z_iload C 1 (by rfl) dL_law_1981 ?_
    refine z_if_ne (tgt := 1998) C dL_law_1983 (by decide) (fun c28 => ?_) (fun c28 => ?_)
    · have hw := hw.1 c28
      refine z_goto (tgt := 2739) C dL_law_1998 (by decide) ?_
      refine z_widen (512, 23300) (Nat.le_of_ble_eq_true rfl) (Nat.le_of_ble_eq_true rfl) ?_
      refine z_sub [2, 3, 4, 5, 6] [(4, .int 0), (3, .ref (w.1 503)), (2, .ref (w.1 234)), (1, .ref (w.1 0)), (0, .ref b)] rfl ?_
      exact hK _ hw
    · have hw := hw.2 c28
      refine z_aload_n C 3 (by rfl) dL_law_1986 ?_
      refine z_iconst C 0 (by decide) dL_law_1987 ?_
      refine z_lald C (x := 0) h3 (by unfold vp_in; decide) dL_law_1988 ?_
      refine z_iload C 0 (by rfl) dL_law_1989 ?_
      refine z_i2l C dL_law_1991 ?_
      refine z_lcmp C dL_law_1992 ?_
      refine z_if_eq (tgt := 1998) C dL_law_1993 (by decide) (fun c29 => ?_) (fun c29 => ?_)
      · have hw := hw.1 c29
        refine z_goto (tgt := 2739) C dL_law_1998 (by decide) ?_
        refine z_widen (512, 23300) (Nat.le_of_ble_eq_true rfl) (Nat.le_of_ble_eq_true rfl) ?_
        refine z_sub [2, 3, 4, 5, 6] [(4, .int 0), (3, .ref (w.1 503)), (2, .ref (w.1 234)), (1, .ref (w.1 0)), (0, .ref b)] rfl ?_
        exact hK _ hw
      · have hw := hw.2 c29
        refine z_iconst C 0 (by decide) dL_law_1996 ?_
        exact hw.elim
  · have hw := hw.2 c27
    refine z_iconst C 0 (by decide) dL_law_1979 ?_
    exact hw.elim
def wl_33 (τ : TS) (xs : Nat → Int32) (K : TS → Prop) : Prop :=
  wp_L_timer τ 0 (xs 1) 503 (fun τ21 x22 => wp_X11_timer τ21 234 (xs 1) (fun τ23 x24 => wp_X11_thrown τ23 234 (fun τ25 x26 => ((x26 = x22) → (((¬ x22 = 0) → (K τ25)) ∧ ((x22 = 0) → ((((lg_cmp (tp_jl (τ25 503 0) (τ25 503 1)) (Int32.toInt64 x24)) = 0) → (K τ25)) ∧ ((¬ (lg_cmp (tp_jl (τ25 503 0) (τ25 503 1)) (Int32.toInt64 x24)) = 0) → False))))) ∧ ((¬ x26 = x22) → False))))
set_option maxHeartbeats 4000000 in
set_option maxRecDepth 100000 in
theorem cl_33 {w : WPar} {g : Cxt} {τ : TS} {b : Nat} {xs : Nat → Int32} (C : Cok w g cL_law RL wsL_law 9 14 560 600002 7302232) (D : CX w g) (N3 : tp_N3g g) (S : CS w g b 5 xs) (hl : w.2.1.stackTraces = false) (hN : tp_N w = 504) (h1 : tp_is w 0 7) (h2 : tp_is w 234 20) (h3 : tp_is w 503 33) (K : TS → Prop) (hK : ∀ τ2, K τ2 → Zt w g τ2 (512, 23300) 2739 [(4, .int 0), (3, .ref (w.1 503)), (2, .ref (w.1 234)), (1, .ref (w.1 0)), (0, .ref b)] []) (hw : wl_33 τ xs K) : Zt w g τ (504, 23236) 2001 [(4, .int 0), (3, .ref (w.1 503)), (2, .ref (w.1 234)), (1, .ref (w.1 0)), (0, .ref b)] [] := by
  unfold wl_33 at hw
  refine z_aload_n C 3 (by rfl) dL_law_2001 ?_
  refine z_aload_n C 4 (by rfl) dL_law_2002 ?_
  refine z_iload C 0 (by rfl) dL_law_2003 ?_
  refine z_iconst C 1 (by decide) dL_law_2005 ?_
  refine z_iadd C dL_law_2006 ?_
  refine z_sldn C S 1 (by decide) (by unfold vp_in; decide) dL_law_2007 ?_
  refine z_aload_n C 1 (by rfl) dL_law_2008 ?_
  refine zs_act C D N3 (hh := [(0, 9, 12, 19)]) (As := [.ref (w.1 0), .int (xs 1), .ref (w.1 503)]) (bytes := cL_timer) (maxL := 4) (F1 := 9) (L1 := 145) (mc := 1) (ms := 6) (c_L_timer w _ 0 (xs 1) 503 _ hl h1 h3 hw) 3 gL_law_L_timer rfl (by decide +kernel) ⟨Nat.le_of_ble_eq_true rfl, Nat.le_of_ble_eq_true rfl⟩ rfl (Nat.le_of_ble_eq_true rfl) (k2 := (505, 23242)) rfl ⟨Nat.le_of_ble_eq_true rfl, Nat.le_of_ble_eq_true rfl⟩ rfl dL_law_2009 (fun x22 τ21 hw => ?_)
  refine z_istore C [(5, .int x22), (4, .int 0), (3, .ref (w.1 503)), (2, .ref (w.1 234)), (1, .ref (w.1 0)), (0, .ref b)] dL_law_2012 (by decide) rfl ?_
  refine z_aload_n C 3 (by rfl) dL_law_2014 ?_
  refine z_aload_n C 5 (by rfl) dL_law_2015 ?_
  refine z_iload C 1 (by rfl) dL_law_2016 ?_
  refine z_iconst C 1 (by decide) dL_law_2018 ?_
  refine z_iadd C dL_law_2019 ?_
  refine z_sldn C S 1 (by decide) (by unfold vp_in; decide) dL_law_2020 ?_
  refine zv_i C (As := [.int (xs 1)]) (bytes := cX11_timer) (maxL := 2) (F1 := 3) (L1 := 65) (c_X11_timer w _ 234 (xs 1) _ h2 hw) h2.2 (tE20 h2.1) rfl 1 gL_law_X11_timer rfl (by decide +kernel) ⟨Nat.le_of_ble_eq_true rfl, Nat.le_of_ble_eq_true rfl⟩ rfl (Nat.le_of_ble_eq_true rfl) ⟨Nat.le_of_ble_eq_true rfl, Nat.le_of_ble_eq_true rfl⟩ rfl dL_law_2021 (fun x24 τ23 hw => ?_)
  refine z_istore C [(6, .int x24), (5, .int x22), (4, .int 0), (3, .ref (w.1 503)), (2, .ref (w.1 234)), (1, .ref (w.1 0)), (0, .ref b)] dL_law_2024 (by decide) rfl ?_
  refine z_aload_n C 4 (by rfl) dL_law_2026 ?_
  refine zv_i C (As := []) (bytes := cX11_thrown) (maxL := 1) (F1 := 0) (L1 := 0) (c_X11_thrown w _ 234 _ h2 hw) h2.2 (tE20 h2.1) rfl 0 gL_law_X11_thrown rfl (by decide +kernel) ⟨Nat.le_of_ble_eq_true rfl, Nat.le_of_ble_eq_true rfl⟩ rfl (Nat.le_of_ble_eq_true rfl) ⟨Nat.le_of_ble_eq_true rfl, Nat.le_of_ble_eq_true rfl⟩ rfl dL_law_2027 (fun x26 τ25 hw => ?_)
  refine z_iload C 1 (by rfl) dL_law_2030 ?_
  refine z_icmp_eq (tgt := 2037) C dL_law_2032 (by decide) (fun c27 => ?_) (fun c27 => ?_)
  · have hw := hw.1 c27
    refine z_iload C 1 (by rfl) dL_law_2037 ?_
    refine z_if_ne (tgt := 2054) C dL_law_2039 (by decide) (fun c28 => ?_) (fun c28 => ?_)
    · have hw := hw.1 c28
      refine z_goto (tgt := 2739) C dL_law_2054 (by decide) ?_
      refine z_widen (512, 23300) (Nat.le_of_ble_eq_true rfl) (Nat.le_of_ble_eq_true rfl) ?_
      refine z_sub [2, 3, 4, 5, 6] [(4, .int 0), (3, .ref (w.1 503)), (2, .ref (w.1 234)), (1, .ref (w.1 0)), (0, .ref b)] rfl ?_
      exact hK _ hw
    · have hw := hw.2 c28
      refine z_aload_n C 3 (by rfl) dL_law_2042 ?_
      refine z_iconst C 0 (by decide) dL_law_2043 ?_
      refine z_lald C (x := 0) h3 (by unfold vp_in; decide) dL_law_2044 ?_
      refine z_iload C 0 (by rfl) dL_law_2045 ?_
      refine z_i2l C dL_law_2047 ?_
      refine z_lcmp C dL_law_2048 ?_
      refine z_if_eq (tgt := 2054) C dL_law_2049 (by decide) (fun c29 => ?_) (fun c29 => ?_)
      · have hw := hw.1 c29
        refine z_goto (tgt := 2739) C dL_law_2054 (by decide) ?_
        refine z_widen (512, 23300) (Nat.le_of_ble_eq_true rfl) (Nat.le_of_ble_eq_true rfl) ?_
        refine z_sub [2, 3, 4, 5, 6] [(4, .int 0), (3, .ref (w.1 503)), (2, .ref (w.1 234)), (1, .ref (w.1 0)), (0, .ref b)] rfl ?_
        exact hK _ hw
      · have hw := hw.2 c29
        refine z_iconst C 0 (by decide) dL_law_2052 ?_
        exact hw.elim
  · have hw := hw.2 c27
    refine z_iconst C 0 (by decide) dL_law_2035 ?_
    exact hw.elim
def wl_34 (τ : TS) (xs : Nat → Int32) (K : TS → Prop) : Prop :=
  wp_L_measured τ 0 (xs 1) 503 (fun τ21 x22 => wp_X11_measured τ21 234 (xs 1) (fun τ23 x24 => wp_X11_thrown τ23 234 (fun τ25 x26 => ((x26 = x22) → (((¬ x22 = 0) → (K τ25)) ∧ ((x22 = 0) → ((((lg_cmp (tp_jl (τ25 503 0) (τ25 503 1)) (Int32.toInt64 x24)) = 0) → (K τ25)) ∧ ((¬ (lg_cmp (tp_jl (τ25 503 0) (τ25 503 1)) (Int32.toInt64 x24)) = 0) → False))))) ∧ ((¬ x26 = x22) → False))))
set_option maxHeartbeats 4000000 in
set_option maxRecDepth 100000 in
theorem cl_34 {w : WPar} {g : Cxt} {τ : TS} {b : Nat} {xs : Nat → Int32} (C : Cok w g cL_law RL wsL_law 9 14 560 600002 7302232) (D : CX w g) (N3 : tp_N3g g) (S : CS w g b 5 xs) (hl : w.2.1.stackTraces = false) (hN : tp_N w = 504) (h1 : tp_is w 0 7) (h2 : tp_is w 234 20) (h3 : tp_is w 503 33) (K : TS → Prop) (hK : ∀ τ2, K τ2 → Zt w g τ2 (512, 23300) 2739 [(4, .int 0), (3, .ref (w.1 503)), (2, .ref (w.1 234)), (1, .ref (w.1 0)), (0, .ref b)] []) (hw : wl_34 τ xs K) : Zt w g τ (504, 23236) 2057 [(4, .int 0), (3, .ref (w.1 503)), (2, .ref (w.1 234)), (1, .ref (w.1 0)), (0, .ref b)] [] := by
  unfold wl_34 at hw
  refine z_aload_n C 3 (by rfl) dL_law_2057 ?_
  refine z_aload_n C 4 (by rfl) dL_law_2058 ?_
  refine z_iload C 0 (by rfl) dL_law_2059 ?_
  refine z_iconst C 1 (by decide) dL_law_2061 ?_
  refine z_iadd C dL_law_2062 ?_
  refine z_sldn C S 1 (by decide) (by unfold vp_in; decide) dL_law_2063 ?_
  refine z_aload_n C 1 (by rfl) dL_law_2064 ?_
  refine zs_act C D N3 (hh := [(0, 9, 12, 19)]) (As := [.ref (w.1 0), .int (xs 1), .ref (w.1 503)]) (bytes := cL_measured) (maxL := 4) (F1 := 9) (L1 := 145) (mc := 1) (ms := 6) (c_L_measured w _ 0 (xs 1) 503 _ hl h1 h3 hw) 3 gL_law_L_measured rfl (by decide +kernel) ⟨Nat.le_of_ble_eq_true rfl, Nat.le_of_ble_eq_true rfl⟩ rfl (Nat.le_of_ble_eq_true rfl) (k2 := (505, 23242)) rfl ⟨Nat.le_of_ble_eq_true rfl, Nat.le_of_ble_eq_true rfl⟩ rfl dL_law_2065 (fun x22 τ21 hw => ?_)
  refine z_istore C [(5, .int x22), (4, .int 0), (3, .ref (w.1 503)), (2, .ref (w.1 234)), (1, .ref (w.1 0)), (0, .ref b)] dL_law_2068 (by decide) rfl ?_
  refine z_aload_n C 3 (by rfl) dL_law_2070 ?_
  refine z_aload_n C 5 (by rfl) dL_law_2071 ?_
  refine z_iload C 1 (by rfl) dL_law_2072 ?_
  refine z_iconst C 1 (by decide) dL_law_2074 ?_
  refine z_iadd C dL_law_2075 ?_
  refine z_sldn C S 1 (by decide) (by unfold vp_in; decide) dL_law_2076 ?_
  refine zv_i C (As := [.int (xs 1)]) (bytes := cX11_measured) (maxL := 2) (F1 := 3) (L1 := 65) (c_X11_measured w _ 234 (xs 1) _ h2 hw) h2.2 (tE20 h2.1) rfl 1 gL_law_X11_measured rfl (by decide +kernel) ⟨Nat.le_of_ble_eq_true rfl, Nat.le_of_ble_eq_true rfl⟩ rfl (Nat.le_of_ble_eq_true rfl) ⟨Nat.le_of_ble_eq_true rfl, Nat.le_of_ble_eq_true rfl⟩ rfl dL_law_2077 (fun x24 τ23 hw => ?_)
  refine z_istore C [(6, .int x24), (5, .int x22), (4, .int 0), (3, .ref (w.1 503)), (2, .ref (w.1 234)), (1, .ref (w.1 0)), (0, .ref b)] dL_law_2080 (by decide) rfl ?_
  refine z_aload_n C 4 (by rfl) dL_law_2082 ?_
  refine zv_i C (As := []) (bytes := cX11_thrown) (maxL := 1) (F1 := 0) (L1 := 0) (c_X11_thrown w _ 234 _ h2 hw) h2.2 (tE20 h2.1) rfl 0 gL_law_X11_thrown rfl (by decide +kernel) ⟨Nat.le_of_ble_eq_true rfl, Nat.le_of_ble_eq_true rfl⟩ rfl (Nat.le_of_ble_eq_true rfl) ⟨Nat.le_of_ble_eq_true rfl, Nat.le_of_ble_eq_true rfl⟩ rfl dL_law_2083 (fun x26 τ25 hw => ?_)
  refine z_iload C 1 (by rfl) dL_law_2086 ?_
  refine z_icmp_eq (tgt := 2093) C dL_law_2088 (by decide) (fun c27 => ?_) (fun c27 => ?_)
  · have hw := hw.1 c27
    refine z_iload C 1 (by rfl) dL_law_2093 ?_
    refine z_if_ne (tgt := 2110) C dL_law_2095 (by decide) (fun c28 => ?_) (fun c28 => ?_)
    · have hw := hw.1 c28
      refine z_goto (tgt := 2739) C dL_law_2110 (by decide) ?_
      refine z_widen (512, 23300) (Nat.le_of_ble_eq_true rfl) (Nat.le_of_ble_eq_true rfl) ?_
      refine z_sub [2, 3, 4, 5, 6] [(4, .int 0), (3, .ref (w.1 503)), (2, .ref (w.1 234)), (1, .ref (w.1 0)), (0, .ref b)] rfl ?_
      exact hK _ hw
    · have hw := hw.2 c28
      refine z_aload_n C 3 (by rfl) dL_law_2098 ?_
      refine z_iconst C 0 (by decide) dL_law_2099 ?_
      refine z_lald C (x := 0) h3 (by unfold vp_in; decide) dL_law_2100 ?_
      refine z_iload C 0 (by rfl) dL_law_2101 ?_
      refine z_i2l C dL_law_2103 ?_
      refine z_lcmp C dL_law_2104 ?_
      refine z_if_eq (tgt := 2110) C dL_law_2105 (by decide) (fun c29 => ?_) (fun c29 => ?_)
      · have hw := hw.1 c29
        refine z_goto (tgt := 2739) C dL_law_2110 (by decide) ?_
        refine z_widen (512, 23300) (Nat.le_of_ble_eq_true rfl) (Nat.le_of_ble_eq_true rfl) ?_
        refine z_sub [2, 3, 4, 5, 6] [(4, .int 0), (3, .ref (w.1 503)), (2, .ref (w.1 234)), (1, .ref (w.1 0)), (0, .ref b)] rfl ?_
        exact hK _ hw
      · have hw := hw.2 c29
        refine z_iconst C 0 (by decide) dL_law_2108 ?_
        exact hw.elim
  · have hw := hw.2 c27
    refine z_iconst C 0 (by decide) dL_law_2091 ?_
    exact hw.elim
def wl_35 (τ : TS) (xs : Nat → Int32) (K : TS → Prop) : Prop :=
  wp_L_tries τ 0 (xs 1) 503 (fun τ21 x22 => wp_X11_tries τ21 234 (xs 1) (fun τ23 x24 => wp_X11_thrown τ23 234 (fun τ25 x26 => ((x26 = x22) → (((¬ x22 = 0) → (K τ25)) ∧ ((x22 = 0) → ((((lg_cmp (tp_jl (τ25 503 0) (τ25 503 1)) (Int32.toInt64 x24)) = 0) → (K τ25)) ∧ ((¬ (lg_cmp (tp_jl (τ25 503 0) (τ25 503 1)) (Int32.toInt64 x24)) = 0) → False))))) ∧ ((¬ x26 = x22) → False))))
set_option maxHeartbeats 4000000 in
set_option maxRecDepth 100000 in
theorem cl_35 {w : WPar} {g : Cxt} {τ : TS} {b : Nat} {xs : Nat → Int32} (C : Cok w g cL_law RL wsL_law 9 14 560 600002 7302232) (D : CX w g) (N3 : tp_N3g g) (S : CS w g b 5 xs) (hl : w.2.1.stackTraces = false) (hN : tp_N w = 504) (h1 : tp_is w 0 7) (h2 : tp_is w 234 20) (h3 : tp_is w 503 33) (K : TS → Prop) (hK : ∀ τ2, K τ2 → Zt w g τ2 (512, 23300) 2739 [(4, .int 0), (3, .ref (w.1 503)), (2, .ref (w.1 234)), (1, .ref (w.1 0)), (0, .ref b)] []) (hw : wl_35 τ xs K) : Zt w g τ (504, 23236) 2113 [(4, .int 0), (3, .ref (w.1 503)), (2, .ref (w.1 234)), (1, .ref (w.1 0)), (0, .ref b)] [] := by
  unfold wl_35 at hw
  refine z_aload_n C 3 (by rfl) dL_law_2113 ?_
  refine z_aload_n C 4 (by rfl) dL_law_2114 ?_
  refine z_iload C 0 (by rfl) dL_law_2115 ?_
  refine z_iconst C 1 (by decide) dL_law_2117 ?_
  refine z_iadd C dL_law_2118 ?_
  refine z_sldn C S 1 (by decide) (by unfold vp_in; decide) dL_law_2119 ?_
  refine z_aload_n C 1 (by rfl) dL_law_2120 ?_
  refine zs_act C D N3 (hh := [(0, 9, 12, 19)]) (As := [.ref (w.1 0), .int (xs 1), .ref (w.1 503)]) (bytes := cL_tries) (maxL := 4) (F1 := 9) (L1 := 145) (mc := 1) (ms := 6) (c_L_tries w _ 0 (xs 1) 503 _ hl h1 h3 hw) 3 gL_law_L_tries rfl (by decide +kernel) ⟨Nat.le_of_ble_eq_true rfl, Nat.le_of_ble_eq_true rfl⟩ rfl (Nat.le_of_ble_eq_true rfl) (k2 := (505, 23242)) rfl ⟨Nat.le_of_ble_eq_true rfl, Nat.le_of_ble_eq_true rfl⟩ rfl dL_law_2121 (fun x22 τ21 hw => ?_)
  refine z_istore C [(5, .int x22), (4, .int 0), (3, .ref (w.1 503)), (2, .ref (w.1 234)), (1, .ref (w.1 0)), (0, .ref b)] dL_law_2124 (by decide) rfl ?_
  refine z_aload_n C 3 (by rfl) dL_law_2126 ?_
  refine z_aload_n C 5 (by rfl) dL_law_2127 ?_
  refine z_iload C 1 (by rfl) dL_law_2128 ?_
  refine z_iconst C 1 (by decide) dL_law_2130 ?_
  refine z_iadd C dL_law_2131 ?_
  refine z_sldn C S 1 (by decide) (by unfold vp_in; decide) dL_law_2132 ?_
  refine zv_i C (As := [.int (xs 1)]) (bytes := cX11_tries) (maxL := 2) (F1 := 3) (L1 := 65) (c_X11_tries w _ 234 (xs 1) _ h2 hw) h2.2 (tE20 h2.1) rfl 1 gL_law_X11_tries rfl (by decide +kernel) ⟨Nat.le_of_ble_eq_true rfl, Nat.le_of_ble_eq_true rfl⟩ rfl (Nat.le_of_ble_eq_true rfl) ⟨Nat.le_of_ble_eq_true rfl, Nat.le_of_ble_eq_true rfl⟩ rfl dL_law_2133 (fun x24 τ23 hw => ?_)
  refine z_istore C [(6, .int x24), (5, .int x22), (4, .int 0), (3, .ref (w.1 503)), (2, .ref (w.1 234)), (1, .ref (w.1 0)), (0, .ref b)] dL_law_2136 (by decide) rfl ?_
  refine z_aload_n C 4 (by rfl) dL_law_2138 ?_
  refine zv_i C (As := []) (bytes := cX11_thrown) (maxL := 1) (F1 := 0) (L1 := 0) (c_X11_thrown w _ 234 _ h2 hw) h2.2 (tE20 h2.1) rfl 0 gL_law_X11_thrown rfl (by decide +kernel) ⟨Nat.le_of_ble_eq_true rfl, Nat.le_of_ble_eq_true rfl⟩ rfl (Nat.le_of_ble_eq_true rfl) ⟨Nat.le_of_ble_eq_true rfl, Nat.le_of_ble_eq_true rfl⟩ rfl dL_law_2139 (fun x26 τ25 hw => ?_)
  refine z_iload C 1 (by rfl) dL_law_2142 ?_
  refine z_icmp_eq (tgt := 2149) C dL_law_2144 (by decide) (fun c27 => ?_) (fun c27 => ?_)
  · have hw := hw.1 c27
    refine z_iload C 1 (by rfl) dL_law_2149 ?_
    refine z_if_ne (tgt := 2166) C dL_law_2151 (by decide) (fun c28 => ?_) (fun c28 => ?_)
    · have hw := hw.1 c28
      refine z_goto (tgt := 2739) C dL_law_2166 (by decide) ?_
      refine z_widen (512, 23300) (Nat.le_of_ble_eq_true rfl) (Nat.le_of_ble_eq_true rfl) ?_
      refine z_sub [2, 3, 4, 5, 6] [(4, .int 0), (3, .ref (w.1 503)), (2, .ref (w.1 234)), (1, .ref (w.1 0)), (0, .ref b)] rfl ?_
      exact hK _ hw
    · have hw := hw.2 c28
      refine z_aload_n C 3 (by rfl) dL_law_2154 ?_
      refine z_iconst C 0 (by decide) dL_law_2155 ?_
      refine z_lald C (x := 0) h3 (by unfold vp_in; decide) dL_law_2156 ?_
      refine z_iload C 0 (by rfl) dL_law_2157 ?_
      refine z_i2l C dL_law_2159 ?_
      refine z_lcmp C dL_law_2160 ?_
      refine z_if_eq (tgt := 2166) C dL_law_2161 (by decide) (fun c29 => ?_) (fun c29 => ?_)
      · have hw := hw.1 c29
        refine z_goto (tgt := 2739) C dL_law_2166 (by decide) ?_
        refine z_widen (512, 23300) (Nat.le_of_ble_eq_true rfl) (Nat.le_of_ble_eq_true rfl) ?_
        refine z_sub [2, 3, 4, 5, 6] [(4, .int 0), (3, .ref (w.1 503)), (2, .ref (w.1 234)), (1, .ref (w.1 0)), (0, .ref b)] rfl ?_
        exact hK _ hw
      · have hw := hw.2 c29
        refine z_iconst C 0 (by decide) dL_law_2164 ?_
        exact hw.elim
  · have hw := hw.2 c27
    refine z_iconst C 0 (by decide) dL_law_2147 ?_
    exact hw.elim
def wl_36 (τ : TS) (xs : Nat → Int32) (K : TS → Prop) : Prop :=
  wp_L_sentAgain τ 0 (xs 1) 503 (fun τ21 x22 => wp_X11_sentAgain τ21 234 (xs 1) (fun τ23 x24 => wp_X11_thrown τ23 234 (fun τ25 x26 => ((x26 = x22) → (((¬ x22 = 0) → (K τ25)) ∧ ((x22 = 0) → ((((lg_cmp (tp_jl (τ25 503 0) (τ25 503 1)) (Int32.toInt64 x24)) = 0) → (K τ25)) ∧ ((¬ (lg_cmp (tp_jl (τ25 503 0) (τ25 503 1)) (Int32.toInt64 x24)) = 0) → False))))) ∧ ((¬ x26 = x22) → False))))
set_option maxHeartbeats 4000000 in
set_option maxRecDepth 100000 in
theorem cl_36 {w : WPar} {g : Cxt} {τ : TS} {b : Nat} {xs : Nat → Int32} (C : Cok w g cL_law RL wsL_law 9 14 560 600002 7302232) (D : CX w g) (N3 : tp_N3g g) (S : CS w g b 5 xs) (hl : w.2.1.stackTraces = false) (hN : tp_N w = 504) (h1 : tp_is w 0 7) (h2 : tp_is w 234 20) (h3 : tp_is w 503 33) (K : TS → Prop) (hK : ∀ τ2, K τ2 → Zt w g τ2 (512, 23300) 2739 [(4, .int 0), (3, .ref (w.1 503)), (2, .ref (w.1 234)), (1, .ref (w.1 0)), (0, .ref b)] []) (hw : wl_36 τ xs K) : Zt w g τ (504, 23236) 2169 [(4, .int 0), (3, .ref (w.1 503)), (2, .ref (w.1 234)), (1, .ref (w.1 0)), (0, .ref b)] [] := by
  unfold wl_36 at hw
  refine z_aload_n C 3 (by rfl) dL_law_2169 ?_
  refine z_aload_n C 4 (by rfl) dL_law_2170 ?_
  refine z_iload C 0 (by rfl) dL_law_2171 ?_
  refine z_iconst C 1 (by decide) dL_law_2173 ?_
  refine z_iadd C dL_law_2174 ?_
  refine z_sldn C S 1 (by decide) (by unfold vp_in; decide) dL_law_2175 ?_
  refine z_aload_n C 1 (by rfl) dL_law_2176 ?_
  refine zs_act C D N3 (hh := [(0, 9, 12, 19)]) (As := [.ref (w.1 0), .int (xs 1), .ref (w.1 503)]) (bytes := cL_sentAgain) (maxL := 4) (F1 := 9) (L1 := 145) (mc := 1) (ms := 6) (c_L_sentAgain w _ 0 (xs 1) 503 _ hl h1 h3 hw) 3 gL_law_L_sentAgain rfl (by decide +kernel) ⟨Nat.le_of_ble_eq_true rfl, Nat.le_of_ble_eq_true rfl⟩ rfl (Nat.le_of_ble_eq_true rfl) (k2 := (505, 23242)) rfl ⟨Nat.le_of_ble_eq_true rfl, Nat.le_of_ble_eq_true rfl⟩ rfl dL_law_2177 (fun x22 τ21 hw => ?_)
  refine z_istore C [(5, .int x22), (4, .int 0), (3, .ref (w.1 503)), (2, .ref (w.1 234)), (1, .ref (w.1 0)), (0, .ref b)] dL_law_2180 (by decide) rfl ?_
  refine z_aload_n C 3 (by rfl) dL_law_2182 ?_
  refine z_aload_n C 5 (by rfl) dL_law_2183 ?_
  refine z_iload C 1 (by rfl) dL_law_2184 ?_
  refine z_iconst C 1 (by decide) dL_law_2186 ?_
  refine z_iadd C dL_law_2187 ?_
  refine z_sldn C S 1 (by decide) (by unfold vp_in; decide) dL_law_2188 ?_
  refine zv_i C (As := [.int (xs 1)]) (bytes := cX11_sentAgain) (maxL := 2) (F1 := 3) (L1 := 65) (c_X11_sentAgain w _ 234 (xs 1) _ h2 hw) h2.2 (tE20 h2.1) rfl 1 gL_law_X11_sentAgain rfl (by decide +kernel) ⟨Nat.le_of_ble_eq_true rfl, Nat.le_of_ble_eq_true rfl⟩ rfl (Nat.le_of_ble_eq_true rfl) ⟨Nat.le_of_ble_eq_true rfl, Nat.le_of_ble_eq_true rfl⟩ rfl dL_law_2189 (fun x24 τ23 hw => ?_)
  refine z_istore C [(6, .int x24), (5, .int x22), (4, .int 0), (3, .ref (w.1 503)), (2, .ref (w.1 234)), (1, .ref (w.1 0)), (0, .ref b)] dL_law_2192 (by decide) rfl ?_
  refine z_aload_n C 4 (by rfl) dL_law_2194 ?_
  refine zv_i C (As := []) (bytes := cX11_thrown) (maxL := 1) (F1 := 0) (L1 := 0) (c_X11_thrown w _ 234 _ h2 hw) h2.2 (tE20 h2.1) rfl 0 gL_law_X11_thrown rfl (by decide +kernel) ⟨Nat.le_of_ble_eq_true rfl, Nat.le_of_ble_eq_true rfl⟩ rfl (Nat.le_of_ble_eq_true rfl) ⟨Nat.le_of_ble_eq_true rfl, Nat.le_of_ble_eq_true rfl⟩ rfl dL_law_2195 (fun x26 τ25 hw => ?_)
  refine z_iload C 1 (by rfl) dL_law_2198 ?_
  refine z_icmp_eq (tgt := 2205) C dL_law_2200 (by decide) (fun c27 => ?_) (fun c27 => ?_)
  · have hw := hw.1 c27
    refine z_iload C 1 (by rfl) dL_law_2205 ?_
    refine z_if_ne (tgt := 2222) C dL_law_2207 (by decide) (fun c28 => ?_) (fun c28 => ?_)
    · have hw := hw.1 c28
      refine z_goto (tgt := 2739) C dL_law_2222 (by decide) ?_
      refine z_widen (512, 23300) (Nat.le_of_ble_eq_true rfl) (Nat.le_of_ble_eq_true rfl) ?_
      refine z_sub [2, 3, 4, 5, 6] [(4, .int 0), (3, .ref (w.1 503)), (2, .ref (w.1 234)), (1, .ref (w.1 0)), (0, .ref b)] rfl ?_
      exact hK _ hw
    · have hw := hw.2 c28
      refine z_aload_n C 3 (by rfl) dL_law_2210 ?_
      refine z_iconst C 0 (by decide) dL_law_2211 ?_
      refine z_lald C (x := 0) h3 (by unfold vp_in; decide) dL_law_2212 ?_
      refine z_iload C 0 (by rfl) dL_law_2213 ?_
      refine z_i2l C dL_law_2215 ?_
      refine z_lcmp C dL_law_2216 ?_
      refine z_if_eq (tgt := 2222) C dL_law_2217 (by decide) (fun c29 => ?_) (fun c29 => ?_)
      · have hw := hw.1 c29
        refine z_goto (tgt := 2739) C dL_law_2222 (by decide) ?_
        refine z_widen (512, 23300) (Nat.le_of_ble_eq_true rfl) (Nat.le_of_ble_eq_true rfl) ?_
        refine z_sub [2, 3, 4, 5, 6] [(4, .int 0), (3, .ref (w.1 503)), (2, .ref (w.1 234)), (1, .ref (w.1 0)), (0, .ref b)] rfl ?_
        exact hK _ hw
      · have hw := hw.2 c29
        refine z_iconst C 0 (by decide) dL_law_2220 ?_
        exact hw.elim
  · have hw := hw.2 c27
    refine z_iconst C 0 (by decide) dL_law_2203 ?_
    exact hw.elim
def wl_37 (τ : TS) (xs : Nat → Int32) (K : TS → Prop) : Prop :=
  wp_L_wanted τ 0 (xs 1) 503 (fun τ21 x22 => wp_X11_wanted τ21 234 (xs 1) (fun τ23 x24 => wp_X11_thrown τ23 234 (fun τ25 x26 => ((x26 = x22) → (((¬ x22 = 0) → (K τ25)) ∧ ((x22 = 0) → ((((lg_cmp (tp_jl (τ25 503 0) (τ25 503 1)) (Int32.toInt64 x24)) = 0) → (K τ25)) ∧ ((¬ (lg_cmp (tp_jl (τ25 503 0) (τ25 503 1)) (Int32.toInt64 x24)) = 0) → False))))) ∧ ((¬ x26 = x22) → False))))
set_option maxHeartbeats 4000000 in
set_option maxRecDepth 100000 in
theorem cl_37 {w : WPar} {g : Cxt} {τ : TS} {b : Nat} {xs : Nat → Int32} (C : Cok w g cL_law RL wsL_law 9 14 560 600002 7302232) (D : CX w g) (N3 : tp_N3g g) (S : CS w g b 5 xs) (hl : w.2.1.stackTraces = false) (hN : tp_N w = 504) (h1 : tp_is w 0 7) (h2 : tp_is w 234 20) (h3 : tp_is w 503 33) (K : TS → Prop) (hK : ∀ τ2, K τ2 → Zt w g τ2 (512, 23300) 2739 [(4, .int 0), (3, .ref (w.1 503)), (2, .ref (w.1 234)), (1, .ref (w.1 0)), (0, .ref b)] []) (hw : wl_37 τ xs K) : Zt w g τ (504, 23236) 2225 [(4, .int 0), (3, .ref (w.1 503)), (2, .ref (w.1 234)), (1, .ref (w.1 0)), (0, .ref b)] [] := by
  unfold wl_37 at hw
  refine z_aload_n C 3 (by rfl) dL_law_2225 ?_
  refine z_aload_n C 4 (by rfl) dL_law_2226 ?_
  refine z_iload C 0 (by rfl) dL_law_2227 ?_
  refine z_iconst C 1 (by decide) dL_law_2229 ?_
  refine z_iadd C dL_law_2230 ?_
  refine z_sldn C S 1 (by decide) (by unfold vp_in; decide) dL_law_2231 ?_
  refine z_aload_n C 1 (by rfl) dL_law_2232 ?_
  refine zs_act C D N3 (hh := [(0, 9, 12, 19)]) (As := [.ref (w.1 0), .int (xs 1), .ref (w.1 503)]) (bytes := cL_wanted) (maxL := 4) (F1 := 8) (L1 := 124) (mc := 1) (ms := 6) (c_L_wanted w _ 0 (xs 1) 503 _ hl h1 h3 hw) 3 gL_law_L_wanted rfl (by decide +kernel) ⟨Nat.le_of_ble_eq_true rfl, Nat.le_of_ble_eq_true rfl⟩ rfl (Nat.le_of_ble_eq_true rfl) (k2 := (505, 23242)) rfl ⟨Nat.le_of_ble_eq_true rfl, Nat.le_of_ble_eq_true rfl⟩ rfl dL_law_2233 (fun x22 τ21 hw => ?_)
  refine z_istore C [(5, .int x22), (4, .int 0), (3, .ref (w.1 503)), (2, .ref (w.1 234)), (1, .ref (w.1 0)), (0, .ref b)] dL_law_2236 (by decide) rfl ?_
  refine z_aload_n C 3 (by rfl) dL_law_2238 ?_
  refine z_aload_n C 5 (by rfl) dL_law_2239 ?_
  refine z_iload C 1 (by rfl) dL_law_2240 ?_
  refine z_iconst C 1 (by decide) dL_law_2242 ?_
  refine z_iadd C dL_law_2243 ?_
  refine z_sldn C S 1 (by decide) (by unfold vp_in; decide) dL_law_2244 ?_
  refine zv_i C (As := [.int (xs 1)]) (bytes := cX11_wanted) (maxL := 2) (F1 := 3) (L1 := 65) (c_X11_wanted w _ 234 (xs 1) _ h2 hw) h2.2 (tE20 h2.1) rfl 1 gL_law_X11_wanted rfl (by decide +kernel) ⟨Nat.le_of_ble_eq_true rfl, Nat.le_of_ble_eq_true rfl⟩ rfl (Nat.le_of_ble_eq_true rfl) ⟨Nat.le_of_ble_eq_true rfl, Nat.le_of_ble_eq_true rfl⟩ rfl dL_law_2245 (fun x24 τ23 hw => ?_)
  refine z_istore C [(6, .int x24), (5, .int x22), (4, .int 0), (3, .ref (w.1 503)), (2, .ref (w.1 234)), (1, .ref (w.1 0)), (0, .ref b)] dL_law_2248 (by decide) rfl ?_
  refine z_aload_n C 4 (by rfl) dL_law_2250 ?_
  refine zv_i C (As := []) (bytes := cX11_thrown) (maxL := 1) (F1 := 0) (L1 := 0) (c_X11_thrown w _ 234 _ h2 hw) h2.2 (tE20 h2.1) rfl 0 gL_law_X11_thrown rfl (by decide +kernel) ⟨Nat.le_of_ble_eq_true rfl, Nat.le_of_ble_eq_true rfl⟩ rfl (Nat.le_of_ble_eq_true rfl) ⟨Nat.le_of_ble_eq_true rfl, Nat.le_of_ble_eq_true rfl⟩ rfl dL_law_2251 (fun x26 τ25 hw => ?_)
  refine z_iload C 1 (by rfl) dL_law_2254 ?_
  refine z_icmp_eq (tgt := 2261) C dL_law_2256 (by decide) (fun c27 => ?_) (fun c27 => ?_)
  · have hw := hw.1 c27
    refine z_iload C 1 (by rfl) dL_law_2261 ?_
    refine z_if_ne (tgt := 2278) C dL_law_2263 (by decide) (fun c28 => ?_) (fun c28 => ?_)
    · have hw := hw.1 c28
      refine z_goto (tgt := 2739) C dL_law_2278 (by decide) ?_
      refine z_widen (512, 23300) (Nat.le_of_ble_eq_true rfl) (Nat.le_of_ble_eq_true rfl) ?_
      refine z_sub [2, 3, 4, 5, 6] [(4, .int 0), (3, .ref (w.1 503)), (2, .ref (w.1 234)), (1, .ref (w.1 0)), (0, .ref b)] rfl ?_
      exact hK _ hw
    · have hw := hw.2 c28
      refine z_aload_n C 3 (by rfl) dL_law_2266 ?_
      refine z_iconst C 0 (by decide) dL_law_2267 ?_
      refine z_lald C (x := 0) h3 (by unfold vp_in; decide) dL_law_2268 ?_
      refine z_iload C 0 (by rfl) dL_law_2269 ?_
      refine z_i2l C dL_law_2271 ?_
      refine z_lcmp C dL_law_2272 ?_
      refine z_if_eq (tgt := 2278) C dL_law_2273 (by decide) (fun c29 => ?_) (fun c29 => ?_)
      · have hw := hw.1 c29
        refine z_goto (tgt := 2739) C dL_law_2278 (by decide) ?_
        refine z_widen (512, 23300) (Nat.le_of_ble_eq_true rfl) (Nat.le_of_ble_eq_true rfl) ?_
        refine z_sub [2, 3, 4, 5, 6] [(4, .int 0), (3, .ref (w.1 503)), (2, .ref (w.1 234)), (1, .ref (w.1 0)), (0, .ref b)] rfl ?_
        exact hK _ hw
      · have hw := hw.2 c29
        refine z_iconst C 0 (by decide) dL_law_2276 ?_
        exact hw.elim
  · have hw := hw.2 c27
    refine z_iconst C 0 (by decide) dL_law_2259 ?_
    exact hw.elim
def wl_38 (τ : TS) (xs : Nat → Int32) (K : TS → Prop) : Prop :=
  wp_L_holds τ 0 (xs 1) (xs 2) 503 (fun τ21 x22 => wp_X11_holds τ21 234 (xs 1) (xs 2) (fun τ23 x24 => wp_X11_thrown τ23 234 (fun τ25 x26 => ((x26 = x22) → (((¬ x22 = 0) → (K τ25)) ∧ ((x22 = 0) → (((x24 = 0) → ((((lg_cmp (tp_jl (τ25 503 0) (τ25 503 1)) 0) = 0) → (K τ25)) ∧ ((¬ (lg_cmp (tp_jl (τ25 503 0) (τ25 503 1)) 0) = 0) → False))) ∧ ((¬ x24 = 0) → ((((lg_cmp (tp_jl (τ25 503 0) (τ25 503 1)) 1) = 0) → (K τ25)) ∧ ((¬ (lg_cmp (tp_jl (τ25 503 0) (τ25 503 1)) 1) = 0) → False))))))) ∧ ((¬ x26 = x22) → False))))
set_option maxHeartbeats 4000000 in
set_option maxRecDepth 100000 in
theorem cl_38 {w : WPar} {g : Cxt} {τ : TS} {b : Nat} {xs : Nat → Int32} (C : Cok w g cL_law RL wsL_law 9 14 560 600002 7302232) (D : CX w g) (N3 : tp_N3g g) (S : CS w g b 5 xs) (hl : w.2.1.stackTraces = false) (hN : tp_N w = 504) (h1 : tp_is w 0 7) (h2 : tp_is w 234 20) (h3 : tp_is w 503 33) (K : TS → Prop) (hK : ∀ τ2, K τ2 → Zt w g τ2 (512, 23300) 2739 [(4, .int 0), (3, .ref (w.1 503)), (2, .ref (w.1 234)), (1, .ref (w.1 0)), (0, .ref b)] []) (hw : wl_38 τ xs K) : Zt w g τ (504, 23236) 2281 [(4, .int 0), (3, .ref (w.1 503)), (2, .ref (w.1 234)), (1, .ref (w.1 0)), (0, .ref b)] [] := by
  unfold wl_38 at hw
  refine z_aload_n C 3 (by rfl) dL_law_2281 ?_
  refine z_aload_n C 4 (by rfl) dL_law_2282 ?_
  refine z_iload C 0 (by rfl) dL_law_2283 ?_
  refine z_iconst C 1 (by decide) dL_law_2285 ?_
  refine z_iadd C dL_law_2286 ?_
  refine z_sldn C S 1 (by decide) (by unfold vp_in; decide) dL_law_2287 ?_
  refine z_aload_n C 4 (by rfl) dL_law_2288 ?_
  refine z_iload C 0 (by rfl) dL_law_2289 ?_
  refine z_iconst C 2 (by decide) dL_law_2291 ?_
  refine z_iadd C dL_law_2292 ?_
  refine z_sldn C S 2 (by decide) (by unfold vp_in; decide) dL_law_2293 ?_
  refine z_aload_n C 1 (by rfl) dL_law_2294 ?_
  refine zs_act C D N3 (hh := [(0, 17, 20, 19)]) (As := [.ref (w.1 0), .int (xs 1), .int (xs 2), .ref (w.1 503)]) (bytes := cL_holds) (maxL := 5) (F1 := 8) (L1 := 126) (mc := 1) (ms := 6) (c_L_holds w _ 0 (xs 1) (xs 2) 503 _ hl h1 h3 hw) 4 gL_law_L_holds rfl (by decide +kernel) ⟨Nat.le_of_ble_eq_true rfl, Nat.le_of_ble_eq_true rfl⟩ rfl (Nat.le_of_ble_eq_true rfl) (k2 := (505, 23242)) rfl ⟨Nat.le_of_ble_eq_true rfl, Nat.le_of_ble_eq_true rfl⟩ rfl dL_law_2295 (fun x22 τ21 hw => ?_)
  refine z_istore C [(5, .int x22), (4, .int 0), (3, .ref (w.1 503)), (2, .ref (w.1 234)), (1, .ref (w.1 0)), (0, .ref b)] dL_law_2298 (by decide) rfl ?_
  refine z_aload_n C 3 (by rfl) dL_law_2300 ?_
  refine z_aload_n C 5 (by rfl) dL_law_2301 ?_
  refine z_iload C 1 (by rfl) dL_law_2302 ?_
  refine z_iconst C 1 (by decide) dL_law_2304 ?_
  refine z_iadd C dL_law_2305 ?_
  refine z_sldn C S 1 (by decide) (by unfold vp_in; decide) dL_law_2306 ?_
  refine z_aload_n C 5 (by rfl) dL_law_2307 ?_
  refine z_iload C 1 (by rfl) dL_law_2308 ?_
  refine z_iconst C 2 (by decide) dL_law_2310 ?_
  refine z_iadd C dL_law_2311 ?_
  refine z_sldn C S 2 (by decide) (by unfold vp_in; decide) dL_law_2312 ?_
  refine zv_i C (As := [.int (xs 1), .int (xs 2)]) (bytes := cX11_holds) (maxL := 3) (F1 := 2) (L1 := 43) (c_X11_holds w _ 234 (xs 1) (xs 2) _ h2 hw) h2.2 (tE20 h2.1) rfl 2 gL_law_X11_holds rfl (by decide +kernel) ⟨Nat.le_of_ble_eq_true rfl, Nat.le_of_ble_eq_true rfl⟩ rfl (Nat.le_of_ble_eq_true rfl) ⟨Nat.le_of_ble_eq_true rfl, Nat.le_of_ble_eq_true rfl⟩ rfl dL_law_2313 (fun x24 τ23 hw => ?_)
  refine z_istore C [(6, .int x24), (5, .int x22), (4, .int 0), (3, .ref (w.1 503)), (2, .ref (w.1 234)), (1, .ref (w.1 0)), (0, .ref b)] dL_law_2316 (by decide) rfl ?_
  refine z_aload_n C 4 (by rfl) dL_law_2318 ?_
  refine zv_i C (As := []) (bytes := cX11_thrown) (maxL := 1) (F1 := 0) (L1 := 0) (c_X11_thrown w _ 234 _ h2 hw) h2.2 (tE20 h2.1) rfl 0 gL_law_X11_thrown rfl (by decide +kernel) ⟨Nat.le_of_ble_eq_true rfl, Nat.le_of_ble_eq_true rfl⟩ rfl (Nat.le_of_ble_eq_true rfl) ⟨Nat.le_of_ble_eq_true rfl, Nat.le_of_ble_eq_true rfl⟩ rfl dL_law_2319 (fun x26 τ25 hw => ?_)
  refine z_iload C 1 (by rfl) dL_law_2322 ?_
  refine z_icmp_eq (tgt := 2329) C dL_law_2324 (by decide) (fun c27 => ?_) (fun c27 => ?_)
  · have hw := hw.1 c27
    refine z_iload C 1 (by rfl) dL_law_2329 ?_
    refine z_if_ne (tgt := 2353) C dL_law_2331 (by decide) (fun c28 => ?_) (fun c28 => ?_)
    · have hw := hw.1 c28
      refine z_goto (tgt := 2739) C dL_law_2353 (by decide) ?_
      refine z_widen (512, 23300) (Nat.le_of_ble_eq_true rfl) (Nat.le_of_ble_eq_true rfl) ?_
      refine z_sub [2, 3, 4, 5, 6] [(4, .int 0), (3, .ref (w.1 503)), (2, .ref (w.1 234)), (1, .ref (w.1 0)), (0, .ref b)] rfl ?_
      exact hK _ hw
    · have hw := hw.2 c28
      refine z_aload_n C 3 (by rfl) dL_law_2334 ?_
      refine z_iconst C 0 (by decide) dL_law_2335 ?_
      refine z_lald C (x := 0) h3 (by unfold vp_in; decide) dL_law_2336 ?_
      refine z_iload C 0 (by rfl) dL_law_2337 ?_
      refine z_if_eq (tgt := 2346) C dL_law_2339 (by decide) (fun c29 => ?_) (fun c29 => ?_)
      · have hw := hw.1 c29
        refine z_lconst C 0 (by decide) dL_law_2346 ?_
        refine z_lcmp C dL_law_2347 ?_
        refine z_if_eq (tgt := 2353) C dL_law_2348 (by decide) (fun c30 => ?_) (fun c30 => ?_)
        · have hw := hw.1 c30
          refine z_goto (tgt := 2739) C dL_law_2353 (by decide) ?_
          refine z_widen (512, 23300) (Nat.le_of_ble_eq_true rfl) (Nat.le_of_ble_eq_true rfl) ?_
          refine z_sub [2, 3, 4, 5, 6] [(4, .int 0), (3, .ref (w.1 503)), (2, .ref (w.1 234)), (1, .ref (w.1 0)), (0, .ref b)] rfl ?_
          exact hK _ hw
        · have hw := hw.2 c30
          refine z_iconst C 0 (by decide) dL_law_2351 ?_
          exact hw.elim
      · have hw := hw.2 c29
        refine z_lconst C 1 (by decide) dL_law_2342 ?_
        refine z_goto (tgt := 2347) C dL_law_2343 (by decide) ?_
        refine z_lcmp C dL_law_2347 ?_
        refine z_if_eq (tgt := 2353) C dL_law_2348 (by decide) (fun c31 => ?_) (fun c31 => ?_)
        · have hw := hw.1 c31
          refine z_goto (tgt := 2739) C dL_law_2353 (by decide) ?_
          refine z_widen (512, 23300) (Nat.le_of_ble_eq_true rfl) (Nat.le_of_ble_eq_true rfl) ?_
          refine z_sub [2, 3, 4, 5, 6] [(4, .int 0), (3, .ref (w.1 503)), (2, .ref (w.1 234)), (1, .ref (w.1 0)), (0, .ref b)] rfl ?_
          exact hK _ hw
        · have hw := hw.2 c31
          refine z_iconst C 0 (by decide) dL_law_2351 ?_
          exact hw.elim
  · have hw := hw.2 c27
    refine z_iconst C 0 (by decide) dL_law_2327 ?_
    exact hw.elim
def wl_39 (τ : TS) (xs : Nat → Int32) (K : TS → Prop) : Prop :=
  wp_L_readable τ 0 (xs 1) 503 (fun τ21 x22 => wp_X11_readable τ21 234 (xs 1) (fun τ23 x24 => wp_X11_thrown τ23 234 (fun τ25 x26 => ((x26 = x22) → (((¬ x22 = 0) → (K τ25)) ∧ ((x22 = 0) → ((((lg_cmp (tp_jl (τ25 503 0) (τ25 503 1)) (Int32.toInt64 x24)) = 0) → (K τ25)) ∧ ((¬ (lg_cmp (tp_jl (τ25 503 0) (τ25 503 1)) (Int32.toInt64 x24)) = 0) → False))))) ∧ ((¬ x26 = x22) → False))))
set_option maxHeartbeats 4000000 in
set_option maxRecDepth 100000 in
theorem cl_39 {w : WPar} {g : Cxt} {τ : TS} {b : Nat} {xs : Nat → Int32} (C : Cok w g cL_law RL wsL_law 9 14 560 600002 7302232) (D : CX w g) (N3 : tp_N3g g) (S : CS w g b 5 xs) (hl : w.2.1.stackTraces = false) (hN : tp_N w = 504) (h1 : tp_is w 0 7) (h2 : tp_is w 234 20) (h3 : tp_is w 503 33) (K : TS → Prop) (hK : ∀ τ2, K τ2 → Zt w g τ2 (512, 23300) 2739 [(4, .int 0), (3, .ref (w.1 503)), (2, .ref (w.1 234)), (1, .ref (w.1 0)), (0, .ref b)] []) (hw : wl_39 τ xs K) : Zt w g τ (504, 23236) 2356 [(4, .int 0), (3, .ref (w.1 503)), (2, .ref (w.1 234)), (1, .ref (w.1 0)), (0, .ref b)] [] := by
  unfold wl_39 at hw
  refine z_aload_n C 3 (by rfl) dL_law_2356 ?_
  refine z_aload_n C 4 (by rfl) dL_law_2357 ?_
  refine z_iload C 0 (by rfl) dL_law_2358 ?_
  refine z_iconst C 1 (by decide) dL_law_2360 ?_
  refine z_iadd C dL_law_2361 ?_
  refine z_sldn C S 1 (by decide) (by unfold vp_in; decide) dL_law_2362 ?_
  refine z_aload_n C 1 (by rfl) dL_law_2363 ?_
  refine zs_act C D N3 (hh := [(0, 9, 12, 19)]) (As := [.ref (w.1 0), .int (xs 1), .ref (w.1 503)]) (bytes := cL_readable) (maxL := 4) (F1 := 8) (L1 := 124) (mc := 1) (ms := 6) (c_L_readable w _ 0 (xs 1) 503 _ hl h1 h3 hw) 3 gL_law_L_readable rfl (by decide +kernel) ⟨Nat.le_of_ble_eq_true rfl, Nat.le_of_ble_eq_true rfl⟩ rfl (Nat.le_of_ble_eq_true rfl) (k2 := (505, 23242)) rfl ⟨Nat.le_of_ble_eq_true rfl, Nat.le_of_ble_eq_true rfl⟩ rfl dL_law_2364 (fun x22 τ21 hw => ?_)
  refine z_istore C [(5, .int x22), (4, .int 0), (3, .ref (w.1 503)), (2, .ref (w.1 234)), (1, .ref (w.1 0)), (0, .ref b)] dL_law_2367 (by decide) rfl ?_
  refine z_aload_n C 3 (by rfl) dL_law_2369 ?_
  refine z_aload_n C 5 (by rfl) dL_law_2370 ?_
  refine z_iload C 1 (by rfl) dL_law_2371 ?_
  refine z_iconst C 1 (by decide) dL_law_2373 ?_
  refine z_iadd C dL_law_2374 ?_
  refine z_sldn C S 1 (by decide) (by unfold vp_in; decide) dL_law_2375 ?_
  refine zv_i C (As := [.int (xs 1)]) (bytes := cX11_readable) (maxL := 2) (F1 := 2) (L1 := 43) (c_X11_readable w _ 234 (xs 1) _ h2 hw) h2.2 (tE20 h2.1) rfl 1 gL_law_X11_readable rfl (by decide +kernel) ⟨Nat.le_of_ble_eq_true rfl, Nat.le_of_ble_eq_true rfl⟩ rfl (Nat.le_of_ble_eq_true rfl) ⟨Nat.le_of_ble_eq_true rfl, Nat.le_of_ble_eq_true rfl⟩ rfl dL_law_2376 (fun x24 τ23 hw => ?_)
  refine z_istore C [(6, .int x24), (5, .int x22), (4, .int 0), (3, .ref (w.1 503)), (2, .ref (w.1 234)), (1, .ref (w.1 0)), (0, .ref b)] dL_law_2379 (by decide) rfl ?_
  refine z_aload_n C 4 (by rfl) dL_law_2381 ?_
  refine zv_i C (As := []) (bytes := cX11_thrown) (maxL := 1) (F1 := 0) (L1 := 0) (c_X11_thrown w _ 234 _ h2 hw) h2.2 (tE20 h2.1) rfl 0 gL_law_X11_thrown rfl (by decide +kernel) ⟨Nat.le_of_ble_eq_true rfl, Nat.le_of_ble_eq_true rfl⟩ rfl (Nat.le_of_ble_eq_true rfl) ⟨Nat.le_of_ble_eq_true rfl, Nat.le_of_ble_eq_true rfl⟩ rfl dL_law_2382 (fun x26 τ25 hw => ?_)
  refine z_iload C 1 (by rfl) dL_law_2385 ?_
  refine z_icmp_eq (tgt := 2392) C dL_law_2387 (by decide) (fun c27 => ?_) (fun c27 => ?_)
  · have hw := hw.1 c27
    refine z_iload C 1 (by rfl) dL_law_2392 ?_
    refine z_if_ne (tgt := 2409) C dL_law_2394 (by decide) (fun c28 => ?_) (fun c28 => ?_)
    · have hw := hw.1 c28
      refine z_goto (tgt := 2739) C dL_law_2409 (by decide) ?_
      refine z_widen (512, 23300) (Nat.le_of_ble_eq_true rfl) (Nat.le_of_ble_eq_true rfl) ?_
      refine z_sub [2, 3, 4, 5, 6] [(4, .int 0), (3, .ref (w.1 503)), (2, .ref (w.1 234)), (1, .ref (w.1 0)), (0, .ref b)] rfl ?_
      exact hK _ hw
    · have hw := hw.2 c28
      refine z_aload_n C 3 (by rfl) dL_law_2397 ?_
      refine z_iconst C 0 (by decide) dL_law_2398 ?_
      refine z_lald C (x := 0) h3 (by unfold vp_in; decide) dL_law_2399 ?_
      refine z_iload C 0 (by rfl) dL_law_2400 ?_
      refine z_i2l C dL_law_2402 ?_
      refine z_lcmp C dL_law_2403 ?_
      refine z_if_eq (tgt := 2409) C dL_law_2404 (by decide) (fun c29 => ?_) (fun c29 => ?_)
      · have hw := hw.1 c29
        refine z_goto (tgt := 2739) C dL_law_2409 (by decide) ?_
        refine z_widen (512, 23300) (Nat.le_of_ble_eq_true rfl) (Nat.le_of_ble_eq_true rfl) ?_
        refine z_sub [2, 3, 4, 5, 6] [(4, .int 0), (3, .ref (w.1 503)), (2, .ref (w.1 234)), (1, .ref (w.1 0)), (0, .ref b)] rfl ?_
        exact hK _ hw
      · have hw := hw.2 c29
        refine z_iconst C 0 (by decide) dL_law_2407 ?_
        exact hw.elim
  · have hw := hw.2 c27
    refine z_iconst C 0 (by decide) dL_law_2390 ?_
    exact hw.elim
