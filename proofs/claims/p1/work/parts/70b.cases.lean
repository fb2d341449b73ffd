def wl_0 (τ : TS) (xs : Nat → Int32) (K : TS → Prop) : Prop :=
  wp_L_addNode τ 0 503 (fun τ21 x22 => wp_X11_addNode τ21 234 (fun τ23 x24 => wp_X11_thrown τ23 234 (fun τ25 x26 => ((x26 = x22) → (((¬ x22 = 0) → (K τ25)) ∧ ((x22 = 0) → ((((lg_cmp (tp_jl (τ25 503 0) (τ25 503 1)) (Int32.toInt64 x24)) = 0) → (K τ25)) ∧ ((¬ (lg_cmp (tp_jl (τ25 503 0) (τ25 503 1)) (Int32.toInt64 x24)) = 0) → False))))) ∧ ((¬ x26 = x22) → False))))
set_option maxHeartbeats 4000000 in
set_option maxRecDepth 100000 in
theorem cl_0 {w : WPar} {g : Cxt} {τ : TS} {b : Nat} {xs : Nat → Int32} (C : Cok w g cL_law RL wsL_law 9 14 560 600002 7302232) (D : CX w g) (N3 : tp_N3g g) (S : CS w g b 5 xs) (hl : w.2.1.stackTraces = false) (hN : tp_N w = 504) (h1 : tp_is w 0 7) (h2 : tp_is w 234 20) (h3 : tp_is w 503 33) (K : TS → Prop) (hK : ∀ τ2, K τ2 → Zt w g τ2 (512, 23300) 2739 [(4, .int 0), (3, .ref (w.1 503)), (2, .ref (w.1 234)), (1, .ref (w.1 0)), (0, .ref b)] []) (hw : wl_0 τ xs K) : Zt w g τ (504, 23236) 236 [(4, .int 0), (3, .ref (w.1 503)), (2, .ref (w.1 234)), (1, .ref (w.1 0)), (0, .ref b)] [] := by
  unfold wl_0 at hw
  refine z_aload_n C 3 (by rfl) dL_law_236 ?_
  refine z_aload_n C 1 (by rfl) dL_law_237 ?_
  refine zs_act C D N3 (hh := [(0, 8, 11, 13)]) (As := [.ref (w.1 0), .ref (w.1 503)]) (bytes := cL_addNode) (maxL := 3) (F1 := 4) (L1 := 89) (mc := 0) (ms := 0) (c_L_addNode w _ 0 503 _ hl h1 h3 hw) 2 gL_law_L_addNode rfl (by decide +kernel) ⟨Nat.le_of_ble_eq_true rfl, Nat.le_of_ble_eq_true rfl⟩ rfl (Nat.le_of_ble_eq_true rfl) (k2 := (504, 23236)) rfl ⟨Nat.le_of_ble_eq_true rfl, Nat.le_of_ble_eq_true rfl⟩ rfl dL_law_238 (fun x22 τ21 hw => ?_)
  refine z_istore C [(5, .int x22), (4, .int 0), (3, .ref (w.1 503)), (2, .ref (w.1 234)), (1, .ref (w.1 0)), (0, .ref b)] dL_law_241 (by decide) rfl ?_
  refine z_aload_n C 3 (by rfl) dL_law_243 ?_
  refine zv_i C (As := []) (bytes := cX11_addNode) (maxL := 1) (F1 := 2) (L1 := 48) (c_X11_addNode w _ 234 _ h2 hw) h2.2 (tE20 h2.1) rfl 0 gL_law_X11_addNode rfl (by decide +kernel) ⟨Nat.le_of_ble_eq_true rfl, Nat.le_of_ble_eq_true rfl⟩ rfl (Nat.le_of_ble_eq_true rfl) ⟨Nat.le_of_ble_eq_true rfl, Nat.le_of_ble_eq_true rfl⟩ rfl dL_law_244 (fun x24 τ23 hw => ?_)
  refine z_istore C [(6, .int x24), (5, .int x22), (4, .int 0), (3, .ref (w.1 503)), (2, .ref (w.1 234)), (1, .ref (w.1 0)), (0, .ref b)] dL_law_247 (by decide) rfl ?_
  refine z_aload_n C 4 (by rfl) dL_law_249 ?_
  refine zv_i C (As := []) (bytes := cX11_thrown) (maxL := 1) (F1 := 0) (L1 := 0) (c_X11_thrown w _ 234 _ h2 hw) h2.2 (tE20 h2.1) rfl 0 gL_law_X11_thrown rfl (by decide +kernel) ⟨Nat.le_of_ble_eq_true rfl, Nat.le_of_ble_eq_true rfl⟩ rfl (Nat.le_of_ble_eq_true rfl) ⟨Nat.le_of_ble_eq_true rfl, Nat.le_of_ble_eq_true rfl⟩ rfl dL_law_250 (fun x26 τ25 hw => ?_)
  refine z_iload C 1 (by rfl) dL_law_253 ?_
  refine z_icmp_eq (tgt := 260) C dL_law_255 (by decide) (fun c27 => ?_) (fun c27 => ?_)
  · have hw := hw.1 c27
    refine z_iload C 1 (by rfl) dL_law_260 ?_
    refine z_if_ne (tgt := 277) C dL_law_262 (by decide) (fun c28 => ?_) (fun c28 => ?_)
    · have hw := hw.1 c28
      refine z_goto (tgt := 2739) C dL_law_277 (by decide) ?_
      refine z_widen (512, 23300) (Nat.le_of_ble_eq_true rfl) (Nat.le_of_ble_eq_true rfl) ?_
      refine z_sub [2, 3, 4, 5, 6] [(4, .int 0), (3, .ref (w.1 503)), (2, .ref (w.1 234)), (1, .ref (w.1 0)), (0, .ref b)] rfl ?_
      exact hK _ hw
    · have hw := hw.2 c28
      refine z_aload_n C 3 (by rfl) dL_law_265 ?_
      refine z_iconst C 0 (by decide) dL_law_266 ?_
      refine z_lald C (x := 0) h3 (by unfold vp_in; decide) dL_law_267 ?_
      refine z_iload C 0 (by rfl) dL_law_268 ?_
      refine z_i2l C dL_law_270 ?_
      refine z_lcmp C dL_law_271 ?_
      refine z_if_eq (tgt := 277) C dL_law_272 (by decide) (fun c29 => ?_) (fun c29 => ?_)
      · have hw := hw.1 c29
        refine z_goto (tgt := 2739) C dL_law_277 (by decide) ?_
        refine z_widen (512, 23300) (Nat.le_of_ble_eq_true rfl) (Nat.le_of_ble_eq_true rfl) ?_
        refine z_sub [2, 3, 4, 5, 6] [(4, .int 0), (3, .ref (w.1 503)), (2, .ref (w.1 234)), (1, .ref (w.1 0)), (0, .ref b)] rfl ?_
        exact hK _ hw
      · have hw := hw.2 c29
        refine z_iconst C 0 (by decide) dL_law_275 ?_
        exact hw.elim
  · have hw := hw.2 c27
    refine z_iconst C 0 (by decide) dL_law_258 ?_
    exact hw.elim
def wl_1 (τ : TS) (xs : Nat → Int32) (K : TS → Prop) : Prop :=
  wp_L_addLink τ 0 (xs 1) (xs 2) (xs 3) (xs 4) 503 (fun τ21 x22 => wp_X11_addLink τ21 234 (xs 1) (xs 2) (xs 3) (xs 4) (fun τ23 x24 => wp_X11_thrown τ23 234 (fun τ25 x26 => ((x26 = x22) → (((¬ x22 = 0) → (K τ25)) ∧ ((x22 = 0) → ((((lg_cmp (tp_jl (τ25 503 0) (τ25 503 1)) (Int32.toInt64 x24)) = 0) → (K τ25)) ∧ ((¬ (lg_cmp (tp_jl (τ25 503 0) (τ25 503 1)) (Int32.toInt64 x24)) = 0) → False))))) ∧ ((¬ x26 = x22) → False))))
set_option maxHeartbeats 4000000 in
set_option maxRecDepth 100000 in
theorem cl_1 {w : WPar} {g : Cxt} {τ : TS} {b : Nat} {xs : Nat → Int32} (C : Cok w g cL_law RL wsL_law 9 14 560 600002 7302232) (D : CX w g) (N3 : tp_N3g g) (S : CS w g b 5 xs) (hl : w.2.1.stackTraces = false) (hN : tp_N w = 504) (h1 : tp_is w 0 7) (h2 : tp_is w 234 20) (h3 : tp_is w 503 33) (K : TS → Prop) (hK : ∀ τ2, K τ2 → Zt w g τ2 (512, 23300) 2739 [(4, .int 0), (3, .ref (w.1 503)), (2, .ref (w.1 234)), (1, .ref (w.1 0)), (0, .ref b)] []) (hw : wl_1 τ xs K) : Zt w g τ (504, 23236) 280 [(4, .int 0), (3, .ref (w.1 503)), (2, .ref (w.1 234)), (1, .ref (w.1 0)), (0, .ref b)] [] := by
  unfold wl_1 at hw
  refine z_aload_n C 3 (by rfl) dL_law_280 ?_
  refine z_aload_n C 4 (by rfl) dL_law_281 ?_
  refine z_iload C 0 (by rfl) dL_law_282 ?_
  refine z_iconst C 1 (by decide) dL_law_284 ?_
  refine z_iadd C dL_law_285 ?_
  refine z_sldn C S 1 (by decide) (by unfold vp_in; decide) dL_law_286 ?_
  refine z_aload_n C 4 (by rfl) dL_law_287 ?_
  refine z_iload C 0 (by rfl) dL_law_288 ?_
  refine z_iconst C 2 (by decide) dL_law_290 ?_
  refine z_iadd C dL_law_291 ?_
  refine z_sldn C S 2 (by decide) (by unfold vp_in; decide) dL_law_292 ?_
  refine z_aload_n C 4 (by rfl) dL_law_293 ?_
  refine z_iload C 0 (by rfl) dL_law_294 ?_
  refine z_iconst C 3 (by decide) dL_law_296 ?_
  refine z_iadd C dL_law_297 ?_
  refine z_sldn C S 3 (by decide) (by unfold vp_in; decide) dL_law_298 ?_
  refine z_aload_n C 4 (by rfl) dL_law_299 ?_
  refine z_iload C 0 (by rfl) dL_law_300 ?_
  refine z_iconst C 4 (by decide) dL_law_302 ?_
  refine z_iadd C dL_law_303 ?_
  refine z_sldn C S 4 (by decide) (by unfold vp_in; decide) dL_law_304 ?_
  refine z_aload_n C 1 (by rfl) dL_law_305 ?_
  refine zs_act C D N3 (hh := [(0, 14, 17, 19), (0, 14, 21, 21), (0, 14, 25, 13)]) (As := [.ref (w.1 0), .int (xs 1), .int (xs 2), .int (xs 3), .int (xs 4), .ref (w.1 503)]) (bytes := cL_addLink) (maxL := 7) (F1 := 8) (L1 := 128) (mc := 5) (ms := 30) (c_L_addLink w _ 0 (xs 1) (xs 2) (xs 3) (xs 4) 503 _ hl h1 h3 hw) 6 gL_law_L_addLink rfl (by decide +kernel) ⟨Nat.le_of_ble_eq_true rfl, Nat.le_of_ble_eq_true rfl⟩ rfl (Nat.le_of_ble_eq_true rfl) (k2 := (509, 23266)) rfl ⟨Nat.le_of_ble_eq_true rfl, Nat.le_of_ble_eq_true rfl⟩ rfl dL_law_306 (fun x22 τ21 hw => ?_)
  refine z_istore C [(5, .int x22), (4, .int 0), (3, .ref (w.1 503)), (2, .ref (w.1 234)), (1, .ref (w.1 0)), (0, .ref b)] dL_law_309 (by decide) rfl ?_
  refine z_aload_n C 3 (by rfl) dL_law_311 ?_
  refine z_aload_n C 5 (by rfl) dL_law_312 ?_
  refine z_iload C 1 (by rfl) dL_law_313 ?_
  refine z_iconst C 1 (by decide) dL_law_315 ?_
  refine z_iadd C dL_law_316 ?_
  refine z_sldn C S 1 (by decide) (by unfold vp_in; decide) dL_law_317 ?_
  refine z_aload_n C 5 (by rfl) dL_law_318 ?_
  refine z_iload C 1 (by rfl) dL_law_319 ?_
  refine z_iconst C 2 (by decide) dL_law_321 ?_
  refine z_iadd C dL_law_322 ?_
  refine z_sldn C S 2 (by decide) (by unfold vp_in; decide) dL_law_323 ?_
  refine z_aload_n C 5 (by rfl) dL_law_324 ?_
  refine z_iload C 1 (by rfl) dL_law_325 ?_
  refine z_iconst C 3 (by decide) dL_law_327 ?_
  refine z_iadd C dL_law_328 ?_
  refine z_sldn C S 3 (by decide) (by unfold vp_in; decide) dL_law_329 ?_
  refine z_aload_n C 5 (by rfl) dL_law_330 ?_
  refine z_iload C 1 (by rfl) dL_law_331 ?_
  refine z_iconst C 4 (by decide) dL_law_333 ?_
  refine z_iadd C dL_law_334 ?_
  refine z_sldn C S 4 (by decide) (by unfold vp_in; decide) dL_law_335 ?_
  refine zv_i C (As := [.int (xs 1), .int (xs 2), .int (xs 3), .int (xs 4)]) (bytes := cX11_addLink) (maxL := 7) (F1 := 2) (L1 := 48) (c_X11_addLink w _ 234 (xs 1) (xs 2) (xs 3) (xs 4) _ h2 hw) h2.2 (tE20 h2.1) rfl 4 gL_law_X11_addLink rfl (by decide +kernel) ⟨Nat.le_of_ble_eq_true rfl, Nat.le_of_ble_eq_true rfl⟩ rfl (Nat.le_of_ble_eq_true rfl) ⟨Nat.le_of_ble_eq_true rfl, Nat.le_of_ble_eq_true rfl⟩ rfl dL_law_336 (fun x24 τ23 hw => ?_)
  refine z_istore C [(6, .int x24), (5, .int x22), (4, .int 0), (3, .ref (w.1 503)), (2, .ref (w.1 234)), (1, .ref (w.1 0)), (0, .ref b)] dL_law_339 (by decide) rfl ?_
  refine z_aload_n C 4 (by rfl) dL_law_341 ?_
  refine zv_i C (As := []) (bytes := cX11_thrown) (maxL := 1) (F1 := 0) (L1 := 0) (c_X11_thrown w _ 234 _ h2 hw) h2.2 (tE20 h2.1) rfl 0 gL_law_X11_thrown rfl (by decide +kernel) ⟨Nat.le_of_ble_eq_true rfl, Nat.le_of_ble_eq_true rfl⟩ rfl (Nat.le_of_ble_eq_true rfl) ⟨Nat.le_of_ble_eq_true rfl, Nat.le_of_ble_eq_true rfl⟩ rfl dL_law_342 (fun x26 τ25 hw => ?_)
  refine z_iload C 1 (by rfl) dL_law_345 ?_
  refine z_icmp_eq (tgt := 352) C dL_law_347 (by decide) (fun c27 => ?_) (fun c27 => ?_)
  · have hw := hw.1 c27
    refine z_iload C 1 (by rfl) dL_law_352 ?_
    refine z_if_ne (tgt := 369) C dL_law_354 (by decide) (fun c28 => ?_) (fun c28 => ?_)
    · have hw := hw.1 c28
      refine z_goto (tgt := 2739) C dL_law_369 (by decide) ?_
      refine z_widen (512, 23300) (Nat.le_of_ble_eq_true rfl) (Nat.le_of_ble_eq_true rfl) ?_
      refine z_sub [2, 3, 4, 5, 6] [(4, .int 0), (3, .ref (w.1 503)), (2, .ref (w.1 234)), (1, .ref (w.1 0)), (0, .ref b)] rfl ?_
      exact hK _ hw
    · have hw := hw.2 c28
      refine z_aload_n C 3 (by rfl) dL_law_357 ?_
      refine z_iconst C 0 (by decide) dL_law_358 ?_
      refine z_lald C (x := 0) h3 (by unfold vp_in; decide) dL_law_359 ?_
      refine z_iload C 0 (by rfl) dL_law_360 ?_
      refine z_i2l C dL_law_362 ?_
      refine z_lcmp C dL_law_363 ?_
      refine z_if_eq (tgt := 369) C dL_law_364 (by decide) (fun c29 => ?_) (fun c29 => ?_)
      · have hw := hw.1 c29
        refine z_goto (tgt := 2739) C dL_law_369 (by decide) ?_
        refine z_widen (512, 23300) (Nat.le_of_ble_eq_true rfl) (Nat.le_of_ble_eq_true rfl) ?_
        refine z_sub [2, 3, 4, 5, 6] [(4, .int 0), (3, .ref (w.1 503)), (2, .ref (w.1 234)), (1, .ref (w.1 0)), (0, .ref b)] rfl ?_
        exact hK _ hw
      · have hw := hw.2 c29
        refine z_iconst C 0 (by decide) dL_law_367 ?_
        exact hw.elim
  · have hw := hw.2 c27
    refine z_iconst C 0 (by decide) dL_law_350 ?_
    exact hw.elim
def wl_2 (τ : TS) (xs : Nat → Int32) (K : TS → Prop) : Prop :=
  wp_L_turn τ 0 (xs 1) 503 (fun τ21 x22 => wp_X11_turn τ21 234 (xs 1) (fun τ23 x24 => wp_X11_thrown τ23 234 (fun τ25 x26 => ((x26 = x22) → (((¬ x22 = 0) → (K τ25)) ∧ ((x22 = 0) → ((((lg_cmp (tp_jl (τ25 503 0) (τ25 503 1)) (Int32.toInt64 x24)) = 0) → (K τ25)) ∧ ((¬ (lg_cmp (tp_jl (τ25 503 0) (τ25 503 1)) (Int32.toInt64 x24)) = 0) → False))))) ∧ ((¬ x26 = x22) → False))))
set_option maxHeartbeats 4000000 in
set_option maxRecDepth 100000 in
theorem cl_2 {w : WPar} {g : Cxt} {τ : TS} {b : Nat} {xs : Nat → Int32} (C : Cok w g cL_law RL wsL_law 9 14 560 600002 7302232) (D : CX w g) (N3 : tp_N3g g) (S : CS w g b 5 xs) (hl : w.2.1.stackTraces = false) (hN : tp_N w = 504) (h1 : tp_is w 0 7) (h2 : tp_is w 234 20) (h3 : tp_is w 503 33) (K : TS → Prop) (hK : ∀ τ2, K τ2 → Zt w g τ2 (512, 23300) 2739 [(4, .int 0), (3, .ref (w.1 503)), (2, .ref (w.1 234)), (1, .ref (w.1 0)), (0, .ref b)] []) (hw : wl_2 τ xs K) : Zt w g τ (504, 23236) 372 [(4, .int 0), (3, .ref (w.1 503)), (2, .ref (w.1 234)), (1, .ref (w.1 0)), (0, .ref b)] [] := by
  unfold wl_2 at hw
  refine z_aload_n C 3 (by rfl) dL_law_372 ?_
  refine z_aload_n C 4 (by rfl) dL_law_373 ?_
  refine z_iload C 0 (by rfl) dL_law_374 ?_
  refine z_iconst C 1 (by decide) dL_law_376 ?_
  refine z_iadd C dL_law_377 ?_
  refine z_sldn C S 1 (by decide) (by unfold vp_in; decide) dL_law_378 ?_
  refine z_aload_n C 1 (by rfl) dL_law_379 ?_
  refine zs_act C D N3 (hh := [(0, 9, 12, 19)]) (As := [.ref (w.1 0), .int (xs 1), .ref (w.1 503)]) (bytes := cL_turn) (maxL := 4) (F1 := 8) (L1 := 124) (mc := 1) (ms := 6) (c_L_turn w _ 0 (xs 1) 503 _ hl h1 h3 hw) 3 gL_law_L_turn rfl (by decide +kernel) ⟨Nat.le_of_ble_eq_true rfl, Nat.le_of_ble_eq_true rfl⟩ rfl (Nat.le_of_ble_eq_true rfl) (k2 := (505, 23242)) rfl ⟨Nat.le_of_ble_eq_true rfl, Nat.le_of_ble_eq_true rfl⟩ rfl dL_law_380 (fun x22 τ21 hw => ?_)
  refine z_istore C [(5, .int x22), (4, .int 0), (3, .ref (w.1 503)), (2, .ref (w.1 234)), (1, .ref (w.1 0)), (0, .ref b)] dL_law_383 (by decide) rfl ?_
  refine z_aload_n C 3 (by rfl) dL_law_385 ?_
  refine z_aload_n C 5 (by rfl) dL_law_386 ?_
  refine z_iload C 1 (by rfl) dL_law_387 ?_
  refine z_iconst C 1 (by decide) dL_law_389 ?_
  refine z_iadd C dL_law_390 ?_
  refine z_sldn C S 1 (by decide) (by unfold vp_in; decide) dL_law_391 ?_
  refine zv_i C (As := [.int (xs 1)]) (bytes := cX11_turn) (maxL := 3) (F1 := 2) (L1 := 48) (c_X11_turn w _ 234 (xs 1) _ h2 hw) h2.2 (tE20 h2.1) rfl 1 gL_law_X11_turn rfl (by decide +kernel) ⟨Nat.le_of_ble_eq_true rfl, Nat.le_of_ble_eq_true rfl⟩ rfl (Nat.le_of_ble_eq_true rfl) ⟨Nat.le_of_ble_eq_true rfl, Nat.le_of_ble_eq_true rfl⟩ rfl dL_law_392 (fun x24 τ23 hw => ?_)
  refine z_istore C [(6, .int x24), (5, .int x22), (4, .int 0), (3, .ref (w.1 503)), (2, .ref (w.1 234)), (1, .ref (w.1 0)), (0, .ref b)] dL_law_395 (by decide) rfl ?_
  refine z_aload_n C 4 (by rfl) dL_law_397 ?_
  refine zv_i C (As := []) (bytes := cX11_thrown) (maxL := 1) (F1 := 0) (L1 := 0) (c_X11_thrown w _ 234 _ h2 hw) h2.2 (tE20 h2.1) rfl 0 gL_law_X11_thrown rfl (by decide +kernel) ⟨Nat.le_of_ble_eq_true rfl, Nat.le_of_ble_eq_true rfl⟩ rfl (Nat.le_of_ble_eq_true rfl) ⟨Nat.le_of_ble_eq_true rfl, Nat.le_of_ble_eq_true rfl⟩ rfl dL_law_398 (fun x26 τ25 hw => ?_)
  refine z_iload C 1 (by rfl) dL_law_401 ?_
  refine z_icmp_eq (tgt := 408) C dL_law_403 (by decide) (fun c27 => ?_) (fun c27 => ?_)
  · have hw := hw.1 c27
    refine z_iload C 1 (by rfl) dL_law_408 ?_
    refine z_if_ne (tgt := 425) C dL_law_410 (by decide) (fun c28 => ?_) (fun c28 => ?_)
    · have hw := hw.1 c28
      refine z_goto (tgt := 2739) C dL_law_425 (by decide) ?_
      refine z_widen (512, 23300) (Nat.le_of_ble_eq_true rfl) (Nat.le_of_ble_eq_true rfl) ?_
      refine z_sub [2, 3, 4, 5, 6] [(4, .int 0), (3, .ref (w.1 503)), (2, .ref (w.1 234)), (1, .ref (w.1 0)), (0, .ref b)] rfl ?_
      exact hK _ hw
    · have hw := hw.2 c28
      refine z_aload_n C 3 (by rfl) dL_law_413 ?_
      refine z_iconst C 0 (by decide) dL_law_414 ?_
      refine z_lald C (x := 0) h3 (by unfold vp_in; decide) dL_law_415 ?_
      refine z_iload C 0 (by rfl) dL_law_416 ?_
      refine z_i2l C dL_law_418 ?_
      refine z_lcmp C dL_law_419 ?_
      refine z_if_eq (tgt := 425) C dL_law_420 (by decide) (fun c29 => ?_) (fun c29 => ?_)
      · have hw := hw.1 c29
        refine z_goto (tgt := 2739) C dL_law_425 (by decide) ?_
        refine z_widen (512, 23300) (Nat.le_of_ble_eq_true rfl) (Nat.le_of_ble_eq_true rfl) ?_
        refine z_sub [2, 3, 4, 5, 6] [(4, .int 0), (3, .ref (w.1 503)), (2, .ref (w.1 234)), (1, .ref (w.1 0)), (0, .ref b)] rfl ?_
        exact hK _ hw
      · have hw := hw.2 c29
        refine z_iconst C 0 (by decide) dL_law_423 ?_
        exact hw.elim
  · have hw := hw.2 c27
    refine z_iconst C 0 (by decide) dL_law_406 ?_
    exact hw.elim
def wl_3 (τ : TS) (xs : Nat → Int32) (K : TS → Prop) : Prop :=
  wp_L_lose τ 0 (xs 1) (xs 2) (xs 3) 503 (fun τ21 x22 => wp_X11_lose τ21 234 (xs 1) (xs 2) (xs 3) (fun τ23 x24 => wp_X11_thrown τ23 234 (fun τ25 x26 => ((x26 = x22) → (((¬ x22 = 0) → (K τ25)) ∧ ((x22 = 0) → ((((lg_cmp (tp_jl (τ25 503 0) (τ25 503 1)) (Int32.toInt64 x24)) = 0) → (K τ25)) ∧ ((¬ (lg_cmp (tp_jl (τ25 503 0) (τ25 503 1)) (Int32.toInt64 x24)) = 0) → False))))) ∧ ((¬ x26 = x22) → False))))
set_option maxHeartbeats 4000000 in
set_option maxRecDepth 100000 in
theorem cl_3 {w : WPar} {g : Cxt} {τ : TS} {b : Nat} {xs : Nat → Int32} (C : Cok w g cL_law RL wsL_law 9 14 560 600002 7302232) (D : CX w g) (N3 : tp_N3g g) (S : CS w g b 5 xs) (hl : w.2.1.stackTraces = false) (hN : tp_N w = 504) (h1 : tp_is w 0 7) (h2 : tp_is w 234 20) (h3 : tp_is w 503 33) (K : TS → Prop) (hK : ∀ τ2, K τ2 → Zt w g τ2 (512, 23300) 2739 [(4, .int 0), (3, .ref (w.1 503)), (2, .ref (w.1 234)), (1, .ref (w.1 0)), (0, .ref b)] []) (hw : wl_3 τ xs K) : Zt w g τ (504, 23236) 428 [(4, .int 0), (3, .ref (w.1 503)), (2, .ref (w.1 234)), (1, .ref (w.1 0)), (0, .ref b)] [] := by
  unfold wl_3 at hw
  refine z_aload_n C 3 (by rfl) dL_law_428 ?_
  refine z_aload_n C 4 (by rfl) dL_law_429 ?_
  refine z_iload C 0 (by rfl) dL_law_430 ?_
  refine z_iconst C 1 (by decide) dL_law_432 ?_
  refine z_iadd C dL_law_433 ?_
  refine z_sldn C S 1 (by decide) (by unfold vp_in; decide) dL_law_434 ?_
  refine z_aload_n C 4 (by rfl) dL_law_435 ?_
  refine z_iload C 0 (by rfl) dL_law_436 ?_
  refine z_iconst C 2 (by decide) dL_law_438 ?_
  refine z_iadd C dL_law_439 ?_
  refine z_sldn C S 2 (by decide) (by unfold vp_in; decide) dL_law_440 ?_
  refine z_aload_n C 4 (by rfl) dL_law_441 ?_
  refine z_iload C 0 (by rfl) dL_law_442 ?_
  refine z_iconst C 3 (by decide) dL_law_444 ?_
  refine z_iadd C dL_law_445 ?_
  refine z_sldn C S 3 (by decide) (by unfold vp_in; decide) dL_law_446 ?_
  refine z_aload_n C 1 (by rfl) dL_law_447 ?_
  refine zs_act C D N3 (hh := [(0, 12, 15, 19), (0, 12, 19, 21)]) (As := [.ref (w.1 0), .int (xs 1), .int (xs 2), .int (xs 3), .ref (w.1 503)]) (bytes := cL_lose) (maxL := 6) (F1 := 9) (L1 := 150) (mc := 3) (ms := 18) (c_L_lose w _ 0 (xs 1) (xs 2) (xs 3) 503 _ hl h1 h3 hw) 5 gL_law_L_lose rfl (by decide +kernel) ⟨Nat.le_of_ble_eq_true rfl, Nat.le_of_ble_eq_true rfl⟩ rfl (Nat.le_of_ble_eq_true rfl) (k2 := (507, 23254)) rfl ⟨Nat.le_of_ble_eq_true rfl, Nat.le_of_ble_eq_true rfl⟩ rfl dL_law_448 (fun x22 τ21 hw => ?_)
  refine z_istore C [(5, .int x22), (4, .int 0), (3, .ref (w.1 503)), (2, .ref (w.1 234)), (1, .ref (w.1 0)), (0, .ref b)] dL_law_451 (by decide) rfl ?_
  refine z_aload_n C 3 (by rfl) dL_law_453 ?_
  refine z_aload_n C 5 (by rfl) dL_law_454 ?_
  refine z_iload C 1 (by rfl) dL_law_455 ?_
  refine z_iconst C 1 (by decide) dL_law_457 ?_
  refine z_iadd C dL_law_458 ?_
  refine z_sldn C S 1 (by decide) (by unfold vp_in; decide) dL_law_459 ?_
  refine z_aload_n C 5 (by rfl) dL_law_460 ?_
  refine z_iload C 1 (by rfl) dL_law_461 ?_
  refine z_iconst C 2 (by decide) dL_law_463 ?_
  refine z_iadd C dL_law_464 ?_
  refine z_sldn C S 2 (by decide) (by unfold vp_in; decide) dL_law_465 ?_
  refine z_aload_n C 5 (by rfl) dL_law_466 ?_
  refine z_iload C 1 (by rfl) dL_law_467 ?_
  refine z_iconst C 3 (by decide) dL_law_469 ?_
  refine z_iadd C dL_law_470 ?_
  refine z_sldn C S 3 (by decide) (by unfold vp_in; decide) dL_law_471 ?_
  refine zv_i C (As := [.int (xs 1), .int (xs 2), .int (xs 3)]) (bytes := cX11_lose) (maxL := 5) (F1 := 2) (L1 := 43) (c_X11_lose w _ 234 (xs 1) (xs 2) (xs 3) _ h2 hw) h2.2 (tE20 h2.1) rfl 3 gL_law_X11_lose rfl (by decide +kernel) ⟨Nat.le_of_ble_eq_true rfl, Nat.le_of_ble_eq_true rfl⟩ rfl (Nat.le_of_ble_eq_true rfl) ⟨Nat.le_of_ble_eq_true rfl, Nat.le_of_ble_eq_true rfl⟩ rfl dL_law_472 (fun x24 τ23 hw => ?_)
  refine z_istore C [(6, .int x24), (5, .int x22), (4, .int 0), (3, .ref (w.1 503)), (2, .ref (w.1 234)), (1, .ref (w.1 0)), (0, .ref b)] dL_law_475 (by decide) rfl ?_
  refine z_aload_n C 4 (by rfl) dL_law_477 ?_
  refine zv_i C (As := []) (bytes := cX11_thrown) (maxL := 1) (F1 := 0) (L1 := 0) (c_X11_thrown w _ 234 _ h2 hw) h2.2 (tE20 h2.1) rfl 0 gL_law_X11_thrown rfl (by decide +kernel) ⟨Nat.le_of_ble_eq_true rfl, Nat.le_of_ble_eq_true rfl⟩ rfl (Nat.le_of_ble_eq_true rfl) ⟨Nat.le_of_ble_eq_true rfl, Nat.le_of_ble_eq_true rfl⟩ rfl dL_law_478 (fun x26 τ25 hw => ?_)
  refine z_iload C 1 (by rfl) dL_law_481 ?_
  refine z_icmp_eq (tgt := 488) C dL_law_483 (by decide) (fun c27 => ?_) (fun c27 => ?_)
  · have hw := hw.1 c27
    refine z_iload C 1 (by rfl) dL_law_488 ?_
    refine z_if_ne (tgt := 505) C dL_law_490 (by decide) (fun c28 => ?_) (fun c28 => ?_)
    · have hw := hw.1 c28
      refine z_goto (tgt := 2739) C dL_law_505 (by decide) ?_
      refine z_widen (512, 23300) (Nat.le_of_ble_eq_true rfl) (Nat.le_of_ble_eq_true rfl) ?_
      refine z_sub [2, 3, 4, 5, 6] [(4, .int 0), (3, .ref (w.1 503)), (2, .ref (w.1 234)), (1, .ref (w.1 0)), (0, .ref b)] rfl ?_
      exact hK _ hw
    · have hw := hw.2 c28
      refine z_aload_n C 3 (by rfl) dL_law_493 ?_
      refine z_iconst C 0 (by decide) dL_law_494 ?_
      refine z_lald C (x := 0) h3 (by unfold vp_in; decide) dL_law_495 ?_
      refine z_iload C 0 (by rfl) dL_law_496 ?_
      refine z_i2l C dL_law_498 ?_
      refine z_lcmp C dL_law_499 ?_
      refine z_if_eq (tgt := 505) C dL_law_500 (by decide) (fun c29 => ?_) (fun c29 => ?_)
      · have hw := hw.1 c29
        refine z_goto (tgt := 2739) C dL_law_505 (by decide) ?_
        refine z_widen (512, 23300) (Nat.le_of_ble_eq_true rfl) (Nat.le_of_ble_eq_true rfl) ?_
        refine z_sub [2, 3, 4, 5, 6] [(4, .int 0), (3, .ref (w.1 503)), (2, .ref (w.1 234)), (1, .ref (w.1 0)), (0, .ref b)] rfl ?_
        exact hK _ hw
      · have hw := hw.2 c29
        refine z_iconst C 0 (by decide) dL_law_503 ?_
        exact hw.elim
  · have hw := hw.2 c27
    refine z_iconst C 0 (by decide) dL_law_486 ?_
    exact hw.elim
def wl_4 (τ : TS) (xs : Nat → Int32) (K : TS → Prop) : Prop :=
  wp_L_call τ 0 (xs 1) (xs 2) (xs 3) 503 (fun τ21 x22 => wp_X11_call τ21 234 (xs 1) (xs 2) (xs 3) (fun τ23 x24 => wp_X11_thrown τ23 234 (fun τ25 x26 => ((x26 = x22) → (((¬ x22 = 0) → (K τ25)) ∧ ((x22 = 0) → ((((lg_cmp (tp_jl (τ25 503 0) (τ25 503 1)) (Int32.toInt64 x24)) = 0) → (K τ25)) ∧ ((¬ (lg_cmp (tp_jl (τ25 503 0) (τ25 503 1)) (Int32.toInt64 x24)) = 0) → False))))) ∧ ((¬ x26 = x22) → False))))
set_option maxHeartbeats 4000000 in
set_option maxRecDepth 100000 in
theorem cl_4 {w : WPar} {g : Cxt} {τ : TS} {b : Nat} {xs : Nat → Int32} (C : Cok w g cL_law RL wsL_law 9 14 560 600002 7302232) (D : CX w g) (N3 : tp_N3g g) (S : CS w g b 5 xs) (hl : w.2.1.stackTraces = false) (hN : tp_N w = 504) (h1 : tp_is w 0 7) (h2 : tp_is w 234 20) (h3 : tp_is w 503 33) (K : TS → Prop) (hK : ∀ τ2, K τ2 → Zt w g τ2 (512, 23300) 2739 [(4, .int 0), (3, .ref (w.1 503)), (2, .ref (w.1 234)), (1, .ref (w.1 0)), (0, .ref b)] []) (hw : wl_4 τ xs K) : Zt w g τ (504, 23236) 508 [(4, .int 0), (3, .ref (w.1 503)), (2, .ref (w.1 234)), (1, .ref (w.1 0)), (0, .ref b)] [] := by
  unfold wl_4 at hw
  refine z_aload_n C 3 (by rfl) dL_law_508 ?_
  refine z_aload_n C 4 (by rfl) dL_law_509 ?_
  refine z_iload C 0 (by rfl) dL_law_510 ?_
  refine z_iconst C 1 (by decide) dL_law_512 ?_
  refine z_iadd C dL_law_513 ?_
  refine z_sldn C S 1 (by decide) (by unfold vp_in; decide) dL_law_514 ?_
  refine z_aload_n C 4 (by rfl) dL_law_515 ?_
  refine z_iload C 0 (by rfl) dL_law_516 ?_
  refine z_iconst C 2 (by decide) dL_law_518 ?_
  refine z_iadd C dL_law_519 ?_
  refine z_sldn C S 2 (by decide) (by unfold vp_in; decide) dL_law_520 ?_
  refine z_aload_n C 4 (by rfl) dL_law_521 ?_
  refine z_iload C 0 (by rfl) dL_law_522 ?_
  refine z_iconst C 3 (by decide) dL_law_524 ?_
  refine z_iadd C dL_law_525 ?_
  refine z_sldn C S 3 (by decide) (by unfold vp_in; decide) dL_law_526 ?_
  refine z_aload_n C 1 (by rfl) dL_law_527 ?_
  refine zs_act C D N3 (hh := [(0, 12, 15, 19), (0, 12, 19, 21), (0, 12, 23, 13)]) (As := [.ref (w.1 0), .int (xs 1), .int (xs 2), .int (xs 3), .ref (w.1 503)]) (bytes := cL_call) (maxL := 6) (F1 := 8) (L1 := 127) (mc := 4) (ms := 24) (c_L_call w _ 0 (xs 1) (xs 2) (xs 3) 503 _ hl h1 h3 hw) 5 gL_law_L_call rfl (by decide +kernel) ⟨Nat.le_of_ble_eq_true rfl, Nat.le_of_ble_eq_true rfl⟩ rfl (Nat.le_of_ble_eq_true rfl) (k2 := (508, 23260)) rfl ⟨Nat.le_of_ble_eq_true rfl, Nat.le_of_ble_eq_true rfl⟩ rfl dL_law_528 (fun x22 τ21 hw => ?_)
  refine z_istore C [(5, .int x22), (4, .int 0), (3, .ref (w.1 503)), (2, .ref (w.1 234)), (1, .ref (w.1 0)), (0, .ref b)] dL_law_531 (by decide) rfl ?_
  refine z_aload_n C 3 (by rfl) dL_law_533 ?_
  refine z_aload_n C 5 (by rfl) dL_law_534 ?_
  refine z_iload C 1 (by rfl) dL_law_535 ?_
  refine z_iconst C 1 (by decide) dL_law_537 ?_
  refine z_iadd C dL_law_538 ?_
  refine z_sldn C S 1 (by decide) (by unfold vp_in; decide) dL_law_539 ?_
  refine z_aload_n C 5 (by rfl) dL_law_540 ?_
  refine z_iload C 1 (by rfl) dL_law_541 ?_
  refine z_iconst C 2 (by decide) dL_law_543 ?_
  refine z_iadd C dL_law_544 ?_
  refine z_sldn C S 2 (by decide) (by unfold vp_in; decide) dL_law_545 ?_
  refine z_aload_n C 5 (by rfl) dL_law_546 ?_
  refine z_iload C 1 (by rfl) dL_law_547 ?_
  refine z_iconst C 3 (by decide) dL_law_549 ?_
  refine z_iadd C dL_law_550 ?_
  refine z_sldn C S 3 (by decide) (by unfold vp_in; decide) dL_law_551 ?_
  refine zv_i C (As := [.int (xs 1), .int (xs 2), .int (xs 3)]) (bytes := cX11_call) (maxL := 6) (F1 := 2) (L1 := 43) (c_X11_call w _ 234 (xs 1) (xs 2) (xs 3) _ h2 hw) h2.2 (tE20 h2.1) rfl 3 gL_law_X11_call rfl (by decide +kernel) ⟨Nat.le_of_ble_eq_true rfl, Nat.le_of_ble_eq_true rfl⟩ rfl (Nat.le_of_ble_eq_true rfl) ⟨Nat.le_of_ble_eq_true rfl, Nat.le_of_ble_eq_true rfl⟩ rfl dL_law_552 (fun x24 τ23 hw => ?_)
  refine z_istore C [(6, .int x24), (5, .int x22), (4, .int 0), (3, .ref (w.1 503)), (2, .ref (w.1 234)), (1, .ref (w.1 0)), (0, .ref b)] dL_law_555 (by decide) rfl ?_
  refine z_aload_n C 4 (by rfl) dL_law_557 ?_
  refine zv_i C (As := []) (bytes := cX11_thrown) (maxL := 1) (F1 := 0) (L1 := 0) (c_X11_thrown w _ 234 _ h2 hw) h2.2 (tE20 h2.1) rfl 0 gL_law_X11_thrown rfl (by decide +kernel) ⟨Nat.le_of_ble_eq_true rfl, Nat.le_of_ble_eq_true rfl⟩ rfl (Nat.le_of_ble_eq_true rfl) ⟨Nat.le_of_ble_eq_true rfl, Nat.le_of_ble_eq_true rfl⟩ rfl dL_law_558 (fun x26 τ25 hw => ?_)
  refine z_iload C 1 (by rfl) dL_law_561 ?_
  refine z_icmp_eq (tgt := 568) C dL_law_563 (by decide) (fun c27 => ?_) (fun c27 => ?_)
  · have hw := hw.1 c27
    refine z_iload C 1 (by rfl) dL_law_568 ?_
    refine z_if_ne (tgt := 585) C dL_law_570 (by decide) (fun c28 => ?_) (fun c28 => ?_)
    · have hw := hw.1 c28
      refine z_goto (tgt := 2739) C dL_law_585 (by decide) ?_
      refine z_widen (512, 23300) (Nat.le_of_ble_eq_true rfl) (Nat.le_of_ble_eq_true rfl) ?_
      refine z_sub [2, 3, 4, 5, 6] [(4, .int 0), (3, .ref (w.1 503)), (2, .ref (w.1 234)), (1, .ref (w.1 0)), (0, .ref b)] rfl ?_
      exact hK _ hw
    · have hw := hw.2 c28
      refine z_aload_n C 3 (by rfl) dL_law_573 ?_
      refine z_iconst C 0 (by decide) dL_law_574 ?_
      refine z_lald C (x := 0) h3 (by unfold vp_in; decide) dL_law_575 ?_
      refine z_iload C 0 (by rfl) dL_law_576 ?_
      refine z_i2l C dL_law_578 ?_
      refine z_lcmp C dL_law_579 ?_
      refine z_if_eq (tgt := 585) C dL_law_580 (by decide) (fun c29 => ?_) (fun c29 => ?_)
      · have hw := hw.1 c29
        refine z_goto (tgt := 2739) C dL_law_585 (by decide) ?_
        refine z_widen (512, 23300) (Nat.le_of_ble_eq_true rfl) (Nat.le_of_ble_eq_true rfl) ?_
        refine z_sub [2, 3, 4, 5, 6] [(4, .int 0), (3, .ref (w.1 503)), (2, .ref (w.1 234)), (1, .ref (w.1 0)), (0, .ref b)] rfl ?_
        exact hK _ hw
      · have hw := hw.2 c29
        refine z_iconst C 0 (by decide) dL_law_583 ?_
        exact hw.elim
  · have hw := hw.2 c27
    refine z_iconst C 0 (by decide) dL_law_566 ?_
    exact hw.elim
def wl_5 (τ : TS) (xs : Nat → Int32) (K : TS → Prop) : Prop :=
  wp_L_give τ 0 (xs 1) (xs 2) (xs 3) 503 (fun τ21 x22 => wp_X11_give τ21 234 (xs 1) (xs 2) (xs 3) (fun τ23 x24 => wp_X11_thrown τ23 234 (fun τ25 x26 => ((x26 = x22) → (((¬ x22 = 0) → (K τ25)) ∧ ((x22 = 0) → ((((lg_cmp (tp_jl (τ25 503 0) (τ25 503 1)) (Int32.toInt64 x24)) = 0) → (K τ25)) ∧ ((¬ (lg_cmp (tp_jl (τ25 503 0) (τ25 503 1)) (Int32.toInt64 x24)) = 0) → False))))) ∧ ((¬ x26 = x22) → False))))
set_option maxHeartbeats 4000000 in
set_option maxRecDepth 100000 in
theorem cl_5 {w : WPar} {g : Cxt} {τ : TS} {b : Nat} {xs : Nat → Int32} (C : Cok w g cL_law RL wsL_law 9 14 560 600002 7302232) (D : CX w g) (N3 : tp_N3g g) (S : CS w g b 5 xs) (hl : w.2.1.stackTraces = false) (hN : tp_N w = 504) (h1 : tp_is w 0 7) (h2 : tp_is w 234 20) (h3 : tp_is w 503 33) (K : TS → Prop) (hK : ∀ τ2, K τ2 → Zt w g τ2 (512, 23300) 2739 [(4, .int 0), (3, .ref (w.1 503)), (2, .ref (w.1 234)), (1, .ref (w.1 0)), (0, .ref b)] []) (hw : wl_5 τ xs K) : Zt w g τ (504, 23236) 588 [(4, .int 0), (3, .ref (w.1 503)), (2, .ref (w.1 234)), (1, .ref (w.1 0)), (0, .ref b)] [] := by
  unfold wl_5 at hw
  refine z_aload_n C 3 (by rfl) dL_law_588 ?_
  refine z_aload_n C 4 (by rfl) dL_law_589 ?_
  refine z_iload C 0 (by rfl) dL_law_590 ?_
  refine z_iconst C 1 (by decide) dL_law_592 ?_
  refine z_iadd C dL_law_593 ?_
  refine z_sldn C S 1 (by decide) (by unfold vp_in; decide) dL_law_594 ?_
  refine z_aload_n C 4 (by rfl) dL_law_595 ?_
  refine z_iload C 0 (by rfl) dL_law_596 ?_
  refine z_iconst C 2 (by decide) dL_law_598 ?_
  refine z_iadd C dL_law_599 ?_
  refine z_sldn C S 2 (by decide) (by unfold vp_in; decide) dL_law_600 ?_
  refine z_aload_n C 4 (by rfl) dL_law_601 ?_
  refine z_iload C 0 (by rfl) dL_law_602 ?_
  refine z_iconst C 3 (by decide) dL_law_604 ?_
  refine z_iadd C dL_law_605 ?_
  refine z_sldn C S 3 (by decide) (by unfold vp_in; decide) dL_law_606 ?_
  refine z_aload_n C 1 (by rfl) dL_law_607 ?_
  refine zs_act C D N3 (hh := [(0, 12, 15, 19), (0, 12, 19, 21), (0, 12, 23, 13)]) (As := [.ref (w.1 0), .int (xs 1), .int (xs 2), .int (xs 3), .ref (w.1 503)]) (bytes := cL_give) (maxL := 6) (F1 := 9) (L1 := 149) (mc := 2) (ms := 12) (c_L_give w _ 0 (xs 1) (xs 2) (xs 3) 503 _ hl h1 h3 hw) 5 gL_law_L_give rfl (by decide +kernel) ⟨Nat.le_of_ble_eq_true rfl, Nat.le_of_ble_eq_true rfl⟩ rfl (Nat.le_of_ble_eq_true rfl) (k2 := (506, 23248)) rfl ⟨Nat.le_of_ble_eq_true rfl, Nat.le_of_ble_eq_true rfl⟩ rfl dL_law_608 (fun x22 τ21 hw => ?_)
  refine z_istore C [(5, .int x22), (4, .int 0), (3, .ref (w.1 503)), (2, .ref (w.1 234)), (1, .ref (w.1 0)), (0, .ref b)] dL_law_611 (by decide) rfl ?_
  refine z_aload_n C 3 (by rfl) dL_law_613 ?_
  refine z_aload_n C 5 (by rfl) dL_law_614 ?_
  refine z_iload C 1 (by rfl) dL_law_615 ?_
  refine z_iconst C 1 (by decide) dL_law_617 ?_
  refine z_iadd C dL_law_618 ?_
  refine z_sldn C S 1 (by decide) (by unfold vp_in; decide) dL_law_619 ?_
  refine z_aload_n C 5 (by rfl) dL_law_620 ?_
  refine z_iload C 1 (by rfl) dL_law_621 ?_
  refine z_iconst C 2 (by decide) dL_law_623 ?_
  refine z_iadd C dL_law_624 ?_
  refine z_sldn C S 2 (by decide) (by unfold vp_in; decide) dL_law_625 ?_
  refine z_aload_n C 5 (by rfl) dL_law_626 ?_
  refine z_iload C 1 (by rfl) dL_law_627 ?_
  refine z_iconst C 3 (by decide) dL_law_629 ?_
  refine z_iadd C dL_law_630 ?_
  refine z_sldn C S 3 (by decide) (by unfold vp_in; decide) dL_law_631 ?_
  refine zv_i C (As := [.int (xs 1), .int (xs 2), .int (xs 3)]) (bytes := cX11_give) (maxL := 6) (F1 := 2) (L1 := 43) (c_X11_give w _ 234 (xs 1) (xs 2) (xs 3) _ h2 hw) h2.2 (tE20 h2.1) rfl 3 gL_law_X11_give rfl (by decide +kernel) ⟨Nat.le_of_ble_eq_true rfl, Nat.le_of_ble_eq_true rfl⟩ rfl (Nat.le_of_ble_eq_true rfl) ⟨Nat.le_of_ble_eq_true rfl, Nat.le_of_ble_eq_true rfl⟩ rfl dL_law_632 (fun x24 τ23 hw => ?_)
  refine z_istore C [(6, .int x24), (5, .int x22), (4, .int 0), (3, .ref (w.1 503)), (2, .ref (w.1 234)), (1, .ref (w.1 0)), (0, .ref b)] dL_law_635 (by decide) rfl ?_
  refine z_aload_n C 4 (by rfl) dL_law_637 ?_
  refine zv_i C (As := []) (bytes := cX11_thrown) (maxL := 1) (F1 := 0) (L1 := 0) (c_X11_thrown w _ 234 _ h2 hw) h2.2 (tE20 h2.1) rfl 0 gL_law_X11_thrown rfl (by decide +kernel) ⟨Nat.le_of_ble_eq_true rfl, Nat.le_of_ble_eq_true rfl⟩ rfl (Nat.le_of_ble_eq_true rfl) ⟨Nat.le_of_ble_eq_true rfl, Nat.le_of_ble_eq_true rfl⟩ rfl dL_law_638 (fun x26 τ25 hw => ?_)
  refine z_iload C 1 (by rfl) dL_law_641 ?_
  refine z_icmp_eq (tgt := 648) C dL_law_643 (by decide) (fun c27 => ?_) (fun c27 => ?_)
  · have hw := hw.1 c27
    refine z_iload C 1 (by rfl) dL_law_648 ?_
    refine z_if_ne (tgt := 665) C dL_law_650 (by decide) (fun c28 => ?_) (fun c28 => ?_)
    · have hw := hw.1 c28
      refine z_goto (tgt := 2739) C dL_law_665 (by decide) ?_
      refine z_widen (512, 23300) (Nat.le_of_ble_eq_true rfl) (Nat.le_of_ble_eq_true rfl) ?_
      refine z_sub [2, 3, 4, 5, 6] [(4, .int 0), (3, .ref (w.1 503)), (2, .ref (w.1 234)), (1, .ref (w.1 0)), (0, .ref b)] rfl ?_
      exact hK _ hw
    · have hw := hw.2 c28
      refine z_aload_n C 3 (by rfl) dL_law_653 ?_
      refine z_iconst C 0 (by decide) dL_law_654 ?_
      refine z_lald C (x := 0) h3 (by unfold vp_in; decide) dL_law_655 ?_
      refine z_iload C 0 (by rfl) dL_law_656 ?_
      refine z_i2l C dL_law_658 ?_
      refine z_lcmp C dL_law_659 ?_
      refine z_if_eq (tgt := 665) C dL_law_660 (by decide) (fun c29 => ?_) (fun c29 => ?_)
      · have hw := hw.1 c29
        refine z_goto (tgt := 2739) C dL_law_665 (by decide) ?_
        refine z_widen (512, 23300) (Nat.le_of_ble_eq_true rfl) (Nat.le_of_ble_eq_true rfl) ?_
        refine z_sub [2, 3, 4, 5, 6] [(4, .int 0), (3, .ref (w.1 503)), (2, .ref (w.1 234)), (1, .ref (w.1 0)), (0, .ref b)] rfl ?_
        exact hK _ hw
      · have hw := hw.2 c29
        refine z_iconst C 0 (by decide) dL_law_663 ?_
        exact hw.elim
  · have hw := hw.2 c27
    refine z_iconst C 0 (by decide) dL_law_646 ?_
    exact hw.elim
def wl_6 (τ : TS) (xs : Nat → Int32) (K : TS → Prop) : Prop :=
  wp_L_close τ 0 (xs 1) 503 (fun τ21 x22 => wp_X11_close τ21 234 (xs 1) (fun τ23 x24 => wp_X11_thrown τ23 234 (fun τ25 x26 => ((x26 = x22) → (((¬ x22 = 0) → (K τ25)) ∧ ((x22 = 0) → ((((lg_cmp (tp_jl (τ25 503 0) (τ25 503 1)) (Int32.toInt64 x24)) = 0) → (K τ25)) ∧ ((¬ (lg_cmp (tp_jl (τ25 503 0) (τ25 503 1)) (Int32.toInt64 x24)) = 0) → False))))) ∧ ((¬ x26 = x22) → False))))
set_option maxHeartbeats 4000000 in
set_option maxRecDepth 100000 in
theorem cl_6 {w : WPar} {g : Cxt} {τ : TS} {b : Nat} {xs : Nat → Int32} (C : Cok w g cL_law RL wsL_law 9 14 560 600002 7302232) (D : CX w g) (N3 : tp_N3g g) (S : CS w g b 5 xs) (hl : w.2.1.stackTraces = false) (hN : tp_N w = 504) (h1 : tp_is w 0 7) (h2 : tp_is w 234 20) (h3 : tp_is w 503 33) (K : TS → Prop) (hK : ∀ τ2, K τ2 → Zt w g τ2 (512, 23300) 2739 [(4, .int 0), (3, .ref (w.1 503)), (2, .ref (w.1 234)), (1, .ref (w.1 0)), (0, .ref b)] []) (hw : wl_6 τ xs K) : Zt w g τ (504, 23236) 668 [(4, .int 0), (3, .ref (w.1 503)), (2, .ref (w.1 234)), (1, .ref (w.1 0)), (0, .ref b)] [] := by
  unfold wl_6 at hw
  refine z_aload_n C 3 (by rfl) dL_law_668 ?_
  refine z_aload_n C 4 (by rfl) dL_law_669 ?_
  refine z_iload C 0 (by rfl) dL_law_670 ?_
  refine z_iconst C 1 (by decide) dL_law_672 ?_
  refine z_iadd C dL_law_673 ?_
  refine z_sldn C S 1 (by decide) (by unfold vp_in; decide) dL_law_674 ?_
  refine z_aload_n C 1 (by rfl) dL_law_675 ?_
  refine zs_act C D N3 (hh := [(0, 9, 12, 19), (0, 9, 15, 13)]) (As := [.ref (w.1 0), .int (xs 1), .ref (w.1 503)]) (bytes := cL_close) (maxL := 4) (F1 := 9) (L1 := 146) (mc := 1) (ms := 6) (c_L_close w _ 0 (xs 1) 503 _ hl h1 h3 hw) 3 gL_law_L_close rfl (by decide +kernel) ⟨Nat.le_of_ble_eq_true rfl, Nat.le_of_ble_eq_true rfl⟩ rfl (Nat.le_of_ble_eq_true rfl) (k2 := (505, 23242)) rfl ⟨Nat.le_of_ble_eq_true rfl, Nat.le_of_ble_eq_true rfl⟩ rfl dL_law_676 (fun x22 τ21 hw => ?_)
  refine z_istore C [(5, .int x22), (4, .int 0), (3, .ref (w.1 503)), (2, .ref (w.1 234)), (1, .ref (w.1 0)), (0, .ref b)] dL_law_679 (by decide) rfl ?_
  refine z_aload_n C 3 (by rfl) dL_law_681 ?_
  refine z_aload_n C 5 (by rfl) dL_law_682 ?_
  refine z_iload C 1 (by rfl) dL_law_683 ?_
  refine z_iconst C 1 (by decide) dL_law_685 ?_
  refine z_iadd C dL_law_686 ?_
  refine z_sldn C S 1 (by decide) (by unfold vp_in; decide) dL_law_687 ?_
  refine zv_i C (As := [.int (xs 1)]) (bytes := cX11_close) (maxL := 2) (F1 := 2) (L1 := 43) (c_X11_close w _ 234 (xs 1) _ h2 hw) h2.2 (tE20 h2.1) rfl 1 gL_law_X11_close rfl (by decide +kernel) ⟨Nat.le_of_ble_eq_true rfl, Nat.le_of_ble_eq_true rfl⟩ rfl (Nat.le_of_ble_eq_true rfl) ⟨Nat.le_of_ble_eq_true rfl, Nat.le_of_ble_eq_true rfl⟩ rfl dL_law_688 (fun x24 τ23 hw => ?_)
  refine z_istore C [(6, .int x24), (5, .int x22), (4, .int 0), (3, .ref (w.1 503)), (2, .ref (w.1 234)), (1, .ref (w.1 0)), (0, .ref b)] dL_law_691 (by decide) rfl ?_
  refine z_aload_n C 4 (by rfl) dL_law_693 ?_
  refine zv_i C (As := []) (bytes := cX11_thrown) (maxL := 1) (F1 := 0) (L1 := 0) (c_X11_thrown w _ 234 _ h2 hw) h2.2 (tE20 h2.1) rfl 0 gL_law_X11_thrown rfl (by decide +kernel) ⟨Nat.le_of_ble_eq_true rfl, Nat.le_of_ble_eq_true rfl⟩ rfl (Nat.le_of_ble_eq_true rfl) ⟨Nat.le_of_ble_eq_true rfl, Nat.le_of_ble_eq_true rfl⟩ rfl dL_law_694 (fun x26 τ25 hw => ?_)
  refine z_iload C 1 (by rfl) dL_law_697 ?_
  refine z_icmp_eq (tgt := 704) C dL_law_699 (by decide) (fun c27 => ?_) (fun c27 => ?_)
  · have hw := hw.1 c27
    refine z_iload C 1 (by rfl) dL_law_704 ?_
    refine z_if_ne (tgt := 721) C dL_law_706 (by decide) (fun c28 => ?_) (fun c28 => ?_)
    · have hw := hw.1 c28
      refine z_goto (tgt := 2739) C dL_law_721 (by decide) ?_
      refine z_widen (512, 23300) (Nat.le_of_ble_eq_true rfl) (Nat.le_of_ble_eq_true rfl) ?_
      refine z_sub [2, 3, 4, 5, 6] [(4, .int 0), (3, .ref (w.1 503)), (2, .ref (w.1 234)), (1, .ref (w.1 0)), (0, .ref b)] rfl ?_
      exact hK _ hw
    · have hw := hw.2 c28
      refine z_aload_n C 3 (by rfl) dL_law_709 ?_
      refine z_iconst C 0 (by decide) dL_law_710 ?_
      refine z_lald C (x := 0) h3 (by unfold vp_in; decide) dL_law_711 ?_
      refine z_iload C 0 (by rfl) dL_law_712 ?_
      refine z_i2l C dL_law_714 ?_
      refine z_lcmp C dL_law_715 ?_
      refine z_if_eq (tgt := 721) C dL_law_716 (by decide) (fun c29 => ?_) (fun c29 => ?_)
      · have hw := hw.1 c29
        refine z_goto (tgt := 2739) C dL_law_721 (by decide) ?_
        refine z_widen (512, 23300) (Nat.le_of_ble_eq_true rfl) (Nat.le_of_ble_eq_true rfl) ?_
        refine z_sub [2, 3, 4, 5, 6] [(4, .int 0), (3, .ref (w.1 503)), (2, .ref (w.1 234)), (1, .ref (w.1 0)), (0, .ref b)] rfl ?_
        exact hK _ hw
      · have hw := hw.2 c29
        refine z_iconst C 0 (by decide) dL_law_719 ?_
        exact hw.elim
  · have hw := hw.2 c27
    refine z_iconst C 0 (by decide) dL_law_702 ?_
    exact hw.elim
def wl_7 (τ : TS) (xs : Nat → Int32) (K : TS → Prop) : Prop :=
  wp_L_read τ 0 (xs 1) (xs 2) 503 (fun τ21 x22 => wp_X11_read τ21 234 (xs 1) (xs 2) (fun τ23 x24 => wp_X11_thrown τ23 234 (fun τ25 x26 => ((x26 = x22) → (((¬ x22 = 0) → (K τ25)) ∧ ((x22 = 0) → ((((lg_cmp (tp_jl (τ25 503 0) (τ25 503 1)) (Int32.toInt64 x24)) = 0) → (K τ25)) ∧ ((¬ (lg_cmp (tp_jl (τ25 503 0) (τ25 503 1)) (Int32.toInt64 x24)) = 0) → False))))) ∧ ((¬ x26 = x22) → False))))
set_option maxHeartbeats 4000000 in
set_option maxRecDepth 100000 in
theorem cl_7 {w : WPar} {g : Cxt} {τ : TS} {b : Nat} {xs : Nat → Int32} (C : Cok w g cL_law RL wsL_law 9 14 560 600002 7302232) (D : CX w g) (N3 : tp_N3g g) (S : CS w g b 5 xs) (hl : w.2.1.stackTraces = false) (hN : tp_N w = 504) (h1 : tp_is w 0 7) (h2 : tp_is w 234 20) (h3 : tp_is w 503 33) (K : TS → Prop) (hK : ∀ τ2, K τ2 → Zt w g τ2 (512, 23300) 2739 [(4, .int 0), (3, .ref (w.1 503)), (2, .ref (w.1 234)), (1, .ref (w.1 0)), (0, .ref b)] []) (hw : wl_7 τ xs K) : Zt w g τ (504, 23236) 724 [(4, .int 0), (3, .ref (w.1 503)), (2, .ref (w.1 234)), (1, .ref (w.1 0)), (0, .ref b)] [] := by
  unfold wl_7 at hw
  refine z_aload_n C 3 (by rfl) dL_law_724 ?_
  refine z_aload_n C 4 (by rfl) dL_law_725 ?_
  refine z_iload C 0 (by rfl) dL_law_726 ?_
  refine z_iconst C 1 (by decide) dL_law_728 ?_
  refine z_iadd C dL_law_729 ?_
  refine z_sldn C S 1 (by decide) (by unfold vp_in; decide) dL_law_730 ?_
  refine z_aload_n C 4 (by rfl) dL_law_731 ?_
  refine z_iload C 0 (by rfl) dL_law_732 ?_
  refine z_iconst C 2 (by decide) dL_law_734 ?_
  refine z_iadd C dL_law_735 ?_
  refine z_sldn C S 2 (by decide) (by unfold vp_in; decide) dL_law_736 ?_
  refine z_aload_n C 1 (by rfl) dL_law_737 ?_
  refine zs_act C D N3 (hh := [(0, 10, 13, 19), (0, 10, 17, 21), (0, 10, 21, 13)]) (As := [.ref (w.1 0), .int (xs 1), .int (xs 2), .ref (w.1 503)]) (bytes := cL_read) (maxL := 5) (F1 := 8) (L1 := 132) (mc := 2) (ms := 12) (c_L_read w _ 0 (xs 1) (xs 2) 503 _ hl h1 h3 hw) 4 gL_law_L_read rfl (by decide +kernel) ⟨Nat.le_of_ble_eq_true rfl, Nat.le_of_ble_eq_true rfl⟩ rfl (Nat.le_of_ble_eq_true rfl) (k2 := (506, 23248)) rfl ⟨Nat.le_of_ble_eq_true rfl, Nat.le_of_ble_eq_true rfl⟩ rfl dL_law_738 (fun x22 τ21 hw => ?_)
  refine z_istore C [(5, .int x22), (4, .int 0), (3, .ref (w.1 503)), (2, .ref (w.1 234)), (1, .ref (w.1 0)), (0, .ref b)] dL_law_741 (by decide) rfl ?_
  refine z_aload_n C 3 (by rfl) dL_law_743 ?_
  refine z_aload_n C 5 (by rfl) dL_law_744 ?_
  refine z_iload C 1 (by rfl) dL_law_745 ?_
  refine z_iconst C 1 (by decide) dL_law_747 ?_
  refine z_iadd C dL_law_748 ?_
  refine z_sldn C S 1 (by decide) (by unfold vp_in; decide) dL_law_749 ?_
  refine z_aload_n C 5 (by rfl) dL_law_750 ?_
  refine z_iload C 1 (by rfl) dL_law_751 ?_
  refine z_iconst C 2 (by decide) dL_law_753 ?_
  refine z_iadd C dL_law_754 ?_
  refine z_sldn C S 2 (by decide) (by unfold vp_in; decide) dL_law_755 ?_
  refine zv_i C (As := [.int (xs 1), .int (xs 2)]) (bytes := cX11_read) (maxL := 7) (F1 := 2) (L1 := 43) (c_X11_read w _ 234 (xs 1) (xs 2) _ h2 hw) h2.2 (tE20 h2.1) rfl 2 gL_law_X11_read rfl (by decide +kernel) ⟨Nat.le_of_ble_eq_true rfl, Nat.le_of_ble_eq_true rfl⟩ rfl (Nat.le_of_ble_eq_true rfl) ⟨Nat.le_of_ble_eq_true rfl, Nat.le_of_ble_eq_true rfl⟩ rfl dL_law_756 (fun x24 τ23 hw => ?_)
  refine z_istore C [(6, .int x24), (5, .int x22), (4, .int 0), (3, .ref (w.1 503)), (2, .ref (w.1 234)), (1, .ref (w.1 0)), (0, .ref b)] dL_law_759 (by decide) rfl ?_
  refine z_aload_n C 4 (by rfl) dL_law_761 ?_
  refine zv_i C (As := []) (bytes := cX11_thrown) (maxL := 1) (F1 := 0) (L1 := 0) (c_X11_thrown w _ 234 _ h2 hw) h2.2 (tE20 h2.1) rfl 0 gL_law_X11_thrown rfl (by decide +kernel) ⟨Nat.le_of_ble_eq_true rfl, Nat.le_of_ble_eq_true rfl⟩ rfl (Nat.le_of_ble_eq_true rfl) ⟨Nat.le_of_ble_eq_true rfl, Nat.le_of_ble_eq_true rfl⟩ rfl dL_law_762 (fun x26 τ25 hw => ?_)
  refine z_iload C 1 (by rfl) dL_law_765 ?_
  refine z_icmp_eq (tgt := 772) C dL_law_767 (by decide) (fun c27 => ?_) (fun c27 => ?_)
  · have hw := hw.1 c27
    refine z_iload C 1 (by rfl) dL_law_772 ?_
    refine z_if_ne (tgt := 789) C dL_law_774 (by decide) (fun c28 => ?_) (fun c28 => ?_)
    · have hw := hw.1 c28
      refine z_goto (tgt := 2739) C dL_law_789 (by decide) ?_
      refine z_widen (512, 23300) (Nat.le_of_ble_eq_true rfl) (Nat.le_of_ble_eq_true rfl) ?_
      refine z_sub [2, 3, 4, 5, 6] [(4, .int 0), (3, .ref (w.1 503)), (2, .ref (w.1 234)), (1, .ref (w.1 0)), (0, .ref b)] rfl ?_
      exact hK _ hw
    · have hw := hw.2 c28
      refine z_aload_n C 3 (by rfl) dL_law_777 ?_
      refine z_iconst C 0 (by decide) dL_law_778 ?_
      refine z_lald C (x := 0) h3 (by unfold vp_in; decide) dL_law_779 ?_
      refine z_iload C 0 (by rfl) dL_law_780 ?_
      refine z_i2l C dL_law_782 ?_
      refine z_lcmp C dL_law_783 ?_
      refine z_if_eq (tgt := 789) C dL_law_784 (by decide) (fun c29 => ?_) (fun c29 => ?_)
      · have hw := hw.1 c29
        refine z_goto (tgt := 2739) C dL_law_789 (by decide) ?_
        refine z_widen (512, 23300) (Nat.le_of_ble_eq_true rfl) (Nat.le_of_ble_eq_true rfl) ?_
        refine z_sub [2, 3, 4, 5, 6] [(4, .int 0), (3, .ref (w.1 503)), (2, .ref (w.1 234)), (1, .ref (w.1 0)), (0, .ref b)] rfl ?_
        exact hK _ hw
      · have hw := hw.2 c29
        refine z_iconst C 0 (by decide) dL_law_787 ?_
        exact hw.elim
  · have hw := hw.2 c27
    refine z_iconst C 0 (by decide) dL_law_770 ?_
    exact hw.elim
