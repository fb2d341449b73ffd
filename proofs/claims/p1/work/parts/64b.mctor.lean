theorem tp_cl_sta : ∀ b : Fin 2, ∀ x : Fin 132, ∀ r ∈ tp_refs (239 + 132 * b.val + x.val), r = 234 ∨ (239 + 132 * b.val ≤ r ∧ r < 239 + 132 * b.val + 132) := by decide +kernel
theorem tp_jl00 : tp_jl 0 0 = 0 := by decide +kernel
theorem tp_blk5m (w : WPar) : tp_blk w 234 5 = [(w.1 234, tp_E w 234 (tp_t0 234)), (w.1 235, tp_E w 235 (tp_t0 235)), (w.1 236, tp_E w 236 (tp_t0 236)), (w.1 237, tp_E w 237 (tp_t0 237)), (w.1 238, tp_E w 238 (tp_t0 238))] := rfl
theorem tp_blk269 (w : WPar) : tp_blk w 234 5 ++ (tp_blk w 239 132 ++ tp_blk w 371 132) = tp_blk w 234 269 := by
  have h1 : tp_blk w 239 132 ++ tp_blk w 371 132 = tp_blk w 239 264 := tp_blk_app w 239 132 132
  have h2 : tp_blk w 234 5 ++ tp_blk w 239 264 = tp_blk w 234 269 := tp_blk_app w 234 5 264
  rw [h1, h2]
theorem mw_X11_init_0 : Cond.methodLink RX11 1 objectInit ∈ wsX11_init := List.mem_of_getElem? (i := 1) rfl
theorem mw_X11_init_1 : Cond.instanceMethod objectInit ∈ wsX11_init := List.mem_of_getElem? (i := 2) rfl
theorem mw_X11_init_2 : Cond.code objectInit ⟨#[0xb1]⟩ 1 none ∈ wsX11_init := List.mem_of_getElem? (i := 3) rfl
theorem mw_X11_init_3 : Cond.arrayClass .int ∈ wsX11_init := List.mem_of_getElem? (i := 4) rfl
theorem mw_X11_init_4 : Cond.fieldLink RX11 9 "TidePostModel" "first" "[I" ∈ wsX11_init := List.mem_of_getElem? (i := 5) rfl
theorem mw_X11_init_5 : Cond.fieldLink RX11 13 "TidePostModel" "second" "[I" ∈ wsX11_init := List.mem_of_getElem? (i := 6) rfl
theorem mw_X11_init_6 : Cond.fieldLink RX11 16 "TidePostModel" "delay" "[I" ∈ wsX11_init := List.mem_of_getElem? (i := 7) rfl
theorem mw_X11_init_7 : Cond.fieldLink RX11 19 "TidePostModel" "space" "[I" ∈ wsX11_init := List.mem_of_getElem? (i := 8) rfl
theorem mw_X11_init_8 : Cond.classLink RX11 22 RX10 ∈ wsX11_init := List.mem_of_getElem? (i := 9) rfl
theorem mw_X11_init_9 : Cond.instantiable RX10 13 ∈ wsX11_init := List.mem_of_getElem? (i := 10) rfl
theorem mw_X11_init_10 : Cond.initialized RX10 ∈ wsX11_init := List.mem_of_getElem? (i := 11) rfl
theorem mw_X11_init_13 : Cond.methodLink RX11 24 yX10_init ∈ wsX11_init := List.mem_of_getElem? (i := 14) rfl
theorem mw_X11_init_14 : Cond.instanceMethod yX10_init ∈ wsX11_init := List.mem_of_getElem? (i := 15) rfl
theorem mw_X11_init_11 : Cond.fieldLink RX11 27 "TidePostModel" "now" "LTidePostModel$State;" ∈ wsX11_init := List.mem_of_getElem? (i := 12) rfl
theorem mw_X11_init_12 : Cond.fieldLink RX11 31 "TidePostModel" "ahead" "LTidePostModel$State;" ∈ wsX11_init := List.mem_of_getElem? (i := 13) rfl
theorem in_X11_init_X11 : ∀ x ∈ wsX110, x ∈ wsX11_init := fun _ h => List.mem_cons_of_mem _ (List.mem_append_left _ (List.mem_append_left _ (List.mem_append_right _ h)))
theorem in_X11_init_X10 : ∀ x ∈ wsX100, x ∈ wsX11_init := fun _ h => List.mem_cons_of_mem _ (List.mem_append_left _ (List.mem_append_right _ h))
set_option maxHeartbeats 4000000 in
set_option maxRecDepth 100000 in
theorem g_X11_init (w : WPar) (h0 : Nat) : MG w yX11_init wsX11_init 3 54 268 17282 [.ref h0] [(h0, .inr (10, [.int 0, .int 0, .int 0, .null, .null, .null, .null, .null, .null, .long 0]))] (fun u2 => ∃ ad : Nat → Nat, ad 234 = h0 ∧ u2 = tp_blk (tp_wad w ad) 234 269) := by
  refine tp_enterG (cc := cX11_init) (maxL := 1) (own := RX11) (by decide) rfl rfl rfl (Nat.le_of_ble_eq_true rfl) (fun g A C hR => ?_)
  show Zg w g A [(h0, .inr (10, [.int 0, .int 0, .int 0, .null, .null, .null, .null, .null, .null, .long 0]))] (0, 0) 0 [(0, .ref h0)] []
  refine y_aload_n C 0 (by rfl) dX11_init_0 ?_
  refine y_objInit C mw_X11_init_0 mw_X11_init_1 mw_X11_init_2 dX11_init_1 (Nat.le_of_ble_eq_true rfl) (Nat.le_of_ble_eq_true rfl) ?_
  refine y_aload_n C 0 (by rfl) dX11_init_4 ?_
  refine y_bipush C 12 (by decide) dX11_init_5 ?_
  refine y_newI C 12 mw_X11_init_3 (by decide) (by decide) (Nat.le_of_ble_eq_true rfl) ⟨Nat.le_of_ble_eq_true rfl, Nat.le_of_ble_eq_true rfl⟩ dX11_init_7 (k2 := (1, 12)) rfl (fun q0 => ?_)
  refine y_eq (u2 := [(h0, .inr (10, [.int 0, .int 0, .int 0, .null, .null, .null, .null, .null, .null, .long 0])), (q0, .inl (w.2.2.1 0, 12, .inl (fun _ => 0)))]) rfl ?_
  refine y_put C (ci := 10) (T := TX11) (N := 10) 0 3 (tyX11 3) (by rfl) in_X11_init_X11 tyX11 tyX11_ok nmX11 rfl (by decide) mw_X11_init_4 rfl rfl rfl (tyX11_ok 3 (by decide)) rfl rfl (Nat.le_of_ble_eq_true rfl) (by decide) dX11_init_9 (u2 := [(h0, .inr (10, [.int 0, .int 0, .int 0, .ref q0, .null, .null, .null, .null, .null, .long 0])), (q0, .inl (w.2.2.1 0, 12, .inl (fun _ => 0)))]) rfl ?_
  refine y_aload_n C 0 (by rfl) dX11_init_12 ?_
  refine y_bipush C 12 (by decide) dX11_init_13 ?_
  refine y_newI C 12 mw_X11_init_3 (by decide) (by decide) (Nat.le_of_ble_eq_true rfl) ⟨Nat.le_of_ble_eq_true rfl, Nat.le_of_ble_eq_true rfl⟩ dX11_init_15 (k2 := (2, 24)) rfl (fun q1 => ?_)
  refine y_eq (u2 := [(h0, .inr (10, [.int 0, .int 0, .int 0, .ref q0, .null, .null, .null, .null, .null, .long 0])), (q0, .inl (w.2.2.1 0, 12, .inl (fun _ => 0))), (q1, .inl (w.2.2.1 0, 12, .inl (fun _ => 0)))]) rfl ?_
  refine y_put C (ci := 10) (T := TX11) (N := 10) 0 4 (tyX11 4) (by rfl) in_X11_init_X11 tyX11 tyX11_ok nmX11 rfl (by decide) mw_X11_init_5 rfl rfl rfl (tyX11_ok 4 (by decide)) rfl rfl (Nat.le_of_ble_eq_true rfl) (by decide) dX11_init_17 (u2 := [(h0, .inr (10, [.int 0, .int 0, .int 0, .ref q0, .ref q1, .null, .null, .null, .null, .long 0])), (q0, .inl (w.2.2.1 0, 12, .inl (fun _ => 0))), (q1, .inl (w.2.2.1 0, 12, .inl (fun _ => 0)))]) rfl ?_
  refine y_aload_n C 0 (by rfl) dX11_init_20 ?_
  refine y_bipush C 12 (by decide) dX11_init_21 ?_
  refine y_newI C 12 mw_X11_init_3 (by decide) (by decide) (Nat.le_of_ble_eq_true rfl) ⟨Nat.le_of_ble_eq_true rfl, Nat.le_of_ble_eq_true rfl⟩ dX11_init_23 (k2 := (3, 36)) rfl (fun q2 => ?_)
  refine y_eq (u2 := [(h0, .inr (10, [.int 0, .int 0, .int 0, .ref q0, .ref q1, .null, .null, .null, .null, .long 0])), (q0, .inl (w.2.2.1 0, 12, .inl (fun _ => 0))), (q1, .inl (w.2.2.1 0, 12, .inl (fun _ => 0))), (q2, .inl (w.2.2.1 0, 12, .inl (fun _ => 0)))]) rfl ?_
  refine y_put C (ci := 10) (T := TX11) (N := 10) 0 5 (tyX11 5) (by rfl) in_X11_init_X11 tyX11 tyX11_ok nmX11 rfl (by decide) mw_X11_init_6 rfl rfl rfl (tyX11_ok 5 (by decide)) rfl rfl (Nat.le_of_ble_eq_true rfl) (by decide) dX11_init_25 (u2 := [(h0, .inr (10, [.int 0, .int 0, .int 0, .ref q0, .ref q1, .ref q2, .null, .null, .null, .long 0])), (q0, .inl (w.2.2.1 0, 12, .inl (fun _ => 0))), (q1, .inl (w.2.2.1 0, 12, .inl (fun _ => 0))), (q2, .inl (w.2.2.1 0, 12, .inl (fun _ => 0)))]) rfl ?_
  refine y_aload_n C 0 (by rfl) dX11_init_28 ?_
  refine y_bipush C 12 (by decide) dX11_init_29 ?_
  refine y_newI C 12 mw_X11_init_3 (by decide) (by decide) (Nat.le_of_ble_eq_true rfl) ⟨Nat.le_of_ble_eq_true rfl, Nat.le_of_ble_eq_true rfl⟩ dX11_init_31 (k2 := (4, 48)) rfl (fun q3 => ?_)
  refine y_eq (u2 := [(h0, .inr (10, [.int 0, .int 0, .int 0, .ref q0, .ref q1, .ref q2, .null, .null, .null, .long 0])), (q0, .inl (w.2.2.1 0, 12, .inl (fun _ => 0))), (q1, .inl (w.2.2.1 0, 12, .inl (fun _ => 0))), (q2, .inl (w.2.2.1 0, 12, .inl (fun _ => 0))), (q3, .inl (w.2.2.1 0, 12, .inl (fun _ => 0)))]) rfl ?_
  refine y_put C (ci := 10) (T := TX11) (N := 10) 0 6 (tyX11 6) (by rfl) in_X11_init_X11 tyX11 tyX11_ok nmX11 rfl (by decide) mw_X11_init_7 rfl rfl rfl (tyX11_ok 6 (by decide)) rfl rfl (Nat.le_of_ble_eq_true rfl) (by decide) dX11_init_33 (u2 := [(h0, .inr (10, [.int 0, .int 0, .int 0, .ref q0, .ref q1, .ref q2, .ref q3, .null, .null, .long 0])), (q0, .inl (w.2.2.1 0, 12, .inl (fun _ => 0))), (q1, .inl (w.2.2.1 0, 12, .inl (fun _ => 0))), (q2, .inl (w.2.2.1 0, 12, .inl (fun _ => 0))), (q3, .inl (w.2.2.1 0, 12, .inl (fun _ => 0)))]) rfl ?_
  refine y_aload_n C 0 (by rfl) dX11_init_36 ?_
  refine y_new C (ci := 9) (T := TX10) (N := 13) [.int 0, .int 0, .int 0, .null, .null, .null, .null, .null, .null, .null, .null, .null, .null] in_X11_init_X10 tyX10 tyX10_ok mw_X11_init_8 mw_X11_init_9 mw_X11_init_10 rfl (fun j hj => by rcases (show j = 0 ∨ j = 1 ∨ j = 2 ∨ j = 3 ∨ j = 4 ∨ j = 5 ∨ j = 6 ∨ j = 7 ∨ j = 8 ∨ j = 9 ∨ j = 10 ∨ j = 11 ∨ j = 12 by omega) with rfl | rfl | rfl | rfl | rfl | rfl | rfl | rfl | rfl | rfl | rfl | rfl | rfl <;> rfl) ⟨Nat.le_of_ble_eq_true rfl, Nat.le_of_ble_eq_true rfl⟩ dX11_init_37 (k2 := (5, 61)) rfl (fun s0 => ?_)
  refine y_dup C rfl dX11_init_40 ?_
  refine y_aload_n C 0 (by rfl) dX11_init_41 ?_
  refine y_ctor C (As := [.ref h0]) (bytes := cX10_init) (maxL := 3) (F1 := 2) (L1 := 32) (mc := 131) (ms := 8604) (g_X10_init w (0 : Fin 2) s0 h0) 1 gX11_init_X10_init rfl mw_X11_init_10 mw_X11_init_13 mw_X11_init_14 rfl (by decide +kernel) ⟨Nat.le_of_ble_eq_true rfl, Nat.le_of_ble_eq_true rfl⟩ rfl (Nat.le_of_ble_eq_true rfl) ⟨Nat.le_of_ble_eq_true rfl, Nat.le_of_ble_eq_true rfl⟩ (k2 := (136, 8665)) rfl rfl dX11_init_42 (fun u2 hu => ?_)
  obtain ⟨ad1, had1, hm1, rfl⟩ := hu
  refine y_put C (ci := 10) (T := TX11) (N := 10) 0 7 (tyX11 7) (by rfl) in_X11_init_X11 tyX11 tyX11_ok nmX11 rfl (by decide) mw_X11_init_11 rfl rfl rfl (tyX11_ok 7 (by decide)) rfl rfl (Nat.le_of_ble_eq_true rfl) (by decide) dX11_init_45 (u2 := [(h0, .inr (10, [.int 0, .int 0, .int 0, .ref q0, .ref q1, .ref q2, .ref q3, .ref s0, .null, .long 0])), (q0, .inl (w.2.2.1 0, 12, .inl (fun _ => 0))), (q1, .inl (w.2.2.1 0, 12, .inl (fun _ => 0))), (q2, .inl (w.2.2.1 0, 12, .inl (fun _ => 0))), (q3, .inl (w.2.2.1 0, 12, .inl (fun _ => 0)))] ++ tp_blk (tp_wad w ad1) 239 132) rfl ?_
  refine y_aload_n C 0 (by rfl) dX11_init_48 ?_
  refine y_new C (ci := 9) (T := TX10) (N := 13) [.int 0, .int 0, .int 0, .null, .null, .null, .null, .null, .null, .null, .null, .null, .null] in_X11_init_X10 tyX10 tyX10_ok mw_X11_init_8 mw_X11_init_9 mw_X11_init_10 rfl (fun j hj => by rcases (show j = 0 ∨ j = 1 ∨ j = 2 ∨ j = 3 ∨ j = 4 ∨ j = 5 ∨ j = 6 ∨ j = 7 ∨ j = 8 ∨ j = 9 ∨ j = 10 ∨ j = 11 ∨ j = 12 by omega) with rfl | rfl | rfl | rfl | rfl | rfl | rfl | rfl | rfl | rfl | rfl | rfl | rfl <;> rfl) ⟨Nat.le_of_ble_eq_true rfl, Nat.le_of_ble_eq_true rfl⟩ dX11_init_49 (k2 := (137, 8678)) rfl (fun s1 => ?_)
  refine y_dup C rfl dX11_init_52 ?_
  refine y_aload_n C 0 (by rfl) dX11_init_53 ?_
  refine y_ctor C (As := [.ref h0]) (bytes := cX10_init) (maxL := 3) (F1 := 2) (L1 := 32) (mc := 131) (ms := 8604) (g_X10_init w (1 : Fin 2) s1 h0) 1 gX11_init_X10_init rfl mw_X11_init_10 mw_X11_init_13 mw_X11_init_14 rfl (by decide +kernel) ⟨Nat.le_of_ble_eq_true rfl, Nat.le_of_ble_eq_true rfl⟩ rfl (Nat.le_of_ble_eq_true rfl) ⟨Nat.le_of_ble_eq_true rfl, Nat.le_of_ble_eq_true rfl⟩ (k2 := (268, 17282)) rfl rfl dX11_init_54 (fun u2 hu => ?_)
  obtain ⟨ad2, had2, hm2, rfl⟩ := hu
  refine y_put C (ci := 10) (T := TX11) (N := 10) 0 8 (tyX11 8) (by rfl) in_X11_init_X11 tyX11 tyX11_ok nmX11 rfl (by decide) mw_X11_init_12 rfl rfl rfl (tyX11_ok 8 (by decide)) rfl rfl (Nat.le_of_ble_eq_true rfl) (by decide) dX11_init_57 (u2 := ([(h0, .inr (10, [.int 0, .int 0, .int 0, .ref q0, .ref q1, .ref q2, .ref q3, .ref s0, .ref s1, .long 0])), (q0, .inl (w.2.2.1 0, 12, .inl (fun _ => 0))), (q1, .inl (w.2.2.1 0, 12, .inl (fun _ => 0))), (q2, .inl (w.2.2.1 0, 12, .inl (fun _ => 0))), (q3, .inl (w.2.2.1 0, 12, .inl (fun _ => 0)))] ++ tp_blk (tp_wad w ad1) 239 132) ++ tp_blk (tp_wad w ad2) 371 132) rfl ?_
  refine hR _ _ _ dX11_init_60 ⟨fun x => if x = 234 then h0 else if x = 235 then q0 else if x = 236 then q1 else if x = 237 then q2 else if x = 238 then q3 else if x < 371 then ad1 x else ad2 x, rfl, ?_⟩
  have e2 : tp_blk (tp_wad w ad1) 239 132 = tp_blk (tp_wad w (fun x => if x = 234 then h0 else if x = 235 then q0 else if x = 236 then q1 else if x = 237 then q2 else if x = 238 then q3 else if x < 371 then ad1 x else ad2 x)) 239 132 := by
    apply tp_blk_congr
    · intro j h1 h2
      have h3 : ∀ r ∈ tp_refs j, r = 234 ∨ (239 ≤ r ∧ r < 371) := fun r hr => tp_cl_sta (0 : Fin 2) ⟨j - 239, by omega⟩ r (by show r ∈ tp_refs (239 + (j - 239)); rw [show 239 + (j - 239) = j by omega]; exact hr)
      have h4 : ∀ x, 239 ≤ x → x < 371 → ad1 x = (fun x => if x = 234 then h0 else if x = 235 then q0 else if x = 236 then q1 else if x = 237 then q2 else if x = 238 then q3 else if x < 371 then ad1 x else ad2 x : Nat → Nat) x := fun x ha hb => by
        show _ = ite _ _ _
        rw [if_neg (by omega), if_neg (by omega), if_neg (by omega), if_neg (by omega), if_neg (by omega), if_pos hb]
      refine ⟨h4 j h1 (by omega), fun r hr => ?_⟩
      rcases h3 r hr with rfl | h5
      · exact hm1
      · exact h4 r h5.1 h5.2
    · rfl
  have e3 : tp_blk (tp_wad w ad2) 371 132 = tp_blk (tp_wad w (fun x => if x = 234 then h0 else if x = 235 then q0 else if x = 236 then q1 else if x = 237 then q2 else if x = 238 then q3 else if x < 371 then ad1 x else ad2 x)) 371 132 := by
    apply tp_blk_congr
    · intro j h1 h2
      have h3 : ∀ r ∈ tp_refs j, r = 234 ∨ (371 ≤ r ∧ r < 503) := fun r hr => tp_cl_sta (1 : Fin 2) ⟨j - 371, by omega⟩ r (by show r ∈ tp_refs (371 + (j - 371)); rw [show 371 + (j - 371) = j by omega]; exact hr)
      have h4 : ∀ x, 371 ≤ x → x < 503 → ad2 x = (fun x => if x = 234 then h0 else if x = 235 then q0 else if x = 236 then q1 else if x = 237 then q2 else if x = 238 then q3 else if x < 371 then ad1 x else ad2 x : Nat → Nat) x := fun x ha hb => by
        show _ = ite _ _ _
        rw [if_neg (by omega), if_neg (by omega), if_neg (by omega), if_neg (by omega), if_neg (by omega), if_neg (by omega)]
      refine ⟨h4 j h1 (by omega), fun r hr => ?_⟩
      rcases h3 r hr with rfl | h5
      · exact hm2
      · exact h4 r h5.1 h5.2
    · rfl
  rw [e2, e3, ← tp_blk269, tp_blk5m, tE20 (show tp_kd 234 = 20 by decide), tE11 (show tp_kd 235 = 11 by decide), tE11 (show tp_kd 236 = 11 by decide), tE11 (show tp_kd 237 = 11 by decide), tE11 (show tp_kd 238 = 11 by decide), tp_t0z (show tp_kd 234 = 20 by decide) (by decide), tp_t0z (show tp_kd 235 = 11 by decide) (by decide), tp_t0z (show tp_kd 236 = 11 by decide) (by decide), tp_t0z (show tp_kd 237 = 11 by decide) (by decide), tp_t0z (show tp_kd 238 = 11 by decide) (by decide)]
  simp only [List.append_assoc, tp_jl00]
  show ([(h0, .inr (10, [.int 0, .int 0, .int 0, .ref q0, .ref q1, .ref q2, .ref q3, .ref s0, .ref s1, .long 0])), (q0, .inl (w.2.2.1 0, 12, .inl (fun _ => 0))), (q1, .inl (w.2.2.1 0, 12, .inl (fun _ => 0))), (q2, .inl (w.2.2.1 0, 12, .inl (fun _ => 0))), (q3, .inl (w.2.2.1 0, 12, .inl (fun _ => 0)))] : va_W) ++ _ = ([(h0, .inr (10, [.int 0, .int 0, .int 0, .ref q0, .ref q1, .ref q2, .ref q3, .ref (ad1 239), .ref (ad2 371), .long 0])), (q0, .inl (w.2.2.1 0, 12, .inl (fun _ => 0))), (q1, .inl (w.2.2.1 0, 12, .inl (fun _ => 0))), (q2, .inl (w.2.2.1 0, 12, .inl (fun _ => 0))), (q3, .inl (w.2.2.1 0, 12, .inl (fun _ => 0)))] : va_W) ++ _
  rw [show ad1 239 = s0 from had1, show ad2 371 = s1 from had2]
