theorem tp_cl_net : ∀ x : Fin 16, ∀ r ∈ tp_refs (1 + x.val), 1 ≤ r ∧ r < 17 := by decide +kernel
theorem tp_cl_tr : ∀ b : Fin 2, ∀ x : Fin 105, ∀ r ∈ tp_refs (17 + 105 * b.val + x.val), r = 1 ∨ (17 + 105 * b.val ≤ r ∧ r < 17 + 105 * b.val + 105) := by decide +kernel
theorem tp_blk7 (w : WPar) : tp_blk w 227 7 = [(w.1 227, tp_E w 227 (tp_t0 227)), (w.1 228, tp_E w 228 (tp_t0 228)), (w.1 229, tp_E w 229 (tp_t0 229)), (w.1 230, tp_E w 230 (tp_t0 230)), (w.1 231, tp_E w 231 (tp_t0 231)), (w.1 232, tp_E w 232 (tp_t0 232)), (w.1 233, tp_E w 233 (tp_t0 233))] := rfl
theorem tp_blk234 (w : WPar) : tp_blk w 0 1 ++ (tp_blk w 1 16 ++ (tp_blk w 17 105 ++ (tp_blk w 122 105 ++ tp_blk w 227 7))) = tp_blk w 0 234 := by
  have h1 : tp_blk w 122 105 ++ tp_blk w 227 7 = tp_blk w 122 112 := tp_blk_app w 122 105 7
  have h2 : tp_blk w 17 105 ++ tp_blk w 122 112 = tp_blk w 17 217 := tp_blk_app w 17 105 112
  have h3 : tp_blk w 1 16 ++ tp_blk w 17 217 = tp_blk w 1 233 := tp_blk_app w 1 16 217
  have h4 : tp_blk w 0 1 ++ tp_blk w 1 233 = tp_blk w 0 234 := tp_blk_app w 0 1 233
  rw [h1, h2, h3, h4]
theorem mw_X8_init_0 : Cond.methodLink RX8 3 objectInit ∈ wsX8_init := List.mem_of_getElem? (i := 1) rfl
theorem mw_X8_init_1 : Cond.instanceMethod objectInit ∈ wsX8_init := List.mem_of_getElem? (i := 2) rfl
theorem mw_X8_init_2 : Cond.code objectInit ⟨#[0xb1]⟩ 1 none ∈ wsX8_init := List.mem_of_getElem? (i := 3) rfl
theorem mw_X8_init_3 : Cond.classLink RX8 9 RX3 ∈ wsX8_init := List.mem_of_getElem? (i := 4) rfl
theorem mw_X8_init_4 : Cond.instantiable RX3 9 ∈ wsX8_init := List.mem_of_getElem? (i := 5) rfl
theorem mw_X8_init_5 : Cond.initialized RX3 ∈ wsX8_init := List.mem_of_getElem? (i := 6) rfl
theorem mw_X8_init_15 : Cond.instanceMethod yX3_init ∈ wsX8_init := List.mem_of_getElem? (i := 16) rfl
theorem mw_X8_init_6 : Cond.fieldLink RX8 12 "TidePost" "net" "LTidePost$Net;" ∈ wsX8_init := List.mem_of_getElem? (i := 7) rfl
theorem mw_X8_init_7 : Cond.classLink RX8 16 RX6 ∈ wsX8_init := List.mem_of_getElem? (i := 8) rfl
theorem mw_X8_init_8 : Cond.instantiable RX6 6 ∈ wsX8_init := List.mem_of_getElem? (i := 9) rfl
theorem mw_X8_init_9 : Cond.initialized RX6 ∈ wsX8_init := List.mem_of_getElem? (i := 10) rfl
theorem mw_X8_init_27 : Cond.methodLink RX8 18 yX6_init ∈ wsX8_init := List.mem_of_getElem? (i := 28) rfl
theorem mw_X8_init_28 : Cond.instanceMethod yX6_init ∈ wsX8_init := List.mem_of_getElem? (i := 29) rfl
theorem mw_X8_init_10 : Cond.fieldLink RX8 21 "TidePost" "traffic" "LTidePost$Traffic;" ∈ wsX8_init := List.mem_of_getElem? (i := 11) rfl
theorem mw_X8_init_11 : Cond.fieldLink RX8 25 "TidePost" "ahead" "LTidePost$Traffic;" ∈ wsX8_init := List.mem_of_getElem? (i := 12) rfl
theorem mw_X8_init_12 : Cond.classLink RX8 28 "[[I" ∈ wsX8_init := List.mem_of_getElem? (i := 13) rfl
theorem mw_X8_init_13 : Cond.arrayClass .int ∈ wsX8_init := List.mem_of_getElem? (i := 14) rfl
theorem mw_X8_init_14 : Cond.fieldLink RX8 30 "TidePost" "values" "[[I" ∈ wsX8_init := List.mem_of_getElem? (i := 15) rfl
theorem in_X8_init_X8 : ∀ x ∈ wsX80, x ∈ wsX8_init := fun _ h => List.mem_cons_of_mem _ (List.mem_append_left _ (List.mem_append_left _ (List.mem_append_left _ (List.mem_append_left _ (List.mem_append_left _ (List.mem_append_left _ (List.mem_append_right _ h)))))))
theorem in_X8_init_X3 : ∀ x ∈ wsX30, x ∈ wsX8_init := fun _ h => List.mem_cons_of_mem _ (List.mem_append_left _ (List.mem_append_left _ (List.mem_append_left _ (List.mem_append_left _ (List.mem_append_left _ (List.mem_append_left _ (List.mem_append_left _ (List.mem_append_right _ h))))))))
theorem in_X8_init_X6 : ∀ x ∈ wsX60, x ∈ wsX8_init := fun _ h => List.mem_cons_of_mem _ (List.mem_append_left _ (List.mem_append_left _ (List.mem_append_left _ (List.mem_append_left _ (List.mem_append_left _ (List.mem_append_right _ h))))))
set_option maxHeartbeats 4000000 in
set_option maxRecDepth 100000 in
theorem g_X8_init (w : WPar) (h0 : Nat) : MG w yX8_init wsX8_init 5 94 233 5939 [.ref h0] [(h0, .inr (7, [.null, .null, .null, .null]))] (fun u2 => ∃ ad : Nat → Nat, ad 0 = h0 ∧ u2 = tp_blk (tp_wad w ad) 0 234) := by
  refine tp_enterG (cc := cX8_init) (maxL := 1) (own := RX8) (by decide) rfl rfl rfl (Nat.le_of_ble_eq_true rfl) (fun g A C hR => ?_)
  show Zg w g A [(h0, .inr (7, [.null, .null, .null, .null]))] (0, 0) 0 [(0, .ref h0)] []
  refine y_aload_n C 0 (by rfl) dX8_init_0 ?_
  refine y_objInit C mw_X8_init_0 mw_X8_init_1 mw_X8_init_2 dX8_init_1 (Nat.le_of_ble_eq_true rfl) (Nat.le_of_ble_eq_true rfl) ?_
  refine y_aload_n C 0 (by rfl) dX8_init_4 ?_
  refine y_new C (ci := 3) (T := TX3) (N := 9) [.int 0, .int 0, .null, .null, .null, .null, .null, .null, .null] in_X8_init_X3 tyX3 tyX3_ok mw_X8_init_3 mw_X8_init_4 mw_X8_init_5 rfl (fun j hj => by rcases (show j = 0 ∨ j = 1 ∨ j = 2 ∨ j = 3 ∨ j = 4 ∨ j = 5 ∨ j = 6 ∨ j = 7 ∨ j = 8 by omega) with rfl | rfl | rfl | rfl | rfl | rfl | rfl | rfl | rfl <;> rfl) ⟨Nat.le_of_ble_eq_true rfl, Nat.le_of_ble_eq_true rfl⟩ dX8_init_5 (k2 := (1, 9)) rfl (fun q0 => ?_)
  refine y_dup C rfl dX8_init_8 ?_
  refine y_ctorN C (As := []) (bytes := cX3_init) (maxL := 1) (F1 := 1) (L1 := 12) (mc := 15) (ms := 140) (g_X3_init w q0) 0 gX8_init_X3_init_n11 rfl mw_X8_init_5 "TidePost" (fun _ h => h.1.1) mw_X8_init_15 rfl (by decide +kernel) ⟨Nat.le_of_ble_eq_true rfl, Nat.le_of_ble_eq_true rfl⟩ rfl (Nat.le_of_ble_eq_true rfl) ⟨Nat.le_of_ble_eq_true rfl, Nat.le_of_ble_eq_true rfl⟩ (k2 := (16, 149)) rfl rfl dX8_init_9 (fun u2 hu => ?_)
  obtain ⟨ad1, had1, rfl⟩ := hu
  refine y_put C (ci := 7) (T := TX8) (N := 4) 0 0 (tyX8 0) (by rfl) in_X8_init_X8 tyX8 tyX8_ok nmX8 rfl (by decide) mw_X8_init_6 rfl rfl rfl (tyX8_ok 0 (by decide)) rfl rfl (Nat.le_of_ble_eq_true rfl) (by decide) dX8_init_12 (u2 := [(h0, .inr (7, [.ref q0, .null, .null, .null]))] ++ tp_blk (tp_wad w ad1) 1 16) rfl ?_
  refine y_aload_n C 0 (by rfl) dX8_init_15 ?_
  refine y_new C (ci := 5) (T := TX6) (N := 6) [.null, .null, .null, .int 0, .int 0, .int 0] in_X8_init_X6 tyX6 tyX6_ok mw_X8_init_7 mw_X8_init_8 mw_X8_init_9 rfl (fun j hj => by rcases (show j = 0 ∨ j = 1 ∨ j = 2 ∨ j = 3 ∨ j = 4 ∨ j = 5 by omega) with rfl | rfl | rfl | rfl | rfl | rfl <;> rfl) ⟨Nat.le_of_ble_eq_true rfl, Nat.le_of_ble_eq_true rfl⟩ dX8_init_16 (k2 := (17, 155)) rfl (fun q1 => ?_)
  refine y_dup C rfl dX8_init_19 ?_
  refine y_aload_n C 0 (by rfl) dX8_init_20 ?_
  refine y_get C (ci := 7) (T := TX8) (N := 4) 0 0 (by rfl) in_X8_init_X8 rfl (by decide) mw_X8_init_6 rfl rfl dX8_init_21 ?_
  refine y_ctor C (As := [.ref q0]) (bytes := cX6_init) (maxL := 3) (F1 := 4) (L1 := 72) (mc := 104) (ms := 2286) (g_X6_init w (0 : Fin 2) q1 q0) 1 gX8_init_X6_init rfl mw_X8_init_9 mw_X8_init_27 mw_X8_init_28 rfl (by decide +kernel) ⟨Nat.le_of_ble_eq_true rfl, Nat.le_of_ble_eq_true rfl⟩ rfl (Nat.le_of_ble_eq_true rfl) ⟨Nat.le_of_ble_eq_true rfl, Nat.le_of_ble_eq_true rfl⟩ (k2 := (121, 2441)) rfl rfl dX8_init_24 (fun u2 hu => ?_)
  obtain ⟨ad2, had2, hne2, rfl⟩ := hu
  refine y_put C (ci := 7) (T := TX8) (N := 4) 0 1 (tyX8 1) (by rfl) in_X8_init_X8 tyX8 tyX8_ok nmX8 rfl (by decide) mw_X8_init_10 rfl rfl rfl (tyX8_ok 1 (by decide)) rfl rfl (Nat.le_of_ble_eq_true rfl) (by decide) dX8_init_27 (u2 := ([(h0, .inr (7, [.ref q0, .ref q1, .null, .null]))] ++ tp_blk (tp_wad w ad1) 1 16) ++ tp_blk (tp_wad w ad2) 17 105) rfl ?_
  refine y_aload_n C 0 (by rfl) dX8_init_30 ?_
  refine y_new C (ci := 5) (T := TX6) (N := 6) [.null, .null, .null, .int 0, .int 0, .int 0] in_X8_init_X6 tyX6 tyX6_ok mw_X8_init_7 mw_X8_init_8 mw_X8_init_9 rfl (fun j hj => by rcases (show j = 0 ∨ j = 1 ∨ j = 2 ∨ j = 3 ∨ j = 4 ∨ j = 5 by omega) with rfl | rfl | rfl | rfl | rfl | rfl <;> rfl) ⟨Nat.le_of_ble_eq_true rfl, Nat.le_of_ble_eq_true rfl⟩ dX8_init_31 (k2 := (122, 2447)) rfl (fun q2 => ?_)
  refine y_dup C rfl dX8_init_34 ?_
  refine y_aload_n C 0 (by rfl) dX8_init_35 ?_
  refine y_get C (ci := 7) (T := TX8) (N := 4) 0 0 (by rfl) in_X8_init_X8 rfl (by decide) mw_X8_init_6 rfl rfl dX8_init_36 ?_
  refine y_ctor C (As := [.ref q0]) (bytes := cX6_init) (maxL := 3) (F1 := 4) (L1 := 72) (mc := 104) (ms := 2286) (g_X6_init w (1 : Fin 2) q2 q0) 1 gX8_init_X6_init rfl mw_X8_init_9 mw_X8_init_27 mw_X8_init_28 rfl (by decide +kernel) ⟨Nat.le_of_ble_eq_true rfl, Nat.le_of_ble_eq_true rfl⟩ rfl (Nat.le_of_ble_eq_true rfl) ⟨Nat.le_of_ble_eq_true rfl, Nat.le_of_ble_eq_true rfl⟩ (k2 := (226, 4733)) rfl rfl dX8_init_39 (fun u2 hu => ?_)
  obtain ⟨ad3, had3, hne3, rfl⟩ := hu
  refine y_put C (ci := 7) (T := TX8) (N := 4) 0 2 (tyX8 2) (by rfl) in_X8_init_X8 tyX8 tyX8_ok nmX8 rfl (by decide) mw_X8_init_11 rfl rfl rfl (tyX8_ok 2 (by decide)) rfl rfl (Nat.le_of_ble_eq_true rfl) (by decide) dX8_init_42 (u2 := (([(h0, .inr (7, [.ref q0, .ref q1, .ref q2, .null]))] ++ tp_blk (tp_wad w ad1) 1 16) ++ tp_blk (tp_wad w ad2) 17 105) ++ tp_blk (tp_wad w ad3) 122 105) rfl ?_
  refine y_aload_n C 0 (by rfl) dX8_init_45 ?_
  refine y_bipush C 6 (by decide) dX8_init_46 ?_
  refine y_sipush C 200 (by decide) dX8_init_48 ?_
  refine y_mna C 6 200 mw_X8_init_12 mw_X8_init_13 (by decide) (by decide) (by decide) (by decide) (Nat.le_of_ble_eq_true rfl) (Nat.le_of_ble_eq_true rfl) (Nat.le_of_ble_eq_true rfl) ⟨Nat.le_of_ble_eq_true rfl, Nat.le_of_ble_eq_true rfl⟩ dX8_init_51 (k2 := (233, 5939)) rfl (fun qo r => ?_)
  refine y_put C (ci := 7) (T := TX8) (N := 4) 0 3 (tyX8 3) (by rfl) in_X8_init_X8 tyX8 tyX8_ok nmX8 rfl (by decide) mw_X8_init_14 rfl rfl rfl (tyX8_ok 3 (by decide)) rfl rfl (Nat.le_of_ble_eq_true rfl) (by decide) dX8_init_55 (u2 := ((([(h0, .inr (7, [.ref q0, .ref q1, .ref q2, .ref qo]))] ++ tp_blk (tp_wad w ad1) 1 16) ++ tp_blk (tp_wad w ad2) 17 105) ++ tp_blk (tp_wad w ad3) 122 105) ++ ((qo, .inl (w.2.2.1 4, 6, .inr (.inr (.inr (.inr (fun i => if i < 6 then some (r i) else none)))))) :: (List.range 6).map (fun i => (r i, .inl (w.2.2.1 0, 200, .inl (fun _ => 0)))))) rfl ?_
  refine hR _ _ _ dX8_init_58 ⟨fun x => if x = 0 then h0 else if x < 17 then ad1 x else if x < 122 then ad2 x else if x < 227 then ad3 x else if x = 227 then qo else r (x - 228), rfl, ?_⟩
  have e1 : tp_blk (tp_wad w ad1) 1 16 = tp_blk (tp_wad w (fun x => if x = 0 then h0 else if x < 17 then ad1 x else if x < 122 then ad2 x else if x < 227 then ad3 x else if x = 227 then qo else r (x - 228))) 1 16 := by
    apply tp_blk_congr
    · intro j h1 h2
      have h3 : ∀ r ∈ tp_refs j, 1 ≤ r ∧ r < 17 := fun r hr => tp_cl_net ⟨j - 1, by omega⟩ r (by show r ∈ tp_refs (1 + (j - 1)); rw [show 1 + (j - 1) = j by omega]; exact hr)
      have h4 : ∀ x, 1 ≤ x → x < 17 → ad1 x = (fun x => if x = 0 then h0 else if x < 17 then ad1 x else if x < 122 then ad2 x else if x < 227 then ad3 x else if x = 227 then qo else r (x - 228) : Nat → Nat) x := fun x ha hb => by show _ = ite _ _ _; rw [if_neg (by omega), if_pos hb]
      exact ⟨h4 j h1 (by omega), fun r hr => h4 r (h3 r hr).1 (h3 r hr).2⟩
    · rfl
  have e2 : tp_blk (tp_wad w ad2) 17 105 = tp_blk (tp_wad w (fun x => if x = 0 then h0 else if x < 17 then ad1 x else if x < 122 then ad2 x else if x < 227 then ad3 x else if x = 227 then qo else r (x - 228))) 17 105 := by
    apply tp_blk_congr
    · intro j h1 h2
      have h3 : ∀ r ∈ tp_refs j, r = 1 ∨ (17 ≤ r ∧ r < 122) := fun r hr => tp_cl_tr (0 : Fin 2) ⟨j - 17, by omega⟩ r (by show r ∈ tp_refs (17 + (j - 17)); rw [show 17 + (j - 17) = j by omega]; exact hr)
      have h4 : ∀ x, 17 ≤ x → x < 122 → ad2 x = (fun x => if x = 0 then h0 else if x < 17 then ad1 x else if x < 122 then ad2 x else if x < 227 then ad3 x else if x = 227 then qo else r (x - 228) : Nat → Nat) x := fun x ha hb => by
        show _ = ite _ _ _
        rw [if_neg (by omega), if_neg (by omega), if_pos hb]
      refine ⟨h4 j h1 (by omega), fun r hr => ?_⟩
      rcases h3 r hr with rfl | h5
      · exact hne2.trans had1.symm
      · exact h4 r h5.1 h5.2
    · rfl
  have e3 : tp_blk (tp_wad w ad3) 122 105 = tp_blk (tp_wad w (fun x => if x = 0 then h0 else if x < 17 then ad1 x else if x < 122 then ad2 x else if x < 227 then ad3 x else if x = 227 then qo else r (x - 228))) 122 105 := by
    apply tp_blk_congr
    · intro j h1 h2
      have h3 : ∀ r ∈ tp_refs j, r = 1 ∨ (122 ≤ r ∧ r < 227) := fun r hr => tp_cl_tr (1 : Fin 2) ⟨j - 122, by omega⟩ r (by show r ∈ tp_refs (122 + (j - 122)); rw [show 122 + (j - 122) = j by omega]; exact hr)
      have h4 : ∀ x, 122 ≤ x → x < 227 → ad3 x = (fun x => if x = 0 then h0 else if x < 17 then ad1 x else if x < 122 then ad2 x else if x < 227 then ad3 x else if x = 227 then qo else r (x - 228) : Nat → Nat) x := fun x ha hb => by
        show _ = ite _ _ _
        rw [if_neg (by omega), if_neg (by omega), if_neg (by omega), if_pos hb]
      refine ⟨h4 j h1 (by omega), fun r hr => ?_⟩
      rcases h3 r hr with rfl | h5
      · exact hne3.trans had1.symm
      · exact h4 r h5.1 h5.2
    · rfl
  have e4 : ((qo, .inl (w.2.2.1 4, 6, .inr (.inr (.inr (.inr (fun i => if i < 6 then some (r i) else none)))))) :: (List.range 6).map (fun i => (r i, .inl (w.2.2.1 0, 200, .inl (fun _ => 0))))) = tp_blk (tp_wad w (fun x => if x = 0 then h0 else if x < 17 then ad1 x else if x < 122 then ad2 x else if x < 227 then ad3 x else if x = 227 then qo else r (x - 228))) 227 7 := by
    rw [tp_blk7, tE17 (show tp_kd 227 = 17 by decide), tE18 (show tp_kd 228 = 18 by decide), tE18 (show tp_kd 229 = 18 by decide), tE18 (show tp_kd 230 = 18 by decide), tE18 (show tp_kd 231 = 18 by decide), tE18 (show tp_kd 232 = 18 by decide), tE18 (show tp_kd 233 = 18 by decide), tp_t0z (show tp_kd 228 = 18 by decide) (by decide), tp_t0z (show tp_kd 229 = 18 by decide) (by decide), tp_t0z (show tp_kd 230 = 18 by decide) (by decide), tp_t0z (show tp_kd 231 = 18 by decide) (by decide), tp_t0z (show tp_kd 232 = 18 by decide) (by decide), tp_t0z (show tp_kd 233 = 18 by decide) (by decide)]
    have e8 : (fun j : Nat => if j < 6 then some ((tp_wad w (fun x => if x = 0 then h0 else if x < 17 then ad1 x else if x < 122 then ad2 x else if x < 227 then ad3 x else if x = 227 then qo else r (x - 228))).1 (228 + j)) else none) = fun i => if i < 6 then some (r i) else none := by
      funext j; by_cases hj : j < 6
      · rw [if_pos hj, if_pos hj]; rcases (show j = 0 ∨ j = 1 ∨ j = 2 ∨ j = 3 ∨ j = 4 ∨ j = 5 by omega) with rfl | rfl | rfl | rfl | rfl | rfl <;> rfl
      · rw [if_neg hj, if_neg hj]
    rw [e8]
    rfl
  rw [e1, e2, e3, e4, ← tp_blk234, tp_blk1, tE7 (show tp_kd 0 = 7 by decide)]
  simp only [List.append_assoc]
  show ([(h0, .inr (7, [.ref q0, .ref q1, .ref q2, .ref qo]))] : va_W) ++ _ = [(h0, .inr (7, [.ref (ad1 1), .ref (ad2 17), .ref (ad3 122), .ref qo]))] ++ _
  rw [had1, show ad2 17 = q1 from had2, show ad3 122 = q2 from had3]
