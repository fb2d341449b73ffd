theorem tp_cl234 : ∀ i : Fin 234, ∀ r ∈ tp_refs i.val, r < 234 := by decide +kernel
theorem tp_cl503 : ∀ i : Fin 269, ∀ r ∈ tp_refs (234 + i.val), 234 ≤ r ∧ r < 503 := by decide +kernel
set_option maxHeartbeats 4000000 in
set_option maxRecDepth 100000 in
/-- YOUR PART: from the entry, for every script of at most 5 ints, the law comes to its end with true -/
theorem whole_start {p : Program} {e : Env} {s : State} {m : MethodId} {below : List Frame} {meth : Method} {c : Code} (l : Launch) (hflags : l.flags = flags0) {b L : Nat} {xs : Nat → Int32} (hL : L ≤ 5) (C0 : lw_At p s m meth c b L xs) : W p l e room_1 s m #[Value.ref b] below meth c s.heap [] 0 0 (lw_Z below #[Value.ref b] s) (entryFrame m ([Value.ref b] : List Value).toArray 9) := by
  obtain ⟨hx, hb, hr, hml, hown, hts, hX, hbl, hlocks, hgv⟩ := id C0
  have hl : l.stackTraces = false := by unfold Launch.stackTraces; rw [hflags]; decide +kernel
  obtain ⟨w, hwl, hwN, hK⟩ := st_K l hts
  have hNX := st_NX hts
  have hNF := st_NF hts
  have hN3 := st_N3 hgv
  have hts2 : ∀ x ∈ wsL_law, x.before #[Value.ref b] s = true := fun x h => hts x (wsL_law_in x h)
  have lm : ∀ x : Cond, x ∈ wsL_law → x ∈ wsL_law := fun _ h => h
  have key : Zg w (p, e, room_1, s, m, #[Value.ref b], below, meth, c, lw_Z below #[Value.ref b] s, 9) (fun q => s.heap.size ≤ q) [] (0, 0) 0 [(0, .ref b)] [] := by
    generalize hg : ((p, e, room_1, s, m, #[Value.ref b], below, meth, c, lw_Z below #[Value.ref b] s, 9) : Cxt) = g
    have CG : Cog w g (fun q => s.heap.size ≤ q) cL_law RL wsL_law 9 14 560 600002 7302232 := by rw [← hg]; exact ⟨hx, hb, hml, hown, hts2, hK, fun _ h => h, rfl, rfl, rfl, rfl, rfl, fun h => absurd rfl h, hNX⟩
    refine y_new CG (ci := 7) (T := TX8) (N := 4) [.null, .null, .null, .null] inlX8 tyX8 tyX8_ok (show Cond.classLink RL 8 RX8 ∈ wsL_law from (List.mem_of_getElem? (i := 0) (by decide +kernel))) (show Cond.instantiable RX8 4 ∈ wsL_law from (List.mem_of_getElem? (i := 1) (by decide +kernel))) (show Cond.initialized RX8 ∈ wsL_law from (List.mem_of_getElem? (i := 2) (by decide +kernel))) rfl (fun j hj => by rcases (show j = 0 ∨ j = 1 ∨ j = 2 ∨ j = 3 by omega) with rfl | rfl | rfl | rfl <;> rfl) ⟨Nat.le_of_ble_eq_true rfl, Nat.le_of_ble_eq_true rfl⟩ dL_law_0 (k2 := (1, 4)) rfl (fun q0 => ?_)
    refine y_dup CG rfl dL_law_3 ?_
    refine y_ctor CG (As := []) (bytes := cX8_init) (maxL := 1) (F1 := 5) (L1 := 94) (mc := 233) (ms := 5939) (g_X8_init w q0) 0 gL_law_X8_init rfl (show Cond.initialized RX8 ∈ wsL_law from (List.mem_of_getElem? (i := 2) (by decide +kernel))) (show Cond.methodLink RL 136 yX8_init ∈ wsL_law from (List.mem_of_getElem? (i := 7) (by decide +kernel))) (show Cond.instanceMethod yX8_init ∈ wsL_law from (List.mem_of_getElem? (i := 8) (by decide +kernel))) rfl (by decide +kernel) ⟨Nat.le_of_ble_eq_true rfl, Nat.le_of_ble_eq_true rfl⟩ rfl (Nat.le_of_ble_eq_true rfl) ⟨Nat.le_of_ble_eq_true rfl, Nat.le_of_ble_eq_true rfl⟩ (k2 := (234, 5943)) rfl rfl dL_law_4 (fun u2 hu => ?_)
    obtain ⟨ad1, had1, rfl⟩ := hu
    refine y_astore_n CG [(1, .ref q0), (0, .ref b)] dL_law_7 (by decide) rfl ?_
    refine y_new CG (ci := 10) (T := TX11) (N := 10) [.int 0, .int 0, .int 0, .null, .null, .null, .null, .null, .null, .long 0] inlX11 tyX11 tyX11_ok (show Cond.classLink RL 137 RX11 ∈ wsL_law from (List.mem_of_getElem? (i := 3) (by decide +kernel))) (show Cond.instantiable RX11 10 ∈ wsL_law from (List.mem_of_getElem? (i := 4) (by decide +kernel))) (show Cond.initialized RX11 ∈ wsL_law from (List.mem_of_getElem? (i := 5) (by decide +kernel))) rfl (fun j hj => by rcases (show j = 0 ∨ j = 1 ∨ j = 2 ∨ j = 3 ∨ j = 4 ∨ j = 5 ∨ j = 6 ∨ j = 7 ∨ j = 8 ∨ j = 9 by omega) with rfl | rfl | rfl | rfl | rfl | rfl | rfl | rfl | rfl | rfl <;> rfl) ⟨Nat.le_of_ble_eq_true rfl, Nat.le_of_ble_eq_true rfl⟩ dL_law_8 (k2 := (235, 5953)) rfl (fun q1 => ?_)
    refine y_dup CG rfl dL_law_11 ?_
    refine y_ctor CG (As := []) (bytes := cX11_init) (maxL := 1) (F1 := 3) (L1 := 54) (mc := 268) (ms := 17282) (g_X11_init w q1) 0 gL_law_X11_init rfl (show Cond.initialized RX11 ∈ wsL_law from (List.mem_of_getElem? (i := 5) (by decide +kernel))) (show Cond.methodLink RL 139 yX11_init ∈ wsL_law from (List.mem_of_getElem? (i := 81) (by decide +kernel))) (show Cond.instanceMethod yX11_init ∈ wsL_law from (List.mem_of_getElem? (i := 82) (by decide +kernel))) rfl (by decide +kernel) ⟨Nat.le_of_ble_eq_true rfl, Nat.le_of_ble_eq_true rfl⟩ rfl (Nat.le_of_ble_eq_true rfl) ⟨Nat.le_of_ble_eq_true rfl, Nat.le_of_ble_eq_true rfl⟩ (k2 := (503, 23235)) rfl rfl dL_law_12 (fun u2 hu => ?_)
    obtain ⟨ad2, had2, rfl⟩ := hu
    refine y_astore_n CG [(2, .ref q1), (1, .ref q0), (0, .ref b)] dL_law_15 (by decide) rfl ?_
    refine y_iconst CG 1 (by decide) dL_law_16 ?_
    refine y_newL1 CG (show Cond.arrayClass .long ∈ wsL_law from (List.mem_of_getElem? (i := 6) (by decide +kernel))) ⟨Nat.le_of_ble_eq_true rfl, Nat.le_of_ble_eq_true rfl⟩ dL_law_17 (k2 := (504, 23236)) rfl (fun q2 => ?_)
    refine y_astore_n CG [(3, .ref q2), (2, .ref q1), (1, .ref q0), (0, .ref b)] dL_law_19 (by decide) rfl ?_
    refine y_iconst CG 0 (by decide) dL_law_20 ?_
    refine y_istore CG [(4, .int 0), (3, .ref q2), (2, .ref q1), (1, .ref q0), (0, .ref b)] dL_law_21 (by decide) rfl ?_
    generalize hw2 : (((fun i => if i < 234 then ad1 i else if i < 503 then ad2 i else q2), w.2.1, w.2.2.1, w.2.2.2.1, w.2.2.2.2.1, 504) : WPar) = w2
    have hN2 : tp_N w2 = 504 := by rw [← hw2]; rfl
    have e2 : w2.2.1 = w.2.1 ∧ tp_tys w2 = tp_tys w ∧ tp_D w2 = tp_D w := by rw [← hw2]; exact ⟨rfl, rfl, rfl⟩
    have p0 : w2.1 0 = q0 := by rw [← hw2]; exact had1
    have p1 : w2.1 234 = q1 := by rw [← hw2]; exact had2
    have p2 : w2.1 503 = q2 := by rw [← hw2]; rfl
    have hu : (([] ++ tp_blk (tp_wad w ad1) 0 234) ++ tp_blk (tp_wad w ad2) 234 269) ++ [(q2, .inl (w.2.2.1 7, 1, .inr (.inl (fun _ => 0))))] = tp_W w2 tp_t0 := by
      have hE9 : ∀ (w3 w4 : WPar) (i : Nat) (f : Nat → Int32), w3.1 = w4.1 → w3.2.2.1 = w4.2.2.1 → tp_E w3 i f = tp_E w4 i f := fun w3 w4 i f h1 h2 => by unfold tp_E; rw [h1, h2]
      have hB : ∀ (w3 w4 : WPar) (i k : Nat), w3.1 = w4.1 → w3.2.2.1 = w4.2.2.1 → tp_blk w3 i k = tp_blk w4 i k := fun w3 w4 i k h1 h2 => by
        unfold tp_blk
        apply List.map_congr_left
        intro j hj
        rw [h1, hE9 w3 w4 j _ h1 h2]
      have s1 : tp_blk (tp_wad w ad1) 0 234 = tp_blk (tp_wad w w2.1) 0 234 := by
        apply tp_blk_congr
        · intro j h1 h2
          have h4 : ∀ x, x < 234 → ad1 x = w2.1 x := fun x hx => by rw [← hw2]; exact (if_pos hx).symm
          exact ⟨h4 j (by omega), fun r hr => h4 r (tp_cl234 ⟨j, by omega⟩ r hr)⟩
        · rfl
      have s2 : tp_blk (tp_wad w ad2) 234 269 = tp_blk (tp_wad w w2.1) 234 269 := by
        apply tp_blk_congr
        · intro j h1 h2
          have h4 : ∀ x, 234 ≤ x → x < 503 → ad2 x = w2.1 x := fun x hx hx2 => by
            rw [← hw2]
            show _ = ite _ _ _
            rw [if_neg (by omega), if_pos hx2]
          have h5 := tp_cl503 ⟨j - 234, by omega⟩
          rw [show 234 + (j - 234) = j by omega] at h5
          exact ⟨h4 j h1 (by omega), fun r hr => h4 r (h5 r hr).1 (h5 r hr).2⟩
        · rfl
      have s3 : [(q2, (.inl (w.2.2.1 7, 1, .inr (.inl (fun _ => 0))) : va_E))] = tp_blk (tp_wad w w2.1) 503 1 := by
        rw [tp_blk1, tE33 (show tp_kd 503 = 33 by decide), tp_t0z (show tp_kd 503 = 33 by decide) (by decide)]
        show _ = [(w2.1 503, _)]
        rw [p2]
        have e9 : (fun _ : Nat => tp_jl 0 0) = (fun _ => (0 : Int64)) := funext fun _ => tp_jl00
        show [(q2, (.inl (w.2.2.1 7, 1, .inr (.inl (fun _ => 0))) : va_E))] = [(q2, .inl (w.2.2.1 7, 1, .inr (.inl (fun _ : Nat => tp_jl 0 0))))]
        rw [e9]
      have s4 : tp_blk (tp_wad w w2.1) 0 234 ++ tp_blk (tp_wad w w2.1) 234 269 = tp_blk (tp_wad w w2.1) 0 503 := by
        have := tp_blk_app (tp_wad w w2.1) 0 234 269
        simpa using this
      have s5 : tp_blk (tp_wad w w2.1) 0 503 ++ tp_blk (tp_wad w w2.1) 503 1 = tp_blk (tp_wad w w2.1) 0 504 := by
        have := tp_blk_app (tp_wad w w2.1) 0 503 1
        simpa using this
      rw [List.nil_append, s1, s2, s3, s4, s5]
      have s6 : tp_blk (tp_wad w w2.1) 0 504 = tp_blk w2 0 504 := hB _ _ _ _ rfl (by rw [← hw2]; rfl)
      rw [s6]
      unfold tp_blk tp_W
      rw [hN2, List.range_eq_range']
    rw [← hg]
    refine tp_bridge hu e2.2.2 e2.1 (fun hj hlow => ?_)
    have hAb : ∀ a : Nat, a < s.heap.size → ¬ tp_A w2 s.heap.size a := fun a ha h => by
      rcases h with ⟨i, hi, h3⟩ | h3
      · have := hlow i hi
        omega
      · omega
    have C : Cok w2 (p, e, room_1, s, m, #[Value.ref b], below, meth, c, lw_Z below #[Value.ref b] s, 9) cL_law RL wsL_law 9 14 560 600002 7302232 := ⟨hx, hb, hml, hown, hts2, by rw [e2.2.2, e2.2.1]; exact hK, hj, rfl, rfl, rfl, rfl, rfl, hlocks, hNF⟩
    have hl2 : w2.2.1.stackTraces = false := by rw [e2.1, hwl]; exact hl
    have D : CX w2 (p, e, room_1, s, m, #[Value.ref b], below, meth, c, lw_Z below #[Value.ref b] s, 9) := ⟨st_X hts hgv hAb, hl2⟩
    have hE : ∀ (τ : TS) (k : Nat × Nat) (ls : List (Nat × Value)), k.1 ≤ 600002 → k.2 ≤ 7302232 → Zt w2 (p, e, room_1, s, m, #[Value.ref b], below, meth, c, lw_Z below #[Value.ref b] s, 9) τ k 2746 ls [.int 1] := fun τ k ls hk1 hk2 H locs la hla hP hS => by
      rw [e2.1, hwl]
      refine W.widen hk1 hk2 ?_
      refine va_forget (fun q hq => ?_) ?_
      · rcases hS.2.2 q hq with ⟨i, hi, h3⟩ | h3
        · rw [h3]; exact hlow i hi
        · exact h3
      · exact lw_ret (d0 := s.drawn) (Drawn.sameBut.refl s.drawn lw_cs) hx hb hr hlocks dL_law_2746
    have S : CS w2 (p, e, room_1, s, m, #[Value.ref b], below, meth, c, lw_Z below #[Value.ref b] s, 9) b L xs := ⟨hX, hbl, hAb b hbl⟩
    rw [← p0, ← p1, ← p2]
    refine z_iload C 0 (by rfl) dL_law_23 ?_
    refine z_aload_n C 4 (by rfl) dL_law_25 ?_
    refine z_slen C S dL_law_26 ?_
    refine z_iconst C 5 (by decide) dL_law_27 ?_
    refine z_isub C dL_law_28 ?_
    refine z_icmp_gt (tgt := 2745) C dL_law_29 (by decide) (fun _ => tp_out C hE (Nat.le_of_ble_eq_true rfl) (Nat.le_of_ble_eq_true rfl)) (fun c5 => ?_)
    have hL5 : L = 5 := by
      rcases Nat.lt_or_ge L 5 with h | h
      · refine absurd ?_ c5
        rcases (show L = 0 ∨ L = 1 ∨ L = 2 ∨ L = 3 ∨ L = 4 by omega) with rfl | rfl | rfl | rfl | rfl <;> decide
      · omega
    subst hL5
    exact tp_call C D hN3 S hl2 hN2 hE
  have hl9 := lv_entry ([.ref b]) (n := 9) (Nat.le_of_ble_eq_true rfl)
  rw [lg_entry_eq]
  have hz := key s.heap [] _ hl9 (fun k q h => by simp at h) ⟨fun i j p q h => by simp at h, fun k q h => by simp at h⟩ va_S.rf
  rw [hwl] at hz
  exact hz
