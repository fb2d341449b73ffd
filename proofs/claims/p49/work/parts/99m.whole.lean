set_option maxHeartbeats 4000000 in
set_option maxRecDepth 100000 in
/-- YOUR PART: from the entry, for every script of at most 260 ints, the law comes to its end with true ('hflags': the launch's flags, for a law that throws: no stack traces) -/
theorem whole_start {p : Program} {e : Env} {s : State} {m : MethodId} {below : List Frame} {meth : Method} {c : Code} (l : Launch) (hflags : l.flags = flags0) {b L : Nat} {xs : Nat → Int32} (hL : L ≤ 260) (C0 : lw_At p s m meth c b L xs) : W p l e room_1 s m #[Value.ref b] below meth c s.heap [] 0 0 (lw_Z below #[Value.ref b] s) (entryFrame m ([Value.ref b] : List Value).toArray 9) := by
  obtain ⟨hx, hb, hr, hml, hown, hts, hX, hbl, hlocks, hgv⟩ := id C0
  have hl : l.stackTraces = false := by unfold Launch.stackTraces; rw [hflags]; decide +kernel
  obtain ⟨w, hwl, hwN, hK⟩ := st_K l hts
  have hNX := st_NX hts
  have hN3 := st_N3 hgv
  have hts2 : ∀ x ∈ wsL_law, x.before #[Value.ref b] s = true := fun x h => hts x (wsL_law_in x h)
  have key : Zg w (p, e, room_1, s, m, #[Value.ref b], below, meth, c, lw_Z below #[Value.ref b] s, 9) (fun q => s.heap.size ≤ q) [] (0, 0) 0 [(0, .ref b)] [] := by
    generalize hg : ((p, e, room_1, s, m, #[Value.ref b], below, meth, c, lw_Z below #[Value.ref b] s, 9) : Cxt) = g
    have CG : Cog w g (fun q => s.heap.size ≤ q) cL_law RL wsL_law 9 12 452 600104 7301314 := by rw [← hg]; exact ⟨hx, hb, hml, hown, hts2, hK, fun _ h => h, rfl, rfl, rfl, rfl, rfl, fun h => absurd rfl h, hNX⟩
    refine y_new CG (ci := 7) (T := TX8) (N := 4) [.null, .null, .null, .null] inlX8 tyX8 tyX8_ok (lawTab_0 _ (List.mem_of_getElem? (i := 0) rfl)) (lawTab_0 _ (List.mem_of_getElem? (i := 1) rfl)) (lawTab_0 _ (List.mem_of_getElem? (i := 2) rfl)) rfl (fun j hj => by rcases (show j = 0 ∨ j = 1 ∨ j = 2 ∨ j = 3 by omega) with rfl | rfl | rfl | rfl <;> rfl) ⟨Nat.le_of_ble_eq_true rfl, Nat.le_of_ble_eq_true rfl⟩ dL_law_0 (k2 := (1, 4)) rfl (fun q0 => ?_)
    refine y_dup CG rfl dL_law_3 ?_
    refine y_ctor CG (As := []) (bytes := cX8_init) (maxL := 1) (F1 := 5) (L1 := 94) (mc := 233) (ms := 5939) (g_X8_init w q0) 0 gL_law_X8_init rfl (lawTab_0 _ (List.mem_of_getElem? (i := 2) rfl)) (lawTab_0 _ (List.mem_of_getElem? (i := 4) rfl)) (lawTab_0 _ (List.mem_of_getElem? (i := 5) rfl)) rfl (by decide +kernel) ⟨Nat.le_of_ble_eq_true rfl, Nat.le_of_ble_eq_true rfl⟩ rfl (Nat.le_of_ble_eq_true rfl) ⟨Nat.le_of_ble_eq_true rfl, Nat.le_of_ble_eq_true rfl⟩ (k2 := (234, 5943)) rfl rfl dL_law_4 (fun u2 hu => ?_)
    obtain ⟨ad1, had1, rfl⟩ := hu
    refine y_astore_n CG [(1, .ref q0), (0, .ref b)] dL_law_7 (by decide) rfl ?_
    generalize hw2 : tp_wad w ad1 = w2
    have hN2 : tp_N w2 = 234 := by rw [← hw2]; exact hwN
    have e2 : w2.2.1 = w.2.1 ∧ tp_tys w2 = tp_tys w ∧ tp_D w2 = tp_D w := by rw [← hw2]; exact ⟨rfl, rfl, rfl⟩
    have p0 : w2.1 0 = q0 := by rw [← hw2]; exact had1
    have hu : [] ++ tp_blk w2 0 234 = tp_W w2 tp_t0 := by
      rw [List.nil_append]
      unfold tp_blk tp_W
      rw [hN2, List.range_eq_range']
    rw [← hg]
    refine tp_bridge hu e2.2.2 e2.1 (fun hj hlow => ?_)
    have hAb : ∀ a : Nat, a < s.heap.size → ¬ tp_A w2 s.heap.size a := fun a ha h => by
      rcases h with ⟨i, hi, h3⟩ | h3
      · have := hlow i hi
        omega
      · omega
    have C : Cok w2 (p, e, room_1, s, m, #[Value.ref b], below, meth, c, lw_Z below #[Value.ref b] s, 9) cL_law RL wsL_law 9 12 452 600104 7301314 := ⟨hx, hb, hml, hown, hts2, by rw [e2.2.2, e2.2.1]; exact hK, hj, rfl, rfl, rfl, rfl, rfl, hlocks⟩
    have hl2 : w2.2.1.stackTraces = false := by rw [e2.1, hwl]; exact hl
    have D : CX w2 (p, e, room_1, s, m, #[Value.ref b], below, meth, c, lw_Z below #[Value.ref b] s, 9) := ⟨st_X hts hgv hAb, hl2⟩
    have hE : ∀ (τ : TS) (k : Nat × Nat) (ls : List (Nat × Value)), k.1 ≤ 600104 → k.2 ≤ 7301314 → Zt w2 (p, e, room_1, s, m, #[Value.ref b], below, meth, c, lw_Z below #[Value.ref b] s, 9) τ k 150 ls [.int 1] := fun τ k ls hk1 hk2 H locs la hla hP hS => by
      rw [e2.1, hwl]
      refine W.widen hk1 hk2 ?_
      refine va_forget (fun q hq => ?_) ?_
      · rcases hS.2.2 q hq with ⟨i, hi, h3⟩ | h3
        · rw [h3]; exact hlow i hi
        · exact h3
      · exact lw_ret hx hb hr hlocks dL_law_150
    have S : CS w2 (p, e, room_1, s, m, #[Value.ref b], below, meth, c, lw_Z below #[Value.ref b] s, 9) b L xs := ⟨hX, hbl, hAb b hbl⟩
    have N3 : ∀ p2 e2 R2 s2 m2 args2 below2 meth2 c2 Q2 nL2, ((p, e, room_1, s, m, #[Value.ref b], below, meth, c, lw_Z below #[Value.ref b] s, 9) : Cxt) = (p2, e2, R2, s2, m2, args2, below2, meth2, c2, Q2, nL2) → tp_N3 s2 := fun _ _ _ s2 _ _ _ _ _ _ _ h => by
      have h4 : s = s2 := congrArg (fun z : Cxt => z.2.2.2.1) h
      rw [← h4]
      exact hN3
    rw [hg] at C D hE S N3 ⊢
    rw [← p0]
    clear hg CG
    refine z_iconst C 2 (by decide) dL_law_8 ?_
    refine z_aload_n C 1 (by rfl) dL_law_9 ?_
    refine z_iconst C (nI 0) (by decide) dL_law_10 ?_
    refine zs_script C S (As := [.ref b, .int (nI 0)]) (bytes := cL_cell) (maxL := 2) (F1 := 0) (L1 := 0) (K := fun τ2 _ => τ2 = tp_t0) (c_L_cell w2 tp_t0 b L xs (by omega) 0 (by decide) _ (fun _ => rfl)) 2 gL_law_L_cell rfl (by decide +kernel) ⟨Nat.le_of_ble_eq_true rfl, Nat.le_of_ble_eq_true rfl⟩ rfl (Nat.le_of_ble_eq_true rfl) ⟨Nat.le_of_ble_eq_true rfl, Nat.le_of_ble_eq_true rfl⟩ rfl dL_law_11 (fun r τ1 q => ?_)
    subst q
    refine z_iconst C 5 (by decide) dL_law_14 ?_
    refine zs_i C (As := [.int r, .int 5]) (bytes := cL_below) (maxL := 2) (F1 := 0) (L1 := 0) (K := fun τ2 v => τ2 = tp_t0 ∧ v = bel r 5) (c_L_below w2 tp_t0 r 5 _ (s_below (by decide) ⟨rfl, rfl⟩)) 2 gL_law_L_below rfl (by decide +kernel) ⟨Nat.le_of_ble_eq_true rfl, Nat.le_of_ble_eq_true rfl⟩ rfl (Nat.le_of_ble_eq_true rfl) ⟨Nat.le_of_ble_eq_true rfl, Nat.le_of_ble_eq_true rfl⟩ rfl dL_law_15 (fun v τ1 q => ?_)
    obtain ⟨rfl, rfl⟩ := q
    have h5 := bel_r r (n := 5) (d := 5) rfl (by decide)
    refine z_iadd C dL_law_18 ?_
    have ey : ∃ n : Nat, 2 ≤ n ∧ n ≤ 6 ∧ 2 + bel r 5 = nI n := by
      have e1 : (2 + bel r 5).toInt = 2 + (bel r 5).toInt := by
        simp only [fa_lt, fa_le, fa_eq, q_add, q_sub, q_ite, Int32.reduceToInt]
        omega
      exact ⟨(2 + bel r 5).toInt.toNat, by omega, by omega, q_asN (by omega)⟩
    obtain ⟨n, n2, n6, en⟩ := ey
    rw [en]
    refine z_istore_n C [(2, .int (nI n)), (1, .ref (w2.1 0)), (0, .ref b)] dL_law_19 (by decide) rfl ?_
    refine z_iconst C (nI 0) (by decide) dL_law_20 ?_
    refine z_istore_n C [(3, .int (nI 0)), (2, .int (nI n)), (1, .ref (w2.1 0)), (0, .ref b)] dL_law_21 (by decide) rfl ?_
    refine law_nodes C (by omega) n6 rfl ⟨Nat.le_of_ble_eq_true rfl, Nat.le_of_ble_eq_true rfl⟩ (fun τ x hP => ?_) n 0 (by omega) tp_t0 gP_0
    refine z_bipush C 6 (by decide) dL_law_38 ?_
    refine z_newT C 234 (Nat.le_refl _) (fun i hi => tp_rf234 ⟨i, hi⟩) hN2 wd_int ⟨Nat.le_of_ble_eq_true rfl, Nat.le_of_ble_eq_true rfl⟩ dL_law_40 (k2 := (235, 5949)) rfl (fun w3 hl3 hN3' ha3 C3 D3 S3 Z3 τ3 e3 => ?_)
    rw [← ha3 0 (by decide)]
    refine z_astore_n C3 [(3, .ref (w3.1 234)), (2, .int (nI n)), (1, .ref (w3.1 0)), (0, .ref b)] dL_law_42 (by decide) rfl ?_
    refine z_bipush C3 6 (by decide) dL_law_43 ?_
    refine z_newT C3 235 (by decide) (fun i hi => tp_rf235 ⟨i, hi⟩) hN3' wd_int ⟨Nat.le_of_ble_eq_true rfl, Nat.le_of_ble_eq_true rfl⟩ dL_law_45 (k2 := (236, 5955)) rfl (fun w4 hl4 hN4 ha4 C4 D4 S4 Z4 τ4 e4 => ?_)
    rw [← ha4 0 (by decide), ← ha4 234 (by decide)]
    refine z_astore C4 [(4, .ref (w4.1 235)), (3, .ref (w4.1 234)), (2, .int (nI n)), (1, .ref (w4.1 0)), (0, .ref b)] dL_law_47 (by decide) rfl ?_
    refine z_iconst C4 (nI 0) (by decide) dL_law_49 ?_
    refine z_istore C4 (lLs w4 b (nI n) 0) dL_law_50 (by decide) rfl ?_
    have f4 : ∀ j, j ≠ 234 → j ≠ 235 → τ4 j = τ j := fun j h1 h2 => by
      rw [e4, e3]
      show (if j = 235 then _ else if j = 234 then _ else τ j) = τ j
      rw [if_neg h2, if_neg h1]
    have z235 : ∀ q, τ4 235 q = 0 := fun q => by rw [e4]; rfl
    have nn := nI_toInt (n := n) (by omega)
    refine law_loop C4 (D4 (D3 D)) N3 (S4 b L xs (S3 b L xs S)) (by omega) (by rw [hl4, hl3]; exact hl2) hN4 nn (fun τ k ls h1 h2 => Z4 τ k 150 ls _ (Z3 τ k 150 ls _ (hE τ k ls h1 h2))) 100 0 rfl τ4 (236, 5955) (Nat.le_refl _) (Nat.le_refl _) ⟨?_, gP_V hP (fun j hj => f4 j (by omega) (by omega)) z235, ?_⟩
    · exact (gP_T hP (by omega)).cg (fun j hj => f4 j (by omega) (by omega))
    · rw [f4 17 (by decide) (by decide), hP.2.2.2.2]
      decide
  have hl9 := lv_entry ([.ref b]) (n := 9) (Nat.le_of_ble_eq_true rfl)
  rw [lg_entry_eq]
  have hz := key s.heap [] _ hl9 (fun k q h => by simp at h) ⟨fun i j p q h => by simp at h, fun k q h => by simp at h⟩ va_S.rf
  rw [hwl] at hz
  exact hz
