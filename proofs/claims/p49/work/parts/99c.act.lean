/-! one act of the law's -/
def bel (x n : Int32) : Int32 := (x &&& 2147483647) - (x &&& 2147483647) / n * n
theorem bel_r (x : Int32) {n : Int32} {d : Int} (e : n.toInt = d) (h : 0 < d) : 0 ≤ (bel x n).toInt ∧ (bel x n).toInt < d := by
  have hx : x = nI x.toBitVec.toNat := by
    apply Int32.toBitVec_inj.1
    show x.toBitVec = BitVec.ofNat 32 x.toBitVec.toNat
    simp
  have hlt := x.toBitVec.isLt
  have ha : x &&& 2147483647 = nI (x.toBitVec.toNat % 2 ^ 31) := by
    have := pk_andN (n := x.toBitVec.toNat) hlt (m := 2147483647) 31 (by decide)
    rw [← hx] at this
    exact this
  have hn : n = nI n.toInt.toNat := q_asN (by omega)
  have hb := fb_rng n
  have hr : bel x n = nI (x.toBitVec.toNat % 2 ^ 31 % n.toInt.toNat) := by
    have := pk_rem (a := x.toBitVec.toNat % 2 ^ 31) (d := n.toInt.toNat) (Nat.mod_lt _ (by decide)) (by omega) (by omega)
    rw [← hn] at this
    unfold bel
    rw [ha]
    exact this
  have hm : x.toBitVec.toNat % 2 ^ 31 % n.toInt.toNat < n.toInt.toNat := Nat.mod_lt _ (by omega)
  rw [hr, nI_toInt (by omega)]
  omega
theorem s_below {τ : TS} {x n : Int32} (hn : 0 < n.toInt) {K : TS → Int32 → Prop} (hk : K τ (bel x n)) : wp_L_below τ x n K := by
  refine ⟨fun e => ?_, fun v ev => ?_⟩
  · rw [e] at hn
    exact absurd hn (by decide)
  · subst ev
    exact hk
theorem q_most {y : Int32} (h : 0 ≤ y.toInt) : 1 ≤ (if 1 < y then y else 1).toInt ∧ (0 < y.toInt → (if 1 < y then y else 1).toInt = y.toInt) ∧ (if 1 < y then y else 1).toInt ≤ y.toInt + 1 := by
  simp only [fa_lt, fa_le, fa_eq, q_add, q_sub, q_ite, Int32.reduceToInt]
  omega
section AC
variable {τ : TS} {B N : Int}
theorem gT.mono (h : gT N τ B) {B2 : Int} (hB : B ≤ B2) : gT N τ B2 := by
  obtain ⟨q1, ⟨z1, z2, z3, z4⟩, q3⟩ := h
  exact ⟨q1, ⟨z1, z2, ⟨z3.1, by omega⟩, z4⟩, q3⟩
theorem s_act (h : gT N τ B) (hv : gV τ) (hB : B < 1300000000) (hck : (τ 17 4).toInt ≤ 70000) {x1 x2 : Int32} (hx1 : x1.toInt = N) {K : TS → Int32 → Prop}
    (hk : ∀ τ2 : TS, gT N τ2 (B + 16000) → gV τ2 → (τ2 17 4).toInt ≤ (τ 17 4).toInt + 12 → K τ2 1) : wp_L_act τ 0 x1 x2 234 235 K := by
  have h6 := h.2.1.1
  have hL := h.1.1.2.1
  obtain ⟨hN, hN2⟩ := h.2.2
  have cl : ∀ τ2 : TS, gT N τ2 (B + 16000) → gV τ2 → τ2 17 4 = τ 17 4 → ((¬ τ2 17 4 = τ 17 4) → K τ2 0) ∧ ((τ2 17 4 = τ 17 4) → K τ2 1) := fun τ2 g v e => k_ny e (hk τ2 g v (by rw [e]; omega))
  have h16 : gT N τ (B + 16000) := h.mono (by omega)
  have hX : ∀ n : Nat, (fun (τ2 : TS) (_ : Nat) => τ = τ2) τ n := fun _ => rfl
  unfold wp_L_act wp_X8_connections wp_X8_clock
  intro x23 e23
  have h23 := q_most h6.1
  rw [← e23] at h23
  refine s_below (by omega) (s_below (by omega) (s_below (by omega) ?_))
  have hc := bel_r (x2 >>> (4 &&& 31)) (n := x23) rfl (by omega)
  have ha := bel_r (x2 >>> (3 &&& 31)) (n := x1) hx1 (by omega)
  have hb := bel_r (x2 >>> (6 &&& 31)) (n := x1) hx1 (by omega)
  generalize bel (x2 >>> (4 &&& 31)) x23 = c at hc ⊢
  generalize bel (x2 >>> (3 &&& 31)) x1 = a at ha ⊢
  generalize bel (x2 >>> (6 &&& 31)) x1 = b at hb ⊢
  refine ⟨fun τ2 => τ = τ2, fun τ2 e => ?_, ?_⟩
  · subst e
    exact ⟨cl τ h16 hv rfl, cl τ h16 hv rfl, cl τ h16 hv rfl⟩
  refine s_below (by decide) ⟨fun _ => ?_, fun _ => ?_, fun _ => ?_, fun _ => ?_, fun _ => ?_, fun _ => ?_, fun _ => ?_, fun _ => ?_⟩
  · -- pass
    refine s_below (by decide) (fun x47 e47 => ?_)
    have h12 := bel_r (x2 >>> (4 &&& 31)) (n := 12) (d := 12) rfl (by decide)
    have e47' : x47.toInt = 1 + (bel (x2 >>> (4 &&& 31)) 12).toInt := by
      subst e47
      simp only [fa_lt, fa_le, fa_eq, q_add, q_sub, q_ite, Int32.reduceToInt]
      omega
    refine s_X8_pass h (by omega) (by omega) (by omega) (fun τ2 g hS em ec => ?_)
    have esum : (τ 17 4 + x47).toInt = (τ 17 4).toInt + x47.toInt := by
      have := h.2.1.2.1
      simp only [fa_lt, fa_le, fa_eq, q_add, q_sub, q_ite, Int32.reduceToInt]
      omega
    have eq : τ2 17 4 = τ 17 4 + x47 := Int32.toInt_inj.mp (by rw [ec, esum])
    refine k_yes eq (fun x51 e51 => k_ny (by rw [eq, e51]) (hk τ2 (g.mono (by omega)) (hv.keep h6.2 ⟨fun j hj => hS.2.1 j (by omega), fun c hc => hS.2.2 c hc⟩ em) (by omega)))
  · -- addLink
    refine s_below (by decide) (s_below (by decide) ?_)
    have h9 := bel_r (x2 >>> (5 &&& 31)) (n := 9) (d := 9) rfl (by decide)
    have h20 := bel_r (x2 >>> (7 &&& 31)) (n := 20) (d := 20) rfl (by decide)
    refine s_X8_addLink h (by omega) (by omega) (by simp only [fa_lt, fa_le, fa_eq, q_add, q_sub, q_ite, Int32.reduceToInt]; omega) (by simp only [fa_lt, fa_le, fa_eq, q_add, q_sub, q_ite, Int32.reduceToInt]; omega) hX (fun τ2 v g fr => ?_)
    exact cl τ2 (g.mono (by omega)) (hv.keep h6.2 (gF.cut (fun j hj => fr j (by omega))) (by rw [fr 17 (by decide)])) (by rw [fr 17 (by decide)])
  · -- call
    refine s_below (by decide) ?_
    have h16' := bel_r (x2 >>> (8 &&& 31)) (n := 16) (d := 16) rfl (by decide)
    refine s_X8_call h (by omega) (by omega) (by omega) (by omega) (by simp only [fa_lt, fa_le, fa_eq, q_add, q_sub, q_ite, Int32.reduceToInt]; omega) hX (fun τ2 hm6 g hF em ec => ⟨q_in h6.1 hm6, fun τ3 e3 => ?_⟩)
    rw [q_cl] at e3
    have hex : ∃ m : Nat, (τ 17 3).toInt.toNat = m := ⟨_, rfl⟩
    obtain ⟨m, hmm⟩ := hex
    rw [hmm] at e3
    have f3 : ∀ j, j ≠ 234 → τ3 j = τ2 j := fun j hj => by rw [e3, c0_n _ _ _ hj]
    have r3 : τ3 234 = upd (τ2 234) m x2 := by rw [e3, c0_s]
    have z1 := (h.2.1.2.2.2.2.2 rfl m (by omega) (by omega)).1.1
    rw [show 17 + 76 + 5 * m = 93 + 5 * m by omega] at z1
    have ec3 : τ3 17 4 = τ 17 4 := by rw [f3 17 (by decide), ec]
    refine cl τ3 ((g.cg (fun j hj => f3 j (by omega))).mono (by omega)) ⟨fun d hd k hkk => ?_, fun d hd => ?_⟩ ec3
    · rw [f3 17 (by decide), em] at hd
      rw [f3 _ (by omega), (hF.2 d (by omega)).1] at hkk
      rw [f3 _ (by omega), r3, hF.1 _ (by omega)]
      by_cases hdm : d = m
      · subst hdm
        rw [z1] at hkk
        exact absurd hkk (by simp only [Int32.reduceToInt]; omega)
      · rw [q_updA, if_neg hdm, hF.1 234 (by omega)]
        exact hv.1 d (by omega) k hkk
    · rw [f3 235 (by decide), f3 _ (by omega), hF.1 235 (by decide), (hF.2 d hd).2]
      exact hv.2 d hd
  · -- give
    unfold wpx_X8_given wpx_X8_callerOf
    refine s_connX h6.2 hX (fun c0 cm => ⟨q_in c0 (by omega), s_below (by decide) ?_⟩)
    have h12 := bel_r (x2 >>> (7 &&& 31)) (n := 12) (d := 12) rfl (by decide)
    refine s_X8_give h hv (by simp only [fa_lt, fa_le, fa_eq, q_add, q_sub, q_ite, Int32.reduceToInt]; omega) hX (fun _ _ => ?_) (fun τ2 v g v2 e17 e234 => ?_)
    · rw [q_cl, show 92 + 5 * c.toInt.toNat + 1 = 93 + 5 * c.toInt.toNat by omega]
    · exact cl τ2 (g.mono (by omega)) v2 (by rw [e17])
  · -- close
    refine s_below (by decide) ⟨fun _ => cl τ h16 hv rfl, fun _ => ?_⟩
    refine s_X8_close h hX (fun τ2 v g hF e17 => ?_)
    exact cl τ2 (g.mono (by omega)) (hv.keep h6.2 hF (by rw [e17])) (by rw [e17])
  · -- read
    refine s_below (by decide) ?_
    have h9 := bel_r (x2 >>> (7 &&& 31)) (n := 9) (d := 9) rfl (by decide)
    unfold wpx_X8_readable
    refine s_connX h6.2 hX (fun c0 cm => ?_)
    rw [e_unread]
    intro m em
    have hex : ∃ n : Nat, c.toInt.toNat = n := ⟨_, rfl⟩
    obtain ⟨n, hnn⟩ := hex
    rw [hnn] at em
    have hn : (n : Int) < (τ 17 3).toInt := by omega
    have hi6 : vp_in c 6 := q_in c0 (by omega)
    obtain ⟨u0, u1, u2⟩ := s_unread h hn
    obtain ⟨hq, hz⟩ := s_soundC h hn
    have em2 : 0 ≤ m.toInt ∧ m.toInt ≤ 9 := by
      subst em
      simp only [fa_lt, fa_le, fa_eq, q_add, q_sub, q_ite, Int32.reduceToInt]
      omega
    refine ⟨fun τ2 s k => τ = τ2 ∧ 0 ≤ k.toInt ∧ k.toInt ≤ m.toInt ∧ s = sR (τ 234 n + τ 235 n) k.toInt.toNat, fun _ _ k => 50 - k.toInt.toNat, ⟨rfl, by decide, em2.1, rfl⟩, ?_⟩
    rintro τ2 s k ⟨rfl, k0, k1, hs⟩
    refine ⟨fun ck => s_below (by decide) ?_, fun ck => ⟨hi6, hi6, ?_⟩⟩
    · have ekm : k.toInt = m.toInt := by
        rw [fa_le] at ck
        omega
      refine s_X8_read h hv (by omega) (by simp only [fa_lt, fa_le, fa_eq, q_add, q_sub, q_ite, Int32.reduceToInt]; omega) hX (fun τ3 n2 m2 hn2 _ hn2m em3 mp g fr e3 e4 fg fd fe => ?_)
      have hnn2 : n2 = n := by omega
      subst hnn2
      have hm2 : m2 = m := by rw [em3, em]
      subst hm2
      have hrd : τ 235 n2 = τ (95 + 5 * n2) 2 := hv.2 n2 (by omega)
      refine k_yes (by rw [hs, ekm, hrd]) ⟨hi6, hi6, fun τ4 e4' => ?_⟩
      rw [q_cl, hnn] at e4'
      have f4 : ∀ j, j ≠ 235 → τ4 j = τ3 j := fun j hj => by rw [e4', c0_n _ _ _ hj]
      have r4 : τ4 235 = upd (τ3 235) n2 (τ3 235 n2 + m2) := by rw [e4', c0_s]
      clear e4'
      have e43 : τ4 17 3 = τ 17 3 := by rw [f4 17 (by decide), e3]
      have eqr : τ4 (95 + 5 * n2) 2 = τ4 235 n2 := by
        rw [f4 _ (by omega), r4, q_updA, if_pos rfl, fr 235 (by decide), hrd]
        refine Int32.toInt_inj.mp ?_
        rw [fe]
        have := hz.2.2.2.1
        have := hz.2.1
        have := hz.2.2.2.2.1
        simp only [fa_lt, fa_le, fa_eq, q_add, q_sub, q_ite, Int32.reduceToInt]
        omega
      rw [e_hasRead (by rw [e43]; exact h6.2) c0 (by rw [e43]; exact cm), q_cl, hnn]
      refine ⟨hi6, k_ny eqr (hk τ4 ((g.cg (fun j hj => f4 j (by omega))).mono (by omega)) ⟨fun d hd k hkk => ?_, fun d hd => ?_⟩ (by rw [f4 17 (by decide), e4]; omega))⟩
      · rw [e43] at hd
        rw [f4 _ (by omega), fg d (by omega)] at hkk
        rw [f4 _ (by omega), f4 234 (by decide), fr _ (by omega), fr 234 (by decide)]
        exact hv.1 d hd k hkk
      · by_cases hdn : d = n2
        · subst hdn
          exact eqr.symm
        · rw [f4 (95 + 5 * d) (by omega), r4, q_updA, if_neg hdn, fr 235 (by decide), fd d hd hdn]
          exact hv.2 d hd
    · have kl : k.toInt < m.toInt := by
        rw [fa_le] at ck
        omega
      rw [q_cl, hnn]
      intro s3 es3 k3 ek3
      have ek : k3.toInt = k.toInt + 1 := by
        subst ek3
        simp only [fa_lt, fa_le, fa_eq, q_add, q_sub, q_ite, Int32.reduceToInt]
        omega
      refine ⟨⟨rfl, by omega, by omega, ?_⟩, by show 50 - k3.toInt.toNat < 50 - k.toInt.toNat; omega⟩
      rw [ek, show (k.toInt + 1).toNat = k.toInt.toNat + 1 by omega, sR_s, ← hs, es3, ← q_asN k0]
  · -- turn
    refine s_below (by decide) ⟨fun _ => cl τ h16 hv rfl, fun _ => ?_⟩
    unfold wp_X8_links
    intro x128 e128
    have h128 := q_most hL.1
    rw [← e128] at h128
    refine s_below (by omega) (s_X8_turn h (by omega) hX (fun τ2 v g hF e3 e4 => ?_))
    exact cl τ2 (g.mono (by omega)) (hv.keep h6.2 hF e3) e4
  · -- lose
    unfold wp_X8_links
    intro x138 e138
    have h138 := q_most hL.1
    rw [← e138] at h138
    have h2 := bel_r (x2 >>> (5 &&& 31)) (n := 2) (d := 2) rfl (by decide)
    have h4 := bel_r (x2 >>> (6 &&& 31)) (n := 4) (d := 4) rfl (by decide)
    refine s_below (by omega) (s_below (by decide) (s_below (by decide) (s_X8_lose h (by omega) (by omega) hX (fun τ2 v g hF e17 => ?_))))
    exact cl τ2 (g.mono (by omega)) (hv.keep h6.2 hF (by rw [e17])) (by rw [e17])
end AC
