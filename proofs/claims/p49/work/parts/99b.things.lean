/-! pieces given, pieces read -/
section TH
variable {τ : TS} {B N : Int}
theorem s_take (K : TS → Prop) (X : TS → Nat → Prop) (j : Nat) (hX : ∀ n, X τ n) (hk : (τ j 0).toInt ≠ 2 → (τ j 0).toInt ≠ 3 → (τ j 2).toInt = 0 → K τ) : wpx_X8_checkTakesThings τ j K X := by
  refine ⟨fun _ => hX 2, fun c2 => ⟨fun _ => hX 2, fun c3 => ⟨fun c0 => hk ?_ ?_ ?_, fun _ => hX 2⟩⟩⟩
  · exact fun e => c2 (Int32.toInt_inj.mp e)
  · exact fun e => c3 (Int32.toInt_inj.mp e)
  · rw [c0]
    rfl
theorem s_X8_give (h : gT N τ B) (hv : gV τ) {x1 x2 x3 : Int32} (h3 : 1 ≤ x3.toInt ∧ x3.toInt ≤ 50) {K : TS → Int32 → Prop} {X : TS → Nat → Prop} (hX : ∀ n, X τ n) (hx2 : 0 ≤ x1.toInt → x1.toInt < (τ 17 3).toInt → x2 = τ 234 x1.toInt.toNat + τ (93 + 5 * x1.toInt.toNat) 1)
    (hk : ∀ (τ2 : TS) (v : Int32), gT N τ2 B → gV τ2 → τ2 17 = τ 17 → (∀ j, 234 ≤ j → τ2 j = τ j) → K τ2 v) : wpx_X8_give τ 0 x1 x2 x3 K X := by
  have h6 := h.2.1.1.2
  unfold wpx_X8_give wpx_X8_callerOf
  refine s_connX h6 hX (fun x0 xm => ?_)
  have hx := hx2 x0 xm
  have hi6 : vp_in x1 6 := q_in x0 (by omega)
  rw [q_cl]
  have hex : ∃ n : Nat, x1.toInt.toNat = n := ⟨_, rfl⟩
  obtain ⟨n, hnn⟩ := hex
  rw [hnn] at hx ⊢
  have hn : (n : Int) < (τ 17 3).toInt := by omega
  rw [show 92 + 5 * n + 1 = 93 + 5 * n by omega]
  refine s_range (by simp only [Int32.reduceToInt]; omega) (by simp only [Int32.reduceToInt]; omega) (s_take _ _ _ hX (fun t2 t3 t0 => ⟨fun c => ?_, fun _ => hX 2⟩))
  obtain ⟨hq, hz⟩ := s_soundC h hn
  have hg0 := hq.2.1
  have hsum : (τ (93 + 5 * n) 1).toInt + x3.toInt ≤ 200 := by
    simp only [fa_lt, fa_le, fa_eq, q_add, q_sub, q_ite, Int32.reduceToInt] at c
    omega
  have hst := hq.1
  clear c
  refine ⟨fun τ2 k => 0 ≤ k.toInt ∧ k.toInt ≤ x3.toInt ∧ gT N τ2 B ∧ gV τ2 ∧ τ2 17 = τ 17 ∧ (∀ j, 234 ≤ j → τ2 j = τ j) ∧ (τ2 (93 + 5 * n) 1).toInt = (τ (93 + 5 * n) 1).toInt + k.toInt ∧ τ2 (93 + 5 * n) 0 = τ (93 + 5 * n) 0 ∧ τ2 (93 + 5 * n) 2 = τ (93 + 5 * n) 2, fun _ k => 50 - k.toInt.toNat, ⟨by decide, by simp only [Int32.reduceToInt]; omega, h, hv, rfl, fun _ _ => rfl, by simp, rfl, rfl⟩, ?_⟩
  rintro τ2 k ⟨k0, k1, g2, v2, e17, e234, eg, es, et⟩
  refine ⟨fun _ => hk τ2 _ g2 v2 e17 e234, fun c => ?_⟩
  have kl : k.toInt < x3.toInt := by
    rw [fa_le] at c
    omega
  refine ⟨hi6, q_in (by omega) (by omega), ?_⟩
  rw [q_cl]
  have hex2 : ∃ g : Nat, (τ2 (93 + 5 * n) 1).toInt.toNat = g := ⟨_, rfl⟩
  obtain ⟨g, hgg⟩ := hex2
  rw [hgg]
  intro τ3 e3 τ4 e4 k2 ek2
  have hn2 : (n : Int) < (τ2 17 3).toInt := by rw [e17]; exact hn
  have f3 : ∀ j, j ≠ 228 + n → τ3 j = τ2 j := fun j hj => by rw [e3, c0_n _ _ _ hj]
  have g3 : gT N τ3 B := g2.cg (fun j hj => f3 j (by omega))
  have r3 : τ3 (228 + n) = upd (τ2 (228 + n)) g (x2 + k) := by rw [e3, c0_s]
  clear e3
  have c93 : τ3 (93 + 5 * n) = τ2 (93 + 5 * n) := f3 _ (by omega)
  have hadd : (τ3 (93 + 5 * n) 1 + 1).toInt = (τ (93 + 5 * n) 1).toInt + k.toInt + 1 := by
    rw [c93]
    simp only [fa_lt, fa_le, fa_eq, q_add, q_sub, q_ite, Int32.reduceToInt]
    omega
  obtain ⟨hq3, hz3⟩ := s_soundC g3 (c := n) (by rw [f3 17 (by omega)]; exact hn2)
  have hq4 : qCal (upd (τ3 (93 + 5 * n)) 1 (τ3 (93 + 5 * n) 1 + 1)) (τ3 (94 + 5 * n)) (τ3 (95 + 5 * n) 1).toInt ((τ3 17 4).toInt + 1) := by
    have st0 : (τ3 (93 + 5 * n) 0).toInt ≠ 2 := by rw [c93, es]; exact t2
    have st1 : (τ3 (93 + 5 * n) 1).toInt = (τ (93 + 5 * n) 1).toInt + k.toInt := by rw [c93, eg]
    unfold qCal at hq3 ⊢
    simp only [q_updA, Nat.reduceEqDiff, reduceIte, Nat.succ_ne_self, hadd] at hq3 ⊢
    omega
  have e4' := e4
  rw [q2_tp, show 93 + 5 * n + 1 = 94 + 5 * n by omega] at e4'
  have b5 := hz3.2.2.2.2.2.1
  have st1 : (τ3 (93 + 5 * n) 1).toInt = (τ (93 + 5 * n) 1).toInt + k.toInt := by rw [c93, eg]
  have g4 := s_setCaller g3 (n := n) (by rw [f3 17 (by omega)]; exact hn2) hq4 rfl (by
    show (τ3 (95 + 5 * n) 2).toInt ≤ (τ3 (93 + 5 * n) 1 + 1).toInt
    omega)
  rw [← e4'] at g4
  clear e4'
  have f4 : ∀ j, j ≠ 93 + 5 * n → τ4 j = τ3 j := fun j hj => by rw [e4, c0_n _ _ _ hj]
  have r4 : τ4 (93 + 5 * n) = upd (τ3 (93 + 5 * n)) 1 (τ3 (93 + 5 * n) 1 + 1) := by rw [e4, c0_s]
  clear e4
  have n4 : τ4 (93 + 5 * n) 1 = τ3 (93 + 5 * n) 1 + 1 := by rw [r4]; rfl
  have ek : k2.toInt = k.toInt + 1 := by
    subst ek2
    simp only [fa_lt, fa_le, fa_eq, q_add, q_sub, q_ite, Int32.reduceToInt]
    omega
  have a17 : τ4 17 = τ 17 := by rw [f4 17 (by omega), f3 17 (by omega), e17]
  have a234 : ∀ j, 234 ≤ j → τ4 j = τ j := fun j hj => by rw [f4 j (by omega), f3 j (by omega), e234 j hj]
  refine ⟨⟨by omega, by omega, g4, ⟨fun c hc q hq5 => ?_, fun c hc => ?_⟩, a17, a234, ?_, ?_, ?_⟩, by show 50 - k2.toInt.toNat < 50 - k.toInt.toNat; omega⟩
  · rw [a17] at hc
    rw [a234 234 (by omega), f4 _ (by omega)]
    by_cases hcn : c = n
    · subst hcn
      rw [n4, hadd] at hq5
      rw [r3, q_updA]
      by_cases hqg : q = g
      · rw [if_pos hqg, hx]
        have w1 : τ (93 + 5 * c) 1 = nI (τ (93 + 5 * c) 1).toInt.toNat := q_asN (by omega)
        have w2 : k = nI k.toInt.toNat := q_asN k0
        have w3 : q = (τ (93 + 5 * c) 1).toInt.toNat + k.toInt.toNat := by omega
        rw [w3, ← nI_add, ← w1, ← w2, Int32.add_assoc]
      · rw [if_neg hqg, ← e234 234 (by omega)]
        exact v2.1 c (by rw [e17]; exact hc) q (by omega)
    · rw [f3 _ (by omega), ← e234 234 (by omega)]
      rw [f4 _ (by omega), f3 _ (by omega)] at hq5
      exact v2.1 c (by rw [e17]; exact hc) q hq5
  · rw [f4 235 (by omega), f4 _ (by omega), f3 235 (by omega), f3 _ (by omega)]
    exact v2.2 c hc
  · rw [n4, hadd, ek]
    omega
  · rw [r4, ← es, ← c93]
    rfl
  · rw [r4, ← et, ← c93]
    rfl
/-- the sum of k pieces that follow each other -/
def sR (a : Int32) : Nat → Int32
  | 0 => 0
  | k + 1 => sR a k + (a + nI k)
theorem sR_s (a : Int32) (k : Nat) : sR a (k + 1) = sR a k + (a + nI k) := rfl
theorem s_X8_read (h : gT N τ B) (hv : gV τ) (hB : B < 1400000000) {x1 x2 : Int32} (h2 : 1 ≤ x2.toInt ∧ x2.toInt ≤ 50) {K : TS → Int32 → Prop} {X : TS → Nat → Prop} (hX : ∀ n, X τ n)
    (hk : ∀ (τ2 : TS) (n : Nat) (m : Int32), x1.toInt.toNat = n → 0 ≤ x1.toInt → (n : Int) < (τ 17 3).toInt → m = (if tUr τ n < x2 then tUr τ n else x2) → 0 < m.toInt → gT N τ2 (B + 1) → (∀ j, 122 ≤ j → τ2 j = τ j) → τ2 17 3 = τ 17 3 → τ2 17 4 = τ 17 4 → (∀ c : Nat, c < 6 → τ2 (93 + 5 * c) 1 = τ (93 + 5 * c) 1) → (∀ c : Nat, c < 6 → c ≠ n → τ2 (95 + 5 * c) 2 = τ (95 + 5 * c) 2) → (τ2 (95 + 5 * n) 2).toInt = (τ (95 + 5 * n) 2).toInt + m.toInt → K τ2 (sR (τ 234 n + τ (95 + 5 * n) 2) m.toInt.toNat)) : wpx_X8_read τ 0 x1 x2 K X := by
  have h6 := h.2.1.1.2
  unfold wpx_X8_read
  refine s_connX h6 hX (fun x0 xm => ?_)
  have hi6 : vp_in x1 6 := q_in x0 (by omega)
  rw [q_cl]
  have hex : ∃ n : Nat, x1.toInt.toNat = n := ⟨_, rfl⟩
  obtain ⟨n, hnn⟩ := hex
  rw [hnn]
  have hn : (n : Int) < (τ 17 3).toInt := by omega
  refine s_range (by simp only [Int32.reduceToInt]; omega) (by simp only [Int32.reduceToInt]; omega) ?_
  rw [e_unread]
  intro m em
  rw [show 92 + 5 * n + 3 = 95 + 5 * n by omega]
  obtain ⟨hq, hz⟩ := s_soundC h hn
  obtain ⟨u0, u1, u2⟩ := s_unread h hn
  have hm2 : m.toInt ≤ (tUr τ n).toInt ∧ m.toInt ≤ x2.toInt := by
    subst em
    simp only [fa_lt, fa_le, fa_eq, q_add, q_sub, q_ite, Int32.reduceToInt]
    omega
  refine ⟨fun c => ?_, fun _ => hX 2⟩
  have mp : 0 < m.toInt := by
    simp only [fa_lt, fa_le, fa_eq, q_add, q_sub, q_ite, Int32.reduceToInt] at c
    omega
  have hg0 := hq.2.1
  have hr0 : 0 ≤ (τ (95 + 5 * n) 2).toInt := hz.2.2.2.1
  have hw0 := hz.2.1
  unfold wp_X0_spare
  intro y _
  refine ⟨fun _ => True, fun full _ => ?_, fun _ => trivial, fun _ => trivial⟩
  refine ⟨fun τ2 s k => 0 ≤ k.toInt ∧ k.toInt ≤ m.toInt ∧ gT N τ2 B ∧ (∀ j, j ≠ 95 + 5 * n → τ2 j = τ j) ∧ τ2 (95 + 5 * n) 0 = τ (95 + 5 * n) 0 ∧ τ2 (95 + 5 * n) 1 = τ (95 + 5 * n) 1 ∧ (τ2 (95 + 5 * n) 2).toInt = (τ (95 + 5 * n) 2).toInt + k.toInt ∧ s = sR (τ 234 n + τ (95 + 5 * n) 2) k.toInt.toNat, fun _ _ k => 50 - k.toInt.toNat, ⟨by decide, by simp only [Int32.reduceToInt]; omega, h, fun _ _ => rfl, rfl, rfl, by simp, rfl⟩, ?_⟩
  rintro τ2 s k ⟨k0, k1, g2, f2, s0, s1, s2, hs⟩
  have e17 : τ2 17 = τ 17 := f2 17 (by omega)
  have hn2 : (n : Int) < (τ2 17 3).toInt := by rw [e17]; exact hn
  refine ⟨fun c2 => ?_, fun c2 => ?_⟩
  · have ek : k.toInt = m.toInt := by
      rw [fa_le] at c2
      omega
    rw [ek] at s2 hs
    subst hs
    have fin : ∀ τ3 : TS, gT N τ3 (B + 1) → (∀ j, 92 ≤ j → τ3 j = τ2 j) → τ3 17 3 = τ2 17 3 → τ3 17 4 = τ2 17 4 → K τ3 (sR (τ 234 n + τ (95 + 5 * n) 2) m.toInt.toNat) := fun τ3 g3 f3 e3 e4 => by
      refine hk τ3 n m hnn x0 hn em mp g3 (fun j hj => by rw [f3 j (by omega), f2 j (by omega)]) (by rw [e3, e17]) (by rw [e4, e17]) (fun c hc => by rw [f3 _ (by omega), f2 _ (by omega)]) (fun c hc hcn => by rw [f3 _ (by omega), f2 _ (by omega)]) ?_
      rw [f3 _ (by omega)]
      exact s2
    have g2' : gT N τ2 (B + 1) := by
      obtain ⟨q1, ⟨z1, z2, z3, z4⟩, q3⟩ := g2
      exact ⟨q1, ⟨z1, z2, ⟨z3.1, by omega⟩, z4⟩, q3⟩
    refine ⟨fun _ => fin τ2 g2' (fun _ _ => rfl) rfl rfl, fun _ z _ => ⟨fun _ => fin τ2 g2' (fun _ _ => rfl) rfl rfl, fun _ => ?_⟩⟩
    refine s_X6_sendAnswer (by decide) g2.1 g2.tS (by omega) x0 (by rw [e17]; exact xm) (fun τ3 hS3 d2 d3 => ?_)
    exact fin τ3 (g2.of hS3 (by rw [d3 4 (by decide)])) d2 (d3 3 (by decide)) (d3 4 (by decide))
  · have kl : k.toInt < m.toInt := by
      rw [fa_le] at c2
      omega
    refine ⟨fun c3 => ?_, fun c3 => ⟨hi6, q_in (by omega) (by omega), ?_⟩⟩
    · exfalso
      rw [fa_le, s2] at c3
      simp only [Int32.reduceToInt] at c3
      omega
    rw [q_cl]
    intro s3 es3 τ3 e3 k3 ek3
    have ek : k3.toInt = k.toInt + 1 := by
      subst ek3
      simp only [fa_lt, fa_le, fa_eq, q_add, q_sub, q_ite, Int32.reduceToInt]
      omega
    have hadd : (τ2 (95 + 5 * n) 2 + 1).toInt = (τ (95 + 5 * n) 2).toInt + k.toInt + 1 := by
      simp only [fa_lt, fa_le, fa_eq, q_add, q_sub, q_ite, Int32.reduceToInt]
      omega
    have f3 : ∀ j, j ≠ 95 + 5 * n → τ3 j = τ2 j := fun j hj => by rw [e3, c0_n _ _ _ hj]
    have r3 : τ3 (95 + 5 * n) = upd (τ2 (95 + 5 * n)) 2 (τ2 (95 + 5 * n) 2 + 1) := by rw [e3, c0_s]
    have g3 := s_setCallee g2 hn2 (r := upd (τ2 (95 + 5 * n)) 2 (τ2 (95 + 5 * n) 2 + 1)) rfl rfl (by
      show 0 ≤ (τ2 (95 + 5 * n) 2 + 1).toInt ∧ (τ2 (95 + 5 * n) 2 + 1).toInt ≤ (τ2 (95 + 5 * n) 1).toInt ∧ (τ2 (95 + 5 * n) 2 + 1).toInt ≤ (τ2 (93 + 5 * n) 1).toInt
      rw [s1, f2 (93 + 5 * n) (by omega), hadd]
      omega)
    rw [q2_tp, show 95 + 5 * n + 1 = 96 + 5 * n by omega] at e3
    rw [← e3] at g3
    clear e3
    refine ⟨⟨by omega, by omega, g3, fun j hj => by rw [f3 j hj, f2 j hj], ?_, ?_, ?_, ?_⟩, by show 50 - k3.toInt.toNat < 50 - k.toInt.toNat; omega⟩
    · rw [r3, ← s0]
      rfl
    · rw [r3, ← s1]
      rfl
    · rw [r3, show upd (τ2 (95 + 5 * n)) 2 (τ2 (95 + 5 * n) 2 + 1) 2 = τ2 (95 + 5 * n) 2 + 1 from rfl, hadd, ek]
      omega
    · rw [ek, show (k.toInt + 1).toNat = k.toInt.toNat + 1 by omega, sR_s, ← hs, es3]
      congr 1
      rw [f2 (228 + n) (by omega), hv.1 n hn _ (by omega), show (τ2 (95 + 5 * n) 2).toInt.toNat = (τ (95 + 5 * n) 2).toInt.toNat + k.toInt.toNat by omega, ← nI_add, ← q_asN hr0, Int32.add_assoc]
end TH
