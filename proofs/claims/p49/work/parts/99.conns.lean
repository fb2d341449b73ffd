/-! connections: called, closed, given, read -/
/-- what was given, and what was read, as the law keeps it -/
def gV (τ : TS) : Prop := (∀ c : Nat, (c : Int) < (τ 17 3).toInt → ∀ k : Nat, (k : Int) < (τ (93 + 5 * c) 1).toInt → τ (228 + c) k = τ 234 c + nI k) ∧ ∀ c : Nat, c < 6 → τ 235 c = τ (95 + 5 * c) 2
theorem gV.keep {τ τ2 : TS} (h : gV τ) (h6 : (τ 17 3).toInt ≤ 6) (hF : gF τ τ2) (h3 : τ2 17 3 = τ 17 3) : gV τ2 := by
  refine ⟨fun c hc k hk => ?_, fun c hc => ?_⟩
  · rw [h3] at hc
    rw [(hF.2 c (by omega)).1] at hk
    rw [hF.1 _ (by omega), hF.1 234 (by omega)]
    exact h.1 c hc k hk
  · rw [hF.1 235 (by omega), (hF.2 c hc).2]
    exact h.2 c hc
theorem q2_tp (τ : TS) (i k : Nat) (v : Int32) : tp_up τ i k v = q2 τ i (upd (τ i) k v) (τ (i + 1)) := by
  have h := q2_up τ i k (τ i) (τ (i + 1)) v
  rw [q2_self] at h
  exact h
section CN
variable {τ : TS} {B N : Int}
theorem gT.of2 {τ2 : TS} {B2 c : Int} (h : gT N τ B) (e : ∀ j, j < 17 → τ2 j = τ j) (hI : tI 17 (τ 1 0).toInt (τ 1 1).toInt (τ 6) (fun _ => c + 1) (fun _ => 0) (fun _ => 1) (tDl τ) 0 B2 τ2) (hc : (τ2 17 4).toInt = c) : gT N τ2 B2 := by
  refine ⟨h.1.cg e, ?_, ?_⟩
  · rw [tDl_cg (e 4 (by decide)), e 1 (by decide), e 6 (by decide), hc]
    exact hI
  · rw [e 1 (by decide)]
    exact h.2.2
/-- a caller's row is set, its next as before -/
theorem s_setCaller (h : gT N τ B) {n : Nat} (hn : (n : Int) < (τ 17 3).toInt) {r : Nat → Int32} (hr : qCal r (τ (94 + 5 * n)) (τ (95 + 5 * n) 1).toInt ((τ 17 4).toInt + 1)) (h4 : r 4 = τ (93 + 5 * n) 4) (hg : (τ (95 + 5 * n) 2).toInt ≤ (r 1).toInt) : gT N (q2 τ (93 + 5 * n) r (τ (94 + 5 * n))) B := by
  have h6 := h.2.1.1.2
  obtain ⟨-, b0, b1, b2, b3, b4, b5, b6⟩ := s_soundC h hn
  have hI := h.2.1.caller (c := n) hn (lo2 := fun _ => (τ 17 4).toInt + 1) (xc2 := fun _ => 0) (r := r) (t := τ (94 + 5 * n)) (fun _ => ⟨hr, by
    rw [show 17 + 78 + 5 * n = 95 + 5 * n by omega, show 17 + 79 + 5 * n = 96 + 5 * n by omega, h4]
    exact ⟨b0, b1, b2, b3, b4, hg, b6⟩⟩) (fun d _ hd => (h.2.1.2.2.2.1 d hd).1) (fun d => by
    by_cases hd : d = n
    · subst hd
      rw [if_pos rfl, h4]
      exact Int.le_refl _
    · rw [if_neg hd]
      exact Int.le_refl _)
  rw [show 17 + 76 + 5 * n = 93 + 5 * n by omega] at hI
  exact h.of2 (fun j hj => q2_n _ _ _ _ (by omega) (by omega)) hI (by rw [q2_n _ _ _ _ (by omega) (by omega)])
/-- a callee's row is set, what it wants as before -/
theorem s_setCallee (h : gT N τ B) {n : Nat} (hn : (n : Int) < (τ 17 3).toInt) {r : Nat → Int32} (h1 : r 1 = τ (95 + 5 * n) 1) (h0 : r 0 = τ (95 + 5 * n) 0) (hr : 0 ≤ (r 2).toInt ∧ (r 2).toInt ≤ (r 1).toInt ∧ (r 2).toInt ≤ (τ (93 + 5 * n) 1).toInt) : gT N (q2 τ (95 + 5 * n) r (τ (96 + 5 * n))) B := by
  have h6 := h.2.1.1.2
  obtain ⟨a0, b0, b1, b2, b3, b4, b5, b6⟩ := s_soundC h hn
  have hI := h.2.1.callee (c := n) hn (r := r) (q := τ (96 + 5 * n)) (fun _ => ⟨by
    rw [show 17 + 76 + 5 * n = 93 + 5 * n by omega]
    unfold qCle
    rw [h1, h0]
    rw [h1] at hr
    exact ⟨b0, b1, b2, hr.1, hr.2.1, hr.2.2, b6⟩, by
    rw [show 17 + 76 + 5 * n = 93 + 5 * n by omega, show 17 + 77 + 5 * n = 94 + 5 * n by omega, h1]
    exact a0⟩) (by
    unfold tWt
    rw [show 17 + 78 + 5 * n = 95 + 5 * n by omega, h1]
    exact Int.le_refl _)
  rw [show 17 + 78 + 5 * n = 95 + 5 * n by omega] at hI
  exact h.of2 (fun j hj => q2_n _ _ _ _ (by omega) (by omega)) hI (by rw [q2_n _ _ _ _ (by omega) (by omega)])
theorem s_connX {x : Int32} (h6 : (τ 17 3).toInt ≤ 6) {K : TS → Nat → Prop} {X : TS → Nat → Prop} (hX : ∀ n, X τ n) (hk : 0 ≤ x.toInt → x.toInt < (τ 17 3).toInt → K τ (92 + 5 * x.toInt.toNat)) : wpx_X8_connectionOf τ 0 x K X := by
  refine ⟨fun _ => hX 0, fun c => ⟨fun c2 => ?_, fun _ => hX 0⟩⟩
  have x0 : 0 ≤ x.toInt := by
    rw [fa_lt] at c
    simp only [Int32.reduceToInt] at c
    omega
  have x1 : x.toInt < (τ 17 3).toInt := by
    rw [fa_lt] at c2
    exact c2
  refine ⟨q_in x0 (by omega), ?_⟩
  rw [q_cl]
  exact hk x0 x1
theorem s_X8_close (h : gT N τ B) {x1 : Int32} {K : TS → Int32 → Prop} {X : TS → Nat → Prop} (hX : ∀ n, X τ n)
    (hk : ∀ (τ2 : TS) (v : Int32), gT N τ2 B → gF τ τ2 → τ2 17 = τ 17 → K τ2 v) : wpx_X8_close τ 0 x1 K X := by
  have h6 := h.2.1.1.2
  unfold wpx_X8_close wpx_X8_callerOf
  refine s_connX h6 hX (fun x0 x1' => ?_)
  generalize hnn : x1.toInt.toNat = n
  have hn : (n : Int) < (τ 17 3).toInt := by omega
  obtain ⟨hq, hz⟩ := s_soundC h hn
  refine ⟨fun _ => hX 2, fun c2 => ⟨fun _ => hX 2, fun c3 => ⟨fun c0 τ2 e2 => ?_, fun _ => hX 2⟩⟩⟩
  rw [show 92 + 5 * n + 1 = 93 + 5 * n by omega] at c2 c3 c0 e2 ⊢
  rw [q2_tp, show 93 + 5 * n + 1 = 94 + 5 * n by omega] at e2
  have hq2 : qCal (upd (τ (93 + 5 * n)) 2 1) (τ (94 + 5 * n)) (τ (95 + 5 * n) 1).toInt ((τ 17 4).toInt + 1) := by
    unfold qCal at hq ⊢
    simp only [q2_a, q2_b, q2_up, q2_rwb, q2_rwa, q_updA, Nat.reduceEqDiff, reduceIte, Nat.succ_ne_self, fa_lt, fa_le, fa_eq, q_add, q_sub, q_ite, Int32.reduceToInt, iff_true, true_iff, true_or, or_true, and_true, true_and, implies_true] at c2 c3 c0 hq ⊢
    omega
  have hg := s_setCaller h hn hq2 rfl hz.2.2.2.2.2.1
  rw [← e2] at hg
  have f2 : ∀ j, j ≠ 93 + 5 * n → τ2 j = τ j := fun j hj => by
    rw [e2]
    by_cases h1 : j = 94 + 5 * n
    · subst h1
      rw [show 94 + 5 * n = 93 + 5 * n + 1 by omega, q2_b]
    · exact q2_n _ _ _ _ hj (by omega)
  have hF : gF τ τ2 := ⟨fun j hj => f2 j (by omega), fun c hc => ⟨?_, by rw [f2 _ (by omega)]⟩⟩
  · unfold wp_X1_things
    exact ⟨fun _ => hk τ2 _ hg hF (f2 17 (by omega)), fun _ => hk τ2 _ hg hF (f2 17 (by omega))⟩
  · by_cases h1 : c = n
    · subst h1
      rw [e2, q2_a]
      rfl
    · rw [f2 _ (by omega)]
theorem s_X6_connect (h : gT N τ B) (hB : B < 1400000000) (hm : (τ 17 3).toInt < 6) (hck : (τ 17 4).toInt ≤ 80000) {x1 x2 x3 : Int32} (h1 : 0 ≤ x1.toInt ∧ x1.toInt < (τ 1 0).toInt) (h2 : 0 ≤ x2.toInt ∧ x2.toInt < (τ 1 0).toInt) (h3 : 1 ≤ x3.toInt ∧ x3.toInt ≤ 16) {K : TS → Int32 → Prop}
    (hk : ∀ τ2 : TS, gT N τ2 (B + 1) → gF τ τ2 → (τ2 17 3).toInt = (τ 17 3).toInt + 1 → τ2 17 4 = τ 17 4 → K τ2 (τ 17 3)) : wp_X6_connect τ 17 x1 x2 x3 K := by
  obtain ⟨hn, hI, hN⟩ := id h
  have hm0 := hI.1
  have hc0 := hI.2.1
  have hls := hI.2.2.1
  have hex : ∃ m : Nat, (τ 17 3).toInt.toNat = m := ⟨_, rfl⟩
  obtain ⟨m, hmm⟩ := hex
  have hm6 : m < 6 := by omega
  have hfr := hI.2.2.2.2.2 rfl m hm6 (by omega)
  unfold tFr at hfr
  rw [show 17 + 76 + 5 * m = 93 + 5 * m by omega, show 17 + 78 + 5 * m = 95 + 5 * m by omega, show 17 + 79 + 5 * m = 96 + 5 * m by omega] at hfr
  obtain ⟨⟨z1, z2, z3, z4, z5⟩, ⟨z6, z7⟩, z8⟩ := hfr
  unfold wp_X6_connect
  intro x21 e21
  subst e21
  refine ⟨q_in hm0.1 hm, ?_⟩
  rw [q_cl, hmm, show 17 + 2 + 73 + 5 * m = 92 + 5 * m by omega, show 92 + 5 * m + 3 = 95 + 5 * m by omega, show 92 + 5 * m + 1 = 93 + 5 * m by omega]
  intro τ23 e23 τ24 e24 τ25 e25
  have f25 : ∀ j, j ≠ 92 + 5 * m → j ≠ 95 + 5 * m → τ25 j = τ j := fun j ha hb => by rw [e25, c0_n _ _ _ hb, e24, c0_n _ _ _ ha, e23, c0_n _ _ _ ha]
  have g92 : τ25 (92 + 5 * m) 0 = x1 ∧ τ25 (92 + 5 * m) 1 = x2 := by
    rw [e25, c0_n _ _ _ (by omega), e24, c0_s, e23, c0_s]
    exact ⟨rfl, rfl⟩
  have g95 : τ25 (95 + 5 * m) = upd (τ (95 + 5 * m)) 0 x3 := by rw [e25, c0_s, e24, c0_n _ _ _ (by omega), e23, c0_n _ _ _ (by omega)]
  clear e23 e24 e25
  rw [f25 17 (by omega) (by omega)]
  have e := q2_self τ25 (93 + 5 * m)
  refine Eq.mp (congrArg (fun z => wp_X1_begin z (93 + 5 * m) x3 (τ 17 4) _) e) ?_
  refine s_X1_begin ⟨hc0.1, by omega⟩ ?_ (fun r2 t2 hq e1 e2 e4 τ27 e27 => ?_)
  · rw [f25 _ (by omega) (by omega)]
    exact ⟨z1, z2, z3, z4, z5⟩
  have r93 : τ27 (93 + 5 * m) = r2 := by rw [e27, c0_n _ _ _ (by omega), q2_a]
  have r94 : τ27 (94 + 5 * m) = t2 := by rw [e27, c0_n _ _ _ (by omega), show 94 + 5 * m = 93 + 5 * m + 1 by omega, q2_b]
  have f27 : ∀ j, j ≠ 17 → j ≠ 93 + 5 * m → j ≠ 94 + 5 * m → τ27 j = τ25 j := fun j ha hb hc => by rw [e27, c0_n _ _ _ ha, q2_n _ _ _ _ hb (by omega)]
  have g17 : τ27 17 = upd (τ 17) 3 (τ 17 3 + 1) := by rw [e27, c0_s, q2_n _ _ _ _ (by omega) (by omega), f25 17 (by omega) (by omega)]
  have fr : ∀ j, j < 92 + 5 * m ∨ 96 + 5 * m ≤ j → j ≠ 17 → τ27 j = τ j := fun j hj h17 => by rw [f27 j h17 (by omega) (by omega), f25 j (by omega) (by omega)]
  have r95 : τ27 (95 + 5 * m) = upd (τ (95 + 5 * m)) 0 x3 := by rw [f27 _ (by omega) (by omega) (by omega), g95]
  have r92 : τ27 (92 + 5 * m) 0 = x1 ∧ τ27 (92 + 5 * m) 1 = x2 := by rw [f27 _ (by omega) (by omega) (by omega)]; exact g92
  have r96 : τ27 (96 + 5 * m) = τ (96 + 5 * m) := fr _ (by omega) (by omega)
  clear e27 f27 f25 g92 g95 e
  have hm1 : (τ 17 3 + 1).toInt = (τ 17 3).toInt + 1 := by
    simp only [fa_lt, fa_le, fa_eq, q_add, q_sub, q_ite, Int32.reduceToInt]
    omega
  have s3 : τ27 17 3 = τ 17 3 + 1 := by rw [g17]; rfl
  have s4 : τ27 17 4 = τ 17 4 := by rw [g17]; rfl
  have s5 : τ27 17 5 = τ 17 5 := by rw [g17]; rfl
  have ewt : ∀ d : Nat, (d : Int) < (τ 17 3).toInt → tWt τ27 17 d = tWt τ 17 d := fun d hd => by
    unfold tWt
    rw [fr _ (by omega) (by omega)]
  have enx : ∀ d : Nat, (d : Int) < (τ 17 3).toInt → tNx τ27 17 (fun _ => 0) d = tNx τ 17 (fun _ => 0) d := fun d hd => by
    unfold tNx
    rw [fr _ (by omega) (by omega)]
  have hI27 : tI 17 (τ 1 0).toInt (τ 1 1).toInt (τ 6) (fun _ => (τ 17 4).toInt + 1) (fun _ => 0) (fun _ => 1) (tDl τ) 0 B τ27 := by
    refine ⟨by rw [s3]; omega, by rw [s4]; exact hc0, by rw [s5]; exact hls, fun c hc => ?_, fun k hk24 _ => ?_, fun _ c hc6 hcm => ?_⟩
    · rw [s3] at hc
      by_cases hcm : c = m
      · subst hcm
        unfold tCon tWt
        rw [show 17 + 76 + 5 * c = 93 + 5 * c by omega, show 17 + 77 + 5 * c = 94 + 5 * c by omega, show 17 + 78 + 5 * c = 95 + 5 * c by omega, show 17 + 79 + 5 * c = 96 + 5 * c by omega, show 17 + 75 + 5 * c = 92 + 5 * c by omega, r93, r94, r95, r96, r92.1, r92.2, e4, e1]
        have w1 : upd (τ (95 + 5 * c)) 0 x3 1 = 0 := z6
        have w2 : upd (τ (95 + 5 * c)) 0 x3 2 = 0 := z7
        have w0 : upd (τ (95 + 5 * c)) 0 x3 0 = x3 := rfl
        unfold qCle
        rw [w1, w2, w0]
        refine ⟨hq, ⟨h3, by decide, by decide, by decide, by decide, by decide, fun n hn2 => Or.inl (z8 n hn2), fun n hn2 hne => absurd (z8 n hn2) hne, fun _ => z8 _ (by decide)⟩, h1, h2⟩
      · have hold := hI.2.2.2.1 c (by omega)
        unfold tCon tWt at hold ⊢
        rw [fr (17 + 76 + 5 * c) (by omega) (by omega), fr (17 + 77 + 5 * c) (by omega) (by omega), fr (17 + 78 + 5 * c) (by omega) (by omega), fr (17 + 79 + 5 * c) (by omega) (by omega), fr (17 + 75 + 5 * c) (by omega) (by omega)]
        exact hold
    · obtain ⟨⟨w1, w2, w3, w4, w5⟩, w6, w7⟩ := hI.2.2.2.2.1 k hk24 (Or.inr rfl)
      unfold tWayR
      rw [s3, s4, hm1, fr (17 + 3 + 3 * k) (by omega) (by omega), fr (17 + 4 + 3 * k) (by omega) (by omega), fr (17 + 5 + 3 * k) (by omega) (by omega)]
      have hp : ∀ {q : Nat} {v : Int32}, pkOK (τ 17 3).toInt (tWt τ 17) (tNx τ 17 (fun _ => 0)) q v → pkOK ((τ 17 3).toInt + 1) (tWt τ27 17) (tNx τ27 17 (fun _ => 0)) q v := fun hp => hp.mono (by omega) (fun d hd => ⟨by rw [ewt d hd]; exact Int.le_refl _, by rw [enx d hd]; exact Int.le_refl _⟩) (Nat.le_refl _)
      exact ⟨⟨w1, w2, fun n hn2 => hp (w3 n hn2), fun n hn2 => (w4 n hn2).imp id hp, w5⟩, w6, w7⟩
    · rw [s3, hm1] at hcm
      have hold := hI.2.2.2.2.2 rfl c hc6 (by omega)
      unfold tFr at hold ⊢
      rw [fr (17 + 76 + 5 * c) (by omega) (by omega), fr (17 + 78 + 5 * c) (by omega) (by omega), fr (17 + 79 + 5 * c) (by omega) (by omega)]
      exact hold
  have h27 : gT N τ27 B := h.of2 (fun j hj => fr j (by omega) (by omega)) hI27 (by rw [s4])
  refine s_X6_sendHello (by decide) h27.1 h27.tS (by omega) hm0.1 (by rw [s3, hm1]; omega) (fun τ28 hS28 g2 g3 => ?_)
  have c28 : τ28 17 4 = τ 17 4 := by rw [g3 4 (by decide), s4]
  have h28 : gT N τ28 (B + 1) := h27.of hS28 (by rw [c28, s4])
  refine hk τ28 h28 ⟨fun j hj => ?_, fun c hc => ?_⟩ (by rw [g3 3 (by decide), s3, hm1]) c28
  · rw [g2 j (by omega), fr j (by omega) (by omega)]
  · rw [g2 _ (by omega), g2 _ (by omega)]
    by_cases hcm : c = m
    · subst hcm
      rw [r93, r95, e1, z1]
      exact ⟨rfl, rfl⟩
    · rw [fr _ (by omega) (by omega), fr _ (by omega) (by omega)]
      exact ⟨rfl, rfl⟩
theorem s_X8_call (h : gT N τ B) (hB : B < 1400000000) (hck : (τ 17 4).toInt ≤ 80000) {x1 x2 x3 : Int32} (h1 : 0 ≤ x1.toInt ∧ x1.toInt < (τ 1 0).toInt) (h2 : 0 ≤ x2.toInt ∧ x2.toInt < (τ 1 0).toInt) (h3 : 1 ≤ x3.toInt ∧ x3.toInt ≤ 16) {K : TS → Int32 → Prop} {X : TS → Nat → Prop} (hX : ∀ n, X τ n)
    (hk : ∀ τ2 : TS, (τ 17 3).toInt < 6 → gT N τ2 (B + 1) → gF τ τ2 → (τ2 17 3).toInt = (τ 17 3).toInt + 1 → τ2 17 4 = τ 17 4 → K τ2 (τ 17 3)) : wpx_X8_call τ 0 x1 x2 x3 K X := by
  unfold wpx_X8_call
  refine s_node h1.1 h1.2 (s_node h2.1 h2.2 ⟨fun _ => s_range (by simp only [Int32.reduceToInt]; omega) (by simp only [Int32.reduceToInt]; omega) ⟨fun c => ?_, fun _ => hX 2⟩, fun _ => hX 1⟩)
  have hm : (τ 17 3).toInt < 6 := by
    simp only [fa_lt, fa_le, fa_eq, q_add, q_sub, q_ite, Int32.reduceToInt] at c
    exact c
  exact s_X6_connect h hB hm hck h1 h2 h3 (fun τ2 g1 g2 g3 g4 => hk τ2 hm g1 g2 g3 g4)
end CN
