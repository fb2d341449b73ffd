/-! a traffic looks at its own cells alone -/
theorem tI.cg {T : Nat} {N L A B : Int} {up : Nat → Int32} {lo xc fl fh : Nat → Int} {τ τ2 : TS} (h : tI T N L up lo xc fl fh A B τ) (e : ∀ j, T ≤ j → j < T + 105 → τ2 j = τ j) : tI T N L up lo xc fl fh A B τ2 := by
  obtain ⟨h1, h2, h3, h4, h5, h6⟩ := h
  have e0 : τ2 T = τ T := e T (by omega) (by omega)
  have ewt : ∀ c : Nat, (c : Int) < (τ T 3).toInt → tWt τ2 T c = tWt τ T c := fun c hc => by
    unfold tWt
    rw [e (T + 78 + 5 * c) (by omega) (by omega)]
  have enx : ∀ c : Nat, (c : Int) < (τ T 3).toInt → tNx τ2 T xc c = tNx τ T xc c := fun c hc => by
    unfold tNx
    rw [e (T + 76 + 5 * c) (by omega) (by omega)]
  refine ⟨by rw [e0]; exact h1, by rw [e0]; exact h2, by rw [e0]; exact h3, fun c hc => ?_, fun k hk hkL => ?_, fun hT c hc hm => ?_⟩
  · rw [e0] at hc
    have := h4 c hc
    unfold tCon at this ⊢
    rw [ewt c hc, e (T + 76 + 5 * c) (by omega) (by omega), e (T + 77 + 5 * c) (by omega) (by omega), e (T + 78 + 5 * c) (by omega) (by omega), e (T + 79 + 5 * c) (by omega) (by omega), e (T + 75 + 5 * c) (by omega) (by omega)]
    exact this
  · obtain ⟨⟨w1, w2, w3, w4, w5⟩, w6, w7⟩ := h5 k hk hkL
    unfold tWayR
    rw [e0, e (T + 3 + 3 * k) (by omega) (by omega), e (T + 4 + 3 * k) (by omega) (by omega), e (T + 5 + 3 * k) (by omega) (by omega)]
    have hm : ∀ {m : Nat} {v : Int32}, pkOK (τ T 3).toInt (tWt τ T) (tNx τ T xc) m v → pkOK (τ T 3).toInt (tWt τ2 T) (tNx τ2 T xc) m v := fun hp => hp.mono (Int.le_refl _) (fun d hd => ⟨by rw [ewt d hd]; exact Int.le_refl _, by rw [enx d hd]; exact Int.le_refl _⟩) (Nat.le_refl _)
    exact ⟨⟨w1, w2, fun n hn => hm (w3 n hn), fun n hn => (w4 n hn).imp id hm, w5⟩, w6, w7⟩
  · rw [e0] at hm
    have := h6 hT c hc hm
    unfold tFr at this ⊢
    rw [e (T + 76 + 5 * c) (by omega) (by omega), e (T + 78 + 5 * c) (by omega) (by omega), e (T + 79 + 5 * c) (by omega) (by omega)]
    exact this
theorem qN.cg {τ τ2 : TS} (h : qN τ) (e : ∀ j, j < 17 → τ2 j = τ j) : qN τ2 := by
  have h8 := h.1.1.2
  unfold qN
  rw [e 1 (by decide), e 2 (by decide), e 3 (by decide), e 4 (by decide), e 5 (by decide), e 6 (by decide)]
  refine ⟨h.1, fun g hg => ?_, h.2.2⟩
  have := h.2.1 g hg
  rw [e (8 + g) (by omega)]
  exact this
theorem tDl_cg {τ τ2 : TS} (e : τ2 4 = τ 4) : tDl τ2 = tDl τ := by
  funext k
  unfold tDl
  rw [e]
theorem gT.cg {τ τ2 : TS} {B N : Int} (h : gT N τ B) (e : ∀ j, j < 122 → τ2 j = τ j) : gT N τ2 B := by
  refine ⟨h.1.cg (fun j hj => e j (by omega)), ?_, ?_⟩
  · rw [tDl_cg (e 4 (by decide)), e 1 (by decide), e 6 (by decide), e 17 (by decide)]
    exact h.2.1.cg (fun j h1 h2 => e j (by omega))
  · rw [e 1 (by decide)]
    exact h.2.2
/-- the first traffic has gone on over the same net -/
theorem gT.of {τ τ2 : TS} {B B2 c N : Int} (h : gT N τ B) (hS : tS 17 τ (fun _ => c + 1) (fun _ => 0) (fun _ => 1) (tDl τ) 0 B2 τ2) (hc : (τ2 17 4).toInt = c) : gT N τ2 B2 := by
  refine ⟨h.1.cg (fun j hj => hS.2.1 j (by omega)), ?_, ?_⟩
  · rw [tDl_cg (hS.2.1 4 (by decide)), hS.2.1 1 (by decide), hS.2.1 6 (by decide), hc]
    exact hS.1
  · rw [hS.2.1 1 (by decide)]
    exact h.2.2
theorem gT.tS {τ : TS} {B N : Int} (h : gT N τ B) : tS 17 τ (fun _ => (τ 17 4).toInt + 1) (fun _ => 0) (fun _ => 1) (tDl τ) 0 B τ := ⟨h.2.1, fun _ _ => rfl, fun _ _ => ⟨rfl, rfl⟩⟩
section PA
variable {τ : TS} {B N : Int}
theorem s_X8_pass (h : gT N τ B) (hB : B < 1400000000) (hck : (τ 17 4).toInt ≤ 80000) {x : Int32} (hx : 1 ≤ x.toInt ∧ x.toInt ≤ 12) {K : TS → Int32 → Prop}
    (hk : ∀ τ2, gT N τ2 (B + 15408) → tS 17 τ (fun _ => (τ 17 4).toInt + x.toInt + 1) (fun _ => 0) (fun _ => 1) (tDl τ) 0 (B + 15408) τ2 → τ2 17 3 = τ 17 3 → (τ2 17 4).toInt = (τ 17 4).toInt + x.toInt → K τ2 (τ2 17 4)) : wp_X8_pass τ 0 x K := by
  have hn := h.1
  have hc0 := h.2.1.2.1
  generalize hclk : (τ 17 4).toInt = clk at *
  unfold wp_X8_pass
  refine ⟨fun c => ?_, fun _ => ⟨fun _ => ?_, fun c => ?_⟩⟩
  · simp only [fa_lt, fa_le, fa_eq, q_add, q_sub, q_ite, Int32.reduceToInt] at c
    omega
  · refine ⟨fun τ2 y => 0 ≤ y.toInt ∧ y.toInt ≤ x.toInt ∧ tS 17 τ (fun _ => clk + y.toInt + 1) (fun _ => 0) (fun _ => 1) (tDl τ) 0 (B + 1284 * y.toInt) τ2 ∧ τ2 17 3 = τ 17 3 ∧ (τ2 17 4).toInt = clk + y.toInt, fun _ y => 12 - y.toInt.toNat, ⟨by decide, by simp only [Int32.reduceToInt]; omega, ?_, rfl, ?_⟩, ?_⟩
    · have := h.tS
      rw [hclk] at this
      simpa using this
    · simpa using hclk
    rintro τ2 y ⟨y0, y1, hS, hm, hc⟩
    refine ⟨fun c => ?_, fun c => ?_⟩
    · have ey : y.toInt = x.toInt := by
        rw [fa_le] at c
        omega
      rw [ey] at hS hc
      have hS2 := hS.mono (Int.le_refl 0) (show B + 1284 * x.toInt ≤ B + 15408 by omega)
      exact hk τ2 (h.of hS2 hc) hS2 hm hc
    · have yl : y.toInt < x.toInt := by
        rw [fa_le] at c
        omega
      refine s_X6_tick (clk := clk + y.toInt) (by decide) hn hS hc (by omega) (by omega) (fun τ3 hS3 hm3 hc3 z ez => ?_)
      have e1 : z.toInt = y.toInt + 1 := by
        subst ez
        simp only [fa_lt, fa_le, fa_eq, q_add, q_sub, q_ite, Int32.reduceToInt]
        omega
      refine ⟨⟨by omega, by omega, ?_, hm3.trans hm, by omega⟩, by show 12 - z.toInt.toNat < 12 - y.toInt.toNat; omega⟩
      rw [e1, show clk + (y.toInt + 1) + 1 = clk + y.toInt + 1 + 1 by omega, show B + 1284 * (y.toInt + 1) = B + 1284 * y.toInt + 1284 by omega]
      exact hS3
  · exfalso
    simp only [fa_lt, fa_le, fa_eq, q_add, q_sub, q_ite, Int32.reduceToInt] at c
    omega
theorem s_X8_lostIn (h : gT N τ B) (hB : B < 1400000000) (hck : (τ 17 4).toInt ≤ 80000) {K : TS → Int32 → Prop}
    (hk : ∀ (τ2 : TS) (v : Int32), (∀ m, m < 122 ∨ 227 ≤ m → τ2 m = τ m) → 0 ≤ v.toInt → K τ2 v) : wp_X8_lostIn τ 0 4 K := by
  have hn := h.1
  have hc0 := h.2.1.2.1
  have hls := h.2.1.2.2.1
  have hS0 : tS 17 τ (fun _ => (τ 17 4).toInt + 1) (fun _ => 0) (fun _ => 1) (tDl τ) (τ 17 5).toInt (τ 17 5).toInt τ := by
    obtain ⟨z1, z2, z3, z4⟩ := h.2.1
    exact ⟨⟨z1, z2, ⟨Int.le_refl _, Int.le_refl _⟩, z4⟩, fun _ _ => rfl, fun _ _ => ⟨rfl, rfl⟩⟩
  generalize hclk : (τ 17 4).toInt = clk at *
  unfold wp_X8_lostIn
  refine ⟨fun c => absurd c (by decide), fun _ => ⟨fun _ => ?_, fun c => absurd (by decide) c⟩⟩
  refine s_X6_copyFrom hn hS0 (fun τ2 fr hI e5 e4 => ?_)
  have hn2 : qN τ2 := hn.cg (fun j hj => fr j (by omega))
  have hS2 : tS 122 τ2 (fun _ => clk + 1) (fun _ => 0) (fun _ => 1) (tDl τ2) (τ 17 5).toInt (τ 17 5).toInt τ2 := by
    refine ⟨?_, fun _ _ => rfl, fun _ _ => ⟨rfl, rfl⟩⟩
    rw [tDl_cg (fr 4 (by decide)), fr 1 (by decide), fr 6 (by decide)]
    exact hI
  refine ⟨fun τ3 y => 0 ≤ y.toInt ∧ y.toInt ≤ 4 ∧ tS 122 τ2 (fun _ => clk + y.toInt + 1) (fun _ => 0) (fun _ => 1) (tDl τ2) (τ 17 5).toInt ((τ 17 5).toInt + 1284 * y.toInt) τ3 ∧ (τ3 122 4).toInt = clk + y.toInt, fun _ y => 4 - y.toInt.toNat, ⟨by decide, by decide, by simpa using hS2, ?_⟩, ?_⟩
  · rw [e4, hclk]
    simp
  rintro τ3 y ⟨y0, y1, hS, hc⟩
  have f3 : ∀ m, m < 122 ∨ 227 ≤ m → τ3 m = τ m := fun m hm => by rw [hS.2.1 m (by omega), fr m hm]
  refine ⟨fun _ => hk τ3 _ f3 ?_, fun c => ?_⟩
  · have h1 := hS.1.2.2.1
    rw [f3 17 (by decide)]
    rw [q_sub]
    omega
  · have yl : y.toInt < 4 := by
      simp only [fa_lt, fa_le, fa_eq, q_add, q_sub, q_ite, Int32.reduceToInt] at c
      omega
    refine s_X6_tick (clk := clk + y.toInt) (by decide) hn2 hS hc (by omega) (by omega) (fun τ4 hS4 hm4 hc4 z ez => ?_)
    have e1 : z.toInt = y.toInt + 1 := by
      subst ez
      simp only [fa_lt, fa_le, fa_eq, q_add, q_sub, q_ite, Int32.reduceToInt]
      omega
    refine ⟨⟨by omega, by omega, ?_, by omega⟩, by show 4 - z.toInt.toNat < 4 - y.toInt.toNat; omega⟩
    rw [e1, show clk + (y.toInt + 1) + 1 = clk + y.toInt + 1 + 1 by omega, show (τ 17 5).toInt + 1284 * (y.toInt + 1) = (τ 17 5).toInt + 1284 * y.toInt + 1284 by omega]
    exact hS4
end PA
/-! a digest: what it is hangs on the cells below 122 alone -/
def dIt (g : Nat → Int64 → Int64) (a : Int64) : Nat → Int64
  | 0 => a
  | k + 1 => g k (dIt g a k)
theorem dIt_s (g : Nat → Int64 → Int64) (a : Int64) (k : Nat) : dIt g a (k + 1) = g k (dIt g a k) := rfl
def dWy (τ : TS) (j : Nat) (a : Int64) : Int64 := ((a * 31 + Int32.toInt64 (τ (20 + 3 * j) 2)) * 31 + Int32.toInt64 (τ (20 + 3 * j) 4)) * 31 + Int32.toInt64 (τ (20 + 3 * j) 5)
def dLk (τ : TS) (k : Nat) (y : Int64) : Int64 := dIt (fun n a => dWy τ (2 * k + n) a) (y * 31 + Int32.toInt64 (if τ 6 k = 0 then 0 else 1)) 2
section DG
variable {τ τ2 : TS} {B N : Int}
theorem s_X8_digestOfLink (e : ∀ j, j < 122 → τ2 j = τ j) {x : Int32} (x0 : 0 ≤ x.toInt) (x1 : x.toInt < 12) {y : Int64} {K : TS → Int64 → Prop} (hk : K τ2 (dLk τ x.toInt.toNat y)) : wp_X8_digestOfLink τ2 0 y x K := by
  unfold wp_X8_digestOfLink
  rw [q_cl, e 6 (by decide)]
  have go : ∀ v : Int32, v = (if τ 6 x.toInt.toNat = 0 then 0 else 1) → (∀ y24 : Int64, y24 = ((y * 31) + (Int32.toInt64 v)) → ∃ (I28 : TS → Int64 → Int32 → Prop) (u28 : TS → Int64 → Int32 → Nat), I28 τ2 y24 0 ∧ ∀ (τ25 : TS) (y26 : Int64) (x27 : Int32), I28 τ25 y26 x27 → (((2 ≤ x27) → (K τ25 y26)) ∧ ((¬ 2 ≤ x27) → (vp_in ((2 * x) + x27) 24 ∧ (∀ y31 : Int64, y31 = ((y26 * 31) + (Int32.toInt64 (τ25 ((17 + 1) + 2 + 3 * (Int32.toNatClampNeg ((2 * x) + x27))) 2))) → ∀ y32 : Int64, y32 = ((y31 * 31) + (Int32.toInt64 (τ25 ((17 + 1) + 2 + 3 * (Int32.toNatClampNeg ((2 * x) + x27))) 4))) → ∀ y33 : Int64, y33 = ((y32 * 31) + (Int32.toInt64 (τ25 ((17 + 1) + 2 + 3 * (Int32.toNatClampNeg ((2 * x) + x27))) 5))) → ∀ x34 : Int32, x34 = x27 + 1 → I28 τ25 y33 x34 ∧ u28 τ25 y33 x34 < u28 τ25 y26 x27))))) := by
    intro v hv y1 ey1
    refine ⟨fun τ3 a n => τ2 = τ3 ∧ 0 ≤ n.toInt ∧ n.toInt ≤ 2 ∧ a = dIt (fun n a => dWy τ (2 * x.toInt.toNat + n) a) (y * 31 + Int32.toInt64 (if τ 6 x.toInt.toNat = 0 then 0 else 1)) n.toInt.toNat, fun _ _ n => 2 - n.toInt.toNat, ⟨rfl, by decide, by decide, ?_⟩, ?_⟩
    · rw [ey1, hv]
      rfl
    rintro τ3 a n ⟨rfl, n0, n1, ha⟩
    refine ⟨fun c => ?_, fun c => ?_⟩
    · have e2 : n.toInt = 2 := by
        simp only [fa_lt, fa_le, fa_eq, q_add, q_sub, q_ite, Int32.reduceToInt] at c
        omega
      rw [ha, e2]
      exact hk
    · have nl : n.toInt ≤ 1 := by
        simp only [fa_lt, fa_le, fa_eq, q_add, q_sub, q_ite, Int32.reduceToInt] at c
        omega
      have ex := q_2xy (x := x) x0 (by omega) n0 nl
      refine ⟨q_in (by omega) (by omega), ?_⟩
      rw [q_cl, ex, show 17 + 1 + 2 + 3 * (2 * x.toInt + n.toInt).toNat = 20 + 3 * (2 * x.toInt.toNat + n.toInt.toNat) by omega, e _ (by omega)]
      intro y31 e31 y32 e32 y33 e33 m em
      have e1 : m.toInt = n.toInt + 1 := by
        subst em
        simp only [fa_lt, fa_le, fa_eq, q_add, q_sub, q_ite, Int32.reduceToInt]
        omega
      refine ⟨⟨rfl, by omega, by omega, ?_⟩, by show 2 - m.toInt.toNat < 2 - n.toInt.toNat; omega⟩
      rw [e1, show (n.toInt + 1).toNat = n.toInt.toNat + 1 by omega, dIt_s, ← ha, e33, e32, e31]
      rfl
  exact ⟨q_in x0 (by omega), fun v => v = (if τ 6 x.toInt.toNat = 0 then 0 else 1), fun v hv => go v hv, fun c => by rw [if_pos c], fun c => by rw [if_neg c]⟩
theorem s_X8_digestOfCaller (τ : TS) (j : Nat) : ∃ g : Int64 → Int64, ∀ τ2 : TS, τ2 j = τ j → τ2 (j + 1) = τ (j + 1) → ∀ (y : Int64) (K : TS → Int64 → Prop), K τ2 (g y) → wp_X8_digestOfCaller τ2 y j K := by
  refine ⟨?_, ?_⟩
  rotate_left
  · intro τ2 e1 e2 y K hk
    unfold wp_X8_digestOfCaller
    intros
    subst_vars
    rw [e1, e2]
    exact hk
theorem s_X8_digestOfCallee (τ : TS) (c : Nat) : ∃ g : Int64 → Int64, ∀ τ2 : TS, τ2 (93 + 5 * c) = τ (93 + 5 * c) → τ2 (95 + 5 * c) = τ (95 + 5 * c) → ∀ (y : Int64) (K : TS → Int64 → Prop), K τ2 (g y) → wp_X8_digestOfCallee τ2 y (92 + 5 * c) K := by
  refine ⟨fun y => ((y * 31 + Int32.toInt64 (τ (95 + 5 * c) 1)) * 31 + Int32.toInt64 (tUr τ c)) * 31 + Int32.toInt64 (τ (95 + 5 * c) 2), fun τ2 e1 e2 y K hk => ?_⟩
  unfold wp_X8_digestOfCallee
  rw [show 92 + 5 * c + 3 = 95 + 5 * c by omega, e2]
  intro y21 e21
  rw [e_unread]
  intro y24 e24
  have hu : tUr τ2 c = tUr τ c := by
    unfold tUr
    rw [e1, e2]
  rw [e24, hu, e21, e2]
  exact hk
theorem uS_cg (e : ∀ j, j < 122 → τ2 j = τ j) : ∀ k, k ≤ 24 → uS τ2 k = uS τ k
  | 0, _ => rfl
  | k + 1, hk => by rw [uS_s, uS_s, uS_cg e k (by omega), e _ (by omega)]
theorem s_X8_digest (h : gT N τ B) : ∃ y : Int64, ∀ τ2 : TS, (∀ j, j < 122 → τ2 j = τ j) → ∀ K : TS → Int64 → Prop, K τ2 y → wp_X8_digest τ2 0 K := by
  have hL := h.1.1.2.1
  have hN := h.1.1.1
  have h6 := h.2.1.1
  have hb := uS_b h.ways (2 * (τ 1 1).toInt.toNat) (by omega)
  have hv : ∃ v0 : Int32, v0.toInt = uS τ (2 * (τ 1 1).toInt.toNat) := ⟨nI (uS τ (2 * (τ 1 1).toInt.toNat)).toNat, by rw [nI_toInt (by omega)]; omega⟩
  obtain ⟨v0, hv0⟩ := hv
  have hg1 : ∃ g1 : Nat → Int64 → Int64, ∀ (c : Nat) (τ2 : TS), τ2 (93 + 5 * c) = τ (93 + 5 * c) → τ2 (93 + 5 * c + 1) = τ (93 + 5 * c + 1) → ∀ (y : Int64) (K : TS → Int64 → Prop), K τ2 (g1 c y) → wp_X8_digestOfCaller τ2 y (93 + 5 * c) K :=
    ⟨fun c => Classical.choose (s_X8_digestOfCaller τ (93 + 5 * c)), fun c => Classical.choose_spec (s_X8_digestOfCaller τ (93 + 5 * c))⟩
  obtain ⟨g1, hg1⟩ := hg1
  have hg2 : ∃ g2 : Nat → Int64 → Int64, ∀ (c : Nat) (τ2 : TS), τ2 (93 + 5 * c) = τ (93 + 5 * c) → τ2 (95 + 5 * c) = τ (95 + 5 * c) → ∀ (y : Int64) (K : TS → Int64 → Prop), K τ2 (g2 c y) → wp_X8_digestOfCallee τ2 y (92 + 5 * c) K :=
    ⟨fun c => Classical.choose (s_X8_digestOfCallee τ c), fun c => Classical.choose_spec (s_X8_digestOfCallee τ c)⟩
  obtain ⟨g2, hg2⟩ := hg2
  let y0 : Int64 := (((((58043 * 31 + Int32.toInt64 (τ 17 4)) * 31 + Int32.toInt64 (τ 1 0)) * 31 + Int32.toInt64 (τ 1 1)) * 31 + Int32.toInt64 (τ 17 5)) * 31 + Int32.toInt64 v0) * 31 + Int32.toInt64 (τ 17 3)
  let y1 : Int64 := dIt (dLk τ) y0 (τ 1 1).toInt.toNat
  let y2 : Int64 := dIt (fun c a => g2 c (g1 c a)) y1 (τ 17 3).toInt.toNat
  let y3 : Int64 := dIt (fun n a => a * 31 + Int32.toInt64 (τ (8 + n) 0)) y2 (τ 1 0).toInt.toNat
  refine ⟨y3, fun τ2 e K hk => ?_⟩
  unfold wp_X8_digest wp_X8_clock wp_X8_nodes wp_X8_links wp_X8_lost wp_X8_connections
  intro y23 e23 y26 e26 y29 e29 y32 e32
  refine s_X8_underWay (h.cg e) (fun v hv y35 e35 y38 e38 => ?_)
  rw [uS_cg e _ (by rw [e 1 (by decide)]; omega), e 1 (by decide)] at hv
  have ev : v = v0 := Int32.toInt_inj.mp (by rw [hv, hv0])
  rw [e 17 (by decide), e 1 (by decide)] at *
  have e0 : y38 = y0 := by rw [e38, e35, e32, e29, e26, e23, ev]
  clear e38 e35 e32 e29 e26 e23
  subst e0
  refine ⟨fun τ3 a n => τ2 = τ3 ∧ 0 ≤ n.toInt ∧ n.toInt ≤ (τ 1 1).toInt ∧ a = dIt (dLk τ) y0 n.toInt.toNat, fun _ _ n => 12 - n.toInt.toNat, ⟨rfl, by decide, by simp only [Int32.reduceToInt]; omega, rfl⟩, ?_⟩
  rintro τ3 a n ⟨rfl, n0, n1, ha⟩
  rw [e 1 (by decide)]
  refine ⟨fun c => ?_, fun c => ?_⟩
  · have en : n.toInt = (τ 1 1).toInt := by
      rw [fa_le] at c
      omega
    rw [en] at ha
    refine ⟨fun τ3 a n => τ2 = τ3 ∧ 0 ≤ n.toInt ∧ n.toInt ≤ (τ 17 3).toInt ∧ a = dIt (fun c a => g2 c (g1 c a)) y1 n.toInt.toNat, fun _ _ n => 6 - n.toInt.toNat, ⟨rfl, by decide, by simp only [Int32.reduceToInt]; omega, ha⟩, ?_⟩
    rintro τ3 b m ⟨rfl, m0, m1, hb2⟩
    rw [e 17 (by decide)]
    refine ⟨fun c2 => ?_, fun c2 => ?_⟩
    · have em : m.toInt = (τ 17 3).toInt := by
        rw [fa_le] at c2
        omega
      rw [em] at hb2
      refine ⟨fun τ3 a n => τ2 = τ3 ∧ 0 ≤ n.toInt ∧ n.toInt ≤ (τ 1 0).toInt ∧ a = dIt (fun n a => a * 31 + Int32.toInt64 (τ (8 + n) 0)) y2 n.toInt.toNat, fun _ _ n => 8 - n.toInt.toNat, ⟨rfl, by decide, by simp only [Int32.reduceToInt]; omega, hb2⟩, ?_⟩
      rintro τ3 d o ⟨rfl, o0, o1, hd⟩
      rw [e 1 (by decide)]
      refine ⟨fun c3 => ?_, fun c3 => ?_⟩
      · have eo : o.toInt = (τ 1 0).toInt := by
          rw [fa_le] at c3
          omega
        rw [eo] at hd
        rw [hd]
        exact hk
      · have ol : o.toInt < (τ 1 0).toInt := by
          rw [fa_le] at c3
          omega
        refine ⟨q_in o0 (by omega), fun y56 e56 x57 e57 => ?_⟩
        rw [q_cl, e _ (by omega)] at e56
        have e1 : x57.toInt = o.toInt + 1 := by
          subst e57
          simp only [fa_lt, fa_le, fa_eq, q_add, q_sub, q_ite, Int32.reduceToInt]
          omega
        refine ⟨⟨rfl, by omega, by omega, ?_⟩, by show 8 - x57.toInt.toNat < 8 - o.toInt.toNat; omega⟩
        rw [e1, show (o.toInt + 1).toNat = o.toInt.toNat + 1 by omega, dIt_s, ← hd, e56]
        rfl
    · have ml : m.toInt < (τ 17 3).toInt := by
        rw [fa_le] at c2
        omega
      have hv6 := q_in (x := m) (n := 6) m0 (by omega)
      refine ⟨hv6, ?_⟩
      rw [q_cl, show 17 + 2 + 73 + 5 * m.toInt.toNat + 1 = 93 + 5 * m.toInt.toNat by omega, show 17 + 2 + 73 + 5 * m.toInt.toNat = 92 + 5 * m.toInt.toNat by omega]
      refine hg1 m.toInt.toNat τ2 (e _ (by omega)) (e _ (by omega)) b _ ⟨hv6, hg2 m.toInt.toNat τ2 (e _ (by omega)) (e _ (by omega)) _ _ (fun x64 e64 => ?_)⟩
      have e1 : x64.toInt = m.toInt + 1 := by
        subst e64
        simp only [fa_lt, fa_le, fa_eq, q_add, q_sub, q_ite, Int32.reduceToInt]
        omega
      refine ⟨⟨rfl, by omega, by omega, ?_⟩, by show 6 - x64.toInt.toNat < 6 - m.toInt.toNat; omega⟩
      rw [e1, show (m.toInt + 1).toNat = m.toInt.toNat + 1 by omega, dIt_s, ← hb2]
  · have nl : n.toInt < (τ 1 1).toInt := by
      rw [fa_le] at c
      omega
    refine s_X8_digestOfLink e n0 (by omega) (fun x67 e67 => ?_)
    have e1 : x67.toInt = n.toInt + 1 := by
      subst e67
      simp only [fa_lt, fa_le, fa_eq, q_add, q_sub, q_ite, Int32.reduceToInt]
      omega
    refine ⟨⟨rfl, by omega, by omega, ?_⟩, by show 12 - x67.toInt.toNat < 12 - n.toInt.toNat; omega⟩
    rw [e1, show (n.toInt + 1).toNat = n.toInt.toNat + 1 by omega, dIt_s, ← ha]
end DG
