/-! links: laid, turned, told to lose -/
/-- what no change of links touches -/
def gF (τ τ2 : TS) : Prop := (∀ j, 122 ≤ j → τ2 j = τ j) ∧ ∀ c : Nat, c < 6 → τ2 (93 + 5 * c) 1 = τ (93 + 5 * c) 1 ∧ τ2 (95 + 5 * c) 2 = τ (95 + 5 * c) 2
theorem tI.net {N L L2 A B : Int} {up up2 : Nat → Int32} {lo xc fl fh fl2 fh2 : Nat → Int} {τ : TS} (h : tI 17 N L up lo xc fl fh A B τ) (h1 : ∀ k, k < 24 → up (k / 2) ≠ 0 → (up2 (k / 2) ≠ 0 ∨ ((τ (20 + 3 * k) 2).toInt = 0 ∧ ∀ n, n < 10 → τ (22 + 3 * k) n = -1)) ∧ fl2 k ≤ fl k ∧ fh k ≤ fh2 k) : tI 17 N L2 up2 lo xc fl2 fh2 A B τ := by
  obtain ⟨z1, z2, z3, z4, z5, z6⟩ := h
  refine ⟨z1, z2, z3, z4, fun k hk _ => ?_, z6⟩
  obtain ⟨w, w6, w7⟩ := z5 k hk (Or.inr rfl)
  refine ⟨w, fun e he hf => ?_, fun hu2 => ?_⟩
  · by_cases hu : up (k / 2) = 0
    · exact absurd ((w7 hu).2 _ (Nat.mod_lt _ (by decide))) hf
    · obtain ⟨-, a, b⟩ := h1 k hk hu
      have := w6 e he hf
      omega
  · by_cases hu : up (k / 2) = 0
    · exact w7 hu
    · rcases (h1 k hk hu).1 with a | a
      · exact absurd hu2 a
      · rw [show 17 + 3 + 3 * k = 20 + 3 * k by omega, show 17 + 5 + 3 * k = 22 + 3 * k by omega]
        exact a
section LK
variable {τ : TS} {B N : Int}
theorem s_node {x : Int32} (h0 : 0 ≤ x.toInt) (h1 : x.toInt < (τ 1 0).toInt) {K : TS → Prop} {X : TS → Nat → Prop} (hk : K τ) : wpx_X8_checkNode τ 0 x K X := by
  have a0 : ¬ x < 0 := by rw [fa_lt]; simp only [Int32.reduceToInt]; omega
  have a1 : x < τ 1 0 := by rw [fa_lt]; exact h1
  exact ⟨fun c => absurd c a0, fun _ => ⟨fun _ => hk, fun c => absurd a1 c⟩⟩
theorem s_range {x a b : Int32} (h0 : a.toInt ≤ x.toInt) (h1 : x.toInt ≤ b.toInt) {K : TS → Prop} {X : TS → Nat → Prop} (hk : K τ) : wpx_X8_checkRange τ x a b K X := by
  have a0 : ¬ x < a := by rw [fa_lt]; omega
  have a1 : x ≤ b := by rw [fa_le]; exact h1
  exact ⟨fun c => absurd c a0, fun _ => ⟨fun _ => hk, fun c => absurd a1 c⟩⟩
theorem s_link {x : Int32} {K : TS → Prop} {X : TS → Nat → Prop} (hX : ∀ n, X τ n) (hk : 0 ≤ x.toInt → x.toInt < (τ 1 1).toInt → K τ) : wpx_X8_checkLink τ 0 x K X := by
  refine ⟨fun _ => hX 0, fun c => ⟨fun c2 => hk ?_ ?_, fun _ => hX 0⟩⟩
  · rw [fa_lt] at c
    simp only [Int32.reduceToInt] at c
    omega
  · rw [fa_lt] at c2
    exact c2
theorem s_X3_joins (hL : (τ 1 1).toInt ≤ 12 ∧ 0 ≤ (τ 1 1).toInt) {x1 x2 : Int32} {K : TS → Int32 → Prop} (h0 : K τ 0) (h1 : K τ 1) : wp_X3_joins τ 1 x1 x2 K := by
  unfold wp_X3_joins
  refine ⟨fun τ2 l => τ = τ2 ∧ 0 ≤ l.toInt ∧ l.toInt ≤ (τ 1 1).toInt, fun _ l => 12 - l.toInt.toNat, ⟨rfl, by decide, by simp only [Int32.reduceToInt]; omega⟩, ?_⟩
  rintro τ2 l ⟨rfl, l0, l1⟩
  refine ⟨fun _ => h0, fun c => ?_⟩
  have ll : l.toInt < (τ 1 1).toInt := by
    rw [fa_le] at c
    omega
  have nxt : ∀ y : Int32, y = l + 1 → (τ = τ ∧ 0 ≤ y.toInt ∧ y.toInt ≤ (τ 1 1).toInt) ∧ 12 - y.toInt.toNat < 12 - l.toInt.toNat := fun y ey => by
    have : y.toInt = l.toInt + 1 := by
      subst ey
      simp only [fa_lt, fa_le, fa_eq, q_add, q_sub, q_ite, Int32.reduceToInt]
      omega
    exact ⟨⟨rfl, by omega, by omega⟩, by omega⟩
  refine s_X3_farEnd ⟨l0, by omega⟩ (fun _ => ?_) (fun _ _ => ?_) (fun _ _ => ?_) <;> exact ⟨fun _ => nxt, fun _ => h1⟩
theorem s_X8_addLink (h : gT N τ B) {x1 x2 x3 x4 : Int32} (h1 : 0 ≤ x1.toInt ∧ x1.toInt < (τ 1 0).toInt) (h2 : 0 ≤ x2.toInt ∧ x2.toInt < (τ 1 0).toInt) (h3 : 1 ≤ x3.toInt ∧ x3.toInt ≤ 9) (h4 : 1 ≤ x4.toInt ∧ x4.toInt ≤ 20) {K : TS → Int32 → Prop} {X : TS → Nat → Prop} (hX : ∀ n, X τ n)
    (hk : ∀ (τ2 : TS) (v : Int32), gT N τ2 B → (∀ j, 16 ≤ j → τ2 j = τ j) → K τ2 v) : wpx_X8_addLink τ 0 x1 x2 x3 x4 K X := by
  have hL := h.1.1.2.1
  unfold wpx_X8_addLink
  refine s_node h1.1 h1.2 (s_node h2.1 h2.2 ⟨fun _ => s_range (by simp only [Int32.reduceToInt]; omega) (by simp only [Int32.reduceToInt]; omega) (s_range (by simp only [Int32.reduceToInt]; omega) (by simp only [Int32.reduceToInt]; omega) ⟨fun _ => hX 2, fun c => ?_⟩), fun _ => hX 1⟩)
  have hl : (τ 1 1).toInt < 12 := by
    simp only [fa_lt, fa_le, fa_eq, q_add, q_sub, q_ite, Int32.reduceToInt] at c
    omega
  refine s_X3_joins (by omega) ⟨fun _ => ?_, fun c2 => absurd rfl c2⟩ ⟨fun c2 => absurd c2 (by decide), fun _ => hX 2⟩
  refine s_X3_layLink rfl rfl rfl rfl rfl rfl h.1.1 hl h1 h2 h3 h4 (fun τ2 fr t1 e1 t2 t3 t4 t5 t6 q1 q2 => hk τ2 _ ⟨⟨q1, q2, fun l hl2 => ?_, fun l hl2 hge => ?_⟩, ?_, ?_⟩ (fun j hj => fr j (by omega)))
  · rw [t6, q_updA]
    by_cases e : l = (τ 1 1).toInt.toNat
    · rw [if_pos e]; exact Or.inr rfl
    · rw [if_neg e]; exact h.1.2.2.1 l hl2
  · rw [t1, show upd (τ 1) 1 (τ 1 1 + 1) 1 = τ 1 1 + 1 from if_pos rfl, e1] at hge
    rw [t6, q_updA, if_neg (by omega)]
    exact h.1.2.2.2 l hl2 (by omega)
  · rw [fr 17 (by omega)]
    have e0 : τ2 1 0 = τ 1 0 := by rw [t1]; rfl
    rw [e0]
    refine (tI.net h.2.1 (fun k hk2 hu => ?_)).cg (fun j hj1 hj2 => fr j (by omega))
    have hne : k / 2 ≠ (τ 1 1).toInt.toNat := fun e => hu (h.1.2.2.2 (k / 2) (by omega) (by omega))
    refine ⟨Or.inl ?_, Int.le_refl _, ?_⟩
    · rw [t6, q_updA, if_neg hne]
      exact hu
    · unfold tDl
      rw [t4, q_updA, if_neg hne]
      exact Int.le_refl _
  · rw [t1]
    exact h.2.2
theorem gF.rf (τ : TS) : gF τ τ := ⟨fun _ _ => rfl, fun _ _ => ⟨rfl, rfl⟩⟩
theorem gF.cut {τ2 : TS} (e : ∀ j, 92 ≤ j → τ2 j = τ j) : gF τ τ2 := ⟨fun j hj => e j (by omega), fun c _ => by rw [e _ (by omega), e _ (by omega)]; exact ⟨rfl, rfl⟩⟩
theorem s_X8_lose (h : gT N τ B) {x1 x2 x3 : Int32} (h2 : 0 ≤ x2.toInt ∧ x2.toInt ≤ 1) (h3 : 0 ≤ x3.toInt ∧ x3.toInt ≤ 9) {K : TS → Int32 → Prop} {X : TS → Nat → Prop} (hX : ∀ n, X τ n)
    (hk : ∀ (τ2 : TS) (v : Int32), gT N τ2 B → gF τ τ2 → τ2 17 = τ 17 → K τ2 v) : wpx_X8_lose τ 0 x1 x2 x3 K X := by
  have hL := h.1.1.2.1
  unfold wpx_X8_lose wpx_X8_wayOf
  refine s_link hX (fun l0 l1 => ?_)
  have a0 : ¬ x2 < 0 := by rw [fa_lt]; simp only [Int32.reduceToInt]; omega
  have a1 : x2 ≤ 1 := by rw [fa_le]; simp only [Int32.reduceToInt]; omega
  have ex := q_2xy (x := x1) l0 (by omega) h2.1 h2.2
  refine k_no a0 (k_yes a1 ⟨q_in (by omega) (by omega), s_range (by simp only [Int32.reduceToInt]; omega) (by simp only [Int32.reduceToInt]; omega) (fun v _ τ2 e2 => ?_)⟩)
  rw [q_cl, ex, show 17 + 1 + 2 + 3 * (2 * x1.toInt + x2.toInt).toNat = 20 + 3 * (2 * x1.toInt + x2.toInt).toNat by omega] at e2
  generalize hkk : (2 * x1.toInt + x2.toInt).toNat = k at *
  have hk24 : k < 24 := by omega
  have f2 : ∀ j, j ≠ 20 + 3 * k → τ2 j = τ j := fun j hj => by rw [e2]; exact if_neg hj
  have eq3 : τ2 = q3 τ (20 + 3 * k) (upd (τ (20 + 3 * k)) 6 x3) (τ (21 + 3 * k)) (τ (22 + 3 * k)) := q3_ext (by rw [e2]; exact if_pos rfl) (by rw [show 20 + 3 * k + 1 = 21 + 3 * k by omega]; exact f2 _ (by omega)) (by rw [show 20 + 3 * k + 2 = 22 + 3 * k by omega]; exact f2 _ (by omega)) (fun j hj _ _ => f2 j hj)
  have hold := h.2.1.2.2.2.2.1 k hk24 (Or.inr rfl)
  have hI := h.2.1.way hk24 (fl2 := fun _ => 1) (fh2 := tDl τ) (r := upd (τ (20 + 3 * k)) 6 x3) (q := τ (21 + 3 * k)) (f := τ (22 + 3 * k)) ⟨⟨hold.1.1, hold.1.2.1, hold.1.2.2.1, hold.1.2.2.2.1, hold.1.2.2.2.2⟩, hold.2.1, hold.2.2⟩ (fun _ _ => ⟨rfl, rfl⟩)
  rw [show 17 + 3 + 3 * k = 20 + 3 * k by omega, ← eq3] at hI
  have e17 : τ2 17 = τ 17 := f2 17 (by omega)
  refine hk τ2 v ⟨h.1.cg (fun j hj => f2 j (by omega)), ?_, ?_⟩ (gF.cut (fun j hj => f2 j (by omega))) e17
  · rw [tDl_cg (f2 4 (by omega)), f2 1 (by omega), f2 6 (by omega), e17]
    exact hI
  · rw [f2 1 (by omega)]
    exact h.2.2
theorem s_X7_drop1 {N L A B : Int} {up : Nat → Int32} {lo xc fl fh : Nat → Int} (h : tI 17 N L up lo xc fl fh A B τ) {k : Nat} (hk24 : k < 24) {K : TS → Int32 → Prop}
    (hk : ∀ (τ2 : TS) (y : Int32), tI 17 N L up lo xc fl fh A B τ2 → (∀ j, j ≠ 20 + 3 * k → j ≠ 21 + 3 * k → j ≠ 22 + 3 * k → τ2 j = τ j) → ((τ2 (20 + 3 * k) 2).toInt = 0 ∧ ∀ n, n < 10 → τ2 (22 + 3 * k) n = -1) → (0 ≤ y.toInt ∧ y.toInt ≤ 30) → K τ2 y) : wp_X7_drop τ (20 + 3 * k) K := by
  have hold := h.2.2.2.2.1 k hk24 (Or.inr rfl)
  have e := q3_self τ (20 + 3 * k)
  refine Eq.mp (congrArg (fun z => wp_X7_drop z (20 + 3 * k) K) e) ?_
  rw [show 20 + 3 * k + 1 = 21 + 3 * k by omega, show 20 + 3 * k + 2 = 22 + 3 * k by omega]
  refine s_X7_drop hold.1 (fun r2 f2 y hw e2 hf hy => ?_)
  have hI := h.way hk24 (fl2 := fl) (fh2 := fh) (r := r2) (q := τ (21 + 3 * k)) (f := f2) ⟨hw, fun e9 _ hf9 => absurd (hf _ (Nat.mod_lt _ (by decide))) hf9, fun _ => ⟨by rw [e2]; rfl, hf⟩⟩ (fun _ _ => ⟨rfl, rfl⟩)
  rw [show 17 + 3 + 3 * k = 20 + 3 * k by omega] at hI
  refine hk _ y hI (fun j h1 h2 h3 => q3_n _ _ _ _ _ h1 (by omega) (by omega)) ⟨?_, fun n hn => ?_⟩ hy
  · rw [q3_a, e2]
    rfl
  · rw [show 22 + 3 * k = 20 + 3 * k + 2 by omega, q3_c]
    exact hf n hn
theorem s_X8_turn (h : gT N τ B) (hB : B < 1400000000) {x1 : Int32} {K : TS → Int32 → Prop} {X : TS → Nat → Prop} (hX : ∀ n, X τ n)
    (hk : ∀ (τ2 : TS) (v : Int32), gT N τ2 (B + 60) → gF τ τ2 → τ2 17 3 = τ 17 3 → τ2 17 4 = τ 17 4 → K τ2 v) : wpx_X8_turn τ 0 x1 K X := by
  have hL := h.1.1.2.1
  have hls := h.2.1.2.2.1
  unfold wpx_X8_turn
  refine s_link hX (fun l0 l1 => ?_)
  refine s_X3_flip rfl rfl rfl rfl rfl h.1.1 ⟨l0, l1⟩ (fun τ2 v fr hv e6 hr => ?_)
  have i12 : vp_in x1 12 := q_in l0 (by omega)
  have hq2 : qN τ2 := by
    unfold qN
    rw [fr 1 (by decide) (by decide), fr 2 (by decide) (by decide), fr 3 (by decide) (by decide), fr 4 (by decide) (by decide), fr 5 (by decide) (by decide), e6]
    refine ⟨h.1.1, hr, fun l hl => ?_, fun l hl hge => ?_⟩
    · rw [q_updA]
      by_cases e : l = x1.toInt.toNat
      · rw [if_pos e]
        rcases hv with ⟨e, -⟩ | ⟨e, -⟩
        · exact Or.inl e
        · exact Or.inr e
      · rw [if_neg e]
        exact h.1.2.2.1 l hl
    · rw [q_updA, if_neg (by omega)]
      exact h.1.2.2.2 l hl hge
  have hI2 : tI 17 (τ 1 0).toInt (τ 1 1).toInt (τ 6) (fun _ => (τ 17 4).toInt + 1) (fun _ => 0) (fun _ => 1) (tDl τ) 0 B τ2 := h.2.1.cg (fun j h1 h2 => fr j (by omega) (by omega))
  refine ⟨i12, ?_⟩
  rw [q_cl, e6, show upd (τ 6) x1.toInt.toNat v x1.toInt.toNat = v from if_pos rfl]
  refine ⟨fun hv0 => ?_, fun hv1 => ?_⟩
  · subst hv0
    have e2 := q_2x (x := x1) l0 (by omega)
    have e21 := q_2xy (x := x1) (y := 1) l0 (by omega) (by decide) (by decide)
    have z1 : (1 : Int32).toInt = 1 := rfl
    rw [z1] at e21
    unfold wp_X6_dropAll
    refine ⟨q_in (by omega) (by omega), ?_⟩
    rw [q_cl, e2, show 17 + 1 + 2 + 3 * (2 * x1.toInt).toNat = 20 + 3 * (2 * x1.toInt.toNat) by omega]
    refine s_X7_drop1 hI2 (by omega) (fun τ3 y hI3 f3 em3 hy => ⟨q_in (by omega) (by omega), ?_⟩)
    rw [q_cl, e21, show 17 + 1 + 2 + 3 * (2 * x1.toInt + 1).toNat = 20 + 3 * (2 * x1.toInt.toNat + 1) by omega]
    refine s_X7_drop1 hI3 (by omega) (fun τ4 z hI4 f4 em4 hz w ew τ5 e5 => ?_)
    have f5 : ∀ j, j ≠ 17 → τ5 j = τ4 j := fun j hj => by rw [e5]; exact if_neg hj
    have g5 : τ5 17 = upd (τ4 17) 5 (τ4 17 5 + w) := by rw [e5, c0_s]
    have f4' : ∀ j, j < 20 ∨ 92 ≤ j → τ4 j = τ2 j := fun j hj => by rw [f4 j (by omega) (by omega) (by omega), f3 j (by omega) (by omega) (by omega)]
    have hw : w.toInt = y.toInt + z.toInt := by
      subst ew
      simp only [fa_lt, fa_le, fa_eq, q_add, q_sub, q_ite, Int32.reduceToInt]
      omega
    have ls4 := hI4.2.2.1
    have hv5 : 0 ≤ (τ4 17 5 + w).toInt ∧ (τ4 17 5 + w).toInt ≤ B + 60 := by
      rw [q_add]
      omega
    have hI5 := hI4.lost hv5
    rw [← e5] at hI5
    have e17 : τ4 17 = τ 17 := by rw [f4' 17 (by decide), fr 17 (by decide) (by decide)]
    refine hk τ5 w ⟨hq2.cg (fun j hj => by rw [f5 j (by omega), f4' j (by omega)]), ?_, ?_⟩ ⟨fun j hj => by rw [f5 j (by omega), f4' j (by omega), fr j (by omega) (by omega)], fun c hc => by rw [f5 _ (by omega), f5 _ (by omega), f4' _ (by omega), f4' _ (by omega), fr _ (by omega) (by omega), fr _ (by omega) (by omega)]; exact ⟨rfl, rfl⟩⟩ ?_ ?_
    · have n1 : τ5 1 = τ 1 := by rw [f5 1 (by decide), f4' 1 (by decide), fr 1 (by decide) (by decide)]
      have n4 : τ5 4 = τ 4 := by rw [f5 4 (by decide), f4' 4 (by decide), fr 4 (by decide) (by decide)]
      have n6 : τ5 6 = upd (τ 6) x1.toInt.toNat 0 := by rw [f5 6 (by decide), f4' 6 (by decide), e6]
      have n17 : τ5 17 4 = τ 17 4 := by rw [g5, show upd (τ4 17) 5 (τ4 17 5 + w) 4 = τ4 17 4 from rfl, e17]
      rw [tDl_cg n4, n1, n6, n17]
      refine hI5.net (fun k hk24 hu => ⟨?_, Int.le_refl _, Int.le_refl _⟩)
      by_cases hx : k / 2 = x1.toInt.toNat
      · refine Or.inr ?_
        rw [f5 _ (by omega), f5 _ (by omega)]
        by_cases h0 : k = 2 * x1.toInt.toNat
        · subst h0
          rw [f4 _ (by omega) (by omega) (by omega), f4 _ (by omega) (by omega) (by omega)]
          exact em3
        · have h9 : k = 2 * x1.toInt.toNat + 1 := by omega
          subst h9
          exact em4
      · refine Or.inl ?_
        rw [q_updA, if_neg hx]
        exact hu
    · rw [f5 1 (by decide), f4' 1 (by decide), fr 1 (by decide) (by decide)]
      exact h.2.2
    · rw [g5, show upd (τ4 17) 5 (τ4 17 5 + w) 3 = τ4 17 3 from rfl, e17]
    · rw [g5, show upd (τ4 17) 5 (τ4 17 5 + w) 4 = τ4 17 4 from rfl, e17]
  · have ev : v = 1 := by
      rcases hv with ⟨e, -⟩ | ⟨e, -⟩
      · exact absurd e hv1
      · exact e
    have e17 : τ2 17 = τ 17 := fr 17 (by decide) (by decide)
    refine hk τ2 0 ⟨hq2, ?_, ?_⟩ ⟨fun j hj => fr j (by omega) (by omega), fun c hc => by rw [fr _ (by omega) (by omega), fr _ (by omega) (by omega)]; exact ⟨rfl, rfl⟩⟩ (by rw [e17]) (by rw [e17])
    · rw [tDl_cg (fr 4 (by decide) (by decide)), fr 1 (by decide) (by decide), e6, e17]
      have hI3 : tI 17 (τ 1 0).toInt (τ 1 1).toInt (upd (τ 6) x1.toInt.toNat v) (fun _ => (τ 17 4).toInt + 1) (fun _ => 0) (fun _ => 1) (tDl τ) 0 B τ2 := by
        refine hI2.net (fun k hk24 hu => ⟨Or.inl ?_, Int.le_refl _, Int.le_refl _⟩)
        rw [q_updA, ev]
        by_cases hx : k / 2 = x1.toInt.toNat
        · rw [if_pos hx]; decide
        · rw [if_neg hx]; exact hu
      obtain ⟨z1, z2, z3, z4⟩ := hI3
      exact ⟨z1, z2, ⟨z3.1, by omega⟩, z4⟩
    · rw [fr 1 (by decide) (by decide)]
      exact h.2.2
end LK
