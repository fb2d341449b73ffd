/-! taking off, and a whole tick -/
section TO
variable {T : Nat} {A B : Int} {lo fh fh2 : Nat → Int} {τ τ0 : TS}
theorem s_takeOff1 (hT : 17 ≤ T) (hn : qN τ0) (h : tS T τ0 lo (fun _ => 0) (fun _ => 1) fh A B τ) {k : Nat} (hk : (k : Int) < 2 * (τ0 1 1).toInt) (hup : τ0 6 (k / 2) ≠ 0) {x : Int32} (hx : x.toInt = (τ T 4).toInt + tDl τ0 k) (hfh : fh k = tDl τ0 k - 1) (hfh2 : fh2 k = tDl τ0 k) (he : ∀ j, j ≠ k → fh2 j = fh j) {K : TS → Int32 → Prop}
    (hK : ∀ (τ2 : TS) (y : Int32), tS T τ0 lo (fun _ => 0) (fun _ => 1) fh2 A B τ2 → (∀ q, τ2 T q = τ T q) → (y = 0 ∨ y = 1) → K τ2 y) : wp_X7_takeOff τ (T + 3 + 3 * k) x K := by
  have hck := h.1.2.1
  have hL := hn.1.2.1
  have hk24 : k < 24 := by omega
  have hd := (hn.1.2.2 (k / 2) (by omega)).2.2.1
  have hd2 : 1 ≤ tDl τ0 k ∧ tDl τ0 k ≤ 9 := hd
  have hw := h.1.2.2.2.2.1 k hk24 (Or.inl hk)
  have e := q3_self τ (T + 3 + 3 * k)
  have hsl : x.toInt.toNat % 10 = ((τ T 4).toInt.toNat + (tDl τ0 k).toNat) % 10 := by
    rw [hx, show ((τ T 4).toInt + tDl τ0 k).toNat = (τ T 4).toInt.toNat + (tDl τ0 k).toNat by omega]
  refine Eq.mp (congrArg (fun z => wp_X7_takeOff z (T + 3 + 3 * k) x K) e) ?_
  rw [show T + 3 + 3 * k + 1 = T + 4 + 3 * k by omega, show T + 3 + 3 * k + 2 = T + 5 + 3 * k by omega]
  have e2 : q3 τ (T + 3 + 3 * k) (τ (T + 3 + 3 * k)) (τ (T + 4 + 3 * k)) (τ (T + 5 + 3 * k)) = τ := by
    rw [show T + 4 + 3 * k = T + 3 + 3 * k + 1 by omega, show T + 5 + 3 * k = T + 3 + 3 * k + 2 by omega]
    exact e
  refine s_X7_takeOff hw.1 (by omega) (by omega) ?_ (fun v hv => hv.hop) ?_ (fun r2 f2 y hw2 er2 hfr hy => ?_)
  · rw [hsl]
    refine Classical.byContradiction fun hne => ?_
    have h9 := hw.2.1 (tDl τ0 k).toNat (by omega) hne
    omega
  · rw [e2]
    refine hK τ 0 ⟨h.1.weak (fun c hc => (h.con hc).1) (fun _ => Int.le_refl _) (fun j _ _ => ⟨Int.le_refl _, ?_⟩) (Int.le_refl _) (Int.le_refl _), h.2⟩ (fun _ => rfl) (Or.inl rfl)
    by_cases hj : j = k
    · subst hj; omega
    · rw [he j hj]; exact Int.le_refl _
  · refine hK _ y (h.way hT hn hk ⟨hw2, fun e9 he9 hf9 => ?_, fun c => absurd c hup⟩ (fun j hj => ⟨rfl, he j hj⟩)) (fun q => by rw [q3_n _ _ _ _ _ (by omega) (by omega) (by omega)]) hy
    rw [hfh2]
    show (1 : Int) ≤ (e9 : Int) ∧ (e9 : Int) ≤ tDl τ0 k
    by_cases hs : ((τ T 4).toInt.toNat + e9) % 10 = x.toInt.toNat % 10
    · rw [hsl] at hs
      omega
    · have h9 : (1 : Int) ≤ (e9 : Int) ∧ (e9 : Int) ≤ fh k := hw.2.1 e9 he9 (by rw [← hfr _ hs]; exact hf9)
      omega
theorem s_X6_letTakeOff (hT : 17 ≤ T) (hn : qN τ0) (h : tS T τ0 lo (fun _ => 0) (fun _ => 1) (fun k => tDl τ0 k - 1) A B τ) (hB : B < 1600000000) {K : TS → Prop}
    (hk : ∀ τ2, tS T τ0 lo (fun _ => 0) (fun _ => 1) (tDl τ0) A (B + 24) τ2 → (∀ k, k ≠ 5 → τ2 T k = τ T k) → K τ2) : wp_X6_letTakeOff τ T K := by
  unfold wp_X6_letTakeOff
  have hck := h.1.2.1
  have hL := hn.1.2.1
  refine ⟨fun τ2 x => 0 ≤ x.toInt ∧ x.toInt ≤ (τ0 1 1).toInt ∧ tS T τ0 lo (fun _ => 0) (fun _ => 1) (fun k => if k < 2 * x.toInt.toNat then tDl τ0 k else tDl τ0 k - 1) A (B + 2 * x.toInt) τ2 ∧ ∀ k, k ≠ 5 → τ2 T k = τ T k, fun _ x => 12 - x.toInt.toNat, ⟨by decide, by simp only [Int32.reduceToInt]; omega, by simpa using h, fun _ _ => rfl⟩, ?_⟩
  rintro τ2 x ⟨x0, x1, hS, hrow⟩
  rw [hS.net hT (j := 1) (by decide), hS.net hT (j := 6) (by decide), hS.net hT (j := 4) (by decide)]
  refine ⟨fun c => ?_, fun c => ?_⟩
  · have ex : x.toInt = (τ0 1 1).toInt := by
      rw [fa_le] at c
      omega
    refine hk τ2 ⟨hS.1.weak (fun c hc => (hS.con hc).1) (fun _ => Int.le_refl _) (fun k hk2 hup => ⟨Int.le_refl _, by have := hn.up hk2 hup; rw [if_pos (by omega)]; exact Int.le_refl _⟩) (Int.le_refl _) (by omega), hS.2⟩ hrow
  · have hxl : x.toInt < (τ0 1 1).toInt := by
      rw [fa_le] at c
      omega
    have hx12 : vp_in x 12 := q_in x0 (by omega)
    rw [q_cl]
    generalize hll : x.toInt.toNat = l at *
    have nxt : ∀ (τ5 : TS), tS T τ0 lo (fun _ => 0) (fun _ => 1) (fun k => if k < 2 * (l + 1) then tDl τ0 k else tDl τ0 k - 1) A (B + 2 * x.toInt + 2) τ5 → (∀ q, q ≠ 5 → τ5 T q = τ T q) → ∀ y2 : Int32, y2 = x + 1 → (0 ≤ y2.toInt ∧ y2.toInt ≤ (τ0 1 1).toInt ∧ tS T τ0 lo (fun _ => 0) (fun _ => 1) (fun k => if k < 2 * y2.toInt.toNat then tDl τ0 k else tDl τ0 k - 1) A (B + 2 * y2.toInt) τ5 ∧ ∀ q, q ≠ 5 → τ5 T q = τ T q) ∧ 12 - y2.toInt.toNat < 12 - x.toInt.toNat := fun τ5 h5 hr5 y2 ey => by
      have ey2 : y2.toInt = x.toInt + 1 := by
        subst ey
        simp only [fa_lt, fa_le, fa_eq, q_add, q_sub, q_ite, Int32.reduceToInt]
        omega
      refine ⟨⟨by omega, by omega, ?_, hr5⟩, by omega⟩
      rw [ey2, show (x.toInt + 1).toNat = l + 1 by omega, show B + 2 * (x.toInt + 1) = B + 2 * x.toInt + 2 by omega]
      exact h5
    refine ⟨hx12, fun hdn x2 e2 => ?_, fun hup => ⟨hx12, fun x29 e29 => ?_⟩⟩
    · refine nxt τ2 ⟨hS.1.weak (fun c hc => (hS.con hc).1) (fun _ => Int.le_refl _) (fun k _ _ => ⟨Int.le_refl _, ?_⟩) (Int.le_refl _) (by omega), hS.2⟩ hrow x2 e2
      by_cases h1 : k < 2 * l
      · rw [if_pos h1, if_pos (by omega)]; exact Int.le_refl _
      · by_cases h2 : k < 2 * (l + 1)
        · rw [if_neg h1, if_pos h2]; omega
        · rw [if_neg h1, if_neg h2]; exact Int.le_refl _
    · have hd := (hn.1.2.2 l (by omega)).2.2.1
      have eclk : (τ2 T 4) = τ T 4 := hrow 4 (by decide)
      have e29i : x29.toInt = (τ T 4).toInt + (τ0 4 l).toInt := by
        subst e29
        rw [eclk, q_add]
        omega
      have e2x : (2 * x).toInt = 2 * x.toInt := by
        rw [q_mulc _ _ (by simp only [Int32.reduceToInt]; omega) (by simp only [Int32.reduceToInt]; omega)]
        simp only [Int32.reduceToInt]
      have e2x1 : (2 * x + 1).toInt = 2 * x.toInt + 1 := by
        rw [q_add, e2x]
        simp only [Int32.reduceToInt]
        omega
      have d0 : tDl τ0 (2 * l) = (τ0 4 l).toInt := by unfold tDl; rw [show 2 * l / 2 = l by omega]
      have d1 : tDl τ0 (2 * l + 1) = (τ0 4 l).toInt := by unfold tDl; rw [show (2 * l + 1) / 2 = l by omega]
      refine ⟨q_in (by omega) (by omega), ?_⟩
      rw [q_cl, q_cl, e2x, e2x1, show T + 1 + 2 + 3 * (2 * x.toInt).toNat = T + 3 + 3 * (2 * l) by omega, show T + 1 + 2 + 3 * (2 * x.toInt + 1).toNat = T + 3 + 3 * (2 * l + 1) by omega]
      refine s_takeOff1 (fh2 := fun k => if k < 2 * l + 1 then tDl τ0 k else tDl τ0 k - 1) hT hn hS (by omega) (by rw [show 2 * l / 2 = l by omega]; exact hup) (by rw [e29i, d0, eclk]) (if_neg (by omega)) (if_pos (by omega)) (fun j hj => ?_) (fun τ3 y hS3 hr3 hy => ?_)
      · by_cases h1 : j < 2 * l
        · rw [if_pos (by omega), if_pos h1]
        · rw [if_neg (by omega), if_neg h1]
      · have hls := hS.1.2.2.1
        refine ⟨fun v => v = 0 ∨ v = 1, fun v hv τ4 e4 => ⟨q_in (by omega) (by omega), ?_⟩, fun _ => Or.inl rfl, fun _ => Or.inr rfl⟩
        have hv1 : A ≤ (τ2 T 5 + v).toInt ∧ (τ2 T 5 + v).toInt ≤ B + 2 * x.toInt + 1 := by
          have := fb_rng (τ2 T 5)
          rcases hv with rfl | rfl
          · rw [q_add]; simp only [Int32.reduceToInt]; omega
          · rw [q_add]; simp only [Int32.reduceToInt]; omega
        have hS4 := hS3.lost hv1
        rw [← e4] at hS4
        have hr4 : ∀ q, q ≠ 5 → τ4 T q = τ T q := fun q hq => by
          rw [e4, show tp_up τ3 T 5 (τ2 T 5 + v) T = upd (τ3 T) 5 (τ2 T 5 + v) from if_pos rfl, show upd (τ3 T) 5 (τ2 T 5 + v) q = τ3 T q from if_neg hq, hr3 q]
          exact hrow q hq
        refine s_takeOff1 (fh2 := fun k => if k < 2 * (l + 1) then tDl τ0 k else tDl τ0 k - 1) hT hn hS4 (by omega) (by rw [show (2 * l + 1) / 2 = l by omega]; exact hup) (by rw [e29i, d1, hr4 4 (by decide)]) (if_neg (by omega)) (if_pos (by omega)) (fun j hj => ?_) (fun τ5 z hS5 hr5 hz => ?_)
        · by_cases h1 : j < 2 * l + 1
          · rw [if_pos (by omega), if_pos h1]
          · rw [if_neg (by omega), if_neg h1]
        · have hls4 := hS4.1.2.2.1
          have fin : ∀ v2 : Int32, (v2 = 0 ∨ v2 = 1) → ∀ τ6 : TS, τ6 = tp_up τ5 T 5 ((τ4 T 5) + v2) → ∀ x3 : Int32, x3 = x + 1 → (0 ≤ x3.toInt ∧ x3.toInt ≤ (τ0 1 1).toInt ∧ tS T τ0 lo (fun _ => 0) (fun _ => 1) (fun k => if k < 2 * x3.toInt.toNat then tDl τ0 k else tDl τ0 k - 1) A (B + 2 * x3.toInt) τ6 ∧ ∀ q, q ≠ 5 → τ6 T q = τ T q) ∧ 12 - x3.toInt.toNat < 12 - x.toInt.toNat := fun v2 hv2 τ6 e6 x3 e3 => by
            have hv3 : A ≤ (τ4 T 5 + v2).toInt ∧ (τ4 T 5 + v2).toInt ≤ B + 2 * x.toInt + 2 := by
              have := fb_rng (τ4 T 5)
              rcases hv2 with rfl | rfl
              · rw [q_add]; simp only [Int32.reduceToInt]; omega
              · rw [q_add]; simp only [Int32.reduceToInt]; omega
            have hS6 := hS5.lost hv3
            rw [← e6] at hS6
            exact nxt τ6 hS6 (fun q hq => by rw [e6, show tp_up τ5 T 5 (τ4 T 5 + v2) T = upd (τ5 T) 5 (τ4 T 5 + v2) from if_pos rfl, show upd (τ5 T) 5 (τ4 T 5 + v2) q = τ5 T q from if_neg hq, hr5 q]; exact hr4 q hq) x3 e3
          exact ⟨fun _ => fin 0 (Or.inl rfl), fun _ => fin 1 (Or.inr rfl)⟩
/-- the clock goes on: what was due in e ticks is due in e - 1 -/
theorem tS.clock {clk : Int} (hT : 17 ≤ T) (hn : qN τ0) (h : tS T τ0 (fun _ => clk + 1) (fun _ => 0) (fun _ => 1) (tDl τ0) A B τ) (hc : (τ T 4).toInt = clk) (h9 : clk < 89999) : tS T τ0 (fun _ => clk + 1) (fun _ => 0) (fun _ => 0) (fun k => tDl τ0 k - 1) A B (tp_up τ T 4 (τ T 4 + 1)) ∧ (tp_up τ T 4 (τ T 4 + 1) T 4).toInt = clk + 1 := by
  have hs : tp_up τ T 4 (τ T 4 + 1) T = upd (τ T) 4 (τ T 4 + 1) := if_pos rfl
  have hnn : ∀ j, j ≠ T → tp_up τ T 4 (τ T 4 + 1) j = τ j := fun j hj => if_neg hj
  have ec : (τ T 4 + 1).toInt = clk + 1 := by
    have := h.1.2.1
    simp only [fa_lt, fa_le, fa_eq, q_add, q_sub, q_ite, Int32.reduceToInt]
    omega
  obtain ⟨⟨z1, z2, z3, z4, z5, z7⟩, z6, z8⟩ := h
  have e1 : tWt (tp_up τ T 4 (τ T 4 + 1)) T = tWt τ T := by funext c; unfold tWt; rw [hnn _ (by omega)]
  have e2 : tNx (tp_up τ T 4 (τ T 4 + 1)) T (fun _ => 0) = tNx τ T (fun _ => 0) := by funext c; unfold tNx; rw [hnn _ (by omega)]
  refine ⟨⟨⟨by rw [hs]; exact z1, ?_, by rw [hs]; exact z3, fun c hc => ?_, fun k hk24 hk => ?_, fun hT c hc hm => ?_⟩, fun j hj => ?_, fun c hc => ?_⟩, ?_⟩
  · rw [hs]
    show 0 ≤ (τ T 4 + 1).toInt ∧ (τ T 4 + 1).toInt ≤ 90000
    omega
  · rw [hs] at hc
    have := z4 c hc
    unfold tCon at this ⊢
    rw [e1, hnn _ (by omega), hnn _ (by omega), hnn _ (by omega), hnn _ (by omega), hnn _ (by omega)]
    exact this
  · have hw := z5 k hk24 hk
    unfold tWayR at hw ⊢
    rw [hs, e1, e2, hnn _ (by omega), hnn _ (by omega), hnn _ (by omega)]
    refine ⟨hw.1, fun e he hf => ?_, hw.2.2⟩
    show (0 : Int) ≤ (e : Int) ∧ (e : Int) ≤ tDl τ0 k - 1
    have hf2 : τ (T + 5 + 3 * k) (((τ T 4).toInt.toNat + (e + 1)) % 10) ≠ -1 := by
      have e3 : (upd (τ T) 4 (τ T 4 + 1) 4).toInt.toNat = (τ T 4).toInt.toNat + 1 := by
        show (τ T 4 + 1).toInt.toNat = _
        omega
      rw [e3, show (τ T 4).toInt.toNat + 1 + e = (τ T 4).toInt.toNat + (e + 1) by omega] at hf
      exact hf
    by_cases h10 : e + 1 < 10
    · have h11 : (1 : Int) ≤ ((e + 1 : Nat) : Int) ∧ ((e + 1 : Nat) : Int) ≤ tDl τ0 k := hw.2.1 (e + 1) h10 hf2
      refine ⟨by omega, ?_⟩
      have : ((e + 1 : Nat) : Int) ≤ tDl τ0 k := h11.2
      omega
    · have hup : τ0 6 (k / 2) ≠ 0 := fun h0 => hf2 ((hw.2.2 h0).2 _ (Nat.mod_lt _ (by decide)))
      have e9 : e = 9 := by omega
      subst e9
      rw [show ((τ T 4).toInt.toNat + (9 + 1)) % 10 = ((τ T 4).toInt.toNat + 0) % 10 by omega] at hf2
      have h11 : (1 : Int) ≤ ((0 : Nat) : Int) ∧ ((0 : Nat) : Int) ≤ tDl τ0 k := hw.2.1 0 (by decide) hf2
      omega
  · rw [hs] at hm
    have := z7 hT c hc hm
    unfold tFr at this ⊢
    rw [hnn _ (by omega), hnn _ (by omega), hnn _ (by omega)]
    exact this
  · rw [hnn j (by omega)]
    exact z6 j hj
  · rw [hnn _ (by omega), hnn _ (by omega)]
    exact z8 c hc
  · rw [hs]
    exact ec
theorem s_X6_tick {clk : Int} (hT : 17 ≤ T) (hn : qN τ0) (h : tS T τ0 (fun _ => clk + 1) (fun _ => 0) (fun _ => 1) (tDl τ0) A B τ) (hc : (τ T 4).toInt = clk) (h9 : clk < 89999) (hB : B < 1500000000) {K : TS → Prop}
    (hk : ∀ τ2, tS T τ0 (fun _ => clk + 1 + 1) (fun _ => 0) (fun _ => 1) (tDl τ0) A (B + 1284) τ2 → τ2 T 3 = τ T 3 → (τ2 T 4).toInt = clk + 1 → K τ2) : wp_X6_tick τ T K := by
  unfold wp_X6_tick
  intro τ1 e1
  obtain ⟨hS1, hc1⟩ := h.clock hT hn hc h9
  rw [← e1] at hS1 hc1
  have em1 : τ1 T 3 = τ T 3 := by rw [e1, show tp_up τ T 4 (τ T 4 + 1) T = upd (τ T) 4 (τ T 4 + 1) from if_pos rfl]; rfl
  refine s_X6_letArrive hT hn hS1 (by omega) (fun _ => by omega) (fun τ2 hS2 hr2 => ?_)
  refine s_X6_letTimersRunOut (clk := clk + 1) hT hn hS2 (by rw [hr2 4 (by decide)]; exact hc1) (by omega) (fun τ3 hS3 hr3 => ?_)
  refine s_X6_letCallersSend (clk := clk + 1) hT hn hS3 (by rw [hr3 4 (by decide), hr2 4 (by decide)]; exact hc1) (by omega) (fun τ4 hS4 hr4 => ?_)
  refine s_X6_letTakeOff hT hn hS4 (by omega) (fun τ5 hS5 hr5 => ?_)
  refine hk τ5 (hS5.mono (Int.le_refl _) (by omega)) ?_ ?_
  · rw [hr5 3 (by decide), hr4 3 (by decide), hr3 3 (by decide), hr2 3 (by decide)]
    exact em1
  · rw [hr5 4 (by decide), hr4 4 (by decide), hr3 4 (by decide), hr2 4 (by decide)]
    exact hc1
end TO
