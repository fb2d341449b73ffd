/-! callers send -/
section CS1
variable {T : Nat} {A B : Int} {fl fh : Nat → Int} {τ τ0 : TS}
theorem s_X6_letCallersSend {clk : Int} (hT : 17 ≤ T) (hn : qN τ0) (h : tS T τ0 (fun _ => clk + 1) (fun _ => 0) fl fh A B τ) (hc : (τ T 4).toInt = clk) (hB : B < 1700000000) {K : TS → Prop}
    (hk : ∀ τ2, tS T τ0 (fun _ => clk + 1) (fun _ => 0) fl fh A (B + 1206) τ2 → (∀ k, k ≠ 5 → τ2 T k = τ T k) → K τ2) : wp_X6_letCallersSend τ T K := by
  unfold wp_X6_letCallersSend
  have hck := h.1.2.1
  have h6 := h.1.1
  refine ⟨fun τ2 x => 0 ≤ x.toInt ∧ x.toInt ≤ (τ T 3).toInt ∧ tS T τ0 (fun _ => clk + 1) (fun _ => 0) fl fh A (B + 201 * x.toInt) τ2 ∧ ∀ k, k ≠ 5 → τ2 T k = τ T k, fun _ x => 6 - x.toInt.toNat, ⟨by decide, by simp only [Int32.reduceToInt]; omega, by simpa using h, fun _ _ => rfl⟩, ?_⟩
  rintro τ2 x ⟨x0, x1, hS, hrow⟩
  have em : τ2 T 3 = τ T 3 := hrow 3 (by decide)
  rw [em]
  refine ⟨fun _ => hk τ2 (hS.mono (Int.le_refl _) (by omega)) hrow, fun c => ?_⟩
  have hxl : x.toInt < (τ T 3).toInt := by
    rw [fa_le] at c
    omega
  refine ⟨q_in x0 (by omega), ?_⟩
  rw [q_cl, show T + 2 + 73 + 5 * x.toInt.toNat + 1 = T + 76 + 5 * x.toInt.toNat by omega]
  have nxt : ∀ (τ5 : TS), tS T τ0 (fun _ => clk + 1) (fun _ => 0) fl fh A (B + 201 * x.toInt + 201) τ5 → (∀ q, q ≠ 5 → τ5 T q = τ T q) → ∀ y2 : Int32, y2 = x + 1 → (0 ≤ y2.toInt ∧ y2.toInt ≤ (τ T 3).toInt ∧ tS T τ0 (fun _ => clk + 1) (fun _ => 0) fl fh A (B + 201 * y2.toInt) τ5 ∧ ∀ q, q ≠ 5 → τ5 T q = τ T q) ∧ 6 - y2.toInt.toNat < 6 - x.toInt.toNat := fun τ5 h5 hr5 y2 ey => by
    have ey2 : y2.toInt = x.toInt + 1 := by
      subst ey
      simp only [fa_lt, fa_le, fa_eq, q_add, q_sub, q_ite, Int32.reduceToInt]
      omega
    refine ⟨⟨by omega, by omega, ?_, hr5⟩, by omega⟩
    rw [ey2, show B + 201 * (x.toInt + 1) = B + 201 * x.toInt + 201 by omega]
    exact h5
  refine ⟨fun τ3 y => 0 ≤ y.toInt ∧ y.toInt ≤ 201 ∧ tS T τ0 (fun _ => clk + 1) (fun _ => 0) fl fh A (B + 201 * x.toInt + y.toInt) τ3 ∧ ∀ k, k ≠ 5 → τ3 T k = τ T k, fun _ y => 201 - y.toInt.toNat, ⟨by decide, by decide, by simpa using hS, hrow⟩, ?_⟩
  rintro τ3 y ⟨y0, y1, hS3, hrow3⟩
  refine ⟨fun _ x2 e2 => nxt τ3 (hS3.mono (Int.le_refl _) (by omega)) hrow3 x2 e2, fun c2 => ?_⟩
  have hy : y.toInt < 201 := by
    simp only [fa_lt, fa_le, fa_eq, q_add, q_sub, q_ite, Int32.reduceToInt] at c2
    omega
  have hcm : ((x.toInt.toNat : Nat) : Int) < (τ3 T 3).toInt := by rw [hrow3 3 (by decide)]; omega
  have hcon := hS3.con hcm
  have ec4 : τ3 T 4 = τ T 4 := hrow3 4 (by decide)
  generalize hcc : x.toInt.toNat = cc at hcm hcon ⊢
  have e := q2_self τ3 (T + 76 + 5 * cc)
  have hq0 : qCal (τ3 (T + 76 + 5 * cc)) (τ3 (T + 76 + 5 * cc + 1)) (tWt τ3 T cc) (clk + 1) := by rw [show T + 76 + 5 * cc + 1 = T + 77 + 5 * cc by omega]; exact hcon.1
  refine Eq.mp (congrArg (fun z => wp_X1_maySend z (T + 76 + 5 * cc) _) e) ?_
  refine s_X1_maySend hq0 ?_ (fun c1 c2' c3 => ?_)
  · rw [e]
    exact ⟨fun _ x2 e2 => nxt τ3 (hS3.mono (Int.le_refl _) (by omega)) hrow3 x2 e2, fun c9 => absurd rfl c9⟩
  · rw [e]
    refine ⟨fun c9 => absurd c9 (by decide), fun _ => ?_⟩
    -- the packet's number is next, before next goes up
    have hS4 : tS T τ0 (fun _ => clk + 1) (fun d => if d = cc then 1 else 0) fl fh A (B + 201 * x.toInt + y.toInt) τ3 := ⟨hS3.1.weak (fun d hd => (hS3.con hd).1) (fun d => by split <;> omega) (fun k _ _ => ⟨Int.le_refl _, Int.le_refl _⟩) (Int.le_refl _) (Int.le_refl _), hS3.2⟩
    have hn0 : 0 ≤ (τ3 (T + 76 + 5 * cc) 4).toInt := by
      have g1 := hq0.2.2.2.1
      have g2 := hq0.2.2.2.2.1
      omega
    have h201 : (τ3 (T + 76 + 5 * cc) 4).toInt ≤ 200 := by
      have g1 := hq0.2.1
      have g2 := hq0.2.2.1
      omega
    refine s_X6_sendThing hT hn hS4 (by omega) x0 (by rw [hrow3 3 (by decide)]; exact hxl) hn0 (by rw [hcc]; show (τ3 (T + 76 + 5 * cc) 4).toInt < (τ3 (T + 76 + 5 * cc) 4).toInt + (if cc = cc then 1 else 0); rw [if_pos rfl]; omega) (by omega) (fun τ5 g1 g2 g3 => ?_)
    have hcm5 : ((cc : Nat) : Int) < (τ5 T 3).toInt := by rw [g3 3 (by decide)]; exact hcm
    have r76 : τ5 (T + 76 + 5 * cc) = τ3 (T + 76 + 5 * cc) := g2 _ (by omega)
    have r77 : τ5 (T + 76 + 5 * cc + 1) = τ3 (T + 76 + 5 * cc + 1) := g2 _ (by omega)
    have rwt : tWt τ5 T cc = tWt τ3 T cc := by unfold tWt; rw [g2 _ (by omega)]
    have e5 := q2_self τ5 (T + 76 + 5 * cc)
    refine Eq.mp (congrArg (fun z => wp_X1_sent z (T + 76 + 5 * cc) (τ5 T 4) _) e5) ?_
    rw [r76, r77]
    refine s_X1_sent (wd := tWt τ3 T cc) (lo := clk + 1) hq0 (by rw [g3 4 (by decide), ec4]; exact ⟨hck.1, by omega⟩) (by rw [g3 4 (by decide), ec4, hc]; exact Int.le_refl _) c1 c2' c3 (fun r2 t2 hq e0 e1 e2 e4 => ?_)
    intro y2 ey
    have ey2 : y2.toInt = y.toInt + 1 := by
      subst ey
      simp only [fa_lt, fa_le, fa_eq, q_add, q_sub, q_ite, Int32.reduceToInt]
      omega
    have hS6 : tS T τ0 (fun _ => clk + 1) (fun _ => 0) fl fh A (B + 201 * x.toInt + y.toInt + 1) (q2 τ5 (T + 76 + 5 * cc) r2 t2) := g1.callerT (lo2 := fun _ => clk + 1) (xc2 := fun _ => 0) hT hn hcm5 (by rw [rwt]; exact hq) (by rw [r76]; exact e1) (by rw [r76, if_pos rfl]; omega) (by rw [r76]; omega) (fun d hd => ⟨rfl, by rw [if_neg hd]; exact Int.le_refl _⟩)
    refine ⟨⟨by omega, by omega, ?_, fun q hq5 => ?_⟩, ?_⟩
    · rw [ey2, show B + 201 * x.toInt + (y.toInt + 1) = B + 201 * x.toInt + y.toInt + 1 by omega]
      exact hS6
    · rw [q2_n _ _ _ _ (by omega) (by omega), g3 q hq5]
      exact hrow3 q hq5
    · show 201 - y2.toInt.toNat < 201 - y.toInt.toNat
      omega
end CS1
