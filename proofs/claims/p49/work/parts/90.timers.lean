/-! a tick -/
theorem qCal.lo {r t : Nat → Int32} {wd lo lo2 : Int} (h : qCal r t wd lo) (h1 : (r 10).toInt = -1 ∨ lo2 ≤ (r 10).toInt) : qCal r t wd lo2 := by
  obtain ⟨a1, a2, a3, a4, a5, a6, a7, a8, a9, a10, a11, a12, a13, a14⟩ := h
  exact ⟨a1, a2, a3, a4, a5, a6, a7, a8, a9, a10, a11, a12, h1, a14⟩
section TK
variable {T : Nat} {A B : Int} {fl fh : Nat → Int} {τ τ0 : TS}
/-- a caller changes its timer's bound too -/
theorem tS.callerT {lo lo2 xc xc2 : Nat → Int} (hT : 17 ≤ T) (hn : qN τ0) (h : tS T τ0 lo xc fl fh A B τ) {c : Nat} (hc : (c : Int) < (τ T 3).toInt) {r t : Nat → Int32} (hr : qCal r t (tWt τ T c) (lo2 c)) (h1 : r 1 = τ (T + 76 + 5 * c) 1) (h4 : (τ (T + 76 + 5 * c) 4).toInt + xc c ≤ (r 4).toInt + xc2 c) (h4q : (τ (T + 76 + 5 * c) 4).toInt ≤ (r 4).toInt) (h5 : ∀ d, d ≠ c → lo2 d = lo d ∧ xc d ≤ xc2 d) : tS T τ0 lo2 xc2 fl fh A B (q2 τ (T + 76 + 5 * c) r t) := by
  have h6 := h.1.1.2
  have hq := (h.con hc).2.1
  refine ⟨h.1.caller hc (xc2 := xc2) (lo2 := lo2) (fun _ => ⟨hr, ?_⟩) (fun d hd hdm => by rw [(h5 d hd).1]; exact (h.con hdm).1) (fun d => ?_), fun j hj => ?_, fun d hd => ?_⟩
  · rw [h1]
    obtain ⟨b1, b2, b3, b4, b5, b6, b7, b8, b9⟩ := hq
    exact ⟨b1, b2, by omega, b4, b5, b6, b7, fun n hn1 hn2 => by have := b8 n hn1 hn2; omega, b9⟩
  · by_cases hd : d = c
    · subst hd
      rw [if_pos rfl]
      exact h4
    · rw [if_neg hd]
      have := (h5 d hd).2
      unfold tNx
      omega
  · rw [q2_n _ _ _ _ (by omega) (by omega)]
    exact h.2.1 j hj
  · rw [q2_n _ _ _ _ (show T + 78 + 5 * d ≠ _ by omega) (by omega)]
    refine ⟨?_, (h.2.2 d hd).2⟩
    by_cases hdc : d = c
    · subst hdc
      rw [q2_a, h1]
      exact (h.2.2 d hd).1
    · rw [q2_n _ _ _ _ (by omega) (by omega)]
      exact (h.2.2 d hd).1
theorem s_X6_letTimersRunOut {clk : Int} (hT : 17 ≤ T) (hn : qN τ0) (h : tS T τ0 (fun _ => clk) (fun _ => 0) fl fh A B τ) (hc : (τ T 4).toInt = clk) (hB : B < 1800000000) {K : TS → Prop}
    (hk : ∀ τ2, tS T τ0 (fun _ => clk + 1) (fun _ => 0) fl fh A (B + 6) τ2 → (∀ k, k ≠ 5 → τ2 T k = τ T k) → K τ2) : wp_X6_letTimersRunOut τ T K := by
  unfold wp_X6_letTimersRunOut
  have hck := h.1.2.1
  have h6 := h.1.1
  refine ⟨fun τ2 x => 0 ≤ x.toInt ∧ x.toInt ≤ (τ T 3).toInt ∧ tS T τ0 (fun c => if c < x.toInt.toNat then clk + 1 else clk) (fun _ => 0) fl fh A (B + x.toInt) τ2 ∧ ∀ k, k ≠ 5 → τ2 T k = τ T k, fun _ x => 6 - x.toInt.toNat, ⟨by decide, by simp only [Int32.reduceToInt]; omega, ?_, fun _ _ => rfl⟩, ?_⟩
  · exact ⟨h.1.weak (fun c hc => by simpa using (h.con hc).1) (fun _ => Int.le_refl _) (fun k _ _ => ⟨Int.le_refl _, Int.le_refl _⟩) (Int.le_refl _) (by simp), h.2⟩
  rintro τ2 x ⟨x0, x1, hS, hrow⟩
  have em : τ2 T 3 = τ T 3 := hrow 3 (by decide)
  have ec : τ2 T 4 = τ T 4 := hrow 4 (by decide)
  rw [em, ec]
  refine ⟨fun c => ?_, fun c => ?_⟩
  · have ex : x.toInt = (τ T 3).toInt := by
      rw [fa_le] at c
      omega
    refine hk τ2 ⟨hS.1.weak (fun d hd => ?_) (fun _ => Int.le_refl _) (fun k _ _ => ⟨Int.le_refl _, Int.le_refl _⟩) (Int.le_refl _) (by omega), hS.2⟩ hrow
    have h9 := (hS.con hd).1
    rw [em] at hd
    rw [if_pos (by omega)] at h9
    exact h9
  · have hxl : x.toInt < (τ T 3).toInt := by
      rw [fa_le] at c
      omega
    refine ⟨q_in x0 (by omega), ?_⟩
    rw [q_cl, show T + 2 + 73 + 5 * x.toInt.toNat + 1 = T + 76 + 5 * x.toInt.toNat by omega]
    have hcm : ((x.toInt.toNat : Nat) : Int) < (τ2 T 3).toInt := by rw [em]; omega
    have hcon := hS.con hcm
    rw [if_neg (Nat.lt_irrefl _)] at hcon
    generalize hcc : x.toInt.toNat = cc at *
    have nxt : ∀ (τ5 : TS), tS T τ0 (fun d => if d < cc + 1 then clk + 1 else clk) (fun _ => 0) fl fh A (B + x.toInt + 1) τ5 → (∀ q, q ≠ 5 → τ5 T q = τ T q) → ∀ y2 : Int32, y2 = x + 1 → (0 ≤ y2.toInt ∧ y2.toInt ≤ (τ T 3).toInt ∧ tS T τ0 (fun d => if d < y2.toInt.toNat then clk + 1 else clk) (fun _ => 0) fl fh A (B + y2.toInt) τ5 ∧ ∀ q, q ≠ 5 → τ5 T q = τ T q) ∧ 6 - y2.toInt.toNat < 6 - x.toInt.toNat := fun τ5 h5 hr5 y2 ey => by
      have ey2 : y2.toInt = x.toInt + 1 := by
        subst ey
        simp only [fa_lt, fa_le, fa_eq, q_add, q_sub, q_ite, Int32.reduceToInt]
        omega
      refine ⟨⟨by omega, by omega, ?_, hr5⟩, by omega⟩
      rw [ey2, show (x.toInt + 1).toNat = cc + 1 by omega, show B + (x.toInt + 1) = B + x.toInt + 1 by omega]
      exact h5
    have hlo2 : ∀ d, d ≠ cc → (if d < cc + 1 then clk + 1 else clk) = (if d < cc then clk + 1 else clk) := fun d hd => by
      by_cases h1 : d < cc
      · rw [if_pos (by omega), if_pos h1]
      · rw [if_neg (by omega), if_neg h1]
    have e := q2_self τ2 (T + 76 + 5 * cc)
    refine ⟨fun ht => ?_, fun ht => ?_⟩
    · intro y2 ey
      refine nxt τ2 ?_ hrow y2 ey
      have h9 := hS.callerT (lo2 := fun d => if d < cc + 1 then clk + 1 else clk) (xc2 := fun _ => 0) hT hn hcm (r := τ2 (T + 76 + 5 * cc)) (t := τ2 (T + 77 + 5 * cc)) (by
        rw [if_pos (Nat.lt_succ_self _)]
        refine hcon.1.lo ?_
        have h10 := hcon.1.2.2.2.2.2.2.2.2.2.2.2.2.1
        have h11 : (τ2 (T + 76 + 5 * cc) 10).toInt ≠ clk := fun e9 => ht (by rw [fa_eq, e9, hc])
        omega) rfl (Int.le_refl _) (Int.le_refl _) (fun d hd => ⟨hlo2 d hd, Int.le_refl _⟩)
      rw [show T + 77 + 5 * cc = T + 76 + 5 * cc + 1 by omega, e] at h9
      exact h9.mono (Int.le_refl _) (by omega)
    · refine Eq.mp (congrArg (fun z => wp_X1_runOut z (T + 76 + 5 * cc) (τ T 4) _) e) ?_
      refine s_X1_runOut (wd := tWt τ2 T cc) (lo := clk) (by rw [show T + 76 + 5 * cc + 1 = T + 77 + 5 * cc by omega]; exact hcon.1) ⟨hck.1, by omega⟩ (by rw [ht]) (fun r2 t2 x29 hq e1 e2 e4 hx => ?_)
      rw [hc] at hq
      have hS2 : tS T τ0 (fun d => if d < cc + 1 then clk + 1 else clk) (fun _ => 0) fl fh A (B + x.toInt) (q2 τ2 (T + 76 + 5 * cc) r2 t2) := hS.callerT hT hn hcm (by rw [if_pos (Nat.lt_succ_self _)]; exact hq) e1 (by rw [e4]; exact Int.le_refl _) (by rw [e4]; exact Int.le_refl _) (fun d hd => ⟨hlo2 d hd, Int.le_refl _⟩)
      have hr2 : ∀ q, q ≠ 5 → q2 τ2 (T + 76 + 5 * cc) r2 t2 T q = τ T q := fun q hq5 => by rw [q2_n _ _ _ _ (by omega) (by omega)]; exact hrow q hq5
      refine ⟨fun _ y2 ey => by exact nxt _ (hS2.mono (Int.le_refl _) (by omega)) hr2 y2 ey, fun hx1 => ?_⟩
      have hx2 := hx.resolve_left hx1
      rw [q2_a]
      have hcm2 : x.toInt < (q2 τ2 (T + 76 + 5 * cc) r2 t2 T 3).toInt := by rw [hr2 3 (by decide)]; exact hxl
      refine ⟨fun hs0 => ?_, fun _ => ?_⟩
      · have hopen : (r2 0).toInt = 1 ∧ (r2 3).toInt < (r2 4).toInt := by
          rcases hx2.2 with h9 | h9
          · exact absurd (by rw [fa_eq, h9]; rfl) hs0
          · exact h9
        refine s_X1_baseAgain hq (fun r3 t3 hq3 f0 f1 f2 f3 f4 => ?_)
        have hS3 : tS T τ0 (fun d => if d < cc + 1 then clk + 1 else clk) (fun _ => 0) fl fh A (B + x.toInt) (q2 τ2 (T + 76 + 5 * cc) r3 t3) := hS.callerT hT hn hcm (by rw [if_pos (Nat.lt_succ_self _)]; exact hq3) (f1.trans e1) (by rw [f4, e4]; exact Int.le_refl _) (by rw [f4, e4]; exact Int.le_refl _) (fun d hd => ⟨hlo2 d hd, Int.le_refl _⟩)
        have h201 : (r2 4).toInt ≤ 201 := by
          have g1 := hq.2.1
          have g2 := hq.2.2.1
          have g3 := hq.2.2.2.2.2.1
          omega
        refine s_X6_sendThing hT hn hS3 (by omega) x0 (by rw [q2_n _ _ _ _ (by omega) (by omega), em]; exact hxl) hq.2.2.2.1.1 ?_ (by omega) (fun τ5 g1 g2 g3 x36 e36 => ?_)
        · rw [hcc]
          unfold tNx
          rw [q2_a, f4]
          show (r2 3).toInt < (r2 4).toInt + 0
          omega
        · exact nxt τ5 g1 (fun q hq5 => by rw [g3 q hq5, q2_n _ _ _ _ (by omega) (by omega)]; exact hrow q hq5) x36 e36
      · refine s_X6_sendHello hT hn hS2 (by omega) x0 hcm2 (fun τ5 g1 g2 g3 x36 e36 => ?_)
        exact nxt τ5 g1 (fun q hq5 => (g3 q hq5).trans (hr2 q hq5)) x36 e36
end TK
