/-! what lands -/
section LA
variable {T : Nat} {A B : Int} {lo xc fl fh : Nat → Int} {τ τ0 : TS}
/-- a way's link's delay -/
def tDl (τ0 : TS) (k : Nat) : Int := (τ0 4 (k / 2)).toInt
theorem tS.way (hT : 17 ≤ T) (hn : qN τ0) (h : tS T τ0 lo xc fl fh A B τ) {k : Nat} (hk : (k : Int) < 2 * (τ0 1 1).toInt) {fl2 fh2 : Nat → Int} {r q f : Nat → Int32} (hw : tWayR τ T (τ0 6) xc (fl2 k) (fh2 k) k r q f) (he : ∀ j, j ≠ k → fl2 j = fl j ∧ fh2 j = fh j) : tS T τ0 lo xc fl2 fh2 A B (q3 τ (T + 3 + 3 * k) r q f) := by
  have hL := hn.1.2.1.2
  have hk24 : k < 24 := by omega
  refine ⟨h.1.way hk24 hw he, fun j hj => ?_, fun c hc => ?_⟩
  · rw [q3_n _ _ _ _ _ (by omega) (by omega) (by omega)]
    exact h.2.1 j hj
  · rw [q3_n _ _ _ _ _ (by omega) (by omega) (by omega), q3_n _ _ _ _ _ (by omega) (by omega) (by omega)]
    exact h.2.2 c hc
theorem s_X6_letArrive (hT : 17 ≤ T) (hn : qN τ0) (h : tS T τ0 lo (fun _ => 0) (fun _ => 0) fh A B τ) (hB : B < 1800000000) (hlo : ∀ c, lo c ≤ (τ T 4).toInt + 1) {K : TS → Prop}
    (hk : ∀ τ2, tS T τ0 lo (fun _ => 0) (fun _ => 1) fh A (B + 48) τ2 → (∀ k, k ≠ 5 → τ2 T k = τ T k) → K τ2) : wp_X6_letArrive τ T K := by
  unfold wp_X6_letArrive
  have hL := hn.1.2.1
  have hck := h.1.2.1
  have net : ∀ {τ2 : TS} {fl A B}, tS T τ0 lo (fun _ => 0) fl fh A B τ2 → ∀ j, j < 17 → τ2 j = τ0 j := fun h2 j hj => h2.net hT hj
  refine ⟨fun τ2 x => 0 ≤ x.toInt ∧ x.toInt ≤ (τ0 1 1).toInt ∧ tS T τ0 lo (fun _ => 0) (fun k => if k < 2 * x.toInt.toNat then 1 else 0) fh A (B + 4 * x.toInt) τ2 ∧ ∀ k, k ≠ 5 → τ2 T k = τ T k, fun _ x => 12 - x.toInt.toNat, ⟨by decide, by simp only [Int32.reduceToInt]; omega, ?_, fun _ _ => rfl⟩, ?_⟩
  · exact ⟨h.1.weak (fun c hc => (h.con hc).1) (fun _ => Int.le_refl _) (fun k _ _ => ⟨by simp, Int.le_refl _⟩) (Int.le_refl _) (by simp), h.2⟩
  rintro τ2 x ⟨x0, x1, hS, hrow⟩
  rw [net hS 1 (by decide)]
  refine ⟨fun c => ?_, fun c => ?_⟩
  · have ex : x.toInt = (τ0 1 1).toInt := by
      rw [fa_le] at c
      omega
    refine hk τ2 ⟨hS.1.weak (fun c hc => (hS.con hc).1) (fun _ => Int.le_refl _) (fun k hk2 hup => ⟨by have := hn.up hk2 hup; rw [if_pos (by omega)]; exact Int.le_refl _, Int.le_refl _⟩) (Int.le_refl _) (by omega), hS.2⟩ hrow
  · have hxl : x.toInt < (τ0 1 1).toInt := by
      rw [fa_le] at c
      omega
    have hlk := hn.1.2.2 x.toInt.toNat (by omega)
    refine ⟨fun τ3 y => 0 ≤ y.toInt ∧ y.toInt ≤ 2 ∧ tS T τ0 lo (fun _ => 0) (fun k => if k < 2 * x.toInt.toNat + y.toInt.toNat then 1 else 0) fh A (B + 4 * x.toInt + 2 * y.toInt) τ3 ∧ ∀ k, k ≠ 5 → τ3 T k = τ T k, fun _ y => 2 - y.toInt.toNat, ⟨by decide, by decide, ?_, hrow⟩, ?_⟩
    · simpa using hS
    rintro τ3 y ⟨y0, y1, hS3, hrow3⟩
    refine ⟨fun c2 x2 e2 => ?_, fun c2 => ?_⟩
    · have ey : y.toInt = 2 := by
        simp only [fa_lt, fa_le, fa_eq, q_add, q_sub, q_ite, Int32.reduceToInt] at c2
        omega
      have ex2 : x2.toInt = x.toInt + 1 := by
        subst e2
        simp only [fa_lt, fa_le, fa_eq, q_add, q_sub, q_ite, Int32.reduceToInt]
        omega
      refine ⟨⟨by omega, by omega, ?_, hrow3⟩, ?_⟩
      · rw [ey] at hS3
        rw [ex2, show (x.toInt + 1).toNat = x.toInt.toNat + 1 by omega, show 2 * (x.toInt.toNat + 1) = 2 * x.toInt.toNat + (2 : Int).toNat by omega, show B + 4 * (x.toInt + 1) = B + 4 * x.toInt + 2 * 2 by omega]
        exact hS3
      · show 12 - x2.toInt.toNat < 12 - x.toInt.toNat
        omega
    · have hy2 : y.toInt < 2 := by
        simp only [fa_lt, fa_le, fa_eq, q_add, q_sub, q_ite, Int32.reduceToInt] at c2
        omega
      have e2x : (2 * x).toInt = 2 * x.toInt := by
        rw [q_mulc _ _ (by simp only [Int32.reduceToInt]; omega) (by simp only [Int32.reduceToInt]; omega)]
        simp only [Int32.reduceToInt]
      have eky : (2 * x + y).toInt = 2 * x.toInt + y.toInt := by
        rw [q_add, e2x]
        omega
      have hkn : ((2 * x.toInt.toNat + y.toInt.toNat : Nat) : Int) < 2 * (τ0 1 1).toInt := by omega
      refine ⟨q_in (by omega) (by omega), ?_⟩
      rw [q_cl, eky, show (2 * x.toInt + y.toInt).toNat = 2 * x.toInt.toNat + y.toInt.toNat by omega, show T + 1 + 2 + 3 * (2 * x.toInt.toNat + y.toInt.toNat) = T + 3 + 3 * (2 * x.toInt.toNat + y.toInt.toNat) by omega]
      generalize hkk : 2 * x.toInt.toNat + y.toInt.toNat = k at *
      have hw := hS3.1.2.2.2.2.1 k (by omega) (Or.inl hkn)
      have e := q3_self τ3 (T + 3 + 3 * k)
      have eclk : τ3 T 4 = τ T 4 := hrow3 4 (by decide)
      refine Eq.mp (congrArg (fun z => wp_X7_land z (T + 3 + 3 * k) (τ3 T 4) _) e) ?_
      rw [show T + 3 + 3 * k + 1 = T + 4 + 3 * k by omega, show T + 3 + 3 * k + 2 = T + 5 + 3 * k by omega]
      refine s_X7_land hw.1 (by rw [eclk]; exact hck.1) (by rw [eclk]; omega) (fun r2 f2 z hw2 er2 ef hfr hz => ?_)
      have hS4 : tS T τ0 lo (fun _ => 0) (fun j => if j < k + 1 then 1 else 0) fh A (B + 4 * x.toInt + 2 * y.toInt) (q3 τ3 (T + 3 + 3 * k) r2 (τ3 (T + 4 + 3 * k)) f2) := by
        refine hS3.way hT hn hkn ⟨hw2, fun e he hfe => ?_, fun hup => ?_⟩ (fun j hj => ⟨?_, rfl⟩)
        · rw [if_pos (by omega)]
          by_cases h0 : (((τ3 T 4).toInt).toNat + e) % 10 = ((τ3 T 4).toInt).toNat % 10
          · rw [h0, ef] at hfe
            exact absurd rfl hfe
          · have h9 := hw.2.1 e he (by rw [← hfr _ h0]; exact hfe)
            have : e ≠ 0 := fun e0 => h0 (by rw [e0, Nat.add_zero])
            omega
        · have h9 := hw.2.2 hup
          refine ⟨by rw [er2]; exact h9.1, fun n hn10 => ?_⟩
          by_cases h0 : n = ((τ3 T 4).toInt).toNat % 10
          · rw [h0]; exact ef
          · rw [hfr n h0]; exact h9.2 n hn10
        · by_cases h1 : j < k
          · rw [if_pos (by omega), if_pos h1]
          · rw [if_neg (by omega), if_neg h1]
      have hrow4 : ∀ q, q ≠ 5 → q3 τ3 (T + 3 + 3 * k) r2 (τ3 (T + 4 + 3 * k)) f2 T q = τ T q := fun q hq => by rw [q3_n _ _ _ _ _ (by omega) (by omega) (by omega)]; exact hrow3 q hq
      have nxt : ∀ (τ5 : TS), tS T τ0 lo (fun _ => 0) (fun j => if j < k + 1 then 1 else 0) fh A (B + 4 * x.toInt + 2 * y.toInt + 2) τ5 → (∀ q, q ≠ 5 → τ5 T q = τ T q) → ∀ y2 : Int32, y2 = y + 1 → (0 ≤ y2.toInt ∧ y2.toInt ≤ 2 ∧ tS T τ0 lo (fun _ => 0) (fun j => if j < 2 * x.toInt.toNat + y2.toInt.toNat then 1 else 0) fh A (B + 4 * x.toInt + 2 * y2.toInt) τ5 ∧ ∀ q, q ≠ 5 → τ5 T q = τ T q) ∧ 2 - y2.toInt.toNat < 2 - y.toInt.toNat := fun τ5 h5 hr5 y2 ey => by
        have ey2 : y2.toInt = y.toInt + 1 := by
          subst ey
          simp only [fa_lt, fa_le, fa_eq, q_add, q_sub, q_ite, Int32.reduceToInt]
          omega
        refine ⟨⟨by omega, by omega, ?_, hr5⟩, by omega⟩
        rw [ey2, show 2 * x.toInt.toNat + (y.toInt + 1).toNat = k + 1 by omega, show B + 4 * x.toInt + 2 * (y.toInt + 1) = B + 4 * x.toInt + 2 * y.toInt + 2 by omega]
        exact h5
      have go : ∀ nd : Int32, (0 ≤ nd.toInt ∧ nd.toInt < (τ0 1 0).toInt) → z ≠ -1 → wp_X6_arrive (q3 τ3 (T + 3 + 3 * k) r2 (τ3 (T + 4 + 3 * k)) f2) T z nd (fun τ37 => ∀ x38 : Int32, x38 = y + 1 → (0 ≤ x38.toInt ∧ x38.toInt ≤ 2 ∧ tS T τ0 lo (fun _ => 0) (fun j => if j < 2 * x.toInt.toNat + x38.toInt.toNat then 1 else 0) fh A (B + 4 * x.toInt + 2 * x38.toInt) τ37 ∧ ∀ q, q ≠ 5 → τ37 T q = τ T q) ∧ 2 - x38.toInt.toNat < 2 - y.toInt.toNat) := fun nd hnd hz1 => by
        have hp := (hz.resolve_left hz1)
        refine s_X6_arrive hT hn hS4 (by omega) (fun c => by rw [hrow4 4 (by decide)]; exact hlo c) ?_ hnd (fun τ5 g1 g2 => nxt τ5 g1 (fun q hq => (g2 q hq).trans (hrow4 q hq)))
        have e0 : q3 τ3 (T + 3 + 3 * k) r2 (τ3 (T + 4 + 3 * k)) f2 T = τ3 T := q3_n _ _ _ _ _ (by omega) (by omega) (by omega)
        have hk24 : k < 24 := by omega
        have e1 : tWt (q3 τ3 (T + 3 + 3 * k) r2 (τ3 (T + 4 + 3 * k)) f2) T = tWt τ3 T := by funext d; unfold tWt; rw [q3_n _ _ _ _ _ (by omega) (by omega) (by omega)]
        have e2 : tNx (q3 τ3 (T + 3 + 3 * k) r2 (τ3 (T + 4 + 3 * k)) f2) T (fun _ => 0) = tNx τ3 T (fun _ => 0) := by funext d; unfold tNx; rw [q3_n _ _ _ _ _ (by omega) (by omega) (by omega)]
        rw [e0, e1, e2]
        exact hp
      refine ⟨fun _ x34 e34 => nxt _ (hS4.mono (Int.le_refl _) (by omega)) hrow4 x34 e34, fun hz1 => ⟨fun _ => ⟨q_in x0 (by omega), ?_⟩, fun _ => ⟨q_in x0 (by omega), ?_⟩⟩⟩
      · rw [q_cl, net hS4 2 (by decide)]
        exact go _ hlk.1 hz1
      · rw [q_cl, net hS4 3 (by decide)]
        exact go _ hlk.2.1 hz1
end LA
