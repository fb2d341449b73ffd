/-! the second traffic becomes the first one's copy -/
theorem qCal.cg {r t r2 t2 : Nat → Int32} {wd lo : Int} (h : qCal r t wd lo) (h1 : ∀ k, k < 13 → r2 k = r k) (h2 : ∀ k, k < 5 → t2 k = t k) : qCal r2 t2 wd lo := by
  unfold qCal at h ⊢
  rw [h1 0 (by decide), h1 1 (by decide), h1 2 (by decide), h1 3 (by decide), h1 4 (by decide), h1 5 (by decide), h1 6 (by decide), h1 9 (by decide), h1 10 (by decide), h1 11 (by decide), h2 2 (by decide), h2 3 (by decide)]
  exact h
theorem qCle.cg {r q r2 q2' : Nat → Int32} {nx gv : Int} (h : qCle r q nx gv) (h1 : ∀ k, k < 3 → r2 k = r k) (h2 : ∀ n, n < 201 → q2' n = q n) : qCle r2 q2' nx gv := by
  obtain ⟨a1, a2, a3, a4, a5, a6, a7, a8, a9⟩ := h
  unfold qCle
  rw [h1 0 (by decide), h1 1 (by decide), h1 2 (by decide)]
  refine ⟨a1, a2, a3, a4, a5, a6, fun n hn => by rw [h2 n hn]; exact a7 n hn, fun n hn hne => a8 n hn (by rw [← h2 n hn]; exact hne), fun h => by rw [h2 _ (by omega)]; exact a9 h⟩
theorem qWay.cg {P P2 : Int32 → Prop} {r q f r2 q2' f2 : Nat → Int32} (h : qWay P P2 r q f) (h1 : r2 1 = r 1 ∧ r2 2 = r 2 ∧ r2 4 = r 4) (h2 : ∀ n, n < 20 → q2' n = q n) (h3 : ∀ n, n < 10 → f2 n = f n) : qWay P P2 r2 q2' f2 := by
  obtain ⟨w1, w2, w3, w4, w5⟩ := h
  unfold qWay
  rw [h1.1, h1.2.1, h1.2.2]
  refine ⟨w1, w2, fun n hn => by rw [h2 n hn]; exact w3 n hn, fun n hn => by rw [h3 n hn]; exact w4 n hn, ?_⟩
  rw [w5]
  refine congrArg Nat.cast (fb_ct_cong fun k hk => ?_)
  unfold qIn
  rw [h3 k hk]
section CF
variable {A B : Int} {lo xc fl fh : Nat → Int} {τ τ0 : TS}
theorem s_X6_copyFrom (hn : qN τ0) (h : tS 17 τ0 lo xc fl fh A B τ) {K : TS → Prop} (hk : ∀ τ2 : TS, (∀ m, m < 122 ∨ 227 ≤ m → τ2 m = τ m) → tI 122 (τ0 1 0).toInt (τ0 1 1).toInt (τ0 6) lo xc fl fh A B τ2 → τ2 122 5 = τ 17 5 → τ2 122 4 = τ 17 4 → K τ2) : wp_X6_copyFrom τ 122 17 K := by
  unfold wp_X6_copyFrom
  have hL := hn.1.2.1
  have h6 := h.1.1
  refine ⟨fun τ2 x => 0 ≤ x.toInt ∧ x.toInt ≤ 2 * (τ0 1 1).toInt ∧ (∀ m, m < 122 ∨ 227 ≤ m → τ2 m = τ m) ∧ ∀ k : Nat, (k : Int) < x.toInt → eqWay τ2 τ (122 + 3 + 3 * k) (17 + 3 + 3 * k), fun _ x => 24 - x.toInt.toNat, ⟨by decide, by simp only [Int32.reduceToInt]; omega, fun _ _ => rfl, fun k hk0 => absurd hk0 (by simp only [Int32.reduceToInt]; omega)⟩, ?_⟩
  rintro τ2 x ⟨x0, x1, fr, cp⟩
  have e1 : τ2 1 1 = τ0 1 1 := by rw [fr 1 (by omega), h.net (by decide) (j := 1) (by decide)]
  have e2L : (2 * (τ0 1 1)).toInt = 2 * (τ0 1 1).toInt := by
    rw [q_mulc _ _ (by simp only [Int32.reduceToInt]; omega) (by simp only [Int32.reduceToInt]; omega)]
    simp only [Int32.reduceToInt]
  rw [e1]
  refine ⟨fun c => ?_, fun c => ?_⟩
  · have ex : x.toInt = 2 * (τ0 1 1).toInt := by
      rw [fa_le, e2L] at c
      omega
    refine ⟨fun τ3 y => 0 ≤ y.toInt ∧ y.toInt ≤ (τ 17 3).toInt ∧ (∀ m, m < 122 ∨ 227 ≤ m → τ3 m = τ m) ∧ (∀ k : Nat, (k : Int) < 2 * (τ0 1 1).toInt → eqWay τ3 τ (122 + 3 + 3 * k) (17 + 3 + 3 * k)) ∧ ∀ k : Nat, (k : Int) < y.toInt → eqCon τ3 τ (122 + 75 + 5 * k) (17 + 75 + 5 * k), fun _ y => 6 - y.toInt.toNat, ⟨by decide, by simp only [Int32.reduceToInt]; omega, fr, fun k hk2 => cp k (by omega), fun k hk0 => absurd hk0 (by simp only [Int32.reduceToInt]; omega)⟩, ?_⟩
    rintro τ3 y ⟨y0, y1, fr3, cw, cc⟩
    have e17 : τ3 17 = τ 17 := fr3 17 (by omega)
    rw [e17]
    refine ⟨fun c2 τ4 e4 τ5 e5 τ6 e6 => ?_, fun c2 => ?_⟩
    · have ey : y.toInt = (τ 17 3).toInt := by
        rw [fa_le] at c2
        omega
      have f6 : ∀ m, m ≠ 122 → τ6 m = τ3 m := fun m hm => by rw [e6, c_upn _ _ _ hm, e5, c_upn _ _ _ hm, e4, c_upn _ _ _ hm]
      have v3 : τ6 122 3 = τ 17 3 := by rw [e6, c_ups, c_upo _ _ (by decide), e5, c_ups, c_upo _ _ (by decide), e4, c_ups, c_upk]
      have v4 : τ6 122 4 = τ 17 4 := by rw [e6, c_ups, c_upo _ _ (by decide), e5, c_ups, c_upk, e4, c_upn _ _ _ (by decide), e17]
      have v5 : τ6 122 5 = τ 17 5 := by rw [e6, c_ups, c_upk, e5, c_upn _ _ _ (by decide), e4, c_upn _ _ _ (by decide), e17]
      clear e4 e5 e6
      have cc2 : ∀ k : Nat, (k : Int) < (τ 17 3).toInt → eqCon τ6 τ (122 + 75 + 5 * k) (17 + 75 + 5 * k) := fun k hk2 => by
        have := cc k (by omega)
        unfold eqCon at this ⊢
        rw [f6 _ (by omega), f6 _ (by omega), f6 _ (by omega), f6 _ (by omega), f6 _ (by omega)]
        exact this
      have cw2 : ∀ k : Nat, (k : Int) < 2 * (τ0 1 1).toInt → eqWay τ6 τ (122 + 3 + 3 * k) (17 + 3 + 3 * k) := fun k hk2 => by
        have := cw k hk2
        unfold eqWay at this ⊢
        rw [f6 _ (by omega), f6 _ (by omega), f6 _ (by omega)]
        exact this
      have ewt : ∀ k : Nat, (k : Int) < (τ 17 3).toInt → tWt τ6 122 k = tWt τ 17 k := fun k hk2 => by
        have := (cc2 k hk2).2.2.2.1 1 (by decide)
        unfold tWt
        rw [show 122 + 78 + 5 * k = 122 + 75 + 5 * k + 3 by omega, show 17 + 78 + 5 * k = 17 + 75 + 5 * k + 3 by omega, this]
      have enx : ∀ k : Nat, (k : Int) < (τ 17 3).toInt → tNx τ6 122 xc k = tNx τ 17 xc k := fun k hk2 => by
        have := (cc2 k hk2).2.1 4 (by decide)
        unfold tNx
        rw [show 122 + 76 + 5 * k = 122 + 75 + 5 * k + 1 by omega, show 17 + 76 + 5 * k = 17 + 75 + 5 * k + 1 by omega, this]
      refine hk τ6 (fun m hm => by rw [f6 m (by omega), fr3 m hm]) ⟨by rw [v3]; exact h.1.1, by rw [v4]; exact h.1.2.1, by rw [v5]; exact h.1.2.2.1, fun k hk2 => ?_, fun k hk24 hkL => ?_, fun e => absurd e (by decide)⟩ v5 v4
      · rw [v3] at hk2
        have hc := h.con hk2
        obtain ⟨q1, q2, q3, q4, q5⟩ := cc2 k hk2
        unfold tCon at hc ⊢
        rw [ewt k hk2]
        rw [show 122 + 76 + 5 * k = 122 + 75 + 5 * k + 1 by omega, show 122 + 77 + 5 * k = 122 + 75 + 5 * k + 2 by omega, show 122 + 78 + 5 * k = 122 + 75 + 5 * k + 3 by omega, show 122 + 79 + 5 * k = 122 + 75 + 5 * k + 4 by omega]
        rw [show 17 + 76 + 5 * k = 17 + 75 + 5 * k + 1 by omega, show 17 + 77 + 5 * k = 17 + 75 + 5 * k + 2 by omega, show 17 + 78 + 5 * k = 17 + 75 + 5 * k + 3 by omega, show 17 + 79 + 5 * k = 17 + 75 + 5 * k + 4 by omega] at hc
        rw [q1.1, q1.2, q2 4 (by decide), q2 1 (by decide)]
        exact ⟨hc.1.cg q2 q3, hc.2.1.cg q4 q5, hc.2.2⟩
      · have hk2 : (k : Int) < 2 * (τ0 1 1).toInt := hkL.resolve_right (by decide)
        have hw := h.1.2.2.2.2.1 k hk24 (Or.inl hk2)
        obtain ⟨q1, q2, q3⟩ := cw2 k hk2
        unfold tWayR at hw ⊢
        rw [v3, v4]
        rw [show 122 + 4 + 3 * k = 122 + 3 + 3 * k + 1 by omega, show 122 + 5 + 3 * k = 122 + 3 + 3 * k + 2 by omega]
        rw [show 17 + 4 + 3 * k = 17 + 3 + 3 * k + 1 by omega, show 17 + 5 + 3 * k = 17 + 3 + 3 * k + 2 by omega] at hw
        obtain ⟨⟨w1, w2, w3, w4, w5⟩, w6, w7⟩ := hw
        have hm : ∀ {m : Nat} {v : Int32}, pkOK (τ 17 3).toInt (tWt τ 17) (tNx τ 17 xc) m v → pkOK (τ 17 3).toInt (tWt τ6 122) (tNx τ6 122 xc) m v := fun hp => hp.mono (Int.le_refl _) (fun d hd => ⟨by rw [ewt d hd]; exact Int.le_refl _, by rw [enx d hd]; exact Int.le_refl _⟩) (Nat.le_refl _)
        refine ⟨qWay.cg ⟨w1, w2, fun n hn2 => hm (w3 n hn2), fun n hn2 => (w4 n hn2).imp id hm, w5⟩ q1 q2 q3, fun e he hf => w6 e he (by rw [← q3 _ (Nat.mod_lt _ (by decide))]; exact hf), fun hup => ⟨by rw [q1.2.1]; exact (w7 hup).1, fun n hn2 => by rw [q3 n hn2]; exact (w7 hup).2 n hn2⟩⟩
    · have hyl : y.toInt < (τ 17 3).toInt := by
        rw [fa_le] at c2
        omega
      have hv := q_in (n := 6) y0 (by omega)
      refine ⟨hv, hv, ?_⟩
      rw [q_cl, show 122 + 2 + 73 + 5 * y.toInt.toNat = 122 + 75 + 5 * y.toInt.toNat by omega, show 17 + 2 + 73 + 5 * y.toInt.toNat = 17 + 75 + 5 * y.toInt.toNat by omega]
      generalize hcc : y.toInt.toNat = d at *
      have hc := h.con (c := d) (by omega)
      refine s_X2_copyFrom (by omega) ?_ ?_ (fun τ4 f4 q4 y2 ey => ?_)
      · rw [fr3 _ (by omega), show 17 + 75 + 5 * d + 1 = 17 + 76 + 5 * d by omega]
        have := hc.1.2.2.1
        rcases this with e | e
        · exact Or.inl (by rw [fa_eq, e]; rfl)
        · exact Or.inr (by rw [fa_eq, e]; rfl)
      · intro n hn2
        rw [fr3 _ (by omega), show 17 + 75 + 5 * d + 4 = 17 + 79 + 5 * d by omega]
        exact hc.2.1.2.2.2.2.2.2.1 n hn2
      · have ey2 : y2.toInt = y.toInt + 1 := by
          subst ey
          simp only [fa_lt, fa_le, fa_eq, q_add, q_sub, q_ite, Int32.reduceToInt]
          omega
        refine ⟨⟨by omega, by omega, fun m hm => by rw [f4 m (by omega), fr3 m hm], fun k hk2 => ?_, fun k hk2 => ?_⟩, by show 6 - y2.toInt.toNat < 6 - y.toInt.toNat; omega⟩
        · have := cw k hk2
          unfold eqWay at this ⊢
          rw [f4 _ (by omega), f4 _ (by omega), f4 _ (by omega)]
          exact this
        · by_cases hkd : k = d
          · subst hkd
            unfold eqCon at q4 ⊢
            rw [fr3 _ (by omega), fr3 _ (by omega), fr3 _ (by omega), fr3 _ (by omega), fr3 _ (by omega)] at q4
            exact q4
          · have := cc k (by omega)
            unfold eqCon at this ⊢
            rw [f4 _ (by omega), f4 _ (by omega), f4 _ (by omega), f4 _ (by omega), f4 _ (by omega)]
            exact this
  · have hxl : x.toInt < 2 * (τ0 1 1).toInt := by
      rw [fa_le, e2L] at c
      omega
    have hv := q_in (n := 24) x0 (by omega)
    refine ⟨hv, hv, ?_⟩
    rw [q_cl, show 122 + 1 + 2 + 3 * x.toInt.toNat = 122 + 3 + 3 * x.toInt.toNat by omega, show 17 + 1 + 2 + 3 * x.toInt.toNat = 17 + 3 + 3 * x.toInt.toNat by omega]
    generalize hcc : x.toInt.toNat = d at *
    refine s_X7_copyFrom (by omega) (fun τ4 f4 q4 y2 ey => ?_)
    have ey2 : y2.toInt = x.toInt + 1 := by
      subst ey
      simp only [fa_lt, fa_le, fa_eq, q_add, q_sub, q_ite, Int32.reduceToInt]
      omega
    refine ⟨⟨by omega, by omega, fun m hm => by rw [f4 m (by omega) (by omega) (by omega), fr m hm], fun k hk2 => ?_⟩, by show 24 - y2.toInt.toNat < 24 - x.toInt.toNat; omega⟩
    by_cases hkd : k = d
    · subst hkd
      unfold eqWay at q4 ⊢
      rw [fr _ (by omega), fr _ (by omega), fr _ (by omega)] at q4
      exact q4
    · have := cp k (by omega)
      unfold eqWay at this ⊢
      rw [f4 _ (by omega) (by omega) (by omega), f4 _ (by omega) (by omega) (by omega), f4 _ (by omega) (by omega) (by omega)]
      exact this
end CF
