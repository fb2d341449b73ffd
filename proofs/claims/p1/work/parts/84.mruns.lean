/-! the reference's -/
theorem mf_range {τ : TS} {x : Int32} {K : TS → Int32 → Prop} (hX : (x < 1 ∨ 50 < x) → K τ 0) (hK : 1 ≤ x.toInt → x.toInt ≤ 50 → K τ 1) : wp_X11_is τ x 1 50 K := by
  unfold wp_X11_is
  refine ⟨fun c => hX (Or.inl c), fun c => ⟨fun c2 => hX (Or.inr c2), fun c2 => hK ?_ ?_⟩⟩
  all_goals
    simp only [fa_lt, fa_le, fa_eq, Int32.reduceToInt] at *
    omega
theorem mf_tick {τ : TS} {i : Nat} (hi : i ≠ 234) (h1 : τ 234 2 = 0) (h2 : τ i 2 = 0) {K : TS → Prop} (hK : K (tp_up τ i 0 (τ i 0 + 1))) : wp_X10_tick τ i K := by
  unfold wp_X10_tick
  intro τ2 e
  have a1 : τ2 234 2 = 0 := by rw [e, r_upn τ 0 _ (Ne.symm hi)]; exact h1
  have a2 : τ2 i 2 = 0 := by rw [e, r_ups]; exact h2
  rw [← e] at hK
  refine ⟨fun τ3 x => τ3 = τ2 ∧ x = 0, fun _ _ => 0, ⟨rfl, rfl⟩, ?_⟩
  rintro τ3 x ⟨e1, e2⟩
  subst e1 e2
  rw [a1]
  refine ⟨fun _ => ?_, fun c => absurd (by decide) c⟩
  refine ⟨fun τ4 x => τ4 = τ3 ∧ x = 0, fun _ _ => 0, ⟨rfl, rfl⟩, ?_⟩
  rintro τ4 x ⟨e1, e2⟩
  subst e1 e2
  rw [a2]
  refine ⟨fun _ => ?_, fun c => absurd (by decide) c⟩
  refine ⟨fun τ5 x => τ5 = τ4 ∧ x = 0, fun _ _ => 0, ⟨rfl, rfl⟩, ?_⟩
  rintro τ5 x ⟨e1, e2⟩
  subst e1 e2
  rw [a2]
  refine ⟨fun _ => ?_, fun c => absurd (by decide) c⟩
  refine ⟨fun τ6 x => τ6 = τ5 ∧ x = 0, fun _ _ => 0, ⟨rfl, rfl⟩, ?_⟩
  rintro τ6 x ⟨e1, e2⟩
  subst e1 e2
  rw [a1]
  exact ⟨fun _ => hK, fun c => absurd (by decide) c⟩
theorem mf_pass {τ : TS} (h1 : τ 234 2 = 0) (h2 : τ 239 2 = 0) (h0 : τ 239 0 = 0) {x : Int32} {K : TS → Int32 → Prop} (hX : (x < 1 ∨ 50 < x) → ∀ τ2 : TS, τ2 234 0 = 1 → K τ2 0) (hK : ∀ τ2 : TS, 1 ≤ x.toInt → x.toInt ≤ 50 → τ2 234 0 = 0 → τ2 503 = τ 503 → K τ2 x) : wp_X11_pass τ 234 x K := by
  unfold wp_X11_pass
  intro τ1 e
  subst e
  refine mf_range (fun c => ⟨fun c2 => absurd rfl c2, fun _ => mf_refuse (hX c)⟩) (fun c1 c2 => ⟨fun _ => ?_, fun c3 => absurd c3 (by decide)⟩)
  refine ⟨fun τ2 k => 0 ≤ k.toInt ∧ k.toInt ≤ x.toInt ∧ τ2 234 0 = 0 ∧ τ2 234 2 = 0 ∧ τ2 239 2 = 0 ∧ τ2 239 0 = k ∧ τ2 503 = τ 503, fun _ k => 50 - k.toInt.toNat, ⟨by decide, by simp only [Int32.reduceToInt]; omega, rfl, h1, h2, h0, rfl⟩, ?_⟩
  rintro τ2 k ⟨k0, k1, a0, a2, a3, a4, a5⟩
  refine ⟨fun c => ?_, fun c => ?_⟩
  · have ek : k = x := by
      simp only [fa_lt, fa_le, fa_eq, Int32.reduceToInt] at *
      omega
    rw [a4, ek]
    exact hK _ c1 c2 a0 a5
  · refine mf_tick (by decide) a2 a3 (fun k2 e2 => ?_)
    have e3 : k2.toInt = k.toInt + 1 := by
      subst e2
      simp only [fa_lt, fa_le, fa_eq, q_add, Int32.reduceToInt] at *
      omega
    have hlt : k.toInt < x.toInt := by
      simp only [fa_lt, fa_le, fa_eq, Int32.reduceToInt] at c
      omega
    refine ⟨⟨by omega, by omega, a0, a2, a3, ?_, a5⟩, ?_⟩
    · show τ2 239 0 + 1 = k2
      rw [a4, e2]
    · show 50 - k2.toInt.toNat < 50 - k.toInt.toNat
      omega
theorem mf_row {τ : TS} {i j : Nat} (hij : i ≠ j) (h : τ j 1 = 0) {K : TS → Prop} (hK : ∀ τ2 : TS, (∀ q, q ≠ i → q ≠ i + 1 → τ2 q = τ q) → K τ2) : wp_X9_become τ i j K := by
  unfold wp_X9_become
  rw [h]
  refine ⟨fun _ τ2 e => ?_, fun c => absurd (by decide) c⟩
  have a : τ2 i 1 = 0 := by rw [e, r_ups]; rfl
  rw [a]
  refine ⟨by decide, by decide, by decide, fun τ3 e3 => hK _ (fun q h1 h2 => ?_)⟩
  subst e3 e
  rw [r_rwn _ _ h2, r_upn _ _ _ h1]
/-- what is copied is fresh -/
def pR (τ : TS) : Prop := (∀ q, τ 240 q = 0) ∧ (∀ k, k < 6 → ∀ q, τ (269 + k) q = 0) ∧ ∀ k, k < 48 → τ (275 + 2 * k) 1 = 0
theorem fb_nx {k k2 : Int32} {n : Int} (k0 : 0 ≤ k.toInt) (hn : n < 1000) (hk : k.toInt < n) (e : k2 = k + 1) : k2.toInt = k.toInt + 1 := by
  subst e
  simp only [q_add, Int32.reduceToInt]
  omega
theorem fb_in {k : Int32} {n : Nat} (k0 : 0 ≤ k.toInt) (hk : k.toInt < n) : vp_in k n := by
  unfold vp_in
  rw [fb_cl k0]
  simp only [fa_lt, Int32.reduceToInt]
  omega
theorem mf_become {τ : TS} (h : pR τ) {K : TS → Prop} (hK : ∀ τ2 : TS, (∀ j, j < 371 → τ2 j = τ j) → τ2 503 = τ 503 → τ2 371 1 = τ 239 1 → τ2 371 2 = τ 239 2 → K τ2) : wp_X10_become τ 371 239 K := by
  unfold wp_X10_become
  intro τ1 e1 τ2 e2 τ3 e3
  have f3 : ∀ j, j ≠ 371 → τ3 j = τ j := fun j hj => by
    rw [e3, r_upn _ _ _ hj, e2, r_upn _ _ _ hj, e1, r_upn _ _ _ hj]
  have g1 : τ3 371 1 = τ 239 1 := by
    rw [e3, r_ups, e2]
    show upd (τ1 371) 1 (τ1 239 1) 1 = _
    rw [e1]
    rfl
  have g2 : τ3 371 2 = τ 239 2 := by
    rw [e3, r_ups]
    show τ2 239 2 = _
    rw [e2, e1]
    rfl
  clear e1 e2 e3
  refine ⟨fun q _ => ?_, fun τ4 e4 τ5 e5 τ6 e6 => ?_⟩
  · rw [show (239 + 1 : Nat) = 240 from rfl, f3 240 (by decide), h.1]
    exact tp_z0
  · have f6 : ∀ j, j ≤ 371 ∨ j = 503 → τ6 j = τ3 j := fun j hj => by
      rw [e6, r_rwn _ _ (by omega), e5, r_rwn _ _ (by omega), e4, r_rwn _ _ (by omega)]
    clear e4 e5 e6
    refine ⟨fun τ7 k => 0 ≤ k.toInt ∧ k.toInt ≤ 8 ∧ ∀ j, j ≤ 371 ∨ j = 503 → τ7 j = τ3 j, fun _ k => 8 - k.toInt.toNat, ⟨by decide, by decide, f6⟩, ?_⟩
    rintro τ7 k ⟨k0, k1, hfr⟩
    have ht : ¬ 8 ≤ k → k.toInt < 8 := fun c => by
      simp only [fa_le, Int32.reduceToInt] at c
      omega
    refine ⟨fun _ => ?_, fun c => ⟨fb_in k0 (ht c), fb_in k0 (ht c), fun τ8 e8 k2 e2 => ?_⟩⟩
    · refine ⟨fun τ8 k => 0 ≤ k.toInt ∧ k.toInt ≤ 24 ∧ ∀ j, j ≤ 371 ∨ j = 503 → τ8 j = τ3 j, fun _ k => 24 - k.toInt.toNat, ⟨by decide, by decide, hfr⟩, ?_⟩
      rintro τ8 n ⟨n0, n1, hfr2⟩
      have ht2 : ¬ 24 ≤ n → n.toInt < 24 := fun c => by
        simp only [fa_le, Int32.reduceToInt] at c
        omega
      refine ⟨fun _ => ?_, fun c => ⟨fb_in n0 (ht2 c), fb_in n0 (ht2 c), ?_⟩⟩
      · refine ⟨fun τ9 k => 0 ≤ k.toInt ∧ k.toInt ≤ 6 ∧ ∀ j, j ≤ 371 ∨ j = 503 → τ9 j = τ3 j, fun _ k => 6 - k.toInt.toNat, ⟨by decide, by decide, hfr2⟩, ?_⟩
        rintro τ9 m ⟨m0, m1, hfr3⟩
        have ht3 : ¬ 6 ≤ m → m.toInt < 6 := fun c => by
          simp only [fa_le, Int32.reduceToInt] at c
          omega
        refine ⟨fun _ => hK _ (fun j hj => (hfr3 j (by omega)).trans (f3 j (by omega))) ((hfr3 503 (by omega)).trans (f3 503 (by decide))) (by rw [hfr3 371 (by omega)]; exact g1) (by rw [hfr3 371 (by omega)]; exact g2), fun c => ?_⟩
        have i1 := fb_in (n := 6) m0 (ht3 c)
        refine ⟨i1, i1, fun τa ea => ⟨i1, i1, fun τb eb => ⟨i1, i1, fun q _ => ?_, fun τc ec m2 e2 => ?_⟩⟩⟩
        · have h9 : τb (269 + Int32.toNatClampNeg m) = τ (269 + Int32.toNatClampNeg m) := by
            have hm : Int32.toNatClampNeg m < 6 := tp_lt i1
            rw [eb, r_rwn _ _ (by omega), ea, r_rwn _ _ (by omega), hfr3 _ (by omega), f3 _ (by omega)]
          rw [show 239 + 29 + 1 + Int32.toNatClampNeg m = 269 + Int32.toNatClampNeg m by omega, h9, h.2.1 _ (tp_lt i1)]
          exact tp_z0
        · have e3 := fb_nx m0 (by decide) (ht3 c) e2
          have hm : Int32.toNatClampNeg m < 6 := tp_lt i1
          have := ht3 c
          refine ⟨⟨by omega, by omega, fun j hj => ?_⟩, ?_⟩
          · rw [ec, r_rwn _ _ (by omega), eb, r_rwn _ _ (by omega), ea, r_rwn _ _ (by omega), hfr3 j hj]
          · show 6 - m2.toInt.toNat < 6 - m.toInt.toNat
            omega
      · have i1 := fb_in (n := 24) n0 (ht2 c)
        have hn : Int32.toNatClampNeg n < 24 := tp_lt i1
        have q1 : τ8 (239 + 11 + 25 + 4 * Int32.toNatClampNeg n) 1 = 0 := by
          rw [show 239 + 11 + 25 + 4 * Int32.toNatClampNeg n = 275 + 2 * (2 * Int32.toNatClampNeg n) by omega, hfr2 _ (by omega), f3 _ (by omega)]
          exact h.2.2 _ (by omega)
        refine mf_row (by omega) q1 (fun τ9 f9 => ⟨i1, i1, ?_⟩)
        have q2 : τ9 (239 + 12 + 26 + 4 * Int32.toNatClampNeg n) 1 = 0 := by
          rw [f9 _ (by omega) (by omega), show 239 + 12 + 26 + 4 * Int32.toNatClampNeg n = 275 + 2 * (2 * Int32.toNatClampNeg n + 1) by omega, hfr2 _ (by omega), f3 _ (by omega)]
          exact h.2.2 _ (by omega)
        refine mf_row (by omega) q2 (fun τa fa n2 e2 => ?_)
        have e3 := fb_nx n0 (by decide) (ht2 c) e2
        have := ht2 c
        refine ⟨⟨by omega, by omega, fun j hj => ?_⟩, ?_⟩
        · rw [fa _ (by omega) (by omega), f9 _ (by omega) (by omega), hfr2 j hj]
        · show 24 - n2.toInt.toNat < 24 - n.toInt.toNat
          omega
    · have e3 := fb_nx k0 (by decide) (ht c) e2
      have := ht c
      have hk : Int32.toNatClampNeg k < 8 := tp_lt (fb_in (n := 8) k0 (ht c))
      refine ⟨⟨by omega, by omega, fun j hj => ?_⟩, ?_⟩
      · rw [e8, r_rwn _ _ (by omega), hfr j hj]
      · show 8 - k2.toInt.toNat < 8 - k.toInt.toNat
        omega
theorem mf_lostIn {τ : TS} (h : pR τ) (h1 : τ 234 2 = 0) (h2 : τ 239 2 = 0) (h3 : τ 239 1 = 0) {x : Int32} {K : TS → Int32 → Prop} (hX : (x < 1 ∨ 50 < x) → ∀ τ2 : TS, τ2 234 0 = 1 → K τ2 0) (hK : ∀ τ2 : TS, 1 ≤ x.toInt → x.toInt ≤ 50 → τ2 234 0 = 0 → τ2 503 = τ 503 → K τ2 0) : wp_X11_lostIn τ 234 x K := by
  unfold wp_X11_lostIn
  intro τ1 e
  have f1 : ∀ j, j ≠ 234 → τ1 j = τ j := fun j hj => by rw [e, r_upn _ _ _ hj]
  have a1 : τ1 234 0 = 0 := by rw [e, r_ups]; rfl
  have a2 : τ1 234 2 = 0 := by rw [e, r_ups]; exact h1
  clear e
  refine mf_range (fun c => ⟨fun c2 => absurd rfl c2, fun _ => mf_refuse (hX c)⟩) (fun c1 c2 => ⟨fun _ => ?_, fun c3 => absurd c3 (by decide)⟩)
  refine mf_become ⟨fun q => by rw [f1 240 (by decide)]; exact h.1 q, fun k hk q => by rw [f1 _ (by omega)]; exact h.2.1 k hk q, fun k hk => by rw [f1 _ (by omega)]; exact h.2.2 k hk⟩ (fun τ2 g1 g2 g3 g4 => ?_)
  rw [f1 239 (by decide)] at g3 g4
  refine ⟨fun τ3 k => 0 ≤ k.toInt ∧ k.toInt ≤ x.toInt ∧ τ3 234 0 = 0 ∧ τ3 234 2 = 0 ∧ τ3 371 2 = 0 ∧ τ3 371 1 = 0 ∧ τ3 239 1 = 0 ∧ τ3 503 = τ 503, fun _ k => 50 - k.toInt.toNat, ⟨by decide, by simp only [Int32.reduceToInt]; omega, by rw [g1 234 (by decide)]; exact a1, by rw [g1 234 (by decide)]; exact a2, by rw [g4]; exact h2, by rw [g3]; exact h3, by rw [g1 239 (by decide), f1 239 (by decide)]; exact h3, by rw [g2, f1 503 (by decide)]⟩, ?_⟩
  rintro τ3 k ⟨k0, k1, b0, b2, b3, b4, b5, b6⟩
  refine ⟨fun c => ?_, fun c => ?_⟩
  · rw [b4, b5]
    exact hK _ c1 c2 b0 b6
  · refine mf_tick (by decide) b2 b3 (fun k2 e2 => ?_)
    have hlt : k.toInt < x.toInt := by
      simp only [fa_lt, fa_le, fa_eq, Int32.reduceToInt] at c
      omega
    have e3 := fb_nx k0 (by omega) hlt e2
    refine ⟨⟨by omega, by omega, b0, b2, b3, b4, b5, b6⟩, ?_⟩
    show 50 - k2.toInt.toNat < 50 - k.toInt.toNat
    omega
theorem mf_fill {τ : TS} {i : Nat} {v : Int32} {K : TS → Prop} (hK : ∀ τ2 : TS, (∀ j, j ≠ i → τ2 j = τ j) → K τ2) : wp_J7_fill_53178 τ i v K := by
  unfold wp_J7_fill_53178
  refine ⟨fun τ2 k => 0 ≤ k.toInt ∧ k.toInt ≤ 8 ∧ ∀ j, j ≠ i → τ2 j = τ j, fun _ k => 8 - k.toInt.toNat, ⟨by decide, by decide, fun _ _ => rfl⟩, ?_⟩
  rintro τ2 k ⟨k0, k1, hfr⟩
  have ht : ¬ 8 ≤ k → k.toInt < 8 := fun c => by
    simp only [fa_le, Int32.reduceToInt] at c
    omega
  refine ⟨fun _ => hK _ hfr, fun c => ⟨fb_in k0 (ht c), fun τ3 e3 k2 e2 => ?_⟩⟩
  have e4 := fb_nx k0 (by decide) (ht c) e2
  have := ht c
  refine ⟨⟨by omega, by omega, fun j hj => ?_⟩, ?_⟩
  · rw [e3, r_upn _ _ _ hj, hfr j hj]
  · show 8 - k2.toInt.toNat < 8 - k.toInt.toNat
    omega
theorem mf_routes {τ : TS} (h1 : τ 234 1 = 1) (h2 : τ 234 2 = 0) {x : Int32} {K : TS → Prop} (hK : ∀ τ2 : TS, (∀ j, j < 242 ∨ 250 ≤ j → τ2 j = τ j) → K τ2) : wp_X10_routes τ 239 x K := by
  unfold wp_X10_routes
  refine ⟨fun τ2 k => 0 ≤ k.toInt ∧ k.toInt ≤ 8 ∧ ∀ j, j < 242 ∨ 250 ≤ j → τ2 j = τ j, fun _ k => 8 - k.toInt.toNat, ⟨by decide, by decide, fun _ _ => rfl⟩, ?_⟩
  rintro τ2 k ⟨k0, k1, hfr⟩
  have ht : ¬ 8 ≤ k → k.toInt < 8 := fun c => by
    simp only [fa_le, Int32.reduceToInt] at c
    omega
  have i0 : vp_in 0 8 := by unfold vp_in; decide
  refine ⟨fun _ => ?_, fun c => ⟨fb_in k0 (ht c), mf_fill (fun τ3 f3 k2 e2 => ?_)⟩⟩
  · refine ⟨fun τ3 n => (n = 0 ∨ n = 1) ∧ ∀ j, j < 242 ∨ 250 ≤ j → τ3 j = τ j, fun _ n => 1 - n.toInt.toNat, ⟨Or.inl rfl, hfr⟩, ?_⟩
    rintro τ3 n ⟨hn, f3⟩
    rw [f3 234 (by omega), h1]
    refine ⟨fun _ => ?_, fun c => ?_⟩
    · refine ⟨fun τ4 m => m = 0 ∧ ∀ j, j < 242 ∨ 250 ≤ j → τ4 j = τ j, fun _ _ => 0, ⟨rfl, f3⟩, ?_⟩
      rintro τ4 m ⟨hm, f4⟩
      subst hm
      rw [f4 234 (by omega), h2]
      refine ⟨fun _ => ?_, fun c => absurd (by decide) c⟩
      refine ⟨fun τ5 m => (m = 0 ∨ m = 1) ∧ ∀ j, j < 242 ∨ 250 ≤ j → τ5 j = τ j, fun _ m => 1 - m.toInt.toNat, ⟨Or.inl rfl, f4⟩, ?_⟩
      rintro τ5 m ⟨hm, f5⟩
      rw [f5 234 (by omega), h1]
      refine ⟨fun _ => hK _ f5, fun c => ?_⟩
      rcases hm with hm | hm
      · subst hm
        refine ⟨fun τ6 m => (m = 0 ∨ m = 1) ∧ ∀ j, j < 242 ∨ 250 ≤ j → τ6 j = τ j, fun _ m => 1 - m.toInt.toNat, ⟨Or.inl rfl, f5⟩, ?_⟩
        rintro τ6 a ⟨ha, f6⟩
        rw [f6 234 (by omega), h1]
        refine ⟨fun _ z ez => ⟨⟨Or.inr (by rw [ez]; decide), f6⟩, by rw [ez]; exact (show 1 - (0 + 1 : Int32).toInt.toNat < 1 - (0 : Int32).toInt.toNat by decide)⟩, fun c2 => ?_⟩
        rcases ha with ha | ha
        · subst ha
          refine ⟨fun τ7 m => (m = 0 ∨ m = 1) ∧ ∀ j, j < 242 ∨ 250 ≤ j → τ7 j = τ j, fun _ m => 1 - m.toInt.toNat, ⟨Or.inl rfl, f6⟩, ?_⟩
          rintro τ7 b ⟨hb, f7⟩
          rw [f7 234 (by omega), h1]
          refine ⟨fun _ z ez => ⟨⟨Or.inr (by rw [ez]; decide), f7⟩, by rw [ez]; exact (show 1 - (0 + 1 : Int32).toInt.toNat < 1 - (0 : Int32).toInt.toNat by decide)⟩, fun c3 => ?_⟩
          rcases hb with hb | hb
          · subst hb
            refine ⟨i0, i0, i0, i0, i0, i0, i0, fun y _ => ⟨i0, fun τ8 e8 z ez => ⟨⟨Or.inr (by rw [ez]; decide), fun j hj => ?_⟩, by rw [ez]; exact (show 1 - (0 + 1 : Int32).toInt.toNat < 1 - (0 : Int32).toInt.toNat by decide)⟩⟩⟩
            rw [e8, r_upn _ _ _ (by show j ≠ 239 + 2 + 1 + 0; omega), f7 j hj]
          · subst hb
            exact absurd (by decide) c3
        · subst ha
          exact absurd (by decide) c2
      · subst hm
        exact absurd (by decide) c
    · rcases hn with hn | hn
      · subst hn
        refine ⟨i0, i0, fun τ4 e4 z ez => ⟨⟨Or.inr (by rw [ez]; decide), fun j hj => ?_⟩, by rw [ez]; exact (show 1 - (0 + 1 : Int32).toInt.toNat < 1 - (0 : Int32).toInt.toNat by decide)⟩⟩
        rw [e4, r_upn _ _ _ (by show j ≠ 239 + 2 + 1 + 0; omega), f3 j hj]
      · subst hn
        exact absurd (by decide) c
  · have e4 := fb_nx k0 (by decide) (ht c) e2
    have := ht c
    have hk : Int32.toNatClampNeg k < 8 := tp_lt (fb_in (n := 8) k0 (ht c))
    refine ⟨⟨by omega, by omega, fun j hj => ?_⟩, ?_⟩
    · rw [f3 j (by omega), hfr j hj]
    · show 8 - k2.toInt.toNat < 8 - k.toInt.toNat
      omega
theorem mf_addNode {τ : TS} (h1 : τ 234 1 = 0) (h2 : τ 234 2 = 0) {K : TS → Int32 → Prop} (hK : ∀ τ2 : TS, τ2 234 0 = 0 → τ2 503 = τ 503 → K τ2 0) : wp_X11_addNode τ 234 K := by
  unfold wp_X11_addNode
  intro τ1 e
  have a0 : τ1 234 0 = 0 := by rw [e, r_ups]; rfl
  have a1 : τ1 234 1 = 0 := by rw [e, r_ups]; exact h1
  have a2 : τ1 234 2 = 0 := by rw [e, r_ups]; exact h2
  have a3 : τ1 503 = τ 503 := by rw [e, r_upn _ _ _ (by decide)]
  clear e
  rw [a1]
  refine ⟨fun _ τ2 e => ?_, fun c => absurd c (by decide)⟩
  have b0 : τ2 234 0 = 0 := by rw [e, r_ups]; exact a0
  have b1 : τ2 234 1 = 1 := by rw [e, r_ups]; rfl
  have b2 : τ2 234 2 = 0 := by rw [e, r_ups]; exact a2
  have b3 : τ2 503 = τ 503 := by rw [e, r_upn _ _ _ (by decide)]; exact a3
  refine mf_routes b1 b2 (fun τ3 f3 => ?_)
  rw [f3 234 (by omega), b1]
  exact hK _ (by rw [f3 234 (by omega)]; exact b0) (by rw [f3 503 (by omega)]; exact b3)
