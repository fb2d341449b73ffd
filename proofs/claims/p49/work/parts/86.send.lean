/-! a packet is sent -/
/-- the net's rows, whole -/
def qN (τ : TS) : Prop := qNet (τ 1) (τ 2) (τ 3) (τ 4) (τ 5) ∧ qRows τ (nE (τ 2) (τ 3) (τ 4) (τ 6) (τ 1 1).toInt) (τ 1 0).toInt ∧ (∀ l, l < 12 → τ 6 l = 0 ∨ τ 6 l = 1) ∧ ∀ l : Nat, l < 12 → (τ 1 1).toInt ≤ l → τ 6 l = 0
theorem qN.up {τ : TS} (h : qN τ) {k : Nat} (hk : k < 24) (hu : τ 6 (k / 2) ≠ 0) : (k : Int) < 2 * (τ 1 1).toInt := by
  by_cases h1 : (k : Int) < 2 * (τ 1 1).toInt
  · exact h1
  · exact absurd (h.2.2.2 (k / 2) (by omega) (by omega)) hu
/-- a traffic over the net of τ0; nothing else has changed since -/
def tS (T : Nat) (τ0 : TS) (lo xc fl fh : Nat → Int) (A B : Int) (τ : TS) : Prop :=
  tI T (τ0 1 0).toInt (τ0 1 1).toInt (τ0 6) lo xc fl fh A B τ ∧ (∀ j, j < T ∨ T + 105 ≤ j → τ j = τ0 j) ∧ ∀ c : Nat, c < 6 → τ (T + 76 + 5 * c) 1 = τ0 (T + 76 + 5 * c) 1 ∧ τ (T + 78 + 5 * c) 2 = τ0 (T + 78 + 5 * c) 2
section SD
variable {T : Nat} {A B : Int} {lo xc fl fh : Nat → Int} {τ τ0 : TS}
theorem tS.net (hT : 17 ≤ T) (h : tS T τ0 lo xc fl fh A B τ) {j : Nat} (hj : j < 17) : τ j = τ0 j := h.2.1 j (by omega)
theorem tS.lost (h : tS T τ0 lo xc fl fh A B τ) {v : Int32} {A2 B2 : Int} (hv : A2 ≤ v.toInt ∧ v.toInt ≤ B2) : tS T τ0 lo xc fl fh A2 B2 (tp_up τ T 5 v) :=
  ⟨h.1.lost hv, fun j hj => by rw [show tp_up τ T 5 v j = τ j from if_neg (by omega)]; exact h.2.1 j hj, fun c hc => by rw [show tp_up τ T 5 v (T + 76 + 5 * c) = τ (T + 76 + 5 * c) from if_neg (by omega), show tp_up τ T 5 v (T + 78 + 5 * c) = τ (T + 78 + 5 * c) from if_neg (by omega)]; exact h.2.2 c hc⟩
theorem fb_inc {v : Int32} {A B : Int} (h : A ≤ v.toInt ∧ v.toInt ≤ B) (hB : B < 2000000000) : A ≤ (v + 1).toInt ∧ (v + 1).toInt ≤ B + 1 := by
  have := fb_rng v
  simp only [fa_lt, fa_le, fa_eq, q_add, q_sub, q_ite, Int32.reduceToInt]
  omega
/-- joined to a way's queue, or lost -/
theorem s_join1 (hT : 17 ≤ T) (hn : qN τ0) (h : tS T τ0 lo xc fl fh A B τ) (hB : B < 2000000000) {l w : Nat} {x1 xr : Int32} (hl : (l : Int) < (τ0 1 1).toInt) (hw : w < 2) (hup : τ0 6 l ≠ 0) (hp : pkOK (τ T 3).toInt (tWt τ T) (tNx τ T xc) 16 x1) {K : TS → Prop}
    (hk : ∀ τ2, tS T τ0 lo xc fl fh A (B + 1) τ2 → (∀ j, T + 75 ≤ j → τ2 j = τ j) → (∀ k, k ≠ 5 → τ2 T k = τ T k) → K τ2) :
    wp_X7_join τ (T + 3 + 3 * (2 * l + w)) x1 xr (fun τ2 x => ((¬ x = 0) → K τ2) ∧ ((x = 0) → ∀ τ3 : TS, τ3 = tp_up τ2 T 5 ((τ2 T 5) + 1) → K τ3)) := by
  have hL : (τ0 1 1).toInt ≤ 12 := hn.1.2.1.2
  have hk24 : 2 * l + w < 24 := by omega
  have hin : ((2 * l + w : Nat) : Int) < 2 * (τ0 1 1).toInt := by omega
  have hway := h.1.2.2.2.2.1 (2 * l + w) hk24 (Or.inl hin)
  have hls := h.1.2.2.1
  rw [← q3_self τ (T + 3 + 3 * (2 * l + w))]
  rw [show T + 3 + 3 * (2 * l + w) + 1 = T + 4 + 3 * (2 * l + w) by omega, show T + 3 + 3 * (2 * l + w) + 2 = T + 5 + 3 * (2 * l + w) by omega]
  refine s_X7_join hway.1 hp ⟨fun c => absurd rfl c, fun _ τ3 e => ?_⟩ (fun r2 q2 hw2 => ⟨fun _ => ?_, fun c => absurd c (by decide)⟩)
  · rw [← show T + 3 + 3 * (2 * l + w) + 1 = T + 4 + 3 * (2 * l + w) by omega, ← show T + 3 + 3 * (2 * l + w) + 2 = T + 5 + 3 * (2 * l + w) by omega, q3_self] at e
    subst e
    exact hk _ (h.lost (fb_inc hls hB)) (fun j hj => if_neg (by omega)) (fun k hk5 => by rw [show tp_up τ T 5 (τ T 5 + 1) T = upd (τ T) 5 (τ T 5 + 1) from if_pos rfl]; exact if_neg hk5)
  · have hd : (2 * l + w) / 2 = l := by omega
    refine hk _ ⟨?_, fun j hj => ?_, fun c hc => ?_⟩ (fun j hj => q3_n _ _ _ _ _ (by omega) (by omega) (by omega)) (fun k _ => by rw [q3_n _ _ _ _ _ (by omega) (by omega) (by omega)])
    · have hz := h.1.way (k := 2 * l + w) hk24 (fl2 := fl) (fh2 := fh) (r := r2) (q := q2) (f := τ (T + 5 + 3 * (2 * l + w))) ⟨hw2, hway.2.1, fun c => absurd (by rw [hd] at c; exact c) hup⟩ (fun _ _ => ⟨rfl, rfl⟩)
      obtain ⟨z1, z2, z3, z4⟩ := hz
      exact ⟨z1, z2, ⟨z3.1, by omega⟩, z4⟩
    · rw [q3_n _ _ _ _ _ (by omega) (by omega) (by omega)]
      exact h.2.1 j hj
    · rw [q3_n _ _ _ _ _ (by omega) (by omega) (by omega), q3_n _ _ _ _ _ (by omega) (by omega) (by omega)]
      exact h.2.2 c hc
theorem pk_low {md : Int} {wt nx : Nat → Int} {n : Nat} (h : pkOK md wt nx 17 (nI n)) (hn : n < 2 ^ 31) (h16 : n / 262144 < 16) : pkOK md wt nx 16 (nI n) := by
  obtain ⟨m, e, hm, h3, h4⟩ := h
  have em : m = n := by
    have h5 := congrArg Int32.toInt e
    rw [nI_toInt hn, nI_toInt (by omega)] at h5
    omega
  subst em
  exact ⟨m, rfl, by omega, h3, h4⟩
theorem s_X6_send (hT : 17 ≤ T) (hn : qN τ0) (h : tS T τ0 lo xc fl fh A B τ) (hB : B < 2000000000) {x1 x2 x3 : Int32} (hp : pkOK (τ T 3).toInt (tWt τ T) (tNx τ T xc) 17 x1) (h2 : 0 ≤ x2.toInt ∧ x2.toInt < (τ0 1 0).toInt) (h3 : 0 ≤ x3.toInt ∧ x3.toInt < (τ0 1 0).toInt) {K : TS → Prop}
    (hk : ∀ τ2, tS T τ0 lo xc fl fh A (B + 1) τ2 → (∀ j, T + 75 ≤ j → τ2 j = τ j) → (∀ k, k ≠ 5 → τ2 T k = τ T k) → K τ2) : wp_X6_send τ T x1 x2 x3 K := by
  unfold wp_X6_send
  have hls := h.1.2.2.1
  have lost : ∀ τ3 : TS, τ3 = tp_up τ T 5 (τ T 5 + 1) → K τ3 := fun τ3 e => by
    subst e
    exact hk _ (h.lost (fb_inc hls hB)) (fun j hj => if_neg (by omega)) (fun k hk5 => by rw [show tp_up τ T 5 (τ T 5 + 1) T = upd (τ T) 5 (τ T 5 + 1) from if_pos rfl]; exact if_neg hk5)
  have hL : (τ0 1 1).toInt ≤ 12 := hn.1.2.1.2
  have n1 := h.net hT (j := 1) (by decide)
  have n2 := h.net hT (j := 2) (by decide)
  have n3 := h.net hT (j := 3) (by decide)
  have n4 := h.net hT (j := 4) (by decide)
  have n5 := h.net hT (j := 5) (by decide)
  have n6 := h.net hT (j := 6) (by decide)
  have hrows : qRows τ (nE (τ0 2) (τ0 3) (τ0 4) (τ0 6) (τ0 1 1).toInt) (τ0 1 0).toInt := fun g hg => by
    have := hn.2.1 g hg
    rw [h.net hT (j := 8 + g) (by have := hn.1.1.2; omega)]
    exact this
  refine s_X3_linkTowards n1 n2 n3 n4 n6 hn.1 hrows (v := x2.toInt.toNat) (g := x3.toInt.toNat) (by omega) (by omega) (by omega) (by omega) (fun _ => ⟨fun _ => lost, fun c => absurd rfl c⟩) (fun x hx0 hx1 hgo => ⟨fun c => absurd c (fun e => by rw [e] at hx0; exact absurd hx0 (by decide)), fun _ => ?_⟩)
  obtain ⟨n, e1, hnn, -⟩ := id hp
  subst e1
  refine s_X4_hopsOf (by omega) ⟨fun c => ?_, fun _ => lost⟩
  have h16 : n / 262144 < 16 := by
    have hlt : n / 262144 < 2 ^ 31 := by omega
    rw [fa_lt, nI_toInt hlt] at c
    simp only [Int32.reduceToInt] at c
    omega
  have hp16 := pk_low hp (by omega) h16
  have hxl : vp_in x 12 := q_in hx0 (by omega)
  have hc : ∀ (w : Nat) (y : Int32), w < 2 → y.toInt = 2 * x.toInt + w → vp_in y 24 ∧ T + 1 + 2 + 3 * Int32.toNatClampNeg y = T + 3 + 3 * (2 * x.toInt.toNat + w) := fun w y hw hy => by
    refine ⟨q_in (by omega) (by omega), ?_⟩
    rw [q_cl]
    omega
  have hy : ∀ (w : Int32), (w = 0 ∨ w = 1) → (2 * x + w).toInt = 2 * x.toInt + w.toInt := fun w hw => by
    have h9 : (2 * x).toInt = 2 * x.toInt := by
      rw [q_mulc _ _ (by simp only [Int32.reduceToInt]; omega) (by simp only [Int32.reduceToInt]; omega)]
      simp only [Int32.reduceToInt]
    rcases hw with rfl | rfl <;> (rw [q_add, h9]; simp only [Int32.reduceToInt]; omega)
  refine ⟨hxl, fun _ => ?_, fun _ => ?_⟩
  · obtain ⟨v1, v2⟩ := hc 1 (2 * x + 1) (by decide) (by rw [hy 1 (Or.inr rfl)]; rfl)
    refine ⟨v1, hxl, ?_⟩
    rw [v2]
    exact s_join1 hT hn h hB (by omega) (by decide) hgo.1 hp16 hk
  · obtain ⟨v1, v2⟩ := hc 0 (2 * x + 0) (by decide) (by rw [hy 0 (Or.inl rfl)]; rfl)
    refine ⟨v1, hxl, ?_⟩
    rw [v2]
    exact s_join1 hT hn h hB (by omega) (by decide) hgo.1 hp16 hk
end SD
