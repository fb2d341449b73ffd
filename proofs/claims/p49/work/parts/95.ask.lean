/-! what is asked, as equations -/
theorem k_no {c p q : Prop} (h : ¬ c) (hq : q) : (c → p) ∧ (¬ c → q) := ⟨fun x => absurd x h, fun _ => hq⟩
theorem k_yes {c p q : Prop} (h : c) (hq : q) : (c → q) ∧ (¬ c → p) := ⟨fun _ => hq, fun x => absurd h x⟩
theorem k_ny {c p q : Prop} (h : c) (hq : q) : (¬ c → p) ∧ (c → q) := ⟨fun x => absurd h x, fun _ => hq⟩
theorem k_nn {c p q : Prop} (h : ¬ c) (hq : q) : (¬ c → q) ∧ (c → p) := ⟨fun _ => hq, fun x => absurd x h⟩
section GT
variable {τ : TS} {x y : Int32}
theorem e_conn (h6 : (τ 17 3).toInt ≤ 6) (h0 : 0 ≤ x.toInt) (h1 : x.toInt < (τ 17 3).toInt) (K : TS → Nat → Prop) : wp_X8_connectionOf τ 0 x K = K τ (92 + 5 * x.toInt.toNat) := by
  have a0 : ¬ x < 0 := by rw [fa_lt]; simp only [Int32.reduceToInt]; omega
  have a1 : x < τ 17 3 := by rw [fa_lt]; exact h1
  have a2 : vp_in x 6 := q_in h0 (by omega)
  have e : 17 + 2 + 73 + 5 * Int32.toNatClampNeg x = 92 + 5 * x.toInt.toNat := by rw [q_cl]
  unfold wp_X8_connectionOf
  rw [e]
  exact propext ⟨fun h => ((h.2 a0).1 a1).2, fun h => ⟨fun c => absurd c a0, fun _ => ⟨fun _ => ⟨a2, h⟩, fun c => absurd a1 c⟩⟩⟩
/-- how many pieces a connection's callee can read -/
def tUr (τ : TS) (c : Nat) : Int32 := (if τ (93 + 5 * c) 1 < τ (95 + 5 * c) 1 then τ (93 + 5 * c) 1 else τ (95 + 5 * c) 1) - τ (95 + 5 * c) 2
theorem e_stateOf (h6 : (τ 17 3).toInt ≤ 6) (h0 : 0 ≤ x.toInt) (h1 : x.toInt < (τ 17 3).toInt) (K : TS → Int32 → Prop) : wp_X8_stateOf τ 0 x K = K τ (τ (93 + 5 * x.toInt.toNat) 0) := by
  unfold wp_X8_stateOf wp_X8_callerOf
  rw [e_conn h6 h0 h1, show 92 + 5 * x.toInt.toNat + 1 = 93 + 5 * x.toInt.toNat by omega]
theorem e_given (h6 : (τ 17 3).toInt ≤ 6) (h0 : 0 ≤ x.toInt) (h1 : x.toInt < (τ 17 3).toInt) (K : TS → Int32 → Prop) : wp_X8_given τ 0 x K = K τ (τ (93 + 5 * x.toInt.toNat) 1) := by
  unfold wp_X8_given wp_X8_callerOf
  rw [e_conn h6 h0 h1, show 92 + 5 * x.toInt.toNat + 1 = 93 + 5 * x.toInt.toNat by omega]
theorem e_base (h6 : (τ 17 3).toInt ≤ 6) (h0 : 0 ≤ x.toInt) (h1 : x.toInt < (τ 17 3).toInt) (K : TS → Int32 → Prop) : wp_X8_base τ 0 x K = K τ (τ (93 + 5 * x.toInt.toNat) 3) := by
  unfold wp_X8_base wp_X8_callerOf
  rw [e_conn h6 h0 h1, show 92 + 5 * x.toInt.toNat + 1 = 93 + 5 * x.toInt.toNat by omega]
theorem e_next (h6 : (τ 17 3).toInt ≤ 6) (h0 : 0 ≤ x.toInt) (h1 : x.toInt < (τ 17 3).toInt) (K : TS → Int32 → Prop) : wp_X8_next τ 0 x K = K τ (τ (93 + 5 * x.toInt.toNat) 4) := by
  unfold wp_X8_next wp_X8_callerOf
  rw [e_conn h6 h0 h1, show 92 + 5 * x.toInt.toNat + 1 = 93 + 5 * x.toInt.toNat by omega]
theorem e_window (h6 : (τ 17 3).toInt ≤ 6) (h0 : 0 ≤ x.toInt) (h1 : x.toInt < (τ 17 3).toInt) (K : TS → Int32 → Prop) : wp_X8_window τ 0 x K = K τ (τ (93 + 5 * x.toInt.toNat) 5) := by
  unfold wp_X8_window wp_X8_callerOf
  rw [e_conn h6 h0 h1, show 92 + 5 * x.toInt.toNat + 1 = 93 + 5 * x.toInt.toNat by omega]
theorem e_recover (h6 : (τ 17 3).toInt ≤ 6) (h0 : 0 ≤ x.toInt) (h1 : x.toInt < (τ 17 3).toInt) (K : TS → Int32 → Prop) : wp_X8_recover τ 0 x K = K τ (τ (93 + 5 * x.toInt.toNat) 9) := by
  unfold wp_X8_recover wp_X8_callerOf
  rw [e_conn h6 h0 h1, show 92 + 5 * x.toInt.toNat + 1 = 93 + 5 * x.toInt.toNat by omega]
theorem e_timer (h6 : (τ 17 3).toInt ≤ 6) (h0 : 0 ≤ x.toInt) (h1 : x.toInt < (τ 17 3).toInt) (K : TS → Int32 → Prop) : wp_X8_timer τ 0 x K = K τ (τ (93 + 5 * x.toInt.toNat) 10) := by
  unfold wp_X8_timer wp_X8_callerOf
  rw [e_conn h6 h0 h1, show 92 + 5 * x.toInt.toNat + 1 = 93 + 5 * x.toInt.toNat by omega]
theorem e_tries (h6 : (τ 17 3).toInt ≤ 6) (h0 : 0 ≤ x.toInt) (h1 : x.toInt < (τ 17 3).toInt) (K : TS → Int32 → Prop) : wp_X8_tries τ 0 x K = K τ (τ (93 + 5 * x.toInt.toNat) 11) := by
  unfold wp_X8_tries wp_X8_callerOf
  rw [e_conn h6 h0 h1, show 92 + 5 * x.toInt.toNat + 1 = 93 + 5 * x.toInt.toNat by omega]
theorem e_timeout (h6 : (τ 17 3).toInt ≤ 6) (h0 : 0 ≤ x.toInt) (h1 : x.toInt < (τ 17 3).toInt) (K : TS → Int32 → Prop) : wp_X8_timeout τ 0 x K = K τ (τ (94 + 5 * x.toInt.toNat) 2) := by
  unfold wp_X8_timeout wp_X8_callerOf
  rw [e_conn h6 h0 h1]
  show K τ (τ (92 + 5 * x.toInt.toNat + 1 + 1) _) = _
  rw [show 92 + 5 * x.toInt.toNat + 1 + 1 = 94 + 5 * x.toInt.toNat by omega]
theorem e_measured (h6 : (τ 17 3).toInt ≤ 6) (h0 : 0 ≤ x.toInt) (h1 : x.toInt < (τ 17 3).toInt) (K : TS → Int32 → Prop) : wp_X8_measured τ 0 x K = K τ (τ (94 + 5 * x.toInt.toNat) 3) := by
  unfold wp_X8_measured wp_X8_callerOf
  rw [e_conn h6 h0 h1]
  show K τ (τ (92 + 5 * x.toInt.toNat + 1 + 1) _) = _
  rw [show 92 + 5 * x.toInt.toNat + 1 + 1 = 94 + 5 * x.toInt.toNat by omega]
theorem e_wanted (h6 : (τ 17 3).toInt ≤ 6) (h0 : 0 ≤ x.toInt) (h1 : x.toInt < (τ 17 3).toInt) (K : TS → Int32 → Prop) : wp_X8_wanted τ 0 x K = K τ (τ (95 + 5 * x.toInt.toNat) 1) := by
  unfold wp_X8_wanted
  rw [e_conn h6 h0 h1, show 92 + 5 * x.toInt.toNat + 3 = 95 + 5 * x.toInt.toNat by omega]
theorem e_hasRead (h6 : (τ 17 3).toInt ≤ 6) (h0 : 0 ≤ x.toInt) (h1 : x.toInt < (τ 17 3).toInt) (K : TS → Int32 → Prop) : wp_X8_hasRead τ 0 x K = K τ (τ (95 + 5 * x.toInt.toNat) 2) := by
  unfold wp_X8_hasRead
  rw [e_conn h6 h0 h1, show 92 + 5 * x.toInt.toNat + 3 = 95 + 5 * x.toInt.toNat by omega]
theorem e_unread (c : Nat) (K : TS → Int32 → Prop) : wp_X2_unread τ (92 + 5 * c) K = K τ (tUr τ c) := by
  unfold wp_X2_unread tUr
  rw [show 92 + 5 * c + 1 = 93 + 5 * c by omega, show 92 + 5 * c + 3 = 95 + 5 * c by omega]
  exact propext ⟨fun h => h _ rfl, fun h y e => by subst e; exact h⟩
theorem e_readable (h6 : (τ 17 3).toInt ≤ 6) (h0 : 0 ≤ x.toInt) (h1 : x.toInt < (τ 17 3).toInt) (K : TS → Int32 → Prop) : wp_X8_readable τ 0 x K = K τ (tUr τ x.toInt.toNat) := by
  unfold wp_X8_readable
  rw [e_conn h6 h0 h1]
  exact e_unread _ _
theorem e_holds0 (h6 : (τ 17 3).toInt ≤ 6) (h0 : 0 ≤ x.toInt) (h1 : x.toInt < (τ 17 3).toInt) {K : TS → Int32 → Prop} (hy : 0 ≤ y.toInt) (hq : y.toInt < 201 → τ (96 + 5 * x.toInt.toNat) y.toInt.toNat = 0) (hk : K τ 0) : wp_X8_holds τ 0 x y K := by
  unfold wp_X8_holds
  rw [e_conn h6 h0 h1]
  refine ⟨fun _ => hk, fun _ => ⟨fun _ => hk, fun c => ?_⟩⟩
  have hl : y.toInt < 201 := by
    simp only [fa_lt, fa_le, fa_eq, q_add, q_sub, q_ite, Int32.reduceToInt] at c
    omega
  refine ⟨q_in hy hl, ?_⟩
  rw [show 92 + 5 * x.toInt.toNat + 3 + 1 = 96 + 5 * x.toInt.toNat by omega, q_cl, hq hl]
  exact k_yes rfl hk
theorem e_link (h0 : 0 ≤ x.toInt) (h1 : x.toInt < (τ 1 1).toInt) (K : TS → Prop) : wp_X8_checkLink τ 0 x K = K τ := by
  have a0 : ¬ x < 0 := by rw [fa_lt]; simp only [Int32.reduceToInt]; omega
  have a1 : x < τ 1 1 := by rw [fa_lt]; exact h1
  unfold wp_X8_checkLink
  exact propext ⟨fun h => ((h.2 a0).1 a1), fun h => ⟨fun c => absurd c a0, fun _ => ⟨fun _ => h, fun c => absurd a1 c⟩⟩⟩
theorem e_node (h0 : 0 ≤ x.toInt) (h1 : x.toInt < (τ 1 0).toInt) (K : TS → Prop) : wp_X8_checkNode τ 0 x K = K τ := by
  have a0 : ¬ x < 0 := by rw [fa_lt]; simp only [Int32.reduceToInt]; omega
  have a1 : x < τ 1 0 := by rw [fa_lt]; exact h1
  unfold wp_X8_checkNode
  exact propext ⟨fun h => ((h.2 a0).1 a1), fun h => ⟨fun c => absurd c a0, fun _ => ⟨fun _ => h, fun c => absurd a1 c⟩⟩⟩
theorem q_2x {x : Int32} (h0 : 0 ≤ x.toInt) (h1 : x.toInt < 1000) : (2 * x).toInt = 2 * x.toInt := by
  rw [q_mulc _ _ (by simp only [Int32.reduceToInt]; omega) (by simp only [Int32.reduceToInt]; omega)]
  simp only [Int32.reduceToInt]
theorem q_2xy {x y : Int32} (h0 : 0 ≤ x.toInt) (h1 : x.toInt < 1000) (h2 : 0 ≤ y.toInt) (h3 : y.toInt ≤ 1) : (2 * x + y).toInt = 2 * x.toInt + y.toInt := by
  rw [q_add, q_2x h0 h1]
  omega
theorem e_way (hL : (τ 1 1).toInt ≤ 12) (h0 : 0 ≤ x.toInt) (h1 : x.toInt < (τ 1 1).toInt) (h2 : 0 ≤ y.toInt) (h3 : y.toInt ≤ 1) (K : TS → Nat → Prop) : wp_X8_wayOf τ 0 x y K = K τ (20 + 3 * (2 * x.toInt.toNat + y.toInt.toNat)) := by
  have a0 : ¬ y < 0 := by rw [fa_lt]; simp only [Int32.reduceToInt]; omega
  have a1 : y ≤ 1 := by rw [fa_le]; simp only [Int32.reduceToInt]; omega
  have ex := q_2xy (x := x) h0 (by omega) h2 h3
  have a2 : vp_in (2 * x + y) 24 := q_in (by omega) (by omega)
  have e : 17 + 1 + 2 + 3 * Int32.toNatClampNeg (2 * x + y) = 20 + 3 * (2 * x.toInt.toNat + y.toInt.toNat) := by
    rw [q_cl, ex]
    omega
  unfold wp_X8_wayOf
  rw [e_link h0 h1, e]
  exact propext ⟨fun h => ((h.2 a0).1 a1).2, fun h => ⟨fun c => absurd c a0, fun _ => ⟨fun _ => ⟨a2, h⟩, fun c => absurd a1 c⟩⟩⟩
theorem e_queued (hL : (τ 1 1).toInt ≤ 12) (h0 : 0 ≤ x.toInt) (h1 : x.toInt < (τ 1 1).toInt) (h2 : 0 ≤ y.toInt) (h3 : y.toInt ≤ 1) (K : TS → Int32 → Prop) : wp_X8_queued τ 0 x y K = K τ (τ (20 + 3 * (2 * x.toInt.toNat + y.toInt.toNat)) 2) := by
  unfold wp_X8_queued
  rw [e_way hL h0 h1 h2 h3]
theorem e_flying (hL : (τ 1 1).toInt ≤ 12) (h0 : 0 ≤ x.toInt) (h1 : x.toInt < (τ 1 1).toInt) (h2 : 0 ≤ y.toInt) (h3 : y.toInt ≤ 1) (K : TS → Int32 → Prop) : wp_X8_flying τ 0 x y K = K τ (τ (20 + 3 * (2 * x.toInt.toNat + y.toInt.toNat)) 4) := by
  unfold wp_X8_flying
  rw [e_way hL h0 h1 h2 h3]
theorem e_isUp (hL : (τ 1 1).toInt ≤ 12) (h0 : 0 ≤ x.toInt) (h1 : x.toInt < (τ 1 1).toInt) (hz : ∀ l, l < 12 → τ 6 l = 0 ∨ τ 6 l = 1) (K : TS → Int32 → Prop) : wp_X8_isUp τ 0 x K = K τ (τ 6 x.toInt.toNat) := by
  unfold wp_X8_isUp
  rw [e_link h0 h1, q_cl]
  exact propext ⟨fun h => h.2.2, fun h => ⟨q_in h0 (by omega), q_z (hz _ (by omega)), h⟩⟩
theorem e_distance (hN : (τ 1 0).toInt ≤ 8) (h0 : 0 ≤ x.toInt) (h1 : x.toInt < (τ 1 0).toInt) (h2 : 0 ≤ y.toInt) (h3 : y.toInt < (τ 1 0).toInt) (K : TS → Int32 → Prop) : wp_X8_distance τ 0 x y K = K τ (τ (8 + y.toInt.toNat) x.toInt.toNat) := by
  unfold wp_X8_distance
  rw [e_node h0 h1, e_node h2 h3, q_cl, q_cl]
  exact propext ⟨fun h => h.2.2, fun h => ⟨q_in h2 (by omega), q_in h0 (by omega), h⟩⟩
end GT
/-- what is under way on the first k ways -/
def uS (τ : TS) : Nat → Int
  | 0 => 0
  | k + 1 => uS τ k + ((τ (20 + 3 * k) 2).toInt + (τ (20 + 3 * k) 4).toInt)
theorem uS_s (τ : TS) (k : Nat) : uS τ (k + 1) = uS τ k + ((τ (20 + 3 * k) 2).toInt + (τ (20 + 3 * k) 4).toInt) := rfl
theorem uS_b {τ : TS} (h : ∀ k, k < 24 → (0 ≤ (τ (20 + 3 * k) 2).toInt ∧ (τ (20 + 3 * k) 2).toInt ≤ 20) ∧ 0 ≤ (τ (20 + 3 * k) 4).toInt ∧ (τ (20 + 3 * k) 4).toInt ≤ 10) : ∀ k, k ≤ 24 → 0 ≤ uS τ k ∧ uS τ k ≤ 30 * k
  | 0, _ => ⟨Int.le_refl _, Int.le_refl _⟩
  | k + 1, hk => by
    have h1 := uS_b h k (by omega)
    have h2 := h k (by omega)
    rw [uS_s]
    omega
/-- the first traffic at rest, over its net -/
def gT (N : Int) (τ : TS) (B : Int) : Prop := qN τ ∧ tI 17 (τ 1 0).toInt (τ 1 1).toInt (τ 6) (fun _ => (τ 17 4).toInt + 1) (fun _ => 0) (fun _ => 1) (tDl τ) 0 B τ ∧ (τ 1 0).toInt = N ∧ 2 ≤ N ∧ N ≤ 6
section UW
variable {τ : TS} {B N : Int}
theorem gT.ways (h : gT N τ B) : ∀ k, k < 24 → (0 ≤ (τ (20 + 3 * k) 2).toInt ∧ (τ (20 + 3 * k) 2).toInt ≤ 20) ∧ 0 ≤ (τ (20 + 3 * k) 4).toInt ∧ (τ (20 + 3 * k) 4).toInt ≤ 10 := fun k hk => by
  obtain ⟨-, w2, -, -, w5⟩ := (h.2.1.2.2.2.2.1 k hk (Or.inr rfl)).1
  have := fb_ct_le (qIn (τ (17 + 5 + 3 * k))) 10
  rw [show 17 + 3 + 3 * k = 20 + 3 * k by omega] at w2 w5
  omega
theorem s_X8_underWay (h : gT N τ B) {K : TS → Int32 → Prop} (hk : ∀ v : Int32, v.toInt = uS τ (2 * (τ 1 1).toInt.toNat) → K τ v) : wp_X8_underWay τ 0 K := by
  have hL := h.1.1.2.1
  have hw := h.ways
  have hb := uS_b hw
  have e2 := q_2x (x := τ 1 1) (by omega) (by omega)
  unfold wp_X8_underWay
  refine ⟨fun τ2 v x => τ = τ2 ∧ 0 ≤ x.toInt ∧ x.toInt ≤ 2 * (τ 1 1).toInt ∧ v.toInt = uS τ x.toInt.toNat, fun _ _ x => 24 - x.toInt.toNat, ⟨rfl, by decide, by simp only [Int32.reduceToInt]; omega, rfl⟩, ?_⟩
  rintro τ2 v x ⟨rfl, x0, x1, hv⟩
  refine ⟨fun c => hk v ?_, fun c => ?_⟩
  · rw [fa_le, e2] at c
    rw [hv, show x.toInt.toNat = 2 * (τ 1 1).toInt.toNat by omega]
  · rw [fa_le, e2] at c
    have i := q_in (x := x) (n := 24) x0 (by omega)
    refine ⟨i, i, fun y ey z ez => ?_⟩
    rw [q_cl, show 17 + 1 + 2 + 3 * x.toInt.toNat = 20 + 3 * x.toInt.toNat by omega] at ey
    have hz : z.toInt = x.toInt + 1 := by
      subst ez
      simp only [fa_lt, fa_le, fa_eq, q_add, q_sub, q_ite, Int32.reduceToInt]
      omega
    have h1 := hw x.toInt.toNat (by omega)
    have h2 := hb x.toInt.toNat (by omega)
    refine ⟨⟨rfl, by omega, by omega, ?_⟩, by show 24 - z.toInt.toNat < 24 - x.toInt.toNat; omega⟩
    rw [hz, show (x.toInt + 1).toNat = x.toInt.toNat + 1 by omega, uS_s, ey]
    simp only [fa_lt, fa_le, fa_eq, q_add, q_sub, q_ite, Int32.reduceToInt]
    omega
end UW
