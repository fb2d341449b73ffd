/-! the class's ticks and copies with no link and no connection -/
theorem r_arrive {τ : TS} {i : Nat} (h1 : τ 1 1 = 0) {K : TS → Prop} (hK : K τ) : wp_X6_letArrive τ i K := by
  unfold wp_X6_letArrive
  refine ⟨fun τ2 x => τ2 = τ ∧ x = 0, fun _ _ => 0, ⟨rfl, rfl⟩, ?_⟩
  rintro τ2 x ⟨e1, e2⟩
  subst e1 e2
  rw [h1]
  exact ⟨fun _ => hK, fun c => absurd (by decide) c⟩
theorem r_timers {τ : TS} {i : Nat} (h3 : τ i 3 = 0) {K : TS → Prop} (hK : K τ) : wp_X6_letTimersRunOut τ i K := by
  unfold wp_X6_letTimersRunOut
  refine ⟨fun τ2 x => τ2 = τ ∧ x = 0, fun _ _ => 0, ⟨rfl, rfl⟩, ?_⟩
  rintro τ2 x ⟨e1, e2⟩
  subst e1 e2
  rw [h3]
  exact ⟨fun _ => hK, fun c => absurd (by decide) c⟩
theorem r_callers {τ : TS} {i : Nat} (h3 : τ i 3 = 0) {K : TS → Prop} (hK : K τ) : wp_X6_letCallersSend τ i K := by
  unfold wp_X6_letCallersSend
  refine ⟨fun τ2 x => τ2 = τ ∧ x = 0, fun _ _ => 0, ⟨rfl, rfl⟩, ?_⟩
  rintro τ2 x ⟨e1, e2⟩
  subst e1 e2
  rw [h3]
  exact ⟨fun _ => hK, fun c => absurd (by decide) c⟩
theorem r_takeOff {τ : TS} {i : Nat} (h1 : τ 1 1 = 0) {K : TS → Prop} (hK : K τ) : wp_X6_letTakeOff τ i K := by
  unfold wp_X6_letTakeOff
  refine ⟨fun τ2 x => τ2 = τ ∧ x = 0, fun _ _ => 0, ⟨rfl, rfl⟩, ?_⟩
  rintro τ2 x ⟨e1, e2⟩
  subst e1 e2
  rw [h1]
  exact ⟨fun _ => hK, fun c => absurd (by decide) c⟩
theorem r_upn (τ : TS) {i j : Nat} (k : Nat) (v : Int32) (h : j ≠ i) : tp_up τ i k v j = τ j := if_neg h
theorem r_ups (τ : TS) (i k : Nat) (v : Int32) : tp_up τ i k v i = upd (τ i) k v := if_pos rfl
theorem r_rwn (τ : TS) {i j : Nat} (f : Nat → Int32) (h : j ≠ i) : tp_rw τ i f j = τ j := if_neg h
theorem r_rws (τ : TS) (i : Nat) (f : Nat → Int32) : tp_rw τ i f i = f := if_pos rfl
theorem r_tick {τ : TS} {i : Nat} (hi : i ≠ 1) (h1 : τ 1 1 = 0) (h3 : τ i 3 = 0) {K : TS → Prop} (hK : K (tp_up τ i 4 (τ i 4 + 1))) : wp_X6_tick τ i K := by
  unfold wp_X6_tick
  intro τ2 e
  subst e
  have a1 : tp_up τ i 4 (τ i 4 + 1) 1 1 = 0 := by rw [r_upn τ 4 _ (Ne.symm hi)]; exact h1
  have a3 : tp_up τ i 4 (τ i 4 + 1) i 3 = 0 := by rw [r_ups]; exact h3
  exact r_arrive a1 (r_timers a3 (r_callers a3 (r_takeOff a1 hK)))
/-- n ticks: the clock alone moves -/
theorem r_copy {τ : TS} (h1 : τ 1 1 = 0) (h3 : τ 17 3 = 0) {K : TS → Prop} (hK : ∀ τ2 : TS, (∀ j, j ≠ 122 → τ2 j = τ j) → τ2 122 3 = 0 → τ2 122 5 = τ 17 5 → K τ2) : wp_X6_copyFrom τ 122 17 K := by
  unfold wp_X6_copyFrom
  refine ⟨fun τ2 x => τ2 = τ ∧ x = 0, fun _ _ => 0, ⟨rfl, rfl⟩, ?_⟩
  rintro τ2 x ⟨e1, e2⟩
  subst e1 e2
  rw [h1]
  refine ⟨fun _ => ?_, fun c => absurd (by decide) c⟩
  refine ⟨fun τ3 x => τ3 = τ2 ∧ x = 0, fun _ _ => 0, ⟨rfl, rfl⟩, ?_⟩
  rintro τ3 x ⟨e1, e2⟩
  subst e1 e2
  rw [h3]
  refine ⟨fun _ τ4 e4 τ5 e5 τ6 e6 => ?_, fun c => absurd (by decide) c⟩
  subst e4 e5 e6
  refine hK _ (fun j hj => ?_) rfl rfl
  rw [r_upn _ _ _ hj, r_upn _ _ _ hj, r_upn _ _ _ hj]
theorem lf_range {τ : TS} {x : Int32} {K : TS → Prop} {X : TS → Nat → Prop} (hX : (x < 1 ∨ 50 < x) → X τ 1) (hK : 1 ≤ x.toInt → x.toInt ≤ 50 → K τ) : wpx_X8_checkRange τ x 1 50 K X := by
  unfold wpx_X8_checkRange
  refine ⟨fun c => hX (Or.inl c), fun c => ⟨fun c2 => hK ?_ ?_, fun c2 => hX (Or.inr ?_)⟩⟩
  all_goals
    simp only [fa_lt, fa_le, fa_eq, Int32.reduceToInt] at *
    omega
theorem lf_pass {τ : TS} (h : pF τ) (h4 : τ 17 4 = 0) {x : Int32} {K : TS → Int32 → Prop} (hX : (x < 1 ∨ 50 < x) → K τ 1) (hK : ∀ τ2 : TS, 1 ≤ x.toInt → x.toInt ≤ 50 → (∀ j, j ≠ 17 → j ≠ 503 → τ2 j = τ j) → tp_jl (τ2 503 0) (τ2 503 1) = Int32.toInt64 x → K τ2 0) : wp_L_pass τ 0 x 503 K := by
  unfold wp_L_pass
  refine ⟨fun τ2 c => τ2 = τ ∧ c = 1 ∧ (x < 1 ∨ 50 < x), fun τ2 e => absurd e.2.1 (by decide), fun τ2 e => e.1 ▸ hX e.2.2, fun _ cd e => absurd e.2.1 (by omega), ?_⟩
  unfold wpx_X8_pass
  refine lf_range (fun c => ⟨rfl, rfl, c⟩) (fun c1 c2 => ?_)
  refine ⟨fun τ2 k => 0 ≤ k.toInt ∧ k.toInt ≤ x.toInt ∧ (∀ j, j ≠ 17 → τ2 j = τ j) ∧ τ2 17 4 = k ∧ τ2 17 3 = 0, fun _ k => 50 - k.toInt.toNat, ⟨by decide, by simp only [Int32.reduceToInt]; omega, fun _ _ => rfl, h4, h.2.2.1⟩, ?_⟩
  rintro τ2 k ⟨k0, k1, hfr, hck, hmd⟩
  refine ⟨fun c τ3 e3 => ?_, fun c => ?_⟩
  · subst e3
    have ek : k = x := by
      simp only [fa_lt, fa_le, fa_eq, Int32.reduceToInt] at *
      omega
    refine hK _ c1 c2 (fun j hj hj2 => ?_) ?_
    · rw [r_rwn _ _ hj2]; exact hfr j hj
    · rw [r_rws, hck, ek]
      show tp_jl (tp_hi _) (tp_lo _) = _
      exact tp_jl_hl _
  · refine r_tick (by decide) (by rw [hfr 1 (by decide)]; exact h.2.1) hmd (fun k2 e2 => ?_)
    have e3 : k2.toInt = k.toInt + 1 := by
      subst e2
      simp only [fa_lt, fa_le, fa_eq, q_add, Int32.reduceToInt] at *
      omega
    have hlt : k.toInt < x.toInt := by
      simp only [fa_lt, fa_le, fa_eq, Int32.reduceToInt] at c
      omega
    refine ⟨⟨by omega, by omega, fun j hj => ?_, ?_, ?_⟩, ?_⟩
    · rw [r_upn _ _ _ hj]; exact hfr j hj
    · rw [r_ups]
      show τ2 17 4 + 1 = k2
      rw [hck, e2]
    · rw [r_ups]; exact hmd
    · show 50 - k2.toInt.toNat < 50 - k.toInt.toNat
      omega
theorem lf_lostIn {τ : TS} (h : pF τ) {x : Int32} {K : TS → Int32 → Prop} (hX : (x < 1 ∨ 50 < x) → K τ 1) (hK : ∀ τ2 : TS, 1 ≤ x.toInt → x.toInt ≤ 50 → (∀ j, j ≠ 122 → j ≠ 503 → τ2 j = τ j) → tp_jl (τ2 503 0) (τ2 503 1) = Int32.toInt64 0 → K τ2 0) : wp_L_lostIn τ 0 x 503 K := by
  unfold wp_L_lostIn
  refine ⟨fun τ2 c => τ2 = τ ∧ c = 1 ∧ (x < 1 ∨ 50 < x), fun τ2 e => absurd e.2.1 (by decide), fun τ2 e => e.1 ▸ hX e.2.2, fun _ cd e => absurd e.2.1 (by omega), ?_⟩
  unfold wpx_X8_lostIn
  refine lf_range (fun c => ⟨rfl, rfl, c⟩) (fun c1 c2 => ?_)
  refine r_copy h.2.1 h.2.2.1 (fun τ1 hfr1 hm1 hl1 => ?_)
  refine ⟨fun τ2 k => 0 ≤ k.toInt ∧ k.toInt ≤ x.toInt ∧ (∀ j, j ≠ 122 → τ2 j = τ j) ∧ τ2 122 5 = τ 17 5 ∧ τ2 122 3 = 0, fun _ k => 50 - k.toInt.toNat, ⟨by decide, by simp only [Int32.reduceToInt]; omega, hfr1, hl1, hm1⟩, ?_⟩
  rintro τ2 k ⟨k0, k1, hfr, hls, hmd⟩
  refine ⟨fun c τ3 e3 => ?_, fun c => ?_⟩
  · subst e3
    refine hK _ c1 c2 (fun j hj hj2 => ?_) ?_
    · rw [r_rwn _ _ hj2]; exact hfr j hj
    · rw [r_rws, hls, hfr 17 (by decide), show τ 17 5 - τ 17 5 = 0 by rw [fa_eq]; simp only [q_sub, Int32.reduceToInt]; omega]
      show tp_jl (tp_hi _) (tp_lo _) = _
      exact tp_jl_hl _
  · refine r_tick (by decide) (by rw [hfr 1 (by decide)]; exact h.2.1) hmd (fun k2 e2 => ?_)
    have e3 : k2.toInt = k.toInt + 1 := by
      subst e2
      simp only [fa_lt, fa_le, fa_eq, q_add, Int32.reduceToInt] at *
      omega
    have hlt : k.toInt < x.toInt := by
      simp only [fa_lt, fa_le, fa_eq, Int32.reduceToInt] at c
      omega
    refine ⟨⟨by omega, by omega, fun j hj => ?_, ?_, ?_⟩, ?_⟩
    · rw [r_upn _ _ _ hj]; exact hfr j hj
    · rw [r_ups]; exact hls
    · rw [r_ups]; exact hmd
    · show 50 - k2.toInt.toNat < 50 - k.toInt.toNat
      omega
/-! a node is laid -/
theorem r_spread {τ : TS} (h0 : τ 1 0 = 1) (h1 : τ 1 1 = 0) {x1 x2 : Int32} {K : TS → Prop} (hK : ∀ τ2 : TS, (∀ j, j ≠ 8 → τ2 j = τ j) → K τ2) : wp_X3_spread τ 1 x1 x2 8 K := by
  unfold wp_X3_spread
  refine ⟨fun τ2 k => 0 ≤ k.toInt ∧ k.toInt ≤ 8 ∧ ∀ j, j ≠ 8 → τ2 j = τ j, fun _ k => 8 - k.toInt.toNat, ⟨by decide, by decide, fun _ _ => rfl⟩, ?_⟩
  rintro τ2 k ⟨k0, k1, hfr⟩
  have nx : ∀ k2 : Int32, ¬ 8 ≤ k → k2 = k + 1 → k2.toInt = k.toInt + 1 ∧ k.toInt < 8 := by
    intro k2 c e
    subst e
    simp only [fa_lt, fa_le, fa_eq, q_add, Int32.reduceToInt] at *
    omega
  have hin : ¬ 8 ≤ k → vp_in k 8 := by
    intro c
    unfold vp_in
    rw [fb_cl k0]
    simp only [fa_lt, fa_le, fa_eq, Int32.reduceToInt] at *
    omega
  refine ⟨fun c => ?_, fun c => ⟨fun _ => ⟨hin c, fun τ3 e3 k2 e2 => ?_⟩, fun _ => ⟨hin c, fun τ3 e3 k2 e2 => ?_⟩⟩⟩
  · refine ⟨fun τ3 y n => τ3 = τ2 ∧ ((y = 1 ∧ n = 0) ∨ (y = 0 ∧ n = 1)), fun _ y _ => y.toInt.toNat, ⟨rfl, Or.inl ⟨rfl, rfl⟩⟩, ?_⟩
    rintro τ3 y n ⟨e, hyn⟩
    subst e
    have hh0 : τ3 1 0 = 1 := by rw [hfr 1 (by decide)]; exact h0
    have hh1 : τ3 1 1 = 0 := by rw [hfr 1 (by decide)]; exact h1
    rw [hh0]
    refine ⟨fun _ => hK _ hfr, fun c2 => ⟨fun _ => hK _ hfr, fun c3 => ?_⟩⟩
    rcases hyn with ⟨e1, e2⟩ | ⟨e1, e2⟩
    · subst e1 e2
      refine ⟨fun τ4 y2 n2 => τ4 = τ3 ∧ y2 = 0 ∧ n2 = 0, fun _ _ _ => 0, ⟨rfl, rfl, rfl⟩, ?_⟩
      rintro τ4 y2 n2 ⟨e1, e2, e3⟩
      subst e1 e2 e3
      rw [hh1]
      refine ⟨fun _ x e => ⟨⟨rfl, Or.inr ⟨rfl, by rw [e]; decide⟩⟩, (show (0 : Int32).toInt.toNat < (1 : Int32).toInt.toNat by decide)⟩, fun c4 => absurd (by decide) c4⟩
    · subst e2
      exact absurd (by decide) c2
  all_goals
    obtain ⟨a1, a2⟩ := nx k2 c e2
    subst e3
    refine ⟨⟨by omega, by omega, fun j hj => ?_⟩, ?_⟩
    · rw [r_upn _ _ _ hj]; exact hfr j hj
    · show 8 - k2.toInt.toNat < 8 - k.toInt.toNat
      omega
theorem r_measure {τ : TS} (h0 : τ 1 0 = 1) (h1 : τ 1 1 = 0) {K : TS → Prop} (hK : ∀ τ2 : TS, (∀ j, j ≠ 8 → τ2 j = τ j) → K τ2) : wp_X3_measureRoutes τ 1 K := by
  unfold wp_X3_measureRoutes
  refine ⟨fun τ2 k => (∀ j, j ≠ 8 → τ2 j = τ j) ∧ (k = 0 ∨ k = 1), fun _ k => 1 - k.toInt.toNat, ⟨fun _ _ => rfl, Or.inl rfl⟩, ?_⟩
  rintro τ2 k ⟨hfr, hk⟩
  have hh0 : τ2 1 0 = 1 := by rw [hfr 1 (by decide)]; exact h0
  have hh1 : τ2 1 1 = 0 := by rw [hfr 1 (by decide)]; exact h1
  rw [hh0]
  refine ⟨fun _ => hK _ hfr, fun c => ?_⟩
  rcases hk with e | e
  · subst e
    refine ⟨by unfold vp_in; decide, r_spread hh0 hh1 (fun τ3 hfr3 k2 e2 => ⟨⟨fun j hj => (hfr3 j hj).trans (hfr j hj), Or.inr (by rw [e2]; decide)⟩, by rw [e2]; exact (show 1 - (0 + 1 : Int32).toInt.toNat < 1 - (0 : Int32).toInt.toNat by decide)⟩)⟩
  · subst e
    exact absurd (by decide) c
theorem lf_addNode {τ : TS} (h : pF τ) {K : TS → Int32 → Prop} (hK : ∀ τ2 : TS, (∀ j, j ≠ 1 → j ≠ 8 → j ≠ 503 → τ2 j = τ j) → tp_jl (τ2 503 0) (τ2 503 1) = Int32.toInt64 0 → K τ2 0) : wp_L_addNode τ 0 503 K := by
  unfold wp_L_addNode
  refine ⟨fun _ _ => False, fun _ e => e, fun _ e => e, fun _ _ e => e.elim, ?_⟩
  unfold wp_X8_addNode
  rw [h.1]
  refine ⟨fun _ => ?_, fun c => absurd (by decide) c⟩
  unfold wp_X3_layNode
  intro τ2 e
  subst e
  rw [h.1]
  refine r_measure ?_ ?_ (fun τ3 hfr => ?_)
  · rw [r_ups]; rfl
  · rw [r_ups]; exact h.2.1
  intro τ4 e4
  subst e4
  refine hK _ (fun j h1 h2 h3 => ?_) ?_
  · rw [r_rwn _ _ h3, hfr j h2, r_upn _ _ _ h1]
  · rw [r_rws, hfr 1 (by decide)]
    show tp_jl (tp_hi _) (tp_lo _) = _
    rw [tp_jl_hl]
    rw [show tp_up τ 1 0 (0 + 1) 1 0 - 1 = (0 : Int32) from (show ((0 : Int32) + 1) - 1 = 0 by decide)]
