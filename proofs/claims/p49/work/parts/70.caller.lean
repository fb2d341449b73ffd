/-! numbers -/
theorem fb_rng (x : Int32) : -2147483648 ≤ x.toInt ∧ x.toInt < 2147483648 := by
  have h1 := Int32.le_toInt x
  have h2 := Int32.toInt_lt x
  omega
theorem fa_lt (a b : Int32) : a < b ↔ a.toInt < b.toInt := Int32.lt_iff_toInt_lt
theorem fa_le (a b : Int32) : a ≤ b ↔ a.toInt ≤ b.toInt := Int32.le_iff_toInt_le
theorem fa_eq (a b : Int32) : a = b ↔ a.toInt = b.toInt := Int32.toInt_inj.symm
theorem q_add (x y : Int32) : (x + y).toInt = if x.toInt + y.toInt < -2147483648 then x.toInt + y.toInt + 4294967296 else if 2147483648 ≤ x.toInt + y.toInt then x.toInt + y.toInt - 4294967296 else x.toInt + y.toInt := by
  have h1 := fb_rng x
  have h2 := fb_rng y
  rw [Int32.toInt_add, Int.bmod_def]
  omega
theorem q_sub (x y : Int32) : (x - y).toInt = if x.toInt - y.toInt < -2147483648 then x.toInt - y.toInt + 4294967296 else if 2147483648 ≤ x.toInt - y.toInt then x.toInt - y.toInt - 4294967296 else x.toInt - y.toInt := by
  have h1 := fb_rng x
  have h2 := fb_rng y
  rw [Int32.toInt_sub, Int.bmod_def]
  omega
theorem fb_bmod {z : Int} (h1 : -2147483648 ≤ z) (h2 : z < 2147483648) : z.bmod (2 ^ 32) = z := by
  rw [Int.bmod_eq_of_le (by omega) (by omega)]
theorem q_mulc (x y : Int32) (h1 : -2147483648 ≤ x.toInt * y.toInt) (h2 : x.toInt * y.toInt < 2147483648) : (x * y).toInt = x.toInt * y.toInt := by
  rw [Int32.toInt_mul, fb_bmod h1 h2]
theorem q_ite (c : Prop) [Decidable c] (x y : Int32) : (if c then x else y).toInt = if c then x.toInt else y.toInt := by split <;> rfl
/-! rows -/
theorem q_rws (τ : TS) (i : Nat) (r : Nat → Int32) : tp_rw τ i r i = r := if_pos rfl
theorem q_rwn (τ : TS) (i : Nat) (r : Nat → Int32) {j : Nat} (h : j ≠ i) : tp_rw τ i r j = τ j := if_neg h
theorem q_rwi (τ : TS) (i : Nat) : tp_rw τ i (τ i) = τ := by
  funext j
  by_cases h : j = i
  · subst h; rw [q_rws]
  · rw [q_rwn _ _ _ h]
theorem q_rwrw (τ : TS) (i : Nat) (r r2 : Nat → Int32) : tp_rw (tp_rw τ i r) i r2 = tp_rw τ i r2 := by
  funext j
  by_cases h : j = i
  · subst h; rw [q_rws, q_rws]
  · rw [q_rwn _ _ _ h, q_rwn _ _ _ h, q_rwn _ _ _ h]
theorem q_uprw (τ : TS) (i k : Nat) (r : Nat → Int32) (v : Int32) : tp_up (tp_rw τ i r) i k v = tp_rw τ i (upd r k v) := by
  rw [tp_up, q_rws, q_rwrw]
theorem q_up (τ : TS) (i k : Nat) (v : Int32) : tp_up τ i k v = tp_rw τ i (upd (τ i) k v) := rfl
theorem q_updA (f : Nat → Int32) (k : Nat) (v : Int32) (j : Nat) : upd f k v j = if j = k then v else f j := rfl
/-! Timing -/
theorem s_X5_begin {τ : TS} {i : Nat} {K : TS → Prop} (h : ∀ r : Nat → Int32, r 2 = 12 → r 3 = -1 → K (tp_rw τ i r)) : wp_X5_begin τ i K := by
  unfold wp_X5_begin
  intros
  subst_vars
  simp only [q_up, q_rws, q_rwrw]
  exact h _ rfl rfl
theorem s_X5_sent {τ : TS} {i : Nat} {x1 x2 : Int32} {K : TS → Prop} (h : ∀ r : Nat → Int32, r 2 = τ i 2 → (τ i 3 = -1 → r 3 = x1) → (τ i 3 ≠ -1 → r 3 = τ i 3) → K (tp_rw τ i r)) : wp_X5_sent τ i x1 x2 K := by
  unfold wp_X5_sent
  refine ⟨fun c => ?_, fun c => ?_⟩
  · rw [← q_rwi τ i]; exact h _ rfl (fun e => absurd e c) (fun _ => rfl)
  · intros
    subst_vars
    simp only [q_up, q_rws, q_rwrw]
    exact h _ rfl (fun _ => rfl) (fun e => absurd c e)
theorem s_X5_sentTwice {τ : TS} {i : Nat} {x1 : Int32} {K : TS → Prop} (h : ∀ r : Nat → Int32, r 2 = τ i 2 → (r 3 = -1 ∨ r 3 = τ i 3) → K (tp_rw τ i r)) : wp_X5_sentTwice τ i x1 K := by
  unfold wp_X5_sentTwice
  refine ⟨fun c => ?_, fun c => ?_⟩
  · rw [← q_rwi τ i]; exact h _ rfl (Or.inr rfl)
  · intros
    subst_vars
    simp only [q_up, q_rws, q_rwrw]
    exact h _ rfl (Or.inl rfl)
theorem q_mid (x : Int32) : 3 ≤ (if (if 3 < x then x else 3) < 60 then (if 3 < x then x else 3) else (60 : Int32)) ∧ (if (if 3 < x then x else 3) < 60 then (if 3 < x then x else 3) else (60 : Int32)) ≤ 60 := by
  simp only [fa_lt, fa_le, q_ite, Int32.reduceToInt]
  omega
theorem s_X5_answered {τ : TS} {i : Nat} {x1 x2 : Int32} {K : TS → Prop} (h0 : 3 ≤ τ i 2 ∧ τ i 2 ≤ 60) (h : ∀ r : Nat → Int32, (3 ≤ r 2 ∧ r 2 ≤ 60) → (r 3 = -1 ∨ r 3 = τ i 3 ∧ x1 ≤ τ i 3) → K (tp_rw τ i r)) : wp_X5_answered τ i x1 x2 K := by
  unfold wp_X5_answered
  refine ⟨fun c => ?_, fun c => ⟨fun c2 => ?_, fun c2 => ?_⟩⟩
  · rw [← q_rwi τ i]; exact h _ h0 (Or.inl c)
  · intro x23 e23
    refine ⟨fun c3 => ?_, fun c3 => ?_⟩ <;> intros <;> subst_vars <;> simp only [q_up, q_rws, q_rwrw] <;> refine h _ ?_ (Or.inl rfl) <;> rw [q_updA, if_neg (by decide), q_updA, if_pos rfl] <;> exact q_mid _
  · rw [← q_rwi τ i]; exact h _ h0 (Or.inr ⟨rfl, by simp only [fa_lt, fa_le] at *; omega⟩)
theorem s_X5_backOff {τ : TS} {i : Nat} {K : TS → Prop} (h0 : 3 ≤ τ i 2 ∧ τ i 2 ≤ 60) (h : ∀ r : Nat → Int32, (3 ≤ r 2 ∧ r 2 ≤ 60) → r 3 = -1 → K (tp_rw τ i r)) : wp_X5_backOff τ i K := by
  unfold wp_X5_backOff
  intros
  subst_vars
  simp only [q_up, q_rws, q_rwrw]
  refine h _ ?_ rfl
  have e : (2 * τ i 2 : Int32) = τ i 2 + τ i 2 := by rw [Int32.two_mul]
  show 3 ≤ (if 2 * τ i 2 < 60 then 2 * τ i 2 else (60 : Int32)) ∧ (if 2 * τ i 2 < 60 then 2 * τ i 2 else (60 : Int32)) ≤ 60
  rw [e]
  simp only [fa_lt, fa_le, q_ite, q_add, Int32.reduceToInt] at *
  omega
/-! Caller: its row and its timing's row -/
def q2 (τ : TS) (i : Nat) (r t : Nat → Int32) : TS := tp_rw (tp_rw τ i r) (i + 1) t
theorem q2_a (τ : TS) (i : Nat) (r t : Nat → Int32) : q2 τ i r t i = r := by
  rw [q2, q_rwn _ _ _ (by omega), q_rws]
theorem q2_b (τ : TS) (i : Nat) (r t : Nat → Int32) : q2 τ i r t (i + 1) = t := by
  rw [q2, q_rws]
theorem q2_n (τ : TS) (i : Nat) (r t : Nat → Int32) {j : Nat} (h : j ≠ i) (h2 : j ≠ i + 1) : q2 τ i r t j = τ j := by
  rw [q2, q_rwn _ _ _ h2, q_rwn _ _ _ h]
theorem q2_rwa (τ : TS) (i : Nat) (r t r2 : Nat → Int32) : tp_rw (q2 τ i r t) i r2 = q2 τ i r2 t := by
  funext j
  by_cases h : j = i
  · subst h; rw [q_rws, q2_a]
  · by_cases h2 : j = i + 1
    · subst h2; rw [q_rwn _ _ _ h, q2_b, q2_b]
    · rw [q_rwn _ _ _ h, q2_n _ _ _ _ h h2, q2_n _ _ _ _ h h2]
theorem q2_rwb (τ : TS) (i : Nat) (r t t2 : Nat → Int32) : tp_rw (q2 τ i r t) (i + 1) t2 = q2 τ i r t2 := by
  rw [q2, q_rwrw, ← q2]
theorem q2_up (τ : TS) (i k : Nat) (r t : Nat → Int32) (v : Int32) : tp_up (q2 τ i r t) i k v = q2 τ i (upd r k v) t := by
  rw [tp_up, q2_a, q2_rwa]
theorem q2_self (τ : TS) (i : Nat) : q2 τ i (τ i) (τ (i + 1)) = τ := by
  funext j
  by_cases h : j = i
  · subst h; rw [q2_a]
  · by_cases h2 : j = i + 1
    · subst h2; rw [q2_b]
    · rw [q2_n _ _ _ _ h h2]
/-- what holds of a caller: wanted is wd, its timer is none or not before lo -/
def qCal (r t : Nat → Int32) (wd lo : Int) : Prop :=
  (0 ≤ (r 0).toInt ∧ (r 0).toInt ≤ 3) ∧ (0 ≤ (r 1).toInt ∧ (r 1).toInt ≤ 200) ∧ ((r 2).toInt = 0 ∨ (r 2).toInt = 1) ∧
  (0 ≤ (r 3).toInt ∧ (r 3).toInt ≤ wd) ∧ wd ≤ (r 4).toInt ∧ (r 4).toInt ≤ (r 1).toInt + (r 2).toInt ∧ (r 4).toInt - (r 3).toInt ≤ 32 ∧
  (8 ≤ (r 5).toInt ∧ (r 5).toInt ≤ 256) ∧ (16 ≤ (r 6).toInt ∧ (r 6).toInt ≤ 128) ∧ (3 ≤ (t 2).toInt ∧ (t 2).toInt ≤ 60) ∧
  (0 ≤ (r 11).toInt ∧ (r 11).toInt ≤ 6) ∧ ((r 11).toInt = 6 ↔ (r 0).toInt = 3) ∧ ((r 10).toInt = -1 ∨ lo ≤ (r 10).toInt) ∧
  (-1 ≤ (t 3).toInt ∧ (t 3).toInt < (r 4).toInt) ∧ ((r 0).toInt = 1 → 0 ≤ (t 3).toInt → (r 3).toInt ≤ (t 3).toInt) ∧
  (-1 ≤ (r 9).toInt ∧ (r 9).toInt < (r 4).toInt) ∧ ((r 0).toInt = 0 → (r 4).toInt = 0) ∧
  ((r 0).toInt = 2 → (r 3).toInt = (r 1).toInt + 1 ∧ (r 10).toInt = -1) ∧ ((r 0).toInt = 3 → (r 10).toInt = -1) ∧
  ((r 0).toInt = 1 → (r 10).toInt ≠ -1 → (r 3).toInt < (r 4).toInt)
section CA
variable {τ : TS} {i : Nat} {r t : Nat → Int32} {wd lo : Int}
theorem s_X1_things {K : TS → Int32 → Prop} (hc : qCal r t wd lo) (h : ∀ x : Int32, x.toInt = (r 1).toInt + (r 2).toInt → K (q2 τ i r t) x) : wp_X1_things (q2 τ i r t) i K := by
  unfold wp_X1_things
  simp only [q2_a]
  unfold qCal at hc
  refine ⟨fun c => h _ ?_, fun c => h _ ?_⟩ <;> simp only [fa_eq, q_add, Int32.reduceToInt] at * <;> omega
theorem s_X1_maySend {K : TS → Int32 → Prop} (hc : qCal r t wd lo) (h0 : K (q2 τ i r t) 0) (h1 : (r 0).toInt = 1 → (r 4).toInt < (r 1).toInt + (r 2).toInt → (r 4).toInt - (r 3).toInt < 32 → K (q2 τ i r t) 1) : wp_X1_maySend (q2 τ i r t) i K := by
  unfold wp_X1_maySend
  simp only [q2_a]
  intro x e
  have hx : x.toInt = (r 4).toInt - (r 3).toInt := by
    rw [e]
    unfold qCal at hc
    simp only [q_sub]
    omega
  have hx8 : (x * 8).toInt = x.toInt * 8 := by
    unfold qCal at hc
    rw [q_mulc] <;> rw [show (8 : Int32).toInt = 8 from rfl] <;> omega
  refine ⟨fun _ => h0, fun c => s_X1_things hc (fun y hy => ⟨fun _ => h0, fun c2 => ⟨fun c3 => ?_, fun _ => h0⟩⟩)⟩
  have h1' : K (q2 τ i r t) 1 := by
    unfold qCal at hc
    simp only [q2_a, fa_lt, fa_le, fa_eq, hx8, Int32.reduceToInt] at *
    exact h1 c (by omega) (by omega)
  simp only [q2_a]
  exact ⟨fun _ => ⟨fun _ => h1', fun _ => ⟨fun _ => h0, fun _ => h1'⟩⟩, fun _ => h1'⟩
theorem s_X1_sent {clk : Int32} {K : TS → Prop} (hc : qCal r t wd lo) (hk : 0 ≤ clk.toInt ∧ clk.toInt ≤ 100000) (hlo : lo ≤ clk.toInt + 1) (c1 : (r 0).toInt = 1) (c2 : (r 4).toInt < (r 1).toInt + (r 2).toInt) (c3 : (r 4).toInt - (r 3).toInt < 32)
    (h : ∀ r2 t2 : Nat → Int32, qCal r2 t2 wd lo → r2 0 = r 0 → r2 1 = r 1 → r2 2 = r 2 → (r2 4).toInt = (r 4).toInt + 1 → K (q2 τ i r2 t2)) : wp_X1_sent (q2 τ i r t) i clk K := by
  unfold wp_X1_sent
  refine s_X5_sent (fun t2 e2 e3 e4 => ?_)
  simp only [q2_a, q2_b, q2_up, q2_rwb, q2_rwa, q_updA, Nat.reduceEqDiff, reduceIte, Nat.succ_ne_self] at e2 e3 e4
  have e5 : (t2 3).toInt = (r 4).toInt ∨ (t2 3).toInt = (t 3).toInt ∧ (t 3).toInt ≠ -1 := by
    by_cases e : t 3 = -1
    · exact Or.inl (by rw [e3 e])
    · refine Or.inr ⟨by rw [e4 e], fun q => e (Int32.toInt_inj.mp q)⟩
  rw [q2_rwb]
  intro τ22 e22
  subst e22
  simp only [q2_a, q2_b, q2_up, q2_rwb, q2_rwa, q_updA, Nat.reduceEqDiff, reduceIte, Nat.succ_ne_self]
  unfold qCal at hc
  refine ⟨fun c => ?_, fun c => ?_⟩
  · refine h _ _ ?_ rfl rfl rfl ?_
    · unfold qCal
      simp only [q2_a, q2_b, q2_up, q2_rwb, q2_rwa, q_updA, Nat.reduceEqDiff, reduceIte, Nat.succ_ne_self, e2, fa_lt, fa_le, fa_eq, q_add, q_sub, q_ite, Int32.reduceToInt] at *
      omega
    · simp only [q2_a, q2_b, q2_up, q2_rwb, q2_rwa, q_updA, Nat.reduceEqDiff, reduceIte, Nat.succ_ne_self, fa_lt, fa_le, fa_eq, q_add, q_sub, q_ite, Int32.reduceToInt]
      omega
  · intro τ24 e24
    subst e24
    refine h _ _ ?_ rfl rfl rfl ?_
    · unfold qCal
      simp only [q2_a, q2_b, q2_up, q2_rwb, q2_rwa, q_updA, Nat.reduceEqDiff, reduceIte, Nat.succ_ne_self, e2, fa_lt, fa_le, fa_eq, q_add, q_sub, q_ite, Int32.reduceToInt] at *
      omega
    · simp only [q2_a, q2_b, q2_up, q2_rwb, q2_rwa, q_updA, Nat.reduceEqDiff, reduceIte, Nat.succ_ne_self, fa_lt, fa_le, fa_eq, q_add, q_sub, q_ite, Int32.reduceToInt]
      omega
theorem s_X1_growWindow {K : TS → Prop} (hc : 8 ≤ (r 5).toInt ∧ (r 5).toInt ≤ 256) (h : ∀ x : Int32, 8 ≤ x.toInt ∧ x.toInt ≤ 256 → K (q2 τ i (upd r 5 x) t)) : wp_X1_growWindow (q2 τ i r t) i K := by
  unfold wp_X1_growWindow
  simp only [q2_a, q2_up]
  refine ⟨fun c => ?_, fun c => ⟨fun c2 => ?_, fun c2 => ⟨?_, ?_⟩⟩⟩
  · intro x e τ2 e2
    subst e2 e
    refine h _ ?_
    simp only [fa_lt, fa_le, fa_eq, q_add, q_sub, q_ite, Int32.reduceToInt]
    omega
  · intro x e τ2 e2
    subst e2 e
    refine h _ ?_
    simp only [fa_lt, fa_le, fa_eq, q_add, q_sub, q_ite, Int32.reduceToInt]
    omega
  · simp only [fa_lt, fa_le, fa_eq, q_add, q_sub, q_ite, Int32.reduceToInt]
    omega
  · have hd : ((64 : Int32) / r 5).toInt = 64 / (r 5).toInt := lg_idiv_nonneg (by decide) (by omega)
    have hd2 : 0 ≤ 64 / (r 5).toInt ∧ 64 / (r 5).toInt ≤ 64 := ⟨Int.ediv_nonneg (by omega) (by omega), by
      have := Int.ediv_le_self (a := 64) (r 5).toInt (by omega)
      omega⟩
    intro y ey x e τ2 e2
    subst e2 e ey
    refine h _ ?_
    generalize hz : (64 : Int32) / r 5 = z at *
    simp only [fa_lt, fa_le, fa_eq, q_add, q_sub, q_ite, Int32.reduceToInt]
    omega
theorem s_X1_startRecovery {K : TS → Prop} (hb : 0 ≤ (r 3).toInt ∧ (r 3).toInt ≤ (r 4).toInt ∧ (r 4).toInt ≤ 201 ∧ (r 4).toInt - (r 3).toInt ≤ 32) (h : ∀ x : Int32, 16 ≤ x.toInt ∧ x.toInt ≤ 128 → K (q2 τ i (upd (upd r 9 (r 4 - 1)) 6 x) t)) : wp_X1_startRecovery (q2 τ i r t) i K := by
  unfold wp_X1_startRecovery
  intros
  subst_vars
  simp only [q2_a, q2_b, q2_up, q2_rwb, q2_rwa, q_updA, Nat.reduceEqDiff, reduceIte, Nat.succ_ne_self]
  refine h _ ?_
  have hx : ((r 4 - r 3) * 4).toInt = ((r 4).toInt - (r 3).toInt) * 4 := by
    have e : (r 4 - r 3).toInt = (r 4).toInt - (r 3).toInt := by
      simp only [q_sub]
      omega
    rw [q_mulc] <;> rw [e, show (4 : Int32).toInt = 4 from rfl] <;> omega
  simp only [fa_lt, fa_le, fa_eq, q_add, q_sub, q_ite, Int32.reduceToInt, hx]
  omega
end CA
section CB
variable {τ : TS} {i : Nat} {r t : Nat → Int32} {wd lo : Int}
theorem s_X1_runOut {clk : Int32} {K : TS → Int32 → Prop} (hc : qCal r t wd lo) (hk : 0 ≤ clk.toInt ∧ clk.toInt ≤ 100000) (ht : r 10 = clk)
    (h : ∀ (r2 t2 : Nat → Int32) (x : Int32), qCal r2 t2 wd (clk.toInt + 1) → r2 1 = r 1 → r2 2 = r 2 → r2 4 = r 4 → (x = 0 ∨ x = 1 ∧ ((r2 0).toInt = 0 ∨ (r2 0).toInt = 1 ∧ (r2 3).toInt < (r2 4).toInt)) → K (q2 τ i r2 t2) x) : wp_X1_runOut (q2 τ i r t) i clk K := by
  unfold wp_X1_runOut
  intro τ21 e21 τ22 e22
  subst e21
  simp only [q2_a, q2_b, q2_up, q2_rwb, q2_rwa, q_updA, Nat.reduceEqDiff, reduceIte, Nat.succ_ne_self] at e22
  subst e22
  have hc' := hc
  unfold qCal at hc'
  have ht' : (r 10).toInt = clk.toInt := by rw [ht]
  simp only [q2_a, q2_b, q2_up, q2_rwb, q2_rwa, q_updA, Nat.reduceEqDiff, reduceIte, Nat.succ_ne_self]
  refine ⟨fun c => ?_, fun c => ?_⟩
  · have hm : 3 ≤ q2 τ i (upd (upd r 10 (-1)) 11 (r 11 + 1)) t (i + 1) 2 ∧ q2 τ i (upd (upd r 10 (-1)) 11 (r 11 + 1)) t (i + 1) 2 ≤ 60 := by
      rw [q2_b]
      simp only [fa_lt, fa_le, fa_eq, q_add, q_sub, q_ite, Int32.reduceToInt]
      omega
    refine s_X5_backOff hm (fun t2 e2 e3 => ?_)
    rw [q2_rwb]
    have e3' : (t2 3).toInt = -1 := by rw [e3]; rfl
    have e2' : 3 ≤ (t2 2).toInt ∧ (t2 2).toInt ≤ 60 := by
      simp only [fa_lt, fa_le, fa_eq, q_add, q_sub, q_ite, Int32.reduceToInt] at e2
      omega
    simp only [q2_a, q2_b, q2_up, q2_rwb, q2_rwa, q_updA, Nat.reduceEqDiff, reduceIte, Nat.succ_ne_self]
    refine ⟨fun c2 => ?_, fun c2 => ?_⟩
    · intro τ2 eτ
      subst eτ
      refine h _ _ _ ?_ rfl rfl rfl (Or.inr ⟨rfl, Or.inl ?_⟩)
      · unfold qCal
        simp only [q2_a, q2_b, q2_up, q2_rwb, q2_rwa, q_updA, Nat.reduceEqDiff, reduceIte, Nat.succ_ne_self, fa_lt, fa_le, fa_eq, q_add, q_sub, q_ite, Int32.reduceToInt] at *
        omega
      · simp only [q2_a, q2_b, q2_up, q2_rwb, q2_rwa, q_updA, Nat.reduceEqDiff, reduceIte, Nat.succ_ne_self, fa_lt, fa_le, fa_eq, q_add, q_sub, q_ite, Int32.reduceToInt] at *
        omega
    · refine s_X1_startRecovery ?_ (fun x hx => ?_)
      · simp only [q2_a, q2_b, q2_up, q2_rwb, q2_rwa, q_updA, Nat.reduceEqDiff, reduceIte, Nat.succ_ne_self, fa_lt, fa_le, fa_eq, q_add, q_sub, q_ite, Int32.reduceToInt] at *
        omega
      · simp only [q2_a, q2_b, q2_up, q2_rwb, q2_rwa, q_updA, Nat.reduceEqDiff, reduceIte, Nat.succ_ne_self]
        intro τ27 e27 τ28 e28 τ29 e29
        subst e27
        simp only [q2_a, q2_b, q2_up, q2_rwb, q2_rwa, q_updA, Nat.reduceEqDiff, reduceIte, Nat.succ_ne_self] at e28
        subst e28
        simp only [q2_a, q2_b, q2_up, q2_rwb, q2_rwa, q_updA, Nat.reduceEqDiff, reduceIte, Nat.succ_ne_self] at e29
        subst e29
        refine h _ _ _ ?_ rfl rfl rfl (Or.inr ⟨rfl, Or.inr ⟨?_, ?_⟩⟩)
        · unfold qCal
          simp only [q2_a, q2_b, q2_up, q2_rwb, q2_rwa, q_updA, Nat.reduceEqDiff, reduceIte, Nat.succ_ne_self, fa_lt, fa_le, fa_eq, q_add, q_sub, q_ite, Int32.reduceToInt] at *
          omega
        · simp only [q2_a, q2_b, q2_up, q2_rwb, q2_rwa, q_updA, Nat.reduceEqDiff, reduceIte, Nat.succ_ne_self, fa_lt, fa_le, fa_eq, q_add, q_sub, q_ite, Int32.reduceToInt] at *
          omega
        · simp only [q2_a, q2_b, q2_up, q2_rwb, q2_rwa, q_updA, Nat.reduceEqDiff, reduceIte, Nat.succ_ne_self, fa_lt, fa_le, fa_eq, q_add, q_sub, q_ite, Int32.reduceToInt] at *
          omega
  · intro τ31 e31
    subst e31
    refine h _ _ _ ?_ rfl rfl rfl (Or.inl rfl)
    unfold qCal
    simp only [q2_a, q2_b, q2_up, q2_rwb, q2_rwa, q_updA, Nat.reduceEqDiff, reduceIte, Nat.succ_ne_self, fa_lt, fa_le, fa_eq, q_add, q_sub, q_ite, Int32.reduceToInt, iff_true, true_iff, true_or, or_true, and_true, true_and, implies_true] at *
    omega
theorem s_X1_baseAgain {K : TS → Int32 → Prop} (hc : qCal r t wd lo)
    (h : ∀ r2 t2 : Nat → Int32, qCal r2 t2 wd lo → r2 0 = r 0 → r2 1 = r 1 → r2 2 = r 2 → r2 3 = r 3 → r2 4 = r 4 → K (q2 τ i r2 t2) (r 3)) : wp_X1_baseAgain (q2 τ i r t) i K := by
  unfold wp_X1_baseAgain
  intro τ21 e21
  subst e21
  unfold qCal at hc
  simp only [q2_a, q2_b, q2_up, q2_rwb, q2_rwa, q_updA, Nat.reduceEqDiff, reduceIte, Nat.succ_ne_self]
  refine s_X5_sentTwice (fun t2 e2 e3 => ?_)
  simp only [q2_a, q2_b, q2_up, q2_rwb, q2_rwa, q_updA, Nat.reduceEqDiff, reduceIte, Nat.succ_ne_self] at *
  refine h _ _ ?_ rfl rfl rfl rfl rfl
  have e4 : (t2 3).toInt = -1 ∨ (t2 3).toInt = (t 3).toInt := by
    rcases e3 with e | e
    · exact Or.inl (by rw [e]; rfl)
    · exact Or.inr (by rw [e])
  unfold qCal
  simp only [q2_a, q2_b, q2_up, q2_rwb, q2_rwa, q_updA, Nat.reduceEqDiff, reduceIte, Nat.succ_ne_self, e2] at *
  omega
theorem s_X1_repeated {x1 : Int32} {K : TS → Int32 → Prop} (hc : qCal r t wd lo) (hs : (r 0).toInt = 1) (hb : (r 3).toInt < (r 4).toInt)
    (h : ∀ (r2 t2 : Nat → Int32) (x : Int32), qCal r2 t2 wd lo → r2 0 = r 0 → r2 1 = r 1 → r2 2 = r 2 → r2 3 = r 3 → r2 4 = r 4 → (x = 0 ∨ x = 1) → K (q2 τ i r2 t2) x) : wp_X1_repeated (q2 τ i r t) i x1 K := by
  have key : ∀ a b : Int32, (∀ x : Int32, 16 ≤ x.toInt ∧ x.toInt ≤ 128 → K (q2 τ i (upd (upd (upd (upd (upd r 7 a) 8 b) 9 (r 4 - 1)) 6 x) 5 x) t) 1) ∧ (∀ x : Int32, 16 ≤ x.toInt ∧ x.toInt ≤ 128 → K (q2 τ i (upd (upd (upd (upd r 8 b) 9 (r 4 - 1)) 6 x) 5 x) t) 1) ∧ K (q2 τ i (upd (upd r 7 a) 8 b) t) 0 ∧ K (q2 τ i (upd r 8 b) t) 0 := by
    intro a b
    unfold qCal at hc
    refine ⟨fun x hx => h _ _ _ ?_ rfl rfl rfl rfl rfl (Or.inr rfl), fun x hx => h _ _ _ ?_ rfl rfl rfl rfl rfl (Or.inr rfl), h _ _ _ ?_ rfl rfl rfl rfl rfl (Or.inl rfl), h _ _ _ ?_ rfl rfl rfl rfl rfl (Or.inl rfl)⟩ <;> unfold qCal <;> simp only [q2_a, q2_b, q2_up, q2_rwb, q2_rwa, q_updA, Nat.reduceEqDiff, reduceIte, Nat.succ_ne_self, fa_lt, fa_le, fa_eq, q_add, q_sub, q_ite, Int32.reduceToInt] at * <;> omega
  have hb2 : 0 ≤ (r 3).toInt ∧ (r 3).toInt ≤ (r 4).toInt ∧ (r 4).toInt ≤ 201 ∧ (r 4).toInt - (r 3).toInt ≤ 32 := by
    unfold qCal at hc
    omega
  unfold wp_X1_repeated
  refine ⟨True, fun _ => ?_, fun _ => trivial, fun _ => ⟨fun _ => trivial, fun _ => ?_⟩⟩
  · intro τ22 e22 τ23 e23
    subst e22
    simp only [q2_a, q2_b, q2_up, q2_rwb, q2_rwa, q_updA, Nat.reduceEqDiff, reduceIte, Nat.succ_ne_self] at e23
    subst e23
    simp only [q2_a, q2_b, q2_up, q2_rwb, q2_rwa, q_updA, Nat.reduceEqDiff, reduceIte, Nat.succ_ne_self]
    refine ⟨fun _ => (key _ _).2.2.1, fun _ => ⟨fun _ => s_X1_startRecovery ?_ (fun x hx => ?_), fun _ => (key _ _).2.2.1⟩⟩
    · simp only [q2_a, q2_b, q2_up, q2_rwb, q2_rwa, q_updA, Nat.reduceEqDiff, reduceIte, Nat.succ_ne_self]
      exact hb2
    · intro τ27 e27
      subst e27
      simp only [q2_a, q2_b, q2_up, q2_rwb, q2_rwa, q_updA, Nat.reduceEqDiff, reduceIte, Nat.succ_ne_self]
      exact (key _ _).1 x hx
  · intro τ30 e30
    subst e30
    simp only [q2_a, q2_b, q2_up, q2_rwb, q2_rwa, q_updA, Nat.reduceEqDiff, reduceIte, Nat.succ_ne_self]
    refine ⟨fun _ => (key 0 _).2.2.2, fun _ => ⟨fun _ => s_X1_startRecovery ?_ (fun x hx => ?_), fun _ => (key 0 _).2.2.2⟩⟩
    · simp only [q2_a, q2_b, q2_up, q2_rwb, q2_rwa, q_updA, Nat.reduceEqDiff, reduceIte, Nat.succ_ne_self]
      exact hb2
    · intro τ27 e27
      subst e27
      simp only [q2_a, q2_b, q2_up, q2_rwb, q2_rwa, q_updA, Nat.reduceEqDiff, reduceIte, Nat.succ_ne_self]
      exact (key 0 _).2.1 x hx
end CB
section CC
variable {τ : TS} {i : Nat} {r t : Nat → Int32} {wd lo : Int}
theorem q_z {x : Int32} (h : x = 0 ∨ x = 1) : tp_z x := by
  rcases h with e | e <;> subst e <;> exact ⟨rfl, rfl, rfl⟩
def qMid (r r3 : Nat → Int32) (x1 : Int) : Prop :=
  r3 0 = r 0 ∧ r3 1 = r 1 ∧ r3 2 = r 2 ∧ (r3 3).toInt = x1 ∧ r3 4 = r 4 ∧ (8 ≤ (r3 5).toInt ∧ (r3 5).toInt ≤ 256) ∧ r3 6 = r 6 ∧ ((r3 9).toInt = (r 9).toInt ∨ (r3 9).toInt = -1) ∧ r3 11 = r 11
theorem s_advance_tail {clk x1 x26 : Int32} {t2 r3 : Nat → Int32} {K : TS → Int32 → Prop} (hc : qCal r t wd lo) (hk : 0 ≤ clk.toInt ∧ clk.toInt ≤ 100000) (hlo : lo ≤ clk.toInt + 1) (hs : (r 0).toInt = 1) (hx : (r 3).toInt < x1.toInt ∧ x1.toInt ≤ wd) (htr : (r 11).toInt = 0)
    (e2 : 3 ≤ (t2 2).toInt ∧ (t2 2).toInt ≤ 60) (e3 : (t2 3).toInt = -1 ∨ (t2 3).toInt = (t 3).toInt ∧ x1.toInt ≤ (t 3).toInt) (hm : qMid r r3 x1.toInt) (hz : x26 = 0 ∨ x26 = 1 ∧ x1.toInt ≤ (r 9).toInt)
    (h : ∀ (r2 t2 : Nat → Int32) (x : Int32), qCal r2 t2 wd lo → r2 1 = r 1 → r2 2 = r 2 → r2 4 = r 4 → (x = 0 ∨ x = 1 ∧ (r2 0).toInt = 1 ∧ (r2 3).toInt < (r2 4).toInt) → K (q2 τ i r2 t2) x) :
    (¬ (r3 3) = (r3 4) → ∀ τ30 : TS, τ30 = tp_up (q2 τ i r3 t2) i 10 (clk + (t2 2)) → (((τ30 i 3) ≤ (τ30 i 1)) → (tp_z x26 ∧ K τ30 x26)) ∧ ((¬ (τ30 i 3) ≤ (τ30 i 1)) → (∀ τ32 : TS, τ32 = tp_up τ30 i 0 2 → tp_z x26 ∧ K τ32 x26))) ∧
    (r3 3 = r3 4 → ∀ τ33 : TS, τ33 = tp_up (q2 τ i r3 t2) i 10 (-1) → (((τ33 i 3) ≤ (τ33 i 1)) → (tp_z x26 ∧ K τ33 x26)) ∧ ((¬ (τ33 i 3) ≤ (τ33 i 1)) → (∀ τ35 : TS, τ35 = tp_up τ33 i 0 2 → tp_z x26 ∧ K τ35 x26))) := by
  have hz1 : tp_z x26 := q_z (hz.imp id (fun q => q.1))
  have hz2 : x26.toInt = 0 ∨ x26.toInt = 1 ∧ x1.toInt ≤ (r 9).toInt := by
    rcases hz with e | ⟨e, q⟩
    · exact Or.inl (by rw [e]; rfl)
    · exact Or.inr ⟨by rw [e]; rfl, q⟩
  obtain ⟨m0, m1, m2, m3, m4, m5, m6, m9, m11⟩ := hm
  unfold qCal at hc
  refine ⟨fun c τ30 e30 => ?_, fun c τ33 e33 => ?_⟩
  · subst e30
    simp only [q2_a, q2_b, q2_up, q2_rwb, q2_rwa, q_updA, Nat.reduceEqDiff, reduceIte, Nat.succ_ne_self]
    refine ⟨fun c2 => ⟨hz1, h _ _ _ ?_ m1 m2 m4 ?_⟩, fun c2 τ32 e32 => ?_⟩
    · unfold qCal
      simp only [q2_a, q2_b, q2_up, q2_rwb, q2_rwa, q_updA, Nat.reduceEqDiff, reduceIte, Nat.succ_ne_self, fa_lt, fa_le, fa_eq, q_add, q_sub, q_ite, Int32.reduceToInt, m0, m1, m2, m4, m6, m11] at *
      omega
    · simp only [q2_a, q2_b, q2_up, q2_rwb, q2_rwa, q_updA, Nat.reduceEqDiff, reduceIte, Nat.succ_ne_self, fa_lt, fa_le, fa_eq, q_add, q_sub, q_ite, Int32.reduceToInt, m0, m1, m2, m4, m6, m11] at *
      omega
    · exfalso
      simp only [q2_a, q2_b, q2_up, q2_rwb, q2_rwa, q_updA, Nat.reduceEqDiff, reduceIte, Nat.succ_ne_self, fa_lt, fa_le, fa_eq, q_add, q_sub, q_ite, Int32.reduceToInt, m0, m1, m2, m4, m6, m11] at *
      omega
  · subst e33
    simp only [q2_a, q2_b, q2_up, q2_rwb, q2_rwa, q_updA, Nat.reduceEqDiff, reduceIte, Nat.succ_ne_self]
    refine ⟨fun c2 => ⟨hz1, h _ _ _ ?_ m1 m2 m4 ?_⟩, fun c2 τ32 e32 => ?_⟩
    · unfold qCal
      simp only [q2_a, q2_b, q2_up, q2_rwb, q2_rwa, q_updA, Nat.reduceEqDiff, reduceIte, Nat.succ_ne_self, fa_lt, fa_le, fa_eq, q_add, q_sub, q_ite, Int32.reduceToInt, m0, m1, m2, m4, m6, m11, iff_true, true_iff, true_or, or_true, and_true, true_and, implies_true] at *
      omega
    · simp only [q2_a, q2_b, q2_up, q2_rwb, q2_rwa, q_updA, Nat.reduceEqDiff, reduceIte, Nat.succ_ne_self, fa_lt, fa_le, fa_eq, q_add, q_sub, q_ite, Int32.reduceToInt, m0, m1, m2, m4, m6, m11] at *
      omega
    · subst e32
      refine ⟨hz1, h _ _ _ ?_ m1 m2 m4 ?_⟩
      · unfold qCal
        simp only [q2_a, q2_b, q2_up, q2_rwb, q2_rwa, q_updA, Nat.reduceEqDiff, reduceIte, Nat.succ_ne_self, fa_lt, fa_le, fa_eq, q_add, q_sub, q_ite, Int32.reduceToInt, m0, m1, m2, m4, m6, m11, iff_true, true_iff, true_or, or_true, and_true, true_and, implies_true] at *
        omega
      · simp only [q2_a, q2_b, q2_up, q2_rwb, q2_rwa, q_updA, Nat.reduceEqDiff, reduceIte, Nat.succ_ne_self, fa_lt, fa_le, fa_eq, q_add, q_sub, q_ite, Int32.reduceToInt, m0, m1, m2, m4, m6, m11] at *
        omega
theorem s_X1_advance {clk x1 x2 : Int32} {K : TS → Int32 → Prop} (hc : qCal r t wd lo) (hk : 0 ≤ clk.toInt ∧ clk.toInt ≤ 100000) (hlo : lo ≤ clk.toInt + 1) (hs : (r 0).toInt = 1) (hx : (r 3).toInt < x1.toInt ∧ x1.toInt ≤ wd) (htr : (r 11).toInt = 0)
    (h : ∀ (r2 t2 : Nat → Int32) (x : Int32), qCal r2 t2 wd lo → r2 1 = r 1 → r2 2 = r 2 → r2 4 = r 4 → (x = 0 ∨ x = 1 ∧ (r2 0).toInt = 1 ∧ (r2 3).toInt < (r2 4).toInt) → K (q2 τ i r2 t2) x) : wp_X1_advance (q2 τ i r t) i x1 x2 clk K := by
  have hc' := hc
  unfold qCal at hc'
  unfold wp_X1_advance
  refine s_X5_answered ?_ (fun t2 e2 e3 => ?_)
  · rw [q2_b]
    simp only [fa_lt, fa_le, fa_eq, q_add, q_sub, q_ite, Int32.reduceToInt]
    omega
  · rw [q2_b] at e3
    rw [q2_rwb]
    have e2' : 3 ≤ (t2 2).toInt ∧ (t2 2).toInt ≤ 60 := by
      simp only [fa_lt, fa_le, fa_eq, q_add, q_sub, q_ite, Int32.reduceToInt] at e2
      omega
    have e3' : (t2 3).toInt = -1 ∨ (t2 3).toInt = (t 3).toInt ∧ x1.toInt ≤ (t 3).toInt := by
      rcases e3 with e | ⟨e, q⟩
      · exact Or.inl (by rw [e]; rfl)
      · exact Or.inr ⟨by rw [e], by simp only [fa_lt, fa_le, fa_eq, q_add, q_sub, q_ite, Int32.reduceToInt] at q; exact q⟩
    intro τ22 e22 τ23 e23 τ24 e24
    subst e22
    simp only [q2_a, q2_b, q2_up, q2_rwb, q2_rwa, q_updA, Nat.reduceEqDiff, reduceIte, Nat.succ_ne_self] at e23
    subst e23
    simp only [q2_a, q2_b, q2_up, q2_rwb, q2_rwa, q_updA, Nat.reduceEqDiff, reduceIte, Nat.succ_ne_self] at e24
    subst e24
    refine ⟨fun x26 => x26 = 0 ∨ x26 = 1 ∧ x1.toInt ≤ (r 9).toInt, fun x26 hz => ⟨fun τ28 => ∃ r3, τ28 = q2 τ i r3 t2 ∧ qMid r r3 x1.toInt, ?_, ?_, ?_⟩, ?_, ?_⟩
    · rintro τ28 ⟨r3, rfl, hm⟩
      have := s_advance_tail hc hk hlo hs hx htr e2' e3' hm hz h
      simp only [q2_a, q2_b]
      exact this
    · intro _
      refine ⟨_, rfl, rfl, rfl, rfl, rfl, rfl, ?_, rfl, Or.inl rfl, rfl⟩
      simp only [q2_a, q2_b, q2_up, q2_rwb, q2_rwa, q_updA, Nat.reduceEqDiff, reduceIte, Nat.succ_ne_self]
      omega
    · intro _ τ37 e37
      subst e37
      rw [q2_up]
      refine s_X1_growWindow ?_ (fun x hx5 => ⟨_, rfl, rfl, rfl, rfl, rfl, rfl, ?_, rfl, Or.inr ?_, rfl⟩)
      · simp only [q2_a, q2_b, q2_up, q2_rwb, q2_rwa, q_updA, Nat.reduceEqDiff, reduceIte, Nat.succ_ne_self]
        omega
      · simp only [q2_a, q2_b, q2_up, q2_rwb, q2_rwa, q_updA, Nat.reduceEqDiff, reduceIte, Nat.succ_ne_self]
        exact hx5
      · simp only [q2_a, q2_b, q2_up, q2_rwb, q2_rwa, q_updA, Nat.reduceEqDiff, reduceIte, Nat.succ_ne_self, fa_lt, fa_le, fa_eq, q_add, q_sub, q_ite, Int32.reduceToInt]
    · intro c
      exact Or.inl rfl
    · intro c
      refine Or.inr ⟨rfl, ?_⟩
      simp only [q2_a, q2_b, q2_up, q2_rwb, q2_rwa, q_updA, Nat.reduceEqDiff, reduceIte, Nat.succ_ne_self, fa_lt, fa_le, fa_eq, q_add, q_sub, q_ite, Int32.reduceToInt] at c
      omega
theorem s_X1_takeAnswer {clk x1 x2 : Int32} {K : TS → Int32 → Prop} (hc : qCal r t wd lo) (hk : 0 ≤ clk.toInt ∧ clk.toInt ≤ 100000) (hlo : lo ≤ clk.toInt + 1) (hx : x1.toInt ≤ wd)
    (h : ∀ (r2 t2 : Nat → Int32) (x : Int32), qCal r2 t2 wd lo → r2 1 = r 1 → r2 2 = r 2 → r2 4 = r 4 → (x = 0 ∨ x = 1 ∧ (r2 0).toInt = 1 ∧ (r2 3).toInt < (r2 4).toInt) → K (q2 τ i r2 t2) x) : wp_X1_takeAnswer (q2 τ i r t) i x1 x2 clk K := by
  have hc' := hc
  unfold qCal at hc'
  unfold wp_X1_takeAnswer
  simp only [q2_a]
  refine ⟨fun c => ⟨fun c2 => h r t 0 hc rfl rfl rfl (Or.inl rfl), fun c2 => ⟨fun c3 τ24 e24 => ?_, fun c3 => h r t 0 hc rfl rfl rfl (Or.inl rfl)⟩⟩, fun c τ32 e32 τ33 e33 τ34 e34 => ?_⟩
  · have h11 : qCal (upd r 11 0) t wd lo := by
      unfold qCal
      simp only [q2_a, q2_b, q2_up, q2_rwb, q2_rwa, q_updA, Nat.reduceEqDiff, reduceIte, Nat.succ_ne_self, fa_lt, fa_le, fa_eq, q_add, q_sub, q_ite, Int32.reduceToInt] at *
      omega
    have c2' : (upd r 11 0 0).toInt = 1 := by
      simp only [q2_a, q2_b, q2_up, q2_rwb, q2_rwa, q_updA, Nat.reduceEqDiff, reduceIte, Nat.succ_ne_self, fa_lt, fa_le, fa_eq, q_add, q_sub, q_ite, Int32.reduceToInt] at *
      omega
    subst e24
    simp only [q2_a, q2_b, q2_up, q2_rwb, q2_rwa, q_updA, Nat.reduceEqDiff, reduceIte, Nat.succ_ne_self]
    refine ⟨fun c4 => ⟨fun c5 τ27 e27 => ?_, fun c5 => ?_⟩, fun c4 => ?_⟩
    · subst e27
      refine h _ _ _ ?_ rfl rfl rfl (Or.inl rfl)
      unfold qCal
      simp only [q2_a, q2_b, q2_up, q2_rwb, q2_rwa, q_updA, Nat.reduceEqDiff, reduceIte, Nat.succ_ne_self, fa_lt, fa_le, fa_eq, q_add, q_sub, q_ite, Int32.reduceToInt] at *
      omega
    · have c5' : (upd r 11 0 3).toInt < (upd r 11 0 4).toInt := by
        simp only [q2_a, q2_b, q2_up, q2_rwb, q2_rwa, q_updA, Nat.reduceEqDiff, reduceIte, Nat.succ_ne_self, fa_lt, fa_le, fa_eq, q_add, q_sub, q_ite, Int32.reduceToInt] at *
        omega
      refine s_X1_repeated h11 c2' c5' (fun r2 t2 x g1 g2 g3 g4 g5 g6 g7 => ⟨q_z g7, h r2 t2 x g1 g3 g4 g6 (g7.imp id (fun q => ⟨q, by rw [g2]; exact c2', by rw [g5, g6]; exact c5'⟩))⟩)
    · refine s_X1_advance h11 hk hlo c2' ?_ rfl (fun r2 t2 x g1 g2 g3 g4 g5 => ⟨q_z (g5.imp id (fun q => q.1)), h r2 t2 x g1 g2 g3 g4 g5⟩)
      simp only [q2_a, q2_b, q2_up, q2_rwb, q2_rwa, q_updA, Nat.reduceEqDiff, reduceIte, Nat.succ_ne_self, fa_lt, fa_le, fa_eq, q_add, q_sub, q_ite, Int32.reduceToInt] at *
      omega
  · subst e34
    subst e33
    subst e32
    simp only [q2_up]
    refine h _ _ _ ?_ rfl rfl rfl (Or.inl rfl)
    unfold qCal
    simp only [q2_a, q2_b, q2_up, q2_rwb, q2_rwa, q_updA, Nat.reduceEqDiff, reduceIte, Nat.succ_ne_self, fa_lt, fa_le, fa_eq, q_add, q_sub, q_ite, Int32.reduceToInt, iff_true, true_iff, true_or, or_true, and_true, true_and, implies_true] at *
    omega
end CC
section CE
variable {τ : TS} {i : Nat} {r t : Nat → Int32}
theorem s_X1_begin {x1 clk : Int32} {K : TS → Prop} (hk : 0 ≤ clk.toInt ∧ clk.toInt ≤ 100000) (hz : r 1 = 0 ∧ r 2 = 0 ∧ r 3 = 0 ∧ r 4 = 0 ∧ r 11 = 0)
    (h : ∀ r2 t2 : Nat → Int32, qCal r2 t2 0 (clk.toInt + 1) → r2 1 = 0 → r2 2 = 0 → r2 4 = 0 → K (q2 τ i r2 t2)) : wp_X1_begin (q2 τ i r t) i x1 clk K := by
  obtain ⟨z1, z2, z3, z4, z5⟩ := hz
  unfold wp_X1_begin
  intro τ21 e21 τ22 e22 τ23 e23 τ24 e24 τ25 e25
  subst e25
  subst e24
  subst e23
  subst e22
  subst e21
  simp only [q2_up]
  refine s_X5_begin (fun t2 e2 e3 => ?_)
  rw [q2_rwb]
  intro τ27 e27
  rw [q2_b, q2_up, e2] at e27
  subst e27
  refine h _ _ ?_ z1 z2 z4
  have e2' : (t2 2).toInt = 12 := by rw [e2]; rfl
  have e3' : (t2 3).toInt = -1 := by rw [e3]; rfl
  unfold qCal
  simp only [q2_a, q2_b, q2_up, q2_rwb, q2_rwa, q_updA, Nat.reduceEqDiff, reduceIte, Nat.succ_ne_self, z1, z2, z3, z4, z5, e2', e3', fa_lt, fa_le, fa_eq, q_add, q_sub, q_ite, Int32.reduceToInt] at *
  simp
  omega
end CE
