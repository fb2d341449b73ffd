theorem q_cl (x : Int32) : x.toNatClampNeg = x.toInt.toNat := rfl
theorem q_in {x : Int32} {n : Nat} (h1 : 0 ≤ x.toInt) (h2 : x.toInt < n) : vp_in x n := by
  unfold vp_in
  rw [q_cl, fa_lt]
  simp only [Int32.reduceToInt]
  omega
/-- what holds of a callee: nx is its caller's next, gv what was given -/
def qCle (r q : Nat → Int32) (nx gv : Int) : Prop :=
  (1 ≤ (r 0).toInt ∧ (r 0).toInt ≤ 16) ∧ (0 ≤ (r 1).toInt ∧ (r 1).toInt ≤ 201) ∧ (r 1).toInt ≤ nx ∧ 0 ≤ (r 2).toInt ∧ (r 2).toInt ≤ (r 1).toInt ∧ (r 2).toInt ≤ gv ∧
  (∀ n, n < 201 → q n = 0 ∨ q n = 1) ∧ (∀ n : Nat, n < 201 → q n ≠ 0 → (n : Int) < nx) ∧ ((r 1).toInt < 201 → q (r 1).toInt.toNat = 0)
section CD
variable {τ : TS} {i : Nat} {r q : Nat → Int32} {nx gv : Int}
theorem s_X0_spare {K : TS → Int32 → Prop} (hc : qCle r q nx gv) (h : ∀ x : Int32, 0 ≤ x.toInt → x.toInt ≤ 16 → K (q2 τ i r q) x) : wp_X0_spare (q2 τ i r q) i K := by
  unfold wp_X0_spare
  intro x e
  obtain ⟨h0, h1, h2, h3, h4, h5, -⟩ := hc
  subst e
  refine h _ ?_ ?_ <;> simp only [q2_a, fa_lt, fa_le, fa_eq, q_add, q_sub, q_ite, Int32.reduceToInt] <;> omega
theorem s_X0_take {x1 x2 : Int32} {K : TS → Int32 → Prop} (hc : qCle r q nx gv) (hx : 0 ≤ x1.toInt ∧ x1.toInt < nx)
    (h : ∀ (r2 h2 : Nat → Int32) (x : Int32), qCle r2 h2 nx gv → r2 0 = r 0 → r2 2 = r 2 → (r 1).toInt ≤ (r2 1).toInt → (x = 0 ∨ x = 1) → K (q2 τ i r2 h2) x) : wp_X0_take (q2 τ i r q) i x1 x2 K := by
  have same : ∀ x, (x = 0 ∨ x = 1) → K (q2 τ i r q) x := fun x hx => h r q x hc rfl rfl (Int.le_refl _) hx
  obtain ⟨h0, h1, h2, h3, h4, h5, h6, h7, h8⟩ := hc
  unfold wp_X0_take
  simp only [q2_a, q2_b]
  refine ⟨fun _ => same _ (Or.inr rfl), fun c1 => ⟨fun _ => same _ (Or.inr rfl), fun c2 => ?_⟩⟩
  have b1 : (r 1).toInt ≤ x1.toInt ∧ x1.toInt < 201 := by
    simp only [fa_lt, fa_le, fa_eq, q_add, q_sub, q_ite, Int32.reduceToInt] at c1 c2
    omega
  have hin : vp_in x1 201 := q_in hx.1 b1.2
  refine ⟨hin, fun c3 => ⟨True, fun _ => ⟨hin, fun τ27 e27 => ?_⟩, fun _ => trivial, fun _ => ⟨fun _ => trivial, fun _ => same _ (Or.inl rfl)⟩⟩, fun _ => same _ (Or.inr rfl)⟩
  subst e27
  refine ⟨fun τ28 => ∃ r2 q', τ28 = q2 τ i r2 q' ∧ r2 0 = r 0 ∧ r2 2 = r 2 ∧ ((r 1).toInt ≤ (r2 1).toInt ∧ (r2 1).toInt ≤ 201 ∧ (r2 1).toInt ≤ nx) ∧ (∀ n, n < 201 → q' n = 0 ∨ q' n = 1) ∧ (∀ n : Nat, n < 201 → q' n ≠ 0 → (n : Int) < nx), fun τ28 => 201 - (τ28 i 1).toInt.toNat, ⟨r, upd q x1.toNatClampNeg 1, ?_, rfl, rfl, ⟨Int.le_refl _, h1.2, h2⟩, ?_, ?_⟩, ?_⟩
  · show tp_rw (q2 τ i r q) (i + 1) (upd (q2 τ i r q (i + 1)) x1.toNatClampNeg 1) = _
    rw [q2_b, q2_rwb]
  · intro n hn
    rw [q_updA]
    by_cases e : n = x1.toNatClampNeg
    · rw [if_pos e]; exact Or.inr rfl
    · rw [if_neg e]; exact h6 n hn
  · intro n hn hne
    rw [q_updA] at hne
    by_cases e : n = x1.toNatClampNeg
    · rw [q_cl] at e
      omega
    · rw [if_neg e] at hne; exact h7 n hn hne
  · rintro τ28 ⟨r2, q', rfl, g0, g2, g1, g6, g7⟩
    simp only [q2_a, q2_b]
    have hr0 : (r2 0).toInt = (r 0).toInt := by rw [g0]
    have hr2 : (r2 2).toInt = (r 2).toInt := by rw [g2]
    refine ⟨fun c => h r2 q' 1 ⟨by omega, by omega, by omega, by omega, by omega, by omega, g6, g7, fun z => ?_⟩ g0 g2 g1.1 (Or.inr rfl), fun c => ?_⟩
    · simp only [fa_lt, fa_le, fa_eq, q_add, q_sub, q_ite, Int32.reduceToInt] at c
      omega
    · have c' : (r2 1).toInt < 201 := by
        simp only [fa_lt, fa_le, fa_eq, q_add, q_sub, q_ite, Int32.reduceToInt] at c
        omega
      have hin2 : vp_in (r2 1) 201 := q_in (by omega) c'
      refine ⟨hin2, fun c4 => h r2 q' 1 ⟨by omega, by omega, by omega, by omega, by omega, by omega, g6, g7, fun _ => c4⟩ g0 g2 g1.1 (Or.inr rfl), fun c4 => ⟨hin2, fun τ34 e34 τ35 e35 => ?_⟩⟩
      have hlt := g7 _ (by rw [q_cl]; omega) c4
      rw [q_cl] at hlt
      have e34' : τ34 = q2 τ i r2 (upd q' (r2 1).toNatClampNeg 0) := by
        rw [e34]
        show tp_rw (q2 τ i r2 q') (i + 1) (upd (q2 τ i r2 q' (i + 1)) (r2 1).toNatClampNeg 0) = _
        rw [q2_b, q2_rwb]
      subst e34'
      rw [q2_a, q2_up] at e35
      subst e35
      have hadd : (r2 1 + 1).toInt = (r2 1).toInt + 1 := by
        simp only [fa_lt, fa_le, fa_eq, q_add, q_sub, q_ite, Int32.reduceToInt]
        omega
      refine ⟨⟨_, _, rfl, g0, g2, ?_, ?_, ?_⟩, ?_⟩
      · simp only [q2_a, q2_b, q2_up, q2_rwb, q2_rwa, q_updA, Nat.reduceEqDiff, reduceIte, Nat.succ_ne_self, hadd]
        omega
      · intro n hn
        rw [q_updA]
        by_cases e : n = (r2 1).toNatClampNeg
        · rw [if_pos e]; exact Or.inl rfl
        · rw [if_neg e]; exact g6 n hn
      · intro n hn hne
        rw [q_updA] at hne
        by_cases e : n = (r2 1).toNatClampNeg
        · rw [if_pos e] at hne; exact absurd rfl hne
        · rw [if_neg e] at hne; exact g7 n hn hne
      · simp only [q2_a, q2_b, q2_up, q2_rwb, q2_rwa, q_updA, Nat.reduceEqDiff, reduceIte, Nat.succ_ne_self, hadd]
        omega
end CD
/-! packets -/
theorem fa_or (a b : Nat) : nI a ||| nI b = nI (a ||| b) := by
  apply Int32.toBitVec_inj.1
  show BitVec.ofNat 32 a ||| BitVec.ofNat 32 b = BitVec.ofNat 32 (a ||| b)
  apply BitVec.eq_of_getLsbD_eq
  intro i hi
  simp [hi]
theorem fa_or_sum {a k : Nat} (b : Nat) (h : a < 2 ^ k) : nI (b * 2 ^ k) ||| nI a = nI (b * 2 ^ k + a) := by rw [fa_or, Nat.mul_comm, Nat.two_pow_add_eq_or_of_lt h]
theorem s_X4_of {τ : TS} {c kd num room : Nat} {x0 x1 x2 x3 : Int32} {K : TS → Int32 → Prop} (e0 : x0 = nI c) (e1 : x1 = nI kd) (e2 : x2 = nI num) (e3 : x3 = nI room) (hc : c < 8) (hd : kd < 4) (hn : num < 256) (hr : room < 32)
    (h : K τ (nI (c * 32768 + kd * 8192 + num * 32 + room))) : wp_X4_of τ x0 x1 x2 x3 K := by
  subst e0 e1 e2 e3
  unfold wp_X4_of
  have a1 : nI c <<< (15 &&& 31 : Int32) = nI (c * 2 ^ 15) := pk_shlN _ 15 (by decide) (by omega)
  have a2 : nI kd <<< (13 &&& 31 : Int32) = nI (kd * 2 ^ 13) := pk_shlN _ 13 (by decide) (by omega)
  have a3 : nI num <<< (5 &&& 31 : Int32) = nI (num * 2 ^ 5) := pk_shlN _ 5 (by decide) (by omega)
  have b1 : nI (c * 2 ^ 15) ||| nI (kd * 2 ^ 13) = nI ((c * 4 + kd) * 2 ^ 13) := by
    rw [fa_or_sum (k := 15) c (by omega)]
    exact congrArg nI (by omega)
  have b2 : nI ((c * 4 + kd) * 2 ^ 13) ||| nI (num * 2 ^ 5) = nI (((c * 4 + kd) * 256 + num) * 2 ^ 5) := by
    rw [fa_or_sum (k := 13) _ (by omega)]
    exact congrArg nI (by omega)
  have b3 : nI (((c * 4 + kd) * 256 + num) * 2 ^ 5) ||| nI room = nI (c * 32768 + kd * 8192 + num * 32 + room) := by
    rw [fa_or_sum (k := 5) _ (by omega)]
    exact congrArg nI (by omega)
  rw [a1, a2, a3, b1, b2, b3]
  exact h
section CP
variable {τ : TS} {n : Nat} {K : TS → Int32 → Prop}
theorem s_X4_hopsOf (hn : n < 2 ^ 31) (h : K τ (nI (n / 262144))) : wp_X4_hopsOf τ (nI n) K := by
  unfold wp_X4_hopsOf
  rw [pk_shrN hn _ 18 (by decide)]
  exact h
theorem s_X4_connectionOf (hn : n < 2 ^ 31) (h : K τ (nI (n / 32768 % 8))) : wp_X4_connectionOf τ (nI n) K := by
  unfold wp_X4_connectionOf
  rw [pk_shrN hn _ 15 (by decide), pk_andN (by have := Nat.div_le_self n (2 ^ 15); omega) 3 (by decide)]
  exact h
theorem s_X4_kindOf (hn : n < 2 ^ 31) (h : K τ (nI (n / 8192 % 4))) : wp_X4_kindOf τ (nI n) K := by
  unfold wp_X4_kindOf
  rw [pk_shrN hn _ 13 (by decide), pk_andN (by have := Nat.div_le_self n (2 ^ 13); omega) 2 (by decide)]
  exact h
theorem s_X4_numberOf (hn : n < 2 ^ 31) (h : K τ (nI (n / 32 % 256))) : wp_X4_numberOf τ (nI n) K := by
  unfold wp_X4_numberOf
  rw [pk_shrN hn _ 5 (by decide), pk_andN (by have := Nat.div_le_self n (2 ^ 5); omega) 8 (by decide)]
  exact h
theorem s_X4_roomOf (hn : n < 2 ^ 31) (h : K τ (nI (n % 32))) : wp_X4_roomOf τ (nI n) K := by
  unfold wp_X4_roomOf
  rw [pk_andN (by omega) 5 (by decide)]
  exact h
end CP
/-- what holds of a packet: md connections are made, wt what they want, nx what is next; below m hops -/
def pkOK (md : Int) (wt nx : Nat → Int) (m : Nat) (x : Int32) : Prop :=
  ∃ n : Nat, x = nI n ∧ n < m * 262144 ∧ (n / 8192 % 4 = 3 → (n / 32768 % 8 : Int) < md ∧ (n / 32 % 256 : Int) ≤ wt (n / 32768 % 8)) ∧ (n / 8192 % 4 = 1 ∨ n / 8192 % 4 = 2 → (n / 32768 % 8 : Int) < md ∧ (n / 32 % 256 : Int) < nx (n / 32768 % 8))
theorem pkOK.mono {md md2 : Int} {wt wt2 nx nx2 : Nat → Int} {m m2 : Nat} {x : Int32} (h : pkOK md wt nx m x) (h1 : md ≤ md2) (h2 : ∀ c : Nat, (c : Int) < md → wt c ≤ wt2 c ∧ nx c ≤ nx2 c) (hm : m ≤ m2) : pkOK md2 wt2 nx2 m2 x := by
  obtain ⟨n, e, hn, h3, h4⟩ := h
  refine ⟨n, e, Nat.lt_of_lt_of_le hn (Nat.mul_le_mul_right _ hm), fun z => ?_, fun z => ?_⟩
  · obtain ⟨a, b⟩ := h3 z
    have := (h2 (n / 32768 % 8) (by omega)).1
    omega
  · obtain ⟨a, b⟩ := h4 z
    have := (h2 (n / 32768 % 8) (by omega)).2
    omega
theorem pkOK.hop {md : Int} {wt nx : Nat → Int} {x : Int32} (h : pkOK md wt nx 16 x) : pkOK md wt nx 17 (x + 262144) ∧ x + 262144 ≠ -1 := by
  obtain ⟨n, rfl, hn, h3, h4⟩ := h
  have e : nI n + 262144 = nI (n + 262144) := nI_add n 262144
  rw [e]
  have d1 : (n + 262144) / 8192 % 4 = n / 8192 % 4 := by omega
  have d2 : (n + 262144) / 32768 % 8 = n / 32768 % 8 := by omega
  have d3 : (n + 262144) / 32 % 256 = n / 32 % 256 := by omega
  refine ⟨⟨n + 262144, rfl, by omega, ?_, ?_⟩, ?_⟩
  · rw [d2]
    omega
  · rw [d2]
    omega
  · intro z
    have := congrArg Int32.toInt z
    rw [nI_toInt (by omega)] at this
    simp only [Int32.reduceToInt] at this
    omega
theorem pkOK.of {md : Int} {wt nx : Nat → Int} {c kd num room : Nat} (hc : c < 8) (hd : kd < 4) (hn : num < 256) (hr : room < 32) (h3 : kd = 3 → (c : Int) < md ∧ (num : Int) ≤ wt c) (h4 : kd = 1 ∨ kd = 2 → (c : Int) < md ∧ (num : Int) < nx c) : pkOK md wt nx 16 (nI (c * 32768 + kd * 8192 + num * 32 + room)) := by
  have d1 : (c * 32768 + kd * 8192 + num * 32 + room) / 8192 % 4 = kd := by omega
  have d2 : (c * 32768 + kd * 8192 + num * 32 + room) / 32768 % 8 = c := by omega
  have d3 : (c * 32768 + kd * 8192 + num * 32 + room) / 32 % 256 = num := by omega
  refine ⟨_, rfl, by omega, ?_, ?_⟩
  · intro z
    obtain ⟨a, b⟩ := h3 (by omega)
    rw [d2]
    omega
  · intro z
    obtain ⟨a, b⟩ := h4 (by omega)
    rw [d2]
    omega
def fb_ct (p : Nat → Bool) : Nat → Nat
  | 0 => 0
  | n + 1 => fb_ct p n + (if p n then 1 else 0)
theorem fb_ct_succ (p : Nat → Bool) (n : Nat) : fb_ct p (n + 1) = fb_ct p n + (if p n then 1 else 0) := rfl
theorem fb_ct_le (p : Nat → Bool) : ∀ n, fb_ct p n ≤ n
  | 0 => Nat.le_refl _
  | n + 1 => by
    have h := fb_ct_le p n
    rw [fb_ct_succ]
    split <;> omega
theorem fb_ct_cong {p q : Nat → Bool} : ∀ {n : Nat}, (∀ k, k < n → p k = q k) → fb_ct p n = fb_ct q n
  | 0, _ => rfl
  | n + 1, h => by
    rw [fb_ct_succ, fb_ct_succ, fb_ct_cong (fun k hk => h k (by omega)), h n (by omega)]
theorem fb_ct_out (p : Nat → Bool) (b : Bool) {i n : Nat} (h : n ≤ i) : fb_ct (fun k => if k = i then b else p k) n = fb_ct p n :=
  fb_ct_cong fun k hk => if_neg (by omega)
theorem fb_ct_upd (p : Nat → Bool) (b : Bool) {i : Nat} : ∀ {n : Nat}, i < n → fb_ct (fun k => if k = i then b else p k) n + (if p i then 1 else 0) = fb_ct p n + (if b then 1 else 0)
  | 0, h => absurd h (Nat.not_lt_zero i)
  | n + 1, h => by
    rw [fb_ct_succ, fb_ct_succ]
    rcases Nat.lt_or_ge i n with q | q
    · have := fb_ct_upd p b q
      have e : (if n = i then b else p n) = p n := if_neg (by omega)
      rw [e]
      omega
    · have e : i = n := by omega
      subst e
      rw [fb_ct_out p b (Nat.le_refl _)]
      simp only [if_true]
      omega
theorem fb_ct_zero {p : Nat → Bool} : ∀ {n : Nat}, fb_ct p n = 0 ↔ ∀ k, k < n → p k = false
  | 0 => ⟨fun _ k hk => absurd hk (Nat.not_lt_zero k), fun _ => rfl⟩
  | n + 1 => by
    have h := fb_ct_zero (p := p) (n := n)
    rw [fb_ct_succ]
    constructor
    · intro e k hk
      have e1 : fb_ct p n = 0 := by omega
      rcases Nat.lt_or_ge k n with q | q
      · exact h.mp e1 k q
      · have ek : k = n := by omega
        subst ek
        cases hp : p k
        · rfl
        · simp [hp] at e
    · intro a
      rw [h.mpr (fun k hk => a k (by omega)), a n (by omega)]
      rfl
theorem fb_ct_sub {p q : Nat → Bool} : ∀ {n : Nat}, (∀ k, k < n → p k = true → q k = true) → fb_ct p n ≤ fb_ct q n
  | 0, _ => Nat.le_refl _
  | n + 1, h => by
    have h1 := fb_ct_sub (n := n) (p := p) (q := q) (fun k hk => h k (by omega))
    have h2 := h n (by omega)
    rw [fb_ct_succ, fb_ct_succ]
    cases hp : p n <;> cases hq : q n <;> simp_all <;> omega
/-! one way of a link: its row, its queue, its flight -/
def q3 (τ : TS) (i : Nat) (r q f : Nat → Int32) : TS := tp_rw (q2 τ i r q) (i + 2) f
theorem q3_a (τ : TS) (i : Nat) (r q f : Nat → Int32) : q3 τ i r q f i = r := by
  rw [q3, q_rwn _ _ _ (by omega), q2_a]
theorem q3_b (τ : TS) (i : Nat) (r q f : Nat → Int32) : q3 τ i r q f (i + 1) = q := by
  rw [q3, q_rwn _ _ _ (by omega), q2_b]
theorem q3_c (τ : TS) (i : Nat) (r q f : Nat → Int32) : q3 τ i r q f (i + 2) = f := by
  rw [q3, q_rws]
theorem q3_n (τ : TS) (i : Nat) (r q f : Nat → Int32) {j : Nat} (h : j ≠ i) (h2 : j ≠ i + 1) (h3 : j ≠ i + 2) : q3 τ i r q f j = τ j := by
  rw [q3, q_rwn _ _ _ h3, q2_n _ _ _ _ h h2]
theorem q3_ext {τ τ2 : TS} {i : Nat} {r q f : Nat → Int32} (h : τ2 i = r) (h1 : τ2 (i + 1) = q) (h2 : τ2 (i + 2) = f) (hn : ∀ j, j ≠ i → j ≠ i + 1 → j ≠ i + 2 → τ2 j = τ j) : τ2 = q3 τ i r q f := by
  funext j
  by_cases e : j = i
  · subst e; rw [q3_a, h]
  · by_cases e1 : j = i + 1
    · subst e1; rw [q3_b, h1]
    · by_cases e2 : j = i + 2
      · subst e2; rw [q3_c, h2]
      · rw [q3_n _ _ _ _ _ e e1 e2, hn j e e1 e2]
theorem q3_self (τ : TS) (i : Nat) : q3 τ i (τ i) (τ (i + 1)) (τ (i + 2)) = τ := (q3_ext rfl rfl rfl fun _ _ _ _ => rfl).symm
theorem q3_upa (τ : TS) (i k : Nat) (r q f : Nat → Int32) (v : Int32) : tp_up (q3 τ i r q f) i k v = q3 τ i (upd r k v) q f := by
  refine q3_ext ?_ ?_ ?_ (fun j h h1 h2 => ?_) <;> rw [tp_up]
  · rw [q_rws, q3_a]
  · rw [q_rwn _ _ _ (by omega), q3_b]
  · rw [q_rwn _ _ _ (by omega), q3_c]
  · rw [q_rwn _ _ _ h, q3_n _ _ _ _ _ h h1 h2]
theorem q3_upb (τ : TS) (i k : Nat) (r q f : Nat → Int32) (v : Int32) : tp_up (q3 τ i r q f) (i + 1) k v = q3 τ i r (upd q k v) f := by
  refine q3_ext ?_ ?_ ?_ (fun j h h1 h2 => ?_) <;> rw [tp_up]
  · rw [q_rwn _ _ _ (by omega), q3_a]
  · rw [q_rws, q3_b]
  · rw [q_rwn _ _ _ (by omega), q3_c]
  · rw [q_rwn _ _ _ h1, q3_n _ _ _ _ _ h h1 h2]
theorem q3_upc (τ : TS) (i k : Nat) (r q f : Nat → Int32) (v : Int32) : tp_up (q3 τ i r q f) (i + 2) k v = q3 τ i r q (upd f k v) := by
  refine q3_ext ?_ ?_ ?_ (fun j h h1 h2 => ?_) <;> rw [tp_up]
  · rw [q_rwn _ _ _ (by omega), q3_a]
  · rw [q_rwn _ _ _ (by omega), q3_b]
  · rw [q_rws, q3_c]
  · rw [q_rwn _ _ _ h2, q3_n _ _ _ _ _ h h1 h2]
def qIn (f : Nat → Int32) (n : Nat) : Bool := decide (f n ≠ -1)
/-- what holds of a way: P of its queue's packets, P2 of those in flight -/
def qWay (P P2 : Int32 → Prop) (r q f : Nat → Int32) : Prop :=
  (0 ≤ (r 1).toInt ∧ (r 1).toInt < 20) ∧ (0 ≤ (r 2).toInt ∧ (r 2).toInt ≤ 20) ∧ (∀ n, n < 20 → P (q n)) ∧ (∀ n, n < 10 → f n = -1 ∨ P2 (f n)) ∧ (r 4).toInt = fb_ct (qIn f) 10
section CW
variable {τ : TS} {i : Nat} {r q f : Nat → Int32} {P P2 : Int32 → Prop}
theorem q_asN {x : Int32} (h : 0 ≤ x.toInt) : x = nI x.toInt.toNat := by
  have h2 := fb_rng x
  apply Int32.toInt_inj.mp
  rw [nI_toInt (by omega)]
  omega
theorem q_mod {x : Int32} (h : 0 ≤ x.toInt) (h2 : x.toInt < 1000000) {m : Int32} {d : Nat} (hm : m = nI d) (h0 : 0 < d) (hd : d < 2 ^ 31) : x - x / m * m = nI (x.toInt.toNat % d) := by
  subst hm
  have e := q_asN h
  have := pk_rem (a := x.toInt.toNat) (d := d) (by omega) h0 hd
  rw [← e] at this
  exact this
theorem fa_xor (a b : Nat) : nI a ^^^ nI b = nI (a ^^^ b) := by
  apply Int32.toBitVec_inj.1
  show BitVec.ofNat 32 a ^^^ BitVec.ofNat 32 b = BitVec.ofNat 32 (a ^^^ b)
  apply BitVec.eq_of_getLsbD_eq
  intro i hi
  simp [hi]
theorem s_floorMod {x : Int32} {K : TS → Int32 → Prop} (h : 0 ≤ x.toInt) (h2 : x.toInt < 1000000) (hk : K τ (nI (x.toInt.toNat % 10))) : wp_J9_floorMod_7cf53 τ x 10 K := by
  unfold wp_J9_floorMod_7cf53
  refine ⟨by decide, fun y e => ?_⟩
  rw [q_mod h h2 (m := 10) (d := 10) rfl (by decide) (by decide)] at e
  subst e
  have hx : 0 ≤ (x ^^^ 10 : Int32) := by
    rw [q_asN h, show (10 : Int32) = nI 10 from rfl, fa_xor, fa_le]
    have : x.toInt.toNat ^^^ 10 < 2 ^ 31 := Nat.xor_lt_two_pow (by omega) (by decide)
    rw [nI_toInt this]
    simp only [Int32.reduceToInt]
    omega
  exact ⟨fun _ => hk, fun c => absurd hx c⟩
theorem s_X7_join {x1 x2 : Int32} {K : TS → Int32 → Prop} (hw : qWay P P2 r q f) (hp : P x1)
    (h0 : K (q3 τ i r q f) 0) (h1 : ∀ r2 q2 : Nat → Int32, qWay P P2 r2 q2 f → K (q3 τ i r2 q2 f) 1) : wp_X7_join (q3 τ i r q f) i x1 x2 K := by
  obtain ⟨w1, w2, w3, w4, w5⟩ := hw
  unfold wp_X7_join
  simp only [q3_a]
  refine ⟨fun _ => h0, fun _ => ⟨fun c => ?_, fun _ => h0⟩⟩
  have c' : (r 2).toInt < 20 := by simpa only [fa_lt, fa_le, fa_eq, q_add, q_sub, q_ite, Int32.reduceToInt] using c
  have hs : (r 1 + r 2).toInt = (r 1).toInt + (r 2).toInt := by
    simp only [fa_lt, fa_le, fa_eq, q_add, q_sub, q_ite, Int32.reduceToInt]
    omega
  intro x e
  rw [q_mod (by omega) (by omega) (m := 20) (d := 20) rfl (by decide) (by decide)] at e
  subst e
  refine ⟨vp_in_nI (Nat.mod_lt _ (by decide)) (by decide), fun τ25 e25 τ26 e26 => ?_⟩
  rw [q3_upb] at e25
  subst e25
  rw [q3_upa, q3_a] at e26
  subst e26
  have hc : (nI ((r 1 + r 2).toInt.toNat % 20)).toNatClampNeg = (r 1 + r 2).toInt.toNat % 20 := nI_clamp (by omega)
  rw [hc]
  refine h1 _ _ ⟨?_, ?_, ?_, w4, ?_⟩
  · simp only [q2_a, q2_b, q2_up, q2_rwb, q2_rwa, q_updA, Nat.reduceEqDiff, reduceIte, Nat.succ_ne_self]
    exact w1
  · simp only [q2_a, q2_b, q2_up, q2_rwb, q2_rwa, q_updA, Nat.reduceEqDiff, reduceIte, Nat.succ_ne_self, fa_lt, fa_le, fa_eq, q_add, q_sub, q_ite, Int32.reduceToInt]
    omega
  · intro n hn
    rw [q_updA]
    by_cases e : n = (r 1 + r 2).toInt.toNat % 20
    · rw [if_pos e]; exact hp
    · rw [if_neg e]; exact w3 n hn
  · simp only [q2_a, q2_b, q2_up, q2_rwb, q2_rwa, q_updA, Nat.reduceEqDiff, reduceIte, Nat.succ_ne_self]
    exact w5
theorem s_X7_land {x : Int32} {K : TS → Int32 → Prop} (hw : qWay P P2 r q f) (h : 0 ≤ x.toInt) (h2 : x.toInt < 1000000)
    (hk : ∀ (r2 f2 : Nat → Int32) (y : Int32), qWay P P2 r2 q f2 → r2 2 = r 2 → f2 (x.toInt.toNat % 10) = -1 → (∀ n, n ≠ x.toInt.toNat % 10 → f2 n = f n) → (y = -1 ∨ P2 y) → K (q3 τ i r2 q f2) y) : wp_X7_land (q3 τ i r q f) i x K := by
  unfold wp_X7_land
  have hin : vp_in (nI (x.toInt.toNat % 10)) 10 := vp_in_nI (Nat.mod_lt _ (by decide)) (by decide)
  have hc : (nI (x.toInt.toNat % 10)).toNatClampNeg = x.toInt.toNat % 10 := nI_clamp (by omega)
  have hlt : x.toInt.toNat % 10 < 10 := Nat.mod_lt _ (by decide)
  refine s_floorMod h h2 ⟨hin, fun y e => ?_⟩
  rw [q3_c, hc] at e
  refine ⟨fun c => hk r f y hw rfl (by rw [← e, c]) (fun _ _ => rfl) (Or.inl c), fun c => ⟨hin, fun τ27 e27 τ28 e28 => ?_⟩⟩
  rw [hc, q3_upc] at e27
  subst e27
  rw [q3_upa, q3_a] at e28
  subst e28
  obtain ⟨w1, w2, w3, w4, w5⟩ := hw
  have hct := fb_ct_upd (qIn f) false hlt
  have hq : qIn (upd f (x.toInt.toNat % 10) (-1)) = fun k => if k = x.toInt.toNat % 10 then false else qIn f k := by
    funext k
    unfold qIn
    rw [q_updA]
    by_cases e3 : k = x.toInt.toNat % 10
    · rw [if_pos e3, if_pos e3]; rfl
    · rw [if_neg e3, if_neg e3]
  have ht : qIn f (x.toInt.toNat % 10) = true := by
    unfold qIn
    rw [← e]
    exact decide_eq_true c
  have hle := fb_ct_le (qIn f) 10
  refine hk _ _ y ⟨?_, ?_, w3, ?_, ?_⟩ rfl (by rw [q_updA, if_pos rfl]) (fun n hn => by rw [q_updA, if_neg hn]) (Or.inr ?_)
  · simp only [q2_a, q2_b, q2_up, q2_rwb, q2_rwa, q_updA, Nat.reduceEqDiff, reduceIte, Nat.succ_ne_self]
    exact w1
  · simp only [q2_a, q2_b, q2_up, q2_rwb, q2_rwa, q_updA, Nat.reduceEqDiff, reduceIte, Nat.succ_ne_self]
    exact w2
  · intro n hn
    rw [q_updA]
    by_cases e3 : n = x.toInt.toNat % 10
    · rw [if_pos e3]; exact Or.inl rfl
    · rw [if_neg e3]; exact w4 n hn
  · rw [hq]
    rw [ht] at hct
    simp only [q2_a, q2_b, q2_up, q2_rwb, q2_rwa, q_updA, Nat.reduceEqDiff, reduceIte, Nat.succ_ne_self, fa_lt, fa_le, fa_eq, q_add, q_sub, q_ite, Int32.reduceToInt, if_true] at *
    simp only [Bool.false_eq_true, if_false] at hct
    omega
  · rcases w4 _ hlt with z | z
    · exact absurd (by rw [e]; exact z) c
    · rw [e]; exact z
end CW
section CX2
variable {τ : TS} {i : Nat} {r q f : Nat → Int32} {P P2 : Int32 → Prop}
theorem s_X7_takeOff {x : Int32} {K : TS → Int32 → Prop} (hw : qWay P P2 r q f) (h : 0 ≤ x.toInt) (h2 : x.toInt < 1000000) (hfree : f (x.toInt.toNat % 10) = -1) (hP : ∀ v, P v → P2 (v + 262144) ∧ v + 262144 ≠ -1)
    (h0 : K (q3 τ i r q f) 0) (hk : ∀ (r2 f2 : Nat → Int32) (y : Int32), qWay P P2 r2 q f2 → (r2 2).toInt + 1 = (r 2).toInt → (∀ n, n ≠ x.toInt.toNat % 10 → f2 n = f n) → (y = 0 ∨ y = 1) → K (q3 τ i r2 q f2) y) : wp_X7_takeOff (q3 τ i r q f) i x K := by
  have hin : vp_in (nI (x.toInt.toNat % 10)) 10 := vp_in_nI (Nat.mod_lt _ (by decide)) (by decide)
  have hc : (nI (x.toInt.toNat % 10)).toNatClampNeg = x.toInt.toNat % 10 := nI_clamp (by omega)
  have hlt : x.toInt.toNat % 10 < 10 := Nat.mod_lt _ (by decide)
  obtain ⟨w1, w2, w3, w4, w5⟩ := hw
  unfold wp_X7_takeOff
  simp only [q3_a, q3_b]
  refine ⟨fun c => ⟨q_in w1.1 w1.2, fun x23 e23 x24 e24 τ25 e25 τ26 e26 => ?_⟩, fun _ => h0⟩
  have c' : 0 < (r 2).toInt := by
    simp only [fa_lt, fa_le, fa_eq, q_add, q_sub, q_ite, Int32.reduceToInt] at c
    omega
  have hs : (r 1 + 1).toInt = (r 1).toInt + 1 := by
    simp only [fa_lt, fa_le, fa_eq, q_add, q_sub, q_ite, Int32.reduceToInt]
    omega
  rw [q_mod (by omega) (by omega) (m := 20) (d := 20) rfl (by decide) (by decide)] at e24
  rw [q3_upa] at e25
  subst e25
  rw [q3_upa, q3_a] at e26
  subst e26
  have h24 : 0 ≤ x24.toInt ∧ x24.toInt < 20 := by
    subst e24
    rw [nI_toInt (by omega)]
    omega
  simp only [q2_a, q2_b, q2_up, q2_rwb, q2_rwa, q_updA, Nat.reduceEqDiff, reduceIte, Nat.succ_ne_self, q3_a]
  refine ⟨fun _ => s_floorMod h h2 ⟨hin, fun τ31 e31 τ32 e32 τ33 e33 => ?_⟩, fun _ τ34 e34 => ?_⟩
  · rw [hc, q3_upc] at e31
    subst e31
    rw [q3_upa] at e32
    subst e32
    rw [q3_upa] at e33
    subst e33
    have hv : P x23 := by
      rw [e23, q_cl]
      exact w3 _ (by omega)
    obtain ⟨p2, pne⟩ := hP _ hv
    have hct := fb_ct_upd (qIn f) true hlt
    have hq : qIn (upd f (x.toInt.toNat % 10) (x23 + 262144)) = fun k => if k = x.toInt.toNat % 10 then true else qIn f k := by
      funext k
      unfold qIn
      rw [q_updA]
      by_cases e3 : k = x.toInt.toNat % 10
      · rw [if_pos e3, if_pos e3]; exact decide_eq_true pne
      · rw [if_neg e3, if_neg e3]
    have ht : qIn f (x.toInt.toNat % 10) = false := by
      unfold qIn
      exact decide_eq_false (fun z => z hfree)
    have hle := fb_ct_le (qIn f) 10
    refine hk _ _ 0 ⟨?_, ?_, w3, ?_, ?_⟩ ?_ (fun n hn => by rw [q_updA, if_neg hn]) (Or.inl rfl)
    · simp only [q2_a, q2_b, q2_up, q2_rwb, q2_rwa, q_updA, Nat.reduceEqDiff, reduceIte, Nat.succ_ne_self]
      exact h24
    · simp only [q2_a, q2_b, q2_up, q2_rwb, q2_rwa, q_updA, Nat.reduceEqDiff, reduceIte, Nat.succ_ne_self, fa_lt, fa_le, fa_eq, q_add, q_sub, q_ite, Int32.reduceToInt]
      omega
    · intro n hn
      rw [q_updA]
      by_cases e3 : n = x.toInt.toNat % 10
      · rw [if_pos e3]; exact Or.inr p2
      · rw [if_neg e3]; exact w4 n hn
    · rw [hq]
      rw [ht] at hct
      simp only [q2_a, q2_b, q2_up, q2_rwb, q2_rwa, q_updA, Nat.reduceEqDiff, reduceIte, Nat.succ_ne_self, fa_lt, fa_le, fa_eq, q_add, q_sub, q_ite, Int32.reduceToInt, if_true, q3_a] at *
      simp only [Bool.false_eq_true, if_false] at hct
      omega
    · simp only [q2_a, q2_b, q2_up, q2_rwb, q2_rwa, q_updA, Nat.reduceEqDiff, reduceIte, Nat.succ_ne_self, fa_lt, fa_le, fa_eq, q_add, q_sub, q_ite, Int32.reduceToInt]
      omega
  · rw [q3_upa] at e34
    subst e34
    refine hk _ _ 1 ⟨?_, ?_, w3, w4, ?_⟩ ?_ (fun _ _ => rfl) (Or.inr rfl)
    · simp only [q2_a, q2_b, q2_up, q2_rwb, q2_rwa, q_updA, Nat.reduceEqDiff, reduceIte, Nat.succ_ne_self]
      exact h24
    · simp only [q2_a, q2_b, q2_up, q2_rwb, q2_rwa, q_updA, Nat.reduceEqDiff, reduceIte, Nat.succ_ne_self, fa_lt, fa_le, fa_eq, q_add, q_sub, q_ite, Int32.reduceToInt]
      omega
    · simp only [q2_a, q2_b, q2_up, q2_rwb, q2_rwa, q_updA, Nat.reduceEqDiff, reduceIte, Nat.succ_ne_self]
      exact w5
    · simp only [q2_a, q2_b, q2_up, q2_rwb, q2_rwa, q_updA, Nat.reduceEqDiff, reduceIte, Nat.succ_ne_self, fa_lt, fa_le, fa_eq, q_add, q_sub, q_ite, Int32.reduceToInt]
      omega
theorem s_X7_drop {K : TS → Int32 → Prop} (hw : qWay P P2 r q f)
    (hk : ∀ (r2 f2 : Nat → Int32) (y : Int32), qWay P P2 r2 q f2 → r2 2 = 0 → (∀ n, n < 10 → f2 n = -1) → (0 ≤ y.toInt ∧ y.toInt ≤ 30) → K (q3 τ i r2 q f2) y) : wp_X7_drop (q3 τ i r q f) i K := by
  obtain ⟨w1, w2, w3, w4, w5⟩ := hw
  have hle := fb_ct_le (qIn f) 10
  unfold wp_X7_drop
  intro x21 e21 τ22 e22 τ23 e23
  rw [q3_a] at e21
  have hy : 0 ≤ x21.toInt ∧ x21.toInt ≤ 30 := by
    subst e21
    simp only [fa_lt, fa_le, fa_eq, q_add, q_sub, q_ite, Int32.reduceToInt]
    omega
  rw [q3_upa] at e22
  subst e22
  rw [q3_upa] at e23
  subst e23
  refine ⟨fun τ2 k => ∃ f2, τ2 = q3 τ i (upd (upd r 2 0) 4 0) q f2 ∧ 0 ≤ k.toInt ∧ k.toInt ≤ 10 ∧ ∀ n : Nat, (n : Int) < k.toInt → f2 n = -1, fun _ k => 10 - k.toInt.toNat, ⟨f, rfl, by decide, by decide, fun n hn => ?_⟩, ?_⟩
  · exfalso
    simp only [Int32.reduceToInt] at hn
    omega
  · rintro τ24 k ⟨f2, rfl, k0, k1, hf⟩
    refine ⟨fun c => ?_, fun c => ?_⟩
    · have k2 : k.toInt = 10 := by
        simp only [fa_lt, fa_le, fa_eq, q_add, q_sub, q_ite, Int32.reduceToInt] at c
        omega
      have hf2 : ∀ n, n < 10 → f2 n = -1 := fun n hn => hf n (by omega)
      refine hk _ _ _ ⟨?_, ?_, w3, fun n hn => Or.inl (hf2 n hn), ?_⟩ rfl hf2 hy
      · simp only [q2_a, q2_b, q2_up, q2_rwb, q2_rwa, q_updA, Nat.reduceEqDiff, reduceIte, Nat.succ_ne_self]
        exact w1
      · simp only [q2_a, q2_b, q2_up, q2_rwb, q2_rwa, q_updA, Nat.reduceEqDiff, reduceIte, Nat.succ_ne_self, fa_lt, fa_le, fa_eq, q_add, q_sub, q_ite, Int32.reduceToInt]
        omega
      · have : fb_ct (qIn f2) 10 = 0 := fb_ct_zero.mpr (fun n hn => by
          unfold qIn
          exact decide_eq_false (fun z => z (hf2 n hn)))
        rw [this]
        rfl
    · have k2 : k.toInt < 10 := by
        simp only [fa_lt, fa_le, fa_eq, q_add, q_sub, q_ite, Int32.reduceToInt] at c
        omega
      refine ⟨q_in k0 k2, fun τ29 e29 x30 e30 => ?_⟩
      rw [q3_upc] at e29
      subst e29
      have hk1 : x30.toInt = k.toInt + 1 := by
        subst e30
        simp only [fa_lt, fa_le, fa_eq, q_add, q_sub, q_ite, Int32.reduceToInt]
        omega
      refine ⟨⟨_, rfl, by omega, by omega, fun n hn => ?_⟩, by show 10 - x30.toInt.toNat < 10 - k.toInt.toNat; omega⟩
      rw [q_updA, q_cl]
      by_cases e3 : n = k.toInt.toNat
      · rw [if_pos e3]
      · rw [if_neg e3]; exact hf n (by omega)
end CX2
