/-! least sums over a graph without directions: rows of distances, -1 for none -/
def nSup (E : Nat → Nat → Int → Prop) (g : Nat) (D : Nat → Int) : Prop :=
  D g = 0 ∧ (∀ v, -1 ≤ D v) ∧ ∀ v, v ≠ g → 0 ≤ D v → ∃ u d, E u v d ∧ 0 ≤ D u ∧ D u + d ≤ D v
def nRel (E : Nat → Nat → Int → Prop) (D : Nat → Int) : Prop := ∀ u v d, E u v d → 0 ≤ D u → 0 ≤ D v ∧ D v ≤ D u + d
section NR
variable {E : Nat → Nat → Int → Prop} {g h : Nat} {D F : Nat → Int}
theorem n_low (hE : ∀ u v d, E u v d → 1 ≤ d) (hD : nSup E g D) (hF : nRel E F) (hg : F g = 0) : ∀ (k : Nat) (v : Nat), D v = k → 0 ≤ F v ∧ F v ≤ D v := by
  intro k
  induction k using Nat.strongRecOn with
  | _ k ih =>
    intro v hv
    by_cases e : v = g
    · subst e
      have := hD.1
      omega
    · obtain ⟨u, d, hu, h0, h1⟩ := hD.2.2 v e (by omega)
      have hd := hE _ _ _ hu
      obtain ⟨a, b⟩ := ih (D u).toNat (by omega) u (by omega)
      have := hF u v d hu a
      omega
theorem n_tri (hE : ∀ u v d, E u v d → 1 ≤ d) (hs : ∀ u v d, E u v d → E v u d) (hD : nSup E g D) (hF : nRel E F) : ∀ (k : Nat) (v : Nat), D v = k → 0 ≤ F v → 0 ≤ F g ∧ F g ≤ F v + D v := by
  intro k
  induction k using Nat.strongRecOn with
  | _ k ih =>
    intro v hv hf
    by_cases e : v = g
    · subst e
      omega
    · obtain ⟨u, d, hu, h0, h1⟩ := hD.2.2 v e (by omega)
      have hd := hE _ _ _ hu
      have h2 := hF v u d (hs _ _ _ hu) hf
      obtain ⟨a, b⟩ := ih (D u).toNat (by omega) u (by omega) h2.1
      omega
/-- the same both ways -/
theorem n_sym (hE : ∀ u v d, E u v d → 1 ≤ d) (hs : ∀ u v d, E u v d → E v u d) (hD : nSup E g D) (hDr : nRel E D) (hF : nSup E h F) (hFr : nRel E F) : D h = F g := by
  have m1 := hD.2.1 h
  have m2 := hF.2.1 g
  by_cases a : 0 ≤ D h
  · have x := n_tri hE hs hD hFr (D h).toNat h (by omega) (by rw [hF.1]; omega)
    rw [hF.1] at x
    have y := n_tri hE hs hF hDr (F g).toNat g (by omega) (by rw [hD.1]; omega)
    rw [hD.1] at y
    omega
  · by_cases b : 0 ≤ F g
    · have y := n_tri hE hs hF hDr (F g).toNat g (by omega) (by rw [hD.1]; omega)
      omega
    · omega
/-- the support holds with equality where nothing can be shortened -/
theorem n_eq (hD : nSup E g D) (hR : nRel E D) {v : Nat} (hv : v ≠ g) (h0 : 0 ≤ D v) : ∃ u d, E u v d ∧ 0 ≤ D u ∧ D u + d = D v := by
  obtain ⟨u, d, a, b, c⟩ := hD.2.2 v hv h0
  have := hR u v d a b
  exact ⟨u, d, a, b, by omega⟩
theorem n_shorten (hE : ∀ u v d, E u v d → 1 ≤ d) (hD : nSup E g D) {u v : Nat} {d : Int} (he : E u v d) (hu : 0 ≤ D u) (hv : D v = -1 ∨ D u + d < D v) : nSup E g (fun x => if x = v then D u + d else D x) := by
  have hd := hE _ _ _ he
  have hg : v ≠ g := by
    intro e
    have := hD.1
    rw [e] at hv
    omega
  have huv : u ≠ v := by
    intro e
    rw [e] at hu hv
    omega
  refine ⟨?_, fun x => ?_, fun x hx h0 => ?_⟩
  · show (if g = v then D u + d else D g) = 0
    rw [if_neg (Ne.symm hg)]
    exact hD.1
  · show -1 ≤ (if x = v then D u + d else D x)
    have := hD.2.1 x
    split <;> omega
  · by_cases e : x = v
    · subst e
      refine ⟨u, d, he, ?_, ?_⟩
      · show 0 ≤ (if u = x then D u + d else D u)
        rw [if_neg huv]
        exact hu
      · show (if u = x then D u + d else D u) + d ≤ (if x = x then D u + d else D x)
        rw [if_neg huv, if_pos rfl]
        omega
    · replace h0 : 0 ≤ (if x = v then D u + d else D x) := h0
      rw [if_neg e] at h0
      obtain ⟨y, c, a1, a2, a3⟩ := hD.2.2 x hx h0
      refine ⟨y, c, a1, ?_, ?_⟩
      · show 0 ≤ (if y = v then D u + d else D y)
        split <;> omega
      · show (if y = v then D u + d else D y) + c ≤ (if x = v then D u + d else D x)
        rw [if_neg e]
        split
        · rename_i z
          rw [z] at a2 a3
          omega
        · exact a3
theorem n_min (p : Nat → Prop) : ∀ k, p k → ∃ m, p m ∧ ∀ j, p j → m ≤ j := by
  intro k
  induction k using Nat.strongRecOn with
  | _ k ih =>
    intro hk
    by_cases hx : ∃ j, j < k ∧ p j
    · obtain ⟨j, hj, hp⟩ := hx
      exact ih j hj hp
    · exact ⟨k, hk, fun j hp => Nat.le_of_not_lt (fun z => hx ⟨j, z, hp⟩)⟩
theorem n_least_ex (E : Nat → Nat → Int → Prop) (g v : Nat) : ∃ z : Int, -1 ≤ z ∧ (0 ≤ z → ∃ D, nSup E g D ∧ D v = z) ∧ ∀ D, nSup E g D → 0 ≤ D v → 0 ≤ z ∧ z ≤ D v := by
  by_cases hx : ∃ k : Nat, ∃ D, nSup E g D ∧ D v = k
  · obtain ⟨k, hk⟩ := hx
    obtain ⟨m, hm, hl⟩ := n_min (fun k : Nat => ∃ D, nSup E g D ∧ D v = k) k hk
    refine ⟨m, by omega, fun _ => hm, fun D hD h0 => ?_⟩
    have := hl (D v).toNat ⟨D, hD, by omega⟩
    omega
  · refine ⟨-1, by omega, fun z => absurd z (by omega), fun D hD h0 => absurd ⟨(D v).toNat, D, hD, by omega⟩ hx⟩
/-- the least row -/
noncomputable def nLeast (E : Nat → Nat → Int → Prop) (g v : Nat) : Int := Classical.choose (n_least_ex E g v)
theorem n_least_le (hD : nSup E g D) {v : Nat} (h0 : 0 ≤ D v) : 0 ≤ nLeast E g v ∧ nLeast E g v ≤ D v := (Classical.choose_spec (n_least_ex E g v)).2.2 D hD h0
theorem n_least_is {v : Nat} (h0 : 0 ≤ nLeast E g v) : ∃ D, nSup E g D ∧ D v = nLeast E g v := (Classical.choose_spec (n_least_ex E g v)).2.1 h0
theorem n_least_m (v : Nat) : -1 ≤ nLeast E g v := (Classical.choose_spec (n_least_ex E g v)).1
theorem n_least_sup (hex : ∃ D, nSup E g D) : nSup E g (nLeast E g) := by
  obtain ⟨D0, h0⟩ := hex
  refine ⟨?_, fun v => ?_, fun v hv hn => ?_⟩
  · have := n_least_le (v := g) h0 (by rw [h0.1]; omega)
    rw [h0.1] at this
    omega
  · exact n_least_m v
  · obtain ⟨D, hD, e⟩ := n_least_is hn
    obtain ⟨u, d, a, b, c⟩ := hD.2.2 v hv (by omega)
    have := n_least_le hD b
    exact ⟨u, d, a, this.1, by omega⟩
theorem n_least_rel (hE : ∀ u v d, E u v d → 1 ≤ d) (hex : ∃ D, nSup E g D) : nRel E (nLeast E g) := by
  intro u v d he hu
  have hs := n_least_sup hex
  have m := hs.2.1 v
  by_cases hv : nLeast E g v = -1 ∨ nLeast E g u + d < nLeast E g v
  · have h2 := n_shorten hE hs he hu hv
    have hd := hE _ _ _ he
    have h3 := n_least_le (v := v) h2 (by
      show 0 ≤ (if v = v then nLeast E g u + d else nLeast E g v)
      rw [if_pos rfl]
      omega)
    replace h3 : 0 ≤ nLeast E g v ∧ nLeast E g v ≤ (if v = v then nLeast E g u + d else nLeast E g v) := h3
    rw [if_pos rfl] at h3
    exact h3
  · omega
end NR
/-! how many rounds: a place's rank is how many are nearer -/
def nRk (F : Nat → Int) (n v : Nat) : Nat := fb_ct (fun x => decide (0 ≤ F x ∧ F x < F v)) n
section RK
variable {E : Nat → Nat → Int → Prop} {g n : Nat} {D F : Nat → Int}
theorem n_rk_lt {u v : Nat} (hu : u < n) (h0 : 0 ≤ F u) (h1 : F u < F v) : nRk F n u < nRk F n v := by
  unfold nRk
  have a := fb_ct_upd (fun x => decide (0 ≤ F x ∧ F x < F u)) true hu
  have b : decide (0 ≤ F u ∧ F u < F u) = false := decide_eq_false (by omega)
  have c := fb_ct_sub (n := n) (p := fun k => if k = u then true else decide (0 ≤ F k ∧ F k < F u)) (q := fun x => decide (0 ≤ F x ∧ F x < F v)) (fun k hk hp => by
    by_cases e : k = u
    · subst e
      exact decide_eq_true ⟨h0, h1⟩
    · replace hp : (if k = u then true else decide (0 ≤ F k ∧ F k < F u)) = true := hp
      rw [if_neg e] at hp
      have := of_decide_eq_true hp
      exact decide_eq_true (by omega))
  simp only [b, if_true, Bool.false_eq_true, if_false] at a
  omega
theorem n_rk_le {v : Nat} (hv : v < n) : nRk F n v < n := by
  unfold nRk
  have a := fb_ct_upd (fun x => decide (0 ≤ F x ∧ F x < F v)) true hv
  have b : decide (0 ≤ F v ∧ F v < F v) = false := decide_eq_false (by omega)
  have c := fb_ct_le (fun k => if k = v then true else decide (0 ≤ F k ∧ F k < F v)) n
  simp only [b, if_true, Bool.false_eq_true, if_false] at a
  omega
/-- all of rank k at most are as in the least row -/
def nDone (F D : Nat → Int) (n k : Nat) : Prop := ∀ v, v < n → 0 ≤ F v → nRk F n v ≤ k → D v = F v
theorem n_done_0 (hE : ∀ u v d, E u v d → 1 ≤ d ∧ u < n) (hF : nSup E g F) (hR : nRel E F) (hD : D g = 0) : nDone F D n 0 := by
  intro v hv h0 hk
  by_cases e : v = g
  · rw [e, hD, hF.1]
  · obtain ⟨u, d, a, b, c⟩ := n_eq hF hR e h0
    have := hE _ _ _ a
    have := n_rk_lt (F := F) (v := v) this.2 b (by omega)
    omega
theorem n_done_step {k : Nat} (hE : ∀ u v d, E u v d → 1 ≤ d ∧ u < n) (hF : nSup E g F) (hR : nRel E F) (hD : nSup E g D) (hs : ∀ u v d, E u v d → 0 ≤ F u → nRk F n u ≤ k → 0 ≤ D v ∧ D v ≤ F u + d) : nDone F D n (k + 1) := by
  intro v hv h0 hk
  by_cases e : v = g
  · rw [e, hD.1, hF.1]
  · obtain ⟨u, d, a, b, c⟩ := n_eq hF hR e h0
    have hu := hE _ _ _ a
    have h1 := n_rk_lt (F := F) (v := v) hu.2 b (by omega)
    obtain ⟨x, y⟩ := hs u v d a b (by omega)
    have := n_low (fun u v d h => (hE u v d h).1) hD hR hF.1 (D v).toNat v (by omega)
    omega
/-- with all ranks done nothing can be shortened -/
theorem n_done_all {k : Nat} (hE : ∀ u v d, E u v d → 1 ≤ d ∧ u < n ∧ v < n) (hF : nSup E g F) (hR : nRel E F) (hD : nSup E g D) (hk : n ≤ k + 1) (hd : nDone F D n k) : nRel E D := by
  have same : ∀ v, v < n → 0 ≤ D v → D v = F v := fun v hv h0 => hd v hv (n_low (fun u v d h => (hE u v d h).1) hD hR hF.1 (D v).toNat v (by omega)).1 (by have := n_rk_le (F := F) hv; omega)
  intro u v d he hu
  obtain ⟨h1, h2, h3⟩ := hE _ _ _ he
  have a := same u h2 hu
  have b := hR u v d he (by omega)
  have c := hd v h3 b.1 (by have := n_rk_le (F := F) h3; omega)
  omega
end RK
/-! one step of a round -/
def nLe (D2 D : Nat → Int) : Prop := ∀ v, 0 ≤ D v → 0 ≤ D2 v ∧ D2 v ≤ D v
section ST
variable {E : Nat → Nat → Int → Prop} {g n k : Nat} {D D2 F : Nat → Int}
theorem nLe.rf : nLe D D := fun v h => ⟨h, Int.le_refl _⟩
theorem nLe.tr {D3 : Nat → Int} (h : nLe D3 D2) (h2 : nLe D2 D) : nLe D3 D := fun v hv => by
  obtain ⟨a, b⟩ := h2 v hv
  obtain ⟨c, d⟩ := h v a
  omega
theorem n_done_mono (hE : ∀ u v d, E u v d → 1 ≤ d) (hF : nSup E g F) (hR : nRel E F) (hD : nSup E g D2) (hle : nLe D2 D) (h : nDone F D n k) : nDone F D2 n k := by
  intro v hv h0 hk
  have a := h v hv h0 hk
  obtain ⟨b, c⟩ := hle v (by omega)
  have := n_low hE hD hR hF.1 (D2 v).toNat v (by omega)
  omega
theorem n_short_le {u v : Nat} {d : Int} (hd : 1 ≤ d) (hu : 0 ≤ D u) (hv : D v = -1 ∨ D u + d < D v) : nLe (fun x => if x = v then D u + d else D x) D := by
  intro x hx
  show 0 ≤ (if x = v then D u + d else D x) ∧ (if x = v then D u + d else D x) ≤ D x
  by_cases e : x = v
  · subst e
    rw [if_pos rfl]
    omega
  · rw [if_neg e]
    omega
/-- what a link that was handled leaves: its far end is no farther than through it, for places of rank k at most -/
def nHan (F : Nat → Int) (n k : Nat) (D : Nat → Int) (u v : Nat) (d : Int) : Prop := 0 ≤ F u → nRk F n u ≤ k → 0 ≤ D v ∧ D v ≤ F u + d
theorem nHan.mono {u v : Nat} {d : Int} (h : nHan F n k D u v d) (hle : nLe D2 D) : nHan F n k D2 u v d := fun h0 hk => by
  obtain ⟨a, b⟩ := h h0 hk
  obtain ⟨c, e⟩ := hle v a
  omega
theorem nHan.of {u v : Nat} {d : Int} (hu : u < n) (hdone : nDone F D n k) (hr : 0 ≤ D u → 0 ≤ D v ∧ D v ≤ D u + d) : nHan F n k D u v d := fun h0 hk => by
  have a := hdone u hu h0 hk
  obtain ⟨b, c⟩ := hr (by omega)
  omega
end ST
/-! Net: the cells 1 (row), 2 firsts, 3 seconds, 4 delays, 5 rooms, 6 up, 8.. rows of distances -/
section NE
variable {τ : TS} {j : Nat}
theorem s_X3_shorten {x1 x2 x3 : Int32} {K : TS → Int32 → Prop} (h1 : 0 ≤ x1.toInt ∧ x1.toInt < 8) (h2 : 0 ≤ x2.toInt ∧ x2.toInt < 8) (h3 : 1 ≤ x3.toInt ∧ x3.toInt ≤ 9) (hb : -1 ≤ (τ j x1.toInt.toNat).toInt) (hb2 : -1 ≤ (τ j x2.toInt.toNat).toInt ∧ (τ j x2.toInt.toNat).toInt ≤ 100000)
    (h0 : ((τ j x2.toInt.toNat).toInt = -1 ∨ 0 ≤ (τ j x1.toInt.toNat).toInt ∧ (τ j x1.toInt.toNat).toInt ≤ (τ j x2.toInt.toNat).toInt + x3.toInt) → K τ 0)
    (hk : ∀ v : Int32, v.toInt = (τ j x2.toInt.toNat).toInt + x3.toInt → 0 ≤ (τ j x2.toInt.toNat).toInt → ((τ j x1.toInt.toNat).toInt = -1 ∨ (τ j x2.toInt.toNat).toInt + x3.toInt < (τ j x1.toInt.toNat).toInt) → K (tp_rw τ j (upd (τ j) x1.toInt.toNat v)) 1) : wp_X3_shorten τ j x1 x2 x3 K := by
  have i1 : vp_in x1 8 := q_in h1.1 h1.2
  have i2 : vp_in x2 8 := q_in h2.1 h2.2
  unfold wp_X3_shorten
  simp only [q_cl]
  generalize ea : τ j x1.toInt.toNat = a at *
  generalize eb : τ j x2.toInt.toNat = b at *
  have hs : b.toInt ≠ -1 → (b + x3).toInt = b.toInt + x3.toInt := by
    intro _
    simp only [q_add]
    omega
  refine ⟨i2, fun c => h0 (Or.inl ?_), fun c => ⟨i1, fun c2 => ⟨i2, i1, fun τ2 e => ?_⟩, fun c2 => ⟨i1, i2, fun c3 => ⟨i2, i1, fun τ2 e => ?_⟩, fun c3 => h0 (Or.inr ?_)⟩⟩⟩
  · rw [c]; rfl
  · have c' : b.toInt ≠ -1 := fun z => c (Int32.toInt_inj.mp z)
    subst e
    exact hk _ (hs c') (by omega) (Or.inl (by rw [c2]; rfl))
  · have c' : b.toInt ≠ -1 := fun z => c (Int32.toInt_inj.mp z)
    subst e
    rw [fa_lt, hs c'] at c3
    exact hk _ (hs c') (by omega) (Or.inr c3)
  · have c' : b.toInt ≠ -1 := fun z => c (Int32.toInt_inj.mp z)
    have c2' : a.toInt ≠ -1 := fun z => c2 (Int32.toInt_inj.mp z)
    rw [fa_lt, hs c'] at c3
    omega
theorem s_X3_farEnd {x1 x2 : Int32} {i : Nat} {K : TS → Int32 → Prop} (h1 : 0 ≤ x1.toInt ∧ x1.toInt < 12)
    (ha : τ 2 x1.toInt.toNat = x2 → K τ (τ 3 x1.toInt.toNat)) (hb : τ 2 x1.toInt.toNat ≠ x2 → τ 3 x1.toInt.toNat = x2 → K τ (τ 2 x1.toInt.toNat)) (hc : τ 2 x1.toInt.toNat ≠ x2 → τ 3 x1.toInt.toNat ≠ x2 → K τ (-1)) : wp_X3_farEnd τ i x1 x2 K := by
  have i1 : vp_in x1 12 := q_in h1.1 h1.2
  unfold wp_X3_farEnd
  simp only [q_cl]
  exact ⟨i1, fun c => ⟨i1, fun c2 => hc c c2, fun c2 => ⟨i1, hb c c2⟩⟩, fun c => ⟨i1, ha c⟩⟩
end NE
/-- a row of distances as whole numbers -/
def nD (r : Nat → Int32) (v : Nat) : Int := if v < 8 then (r v).toInt else -1
theorem nD_in (r : Nat → Int32) {v : Nat} (h : v < 8) : nD r v = (r v).toInt := if_pos h
theorem nD_upd (r : Nat → Int32) {v : Nat} (h : v < 8) (x : Int32) : nD (upd r v x) = fun z => if z = v then x.toInt else nD r z := by
  funext z
  unfold nD
  rw [q_updA]
  by_cases e : z = v
  · subst e
    rw [if_pos h, if_pos rfl, if_pos rfl]
  · rw [if_neg e, if_neg e]
section SH
variable {τ : TS} {j : Nat} {E : Nat → Nat → Int → Prop} {g : Nat} {r : Nat → Int32}
theorem s_short2 {u v : Nat} {w B : Int} {x1 x2 x3 : Int32} {K : TS → Int32 → Prop} (hE : ∀ u v d, E u v d → 1 ≤ d) (hs : nSup E g (nD r)) (he : E u v w) (hu : u < 8) (hv : v < 8) (e1 : x1.toInt = v) (e2 : x2.toInt = u) (e3 : x3.toInt = w) (hw : w ≤ 9) (hB : ∀ z, nD r z ≤ B) (hB2 : B ≤ 50000)
    (hk : ∀ (r' : Nat → Int32) (y : Int32), (y = 0 ∧ r' = r ∨ y = 1) → nSup E g (nD r') → nLe (nD r') (nD r) → (∀ z, nD r' z ≤ B + 9) → (0 ≤ nD r' u → 0 ≤ nD r' v ∧ nD r' v ≤ nD r' u + w) → K (tp_rw τ j r') y) : wp_X3_shorten (tp_rw τ j r) j x1 x2 x3 K := by
  have n1 : x1.toInt.toNat = v := by omega
  have n2 : x2.toInt.toNat = u := by omega
  have du := nD_in r hu
  have dv := nD_in r hv
  have mu := hs.2.1 u
  have mv := hs.2.1 v
  have bu := hB u
  have w1 := hE _ _ _ he
  refine s_X3_shorten (by omega) (by omega) (by omega) ?_ ?_ ?_ ?_
  · rw [q_rws, n1, ← dv]
    exact mv
  · rw [q_rws, n2, ← du]
    omega
  · rw [q_rws, n1, n2, ← du, ← dv]
    intro c
    refine hk r 0 (Or.inl ⟨rfl, rfl⟩) hs nLe.rf (fun z => by have := hB z; omega) (fun h => by omega)
  · rw [q_rws, n1, n2, ← du, ← dv]
    intro x ex h0 c
    rw [q_rwrw]
    have eD : nD (upd r v x) = fun z => if z = v then nD r u + w else nD r z := by
      rw [nD_upd r hv, ex, e3]
    have huv : u ≠ v := by
      intro z
      rw [z] at c h0
      omega
    refine hk _ 1 (Or.inr rfl) ?_ ?_ ?_ ?_
    · rw [eD]
      exact n_shorten hE hs he h0 (by omega)
    · rw [eD]
      exact n_short_le w1 h0 (by omega)
    · intro z
      rw [eD]
      show (if z = v then nD r u + w else nD r z) ≤ B + 9
      have := hB z
      split <;> omega
    · intro _
      rw [eD]
      show 0 ≤ (if v = v then nD r u + w else nD r v) ∧ (if v = v then nD r u + w else nD r v) ≤ (if u = v then nD r u + w else nD r u) + w
      rw [if_pos rfl, if_neg huv]
      omega
end SH
/-- the link l, one way or the other -/
def nEl (f s d : Nat → Int32) (l : Nat) (u v : Nat) (w : Int) : Prop := w = (d l).toInt ∧ ((f l).toInt = u ∧ (s l).toInt = v ∨ (f l).toInt = v ∧ (s l).toInt = u)
/-- the links that are up -/
def nE (f s d up : Nat → Int32) (L : Int) (u v : Nat) (w : Int) : Prop := ∃ l : Nat, (l : Int) < L ∧ up l ≠ 0 ∧ nEl f s d l u v w
/-- what holds of the net's rows -/
def qNet (a f s d rm : Nat → Int32) : Prop :=
  (0 ≤ (a 0).toInt ∧ (a 0).toInt ≤ 8) ∧ (0 ≤ (a 1).toInt ∧ (a 1).toInt ≤ 12) ∧
  ∀ l : Nat, (l : Int) < (a 1).toInt → (0 ≤ (f l).toInt ∧ (f l).toInt < (a 0).toInt) ∧ (0 ≤ (s l).toInt ∧ (s l).toInt < (a 0).toInt) ∧ (1 ≤ (d l).toInt ∧ (d l).toInt ≤ 9) ∧ (1 ≤ (rm l).toInt ∧ (rm l).toInt ≤ 20)
section SP
variable {τ : TS} {j g : Nat} {a f s d rm up : Nat → Int32}
theorem nE_ok (hq : qNet a f s d rm) {u v : Nat} {w : Int} (h : nE f s d up (a 1).toInt u v w) : 1 ≤ w ∧ u < (a 0).toInt.toNat ∧ v < (a 0).toInt.toNat := by
  obtain ⟨l, hl, -, e, h⟩ := h
  obtain ⟨h1, h2, h3, h4⟩ := hq.2.2 l hl
  rcases h with ⟨p, q⟩ | ⟨p, q⟩ <;> omega
theorem nE_sym {L : Int} (u v : Nat) (w : Int) (h : nE f s d up L u v w) : nE f s d up L v u w := by
  obtain ⟨l, hl, hu, e, h⟩ := h
  exact ⟨l, hl, hu, e, h.symm⟩
theorem s_X3_spread {x1 : Int32} {K : TS → Prop} (hj : 8 ≤ j) (ea : τ 1 = a) (ef : τ 2 = f) (es : τ 3 = s) (ed : τ 4 = d) (eu : τ 6 = up) (hq : qNet a f s d rm) (hg : (g : Int) < (a 0).toInt) (hx : x1.toInt = g)
    (hk : ∀ row : Nat → Int32, nSup (nE f s d up (a 1).toInt) g (nD row) → nRel (nE f s d up (a 1).toInt) (nD row) → (∀ z, nD row z ≤ 3000) → K (tp_rw τ j row)) : wp_X3_spread τ 1 x1 (-1) j K := by
  have j1 : (1 : Nat) ≠ j := by omega
  have j2 : (2 : Nat) ≠ j := by omega
  have j3 : (3 : Nat) ≠ j := by omega
  have j4 : (4 : Nat) ≠ j := by omega
  have j6 : (6 : Nat) ≠ j := by omega
  have hEw : ∀ u v w, nE f s d up (a 1).toInt u v w → 1 ≤ w := fun u v w h => (nE_ok hq h).1
  have hq2 := hq
  obtain ⟨hN, hL, hlk⟩ := hq2
  unfold wp_X3_spread
  refine ⟨fun τ2 k => ∃ row, τ2 = tp_rw τ j row ∧ 0 ≤ k.toInt ∧ k.toInt ≤ 8 ∧ ∀ v : Nat, (v : Int) < k.toInt → row v = if v = g then 0 else -1, fun _ k => 8 - k.toInt.toNat, ⟨τ j, (q_rwi τ j).symm, by decide, by decide, fun v hv => absurd hv (by simp only [Int32.reduceToInt]; omega)⟩, ?_⟩
  rintro τ21 x22 ⟨row, rfl, k0, k1, hrow⟩
  have fill : ∀ y : Int32, y = (if x22.toInt.toNat = g then 0 else -1) → x22.toInt < 8 → ∀ τ61 : TS, τ61 = tp_up (tp_rw τ j row) j (Int32.toNatClampNeg x22) y → ∀ x62 : Int32, x62 = x22 + 1 → (∃ row, τ61 = tp_rw τ j row ∧ 0 ≤ x62.toInt ∧ x62.toInt ≤ 8 ∧ ∀ v : Nat, (v : Int) < x62.toInt → row v = if v = g then 0 else -1) ∧ 8 - x62.toInt.toNat < 8 - x22.toInt.toNat := by
    intro y ey h8 τ61 e61 x62 e62
    rw [q_uprw, q_cl] at e61
    subst e61
    have e1 : x62.toInt = x22.toInt + 1 := by
      subst e62
      simp only [fa_lt, fa_le, fa_eq, q_add, q_sub, q_ite, Int32.reduceToInt]
      omega
    refine ⟨⟨_, rfl, by omega, by omega, fun v hv => ?_⟩, by omega⟩
    rw [q_updA]
    by_cases e : v = x22.toInt.toNat
    · rw [if_pos e, ey, e]
    · rw [if_neg e]
      exact hrow v (by omega)
  refine ⟨fun c => ?_, fun c => ?_⟩
  · have k8 : x22.toInt = 8 := by
      simp only [fa_lt, fa_le, fa_eq, q_add, q_sub, q_ite, Int32.reduceToInt] at c
      omega
    have hv8 : ∀ v, v < 8 → nD row v = if v = g then 0 else -1 := by
      intro v hv
      rw [nD_in row hv, hrow v (by omega)]
      split <;> rfl
    have hD0 : nSup (nE f s d up (a 1).toInt) g (nD row) := by
      refine ⟨?_, fun v => ?_, fun v hv h0 => ?_⟩
      · rw [hv8 g (by omega), if_pos rfl]
      · by_cases h : v < 8
        · rw [hv8 v h]
          split <;> omega
        · rw [nD, if_neg h]
          omega
      · exfalso
        by_cases h : v < 8
        · rw [hv8 v h, if_neg hv] at h0
          omega
        · rw [nD, if_neg h] at h0
          omega
    have hb0 : ∀ z, nD row z ≤ 0 := by
      intro v
      by_cases h : v < 8
      · rw [hv8 v h]
        split <;> omega
      · rw [nD, if_neg h]
        omega
    have hF := n_least_sup ⟨_, hD0⟩
    have hFr := n_least_rel hEw ⟨_, hD0⟩
    generalize nLeast (nE f s d up (a 1).toInt) g = F at hF hFr
    have hEn : ∀ u v w, nE f s d up (a 1).toInt u v w → 1 ≤ w ∧ u < (a 0).toInt.toNat := fun u v w h => ⟨(nE_ok hq h).1, (nE_ok hq h).2.1⟩
    refine ⟨fun τ2 ch k => ∃ row, τ2 = tp_rw τ j row ∧ 0 ≤ k.toInt ∧ k.toInt ≤ (a 0).toInt ∧ nSup (nE f s d up (a 1).toInt) g (nD row) ∧ (∀ z, nD row z ≤ 300 * k.toInt) ∧ (ch = 0 → nRel (nE f s d up (a 1).toInt) (nD row)) ∧ nDone F (nD row) (a 0).toInt.toNat k.toInt.toNat, fun _ _ k => (a 0).toInt.toNat - k.toInt.toNat, ⟨row, rfl, by decide, by simp only [Int32.reduceToInt]; omega, hD0, fun z => by simp only [Int32.reduceToInt]; have := hb0 z; omega, fun z => absurd z (by decide), n_done_0 hEn hF hFr hD0.1⟩, ?_⟩
    rintro τ25 x26 x27 ⟨row1, rfl, r0, r1, hS, hB, hrel, hdone⟩
    simp only [q_rwn _ _ _ j1, ea]
    refine ⟨fun c1 => ?_, fun c1 => ⟨fun c2 => ?_, fun c2 => ?_⟩⟩
    · have e : x27.toInt = (a 0).toInt := by
        simp only [fa_lt, fa_le, fa_eq, q_add, q_sub, q_ite, Int32.reduceToInt] at c1
        omega
      exact hk row1 hS (n_done_all (fun u v w h => nE_ok hq h) hF hFr hS (by omega) hdone) (fun z => by have := hB z; omega)
    · exact hk row1 hS (hrel c2) (fun z => by have := hB z; omega)
    · have hlt : x27.toInt < (a 0).toInt := by
        simp only [fa_lt, fa_le, fa_eq, q_add, q_sub, q_ite, Int32.reduceToInt] at c1
        omega
      refine ⟨fun τ3 ch l => ∃ row2, τ3 = tp_rw τ j row2 ∧ (ch = 0 ∨ ch = 1) ∧ 0 ≤ l.toInt ∧ l.toInt ≤ (a 1).toInt ∧ nSup (nE f s d up (a 1).toInt) g (nD row2) ∧ (∀ z, nD row2 z ≤ 300 * x27.toInt + 18 * l.toInt) ∧ nDone F (nD row2) (a 0).toInt.toNat x27.toInt.toNat ∧ ∀ l' : Nat, (l' : Int) < l.toInt → up l' ≠ 0 → ∀ u v w, nEl f s d l' u v w → nHan F (a 0).toInt.toNat x27.toInt.toNat (nD row2) u v w ∧ (ch = 0 → 0 ≤ nD row2 u → 0 ≤ nD row2 v ∧ nD row2 v ≤ nD row2 u + w), fun _ _ l => 12 - l.toInt.toNat, ⟨row1, rfl, Or.inl rfl, by decide, by simp only [Int32.reduceToInt]; omega, hS, fun z => by simp only [Int32.reduceToInt]; have := hB z; omega, hdone, fun l' h => absurd h (by simp only [Int32.reduceToInt]; omega)⟩, ?_⟩
      rintro τ31 x32 x33 ⟨row2, rfl, hch2, l0, l1, hS2, hB2, hd2, hl2⟩
      simp only [q_rwn _ _ _ j1, q_rwn _ _ _ j2, q_rwn _ _ _ j3, q_rwn _ _ _ j4, q_rwn _ _ _ j6, ea, ef, es, ed, eu]
      refine ⟨fun c3 x36 e36 => ?_, fun c3 => ?_⟩
      · have e : x33.toInt = (a 1).toInt := by
          simp only [fa_lt, fa_le, fa_eq, q_add, q_sub, q_ite, Int32.reduceToInt] at c3
          omega
        have e1 : x36.toInt = x27.toInt + 1 := by
          subst e36
          simp only [fa_lt, fa_le, fa_eq, q_add, q_sub, q_ite, Int32.reduceToInt]
          omega
        refine ⟨⟨row2, rfl, by omega, by omega, hS2, fun z => by have := hB2 z; omega, fun cz u v w he h0 => ?_, ?_⟩, by omega⟩
        · obtain ⟨l', hl', hu', h'⟩ := he
          exact (hl2 l' (by omega) hu' u v w h').2 cz h0
        · rw [show x36.toInt.toNat = x27.toInt.toNat + 1 by omega]
          refine n_done_step hEn hF hFr hS2 (fun u v w he h0 hr => ?_)
          obtain ⟨l', hl', hu', h'⟩ := he
          exact (hl2 l' (by omega) hu' u v w h').1 h0 hr
      · have hl : x33.toInt < (a 1).toInt := by
          simp only [fa_lt, fa_le, fa_eq, q_add, q_sub, q_ite, Int32.reduceToInt] at c3
          omega
        have i33 : vp_in x33 12 := q_in l0 (by omega)
        have hln : ((x33.toInt.toNat : Nat) : Int) = x33.toInt := by omega
        obtain ⟨lf, ls, ld, lr⟩ := hlk x33.toInt.toNat (by omega)
        simp only [q_cl]
        refine ⟨i33, fun c4 x39 e39 => ?_, fun c4 => ⟨fun c5 => ?_, fun c5 => ⟨i33, i33, i33, ?_⟩⟩⟩
        · have e1 : x39.toInt = x33.toInt + 1 := by
            subst e39
            simp only [fa_lt, fa_le, fa_eq, q_add, q_sub, q_ite, Int32.reduceToInt]
            omega
          refine ⟨⟨row2, rfl, hch2, by omega, by omega, hS2, fun z => by have := hB2 z; omega, hd2, fun l' h hu => ?_⟩, by omega⟩
          by_cases e : l' = x33.toInt.toNat
          · exact absurd (e ▸ c4) hu
          · exact hl2 l' (by omega) hu
        · exfalso
          rw [c5] at l0
          simp only [Int32.reduceToInt] at l0
          omega
        · have hup : up x33.toInt.toNat ≠ 0 := c4
          have ed1 : nE f s d up (a 1).toInt (s x33.toInt.toNat).toInt.toNat (f x33.toInt.toNat).toInt.toNat (d x33.toInt.toNat).toInt := ⟨_, by omega, hup, rfl, Or.inr ⟨by omega, by omega⟩⟩
          have ed2 := nE_sym _ _ _ ed1
          refine s_short2 hEw hS2 ed1 (by omega) (by omega) (by omega) (by omega) rfl ld.2 hB2 (by omega) (fun r1 y1 hy1 hs1 hle1 hb1 hr1 => ?_)
          simp only [q_rwn _ _ _ j2, q_rwn _ _ _ j3, q_rwn _ _ _ j4, ef, es, ed]
          refine ⟨i33, i33, i33, s_short2 hEw hs1 ed2 (by omega) (by omega) (by omega) (by omega) rfl ld.2 hb1 (by omega) (fun r2 y2 hy2 hs2 hle2 hb2 hr2 => ?_)⟩
          have fin : ∀ ch' : Int32, (ch' = 0 → x32 = 0 ∧ r1 = row2 ∧ r2 = r1) → (ch' = 0 ∨ ch' = 1) → ∀ x : Int32, x = x33 + 1 → (∃ row3, tp_rw τ j r2 = tp_rw τ j row3 ∧ (ch' = 0 ∨ ch' = 1) ∧ 0 ≤ x.toInt ∧ x.toInt ≤ (a 1).toInt ∧ nSup (nE f s d up (a 1).toInt) g (nD row3) ∧ (∀ z, nD row3 z ≤ 300 * x27.toInt + 18 * x.toInt) ∧ nDone F (nD row3) (a 0).toInt.toNat x27.toInt.toNat ∧ ∀ l' : Nat, (l' : Int) < x.toInt → up l' ≠ 0 → ∀ u v w, nEl f s d l' u v w → nHan F (a 0).toInt.toNat x27.toInt.toNat (nD row3) u v w ∧ (ch' = 0 → 0 ≤ nD row3 u → 0 ≤ nD row3 v ∧ nD row3 v ≤ nD row3 u + w)) ∧ 12 - x.toInt.toNat < 12 - x33.toInt.toNat := by
            intro ch' hz hch' x ex
            have e1 : x.toInt = x33.toInt + 1 := by
              subst ex
              simp only [fa_lt, fa_le, fa_eq, q_add, q_sub, q_ite, Int32.reduceToInt]
              omega
            have hd1 := n_done_mono hEw hF hFr hs1 hle1 hd2
            have hd3 := n_done_mono hEw hF hFr hs2 hle2 hd1
            refine ⟨⟨r2, rfl, hch', by omega, by omega, hs2, fun z => by have := hb2 z; omega, hd3, fun l' h hu u v w hel => ?_⟩, by omega⟩
            by_cases e : l' = x33.toInt.toNat
            · subst e
              obtain ⟨ew, hel⟩ := hel
              rcases hel with ⟨p1, p2⟩ | ⟨p1, p2⟩
              · have q1 : (f x33.toInt.toNat).toInt.toNat = u := by omega
                have q2 : (s x33.toInt.toNat).toInt.toNat = v := by omega
                rw [q1, q2, ← ew] at hr2
                exact ⟨nHan.of (by omega) hd3 hr2, fun _ => hr2⟩
              · have q1 : (f x33.toInt.toNat).toInt.toNat = v := by omega
                have q2 : (s x33.toInt.toNat).toInt.toNat = u := by omega
                rw [q1, q2, ← ew] at hr1
                refine ⟨(nHan.of (by omega) hd1 hr1).mono hle2, fun z => ?_⟩
                rw [(hz z).2.2]
                exact hr1
            · obtain ⟨g1, g2⟩ := hl2 l' (by omega) hu u v w hel
              refine ⟨(g1.mono hle1).mono hle2, fun z => ?_⟩
              obtain ⟨z1, z2, z3⟩ := hz z
              rw [z3, z2]
              exact g2 z1
          have one : ((1 : Int32) = 0 → x32 = 0 ∧ r1 = row2 ∧ r2 = r1) := fun z => absurd z (by decide)
          have h1 : y1 = 0 → r1 = row2 := fun z => by
            rcases hy1 with h | h
            · exact h.2
            · rw [h] at z
              exact absurd z (by decide)
          have h2 : y2 = 0 → r2 = r1 := fun z => by
            rcases hy2 with h | h
            · exact h.2
            · rw [h] at z
              exact absurd z (by decide)
          have f1 := fin 1 one (Or.inr rfl)
          refine ⟨fun _ => ?_, fun cx => ⟨fun _ => ?_, fun cy => ⟨fun cz => ?_, fun _ => ?_⟩⟩⟩
          · simpa only [eq_self] using f1
          · simpa only [eq_self] using f1
          · simpa only [eq_self] using fin 0 (fun _ => ⟨cx, h1 cy, h2 cz⟩) (Or.inl rfl)
          · simpa only [eq_self] using f1
  · have h8 : x22.toInt < 8 := by
      simp only [fa_lt, fa_le, fa_eq, q_add, q_sub, q_ite, Int32.reduceToInt] at c
      omega
    have i22 : vp_in x22 8 := q_in k0 (by omega)
    refine ⟨fun c2 => ⟨i22, fill (-1) ?_ h8⟩, fun c2 => ⟨i22, fill 0 ?_ h8⟩⟩
    · rw [if_neg]
      intro e
      exact c2 (Int32.toInt_inj.mp (by omega))
    · rw [if_pos]
      rw [c2, hx]
      omega
end SP
section MR
variable {τ : TS} {a f s d rm up : Nat → Int32}
/-- the rows of distances are the least sums, for the first n goals -/
def qRows (τ : TS) (E : Nat → Nat → Int → Prop) (n : Int) : Prop := ∀ g : Nat, (g : Int) < n → nSup E g (nD (τ (8 + g))) ∧ nRel E (nD (τ (8 + g))) ∧ ∀ z, nD (τ (8 + g)) z ≤ 3000
theorem s_X3_measureRoutes {K : TS → Prop} (ea : τ 1 = a) (ef : τ 2 = f) (es : τ 3 = s) (ed : τ 4 = d) (eu : τ 6 = up) (hq : qNet a f s d rm)
    (hk : ∀ τ2 : TS, (∀ i, i < 8 ∨ 16 ≤ i → τ2 i = τ i) → qRows τ2 (nE f s d up (a 1).toInt) (a 0).toInt → K τ2) : wp_X3_measureRoutes τ 1 K := by
  have hN := hq.1
  unfold wp_X3_measureRoutes
  refine ⟨fun τ2 k => 0 ≤ k.toInt ∧ k.toInt ≤ (a 0).toInt ∧ (∀ i, i < 8 ∨ 16 ≤ i → τ2 i = τ i) ∧ qRows τ2 (nE f s d up (a 1).toInt) k.toInt, fun _ k => 8 - k.toInt.toNat, ⟨by decide, by simp only [Int32.reduceToInt]; omega, fun _ _ => rfl, fun g h => absurd h (by simp only [Int32.reduceToInt]; omega)⟩, ?_⟩
  rintro τ21 x22 ⟨k0, k1, hfr, hrows⟩
  have h1 : τ21 1 = a := by rw [hfr 1 (Or.inl (by decide)), ea]
  have h2 : τ21 2 = f := by rw [hfr 2 (Or.inl (by decide)), ef]
  have h3 : τ21 3 = s := by rw [hfr 3 (Or.inl (by decide)), es]
  have h4 : τ21 4 = d := by rw [hfr 4 (Or.inl (by decide)), ed]
  have h6 : τ21 6 = up := by rw [hfr 6 (Or.inl (by decide)), eu]
  rw [h1]
  refine ⟨fun c => hk τ21 hfr ?_, fun c => ?_⟩
  · have e : (a 0).toInt = x22.toInt := by
      simp only [fa_lt, fa_le, fa_eq, q_add, q_sub, q_ite, Int32.reduceToInt] at c
      omega
    rw [e]
    exact hrows
  · have hlt : x22.toInt < (a 0).toInt := by
      simp only [fa_lt, fa_le, fa_eq, q_add, q_sub, q_ite, Int32.reduceToInt] at c
      omega
    refine ⟨q_in k0 (by omega), ?_⟩
    rw [q_cl]
    refine s_X3_spread (g := x22.toInt.toNat) (by omega) h1 h2 h3 h4 h6 hq (by omega) (by omega) (fun row g1 g2 g3 x27 e27 => ?_)
    have e1 : x27.toInt = x22.toInt + 1 := by
      subst e27
      simp only [fa_lt, fa_le, fa_eq, q_add, q_sub, q_ite, Int32.reduceToInt]
      omega
    refine ⟨⟨by omega, by omega, fun i hi => ?_, fun g hg => ?_⟩, ?_⟩
    · rw [q_rwn _ _ _ (by omega)]
      exact hfr i hi
    · by_cases e : g = x22.toInt.toNat
      · subst e
        rw [q_rws]
        exact ⟨g1, g2, g3⟩
      · rw [q_rwn _ _ _ (by omega)]
        exact hrows g (by omega)
    · show 8 - x27.toInt.toNat < 8 - x22.toInt.toNat
      omega
end MR
section LW
variable {τ : TS} {a f s d rm up : Nat → Int32}
/-- the link l goes on from the node v towards the goal of the row D -/
def nGo (f s d up : Nat → Int32) (D : Nat → Int) (l v : Nat) : Prop := up l ≠ 0 ∧ ∃ (u : Nat) (w : Int), nEl f s d l v u w ∧ 0 ≤ D u ∧ D u + w = D v
theorem s_X3_linkTowards {x1 x2 : Int32} {v g : Nat} {K : TS → Int32 → Prop} (ea : τ 1 = a) (ef : τ 2 = f) (es : τ 3 = s) (ed : τ 4 = d) (eu : τ 6 = up) (hq : qNet a f s d rm) (hr : qRows τ (nE f s d up (a 1).toInt) (a 0).toInt) (e1 : x1.toInt = v) (hv : (v : Int) < (a 0).toInt) (e2 : x2.toInt = g) (hg : (g : Int) < (a 0).toInt)
    (h0 : (∀ l : Nat, (l : Int) < (a 1).toInt → ¬ nGo f s d up (nD (τ (8 + g))) l v) → K τ (-1))
    (h1 : ∀ x : Int32, 0 ≤ x.toInt → x.toInt < (a 1).toInt → nGo f s d up (nD (τ (8 + g))) x.toInt.toNat v → K τ x) : wp_X3_linkTowards τ 1 x1 x2 K := by
  obtain ⟨hN, hL, hlk⟩ := id hq
  obtain ⟨hS, hR, hB⟩ := hr g hg
  have ng : x2.toInt.toNat = g := by omega
  have nv : x1.toInt.toNat = v := by omega
  unfold wp_X3_linkTowards
  refine ⟨q_in (by omega) (by omega), fun τ2 k => τ2 = τ ∧ 0 ≤ k.toInt ∧ k.toInt ≤ (a 1).toInt ∧ ∀ l : Nat, (l : Int) < k.toInt → ¬ nGo f s d up (nD (τ (8 + g))) l v, fun _ k => 12 - k.toInt.toNat, ⟨rfl, by decide, by simp only [Int32.reduceToInt]; omega, fun l h => absurd h (by simp only [Int32.reduceToInt]; omega)⟩, ?_⟩
  rintro τ22 x23 ⟨rfl, k0, k1, hno⟩
  rw [ea]
  refine ⟨fun c => h0 (fun l hl => hno l (by simp only [fa_lt, fa_le, fa_eq, q_add, q_sub, q_ite, Int32.reduceToInt] at c; omega)), fun c => ?_⟩
  have hlt : x23.toInt < (a 1).toInt := by
    simp only [fa_lt, fa_le, fa_eq, q_add, q_sub, q_ite, Int32.reduceToInt] at c
    omega
  have i23 : vp_in x23 12 := q_in k0 (by omega)
  obtain ⟨lf, ls, ld, lr⟩ := hlk x23.toInt.toNat (by omega)
  simp only [q_cl, ng, nv, ed, eu]
  have next : ¬ nGo f s d up (nD (τ22 (8 + g))) x23.toInt.toNat v → ∀ x : Int32, x = x23 + 1 → (True ∧ 0 ≤ x.toInt ∧ x.toInt ≤ (a 1).toInt ∧ ∀ l : Nat, (l : Int) < x.toInt → ¬ nGo f s d up (nD (τ22 (8 + g))) l v) ∧ 12 - x.toInt.toNat < 12 - x23.toInt.toNat := by
    intro hn x ex
    have e : x.toInt = x23.toInt + 1 := by
      subst ex
      simp only [fa_lt, fa_le, fa_eq, q_add, q_sub, q_ite, Int32.reduceToInt]
      omega
    refine ⟨⟨trivial, by omega, by omega, fun l hl => ?_⟩, by omega⟩
    by_cases q : l = x23.toInt.toNat
    · subst q; exact hn
    · exact hno l (by omega)
  refine ⟨i23, fun τ28 x29 => τ28 = τ22 ∧ ((x29 = -1 ∧ ∀ u w, up x23.toInt.toNat ≠ 0 → ¬ nEl f s d x23.toInt.toNat v u w) ∨ (up x23.toInt.toNat ≠ 0 ∧ 0 ≤ x29.toInt ∧ x29.toInt < (a 0).toInt ∧ nEl f s d x23.toInt.toNat v x29.toInt.toNat (d x23.toInt.toNat).toInt ∧ ∀ u w, nEl f s d x23.toInt.toNat v u w → u = x29.toInt.toNat ∧ w = (d x23.toInt.toNat).toInt)), ?_, ?_, ?_⟩
  · rintro τ28 x29 ⟨rfl, hx⟩
    simp only [ed]
    rcases hx with ⟨rfl, hx⟩ | ⟨hu, y0, y1, hx, hone⟩
    · exact ⟨fun _ => next (fun ⟨p, u, w, q, _⟩ => hx u w p q), fun z => absurd rfl z⟩
    · have d29 := nD_in (τ28 (8 + g)) (v := x29.toInt.toNat) (by omega)
      have dv := nD_in (τ28 (8 + g)) (v := v) (by omega)
      have b29 := hB x29.toInt.toNat
      have m29 := hS.2.1 x29.toInt.toNat
      have i29 : vp_in x29 8 := q_in y0 (by omega)
      refine ⟨fun z => ?_, fun _ => ⟨i29, fun z => next ?_, fun z => ⟨i29, i23, q_in (by omega) (by omega), fun z2 => next ?_, fun z2 => h1 x23 k0 hlt ⟨hu, _, _, hx, ?_, ?_⟩⟩⟩⟩
      · rw [z] at y0
        simp only [Int32.reduceToInt] at y0
        omega
      · rintro ⟨-, u, w, q, q2, -⟩
        obtain ⟨rfl, -⟩ := hone u w q
        rw [d29, z] at q2
        simp only [Int32.reduceToInt] at q2
        omega
      · rintro ⟨-, u, w, q, q2, q3⟩
        obtain ⟨rfl, rfl⟩ := hone u w q
        refine z2 (Int32.toInt_inj.mp ?_)
        rw [d29] at b29 q2 q3
        rw [dv] at q3
        simp only [q_add]
        omega
      · rw [d29] at m29 ⊢
        have : (τ28 (8 + g) x29.toInt.toNat).toInt ≠ -1 := fun y => z (Int32.toInt_inj.mp y)
        omega
      · have z3 : (τ28 (8 + g) x29.toInt.toNat).toInt ≠ -1 := fun y => z (Int32.toInt_inj.mp y)
        have z4 := congrArg Int32.toInt z2
        rw [d29] at b29 m29
        rw [d29, dv, ← z4]
        simp only [q_add]
        omega
  · intro z
    exact ⟨rfl, Or.inl ⟨rfl, fun u w p => absurd z p⟩⟩
  · intro z
    refine s_X3_farEnd ⟨k0, by omega⟩ (fun p => ?_) (fun p q => ?_) (fun p q => ?_)
    · rw [ef] at p
      rw [es]
      have p' := congrArg Int32.toInt p
      refine ⟨rfl, Or.inr ⟨z, ls.1, ls.2, ⟨rfl, Or.inl ⟨by omega, by omega⟩⟩, fun u w h => ?_⟩⟩
      obtain ⟨hw, h⟩ := h
      exact ⟨by omega, hw⟩
    · rw [ef] at p ⊢
      rw [es] at q
      have p' : (f x23.toInt.toNat).toInt ≠ x1.toInt := fun y => p (Int32.toInt_inj.mp y)
      have q' := congrArg Int32.toInt q
      refine ⟨rfl, Or.inr ⟨z, lf.1, lf.2, ⟨rfl, Or.inr ⟨by omega, by omega⟩⟩, fun u w h => ?_⟩⟩
      obtain ⟨hw, h⟩ := h
      exact ⟨by omega, hw⟩
    · rw [ef] at p
      rw [es] at q
      have p' : (f x23.toInt.toNat).toInt ≠ x1.toInt := fun y => p (Int32.toInt_inj.mp y)
      have q' : (s x23.toInt.toNat).toInt ≠ x1.toInt := fun y => q (Int32.toInt_inj.mp y)
      refine ⟨rfl, Or.inl ⟨rfl, fun u w _ h => ?_⟩⟩
      obtain ⟨hw, h⟩ := h
      omega
end LW
