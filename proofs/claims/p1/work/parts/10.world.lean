/-! The world of one TidePost: its 234 cells, of one TidePostModel, its 269 cells, and of the law's out; each at a fixed place; what changes is ints alone (a long is two of them).
w = (addresses, launch, array classes, class numbers, slot numbers); τ i k: the int in slot (or element) k of the cell i. -/
abbrev TS : Type := Nat → Nat → Int32
abbrev WPar : Type := (Nat → Nat) × Launch × (Nat → ClassId) × (Nat → ClassId) × (Nat → Nat → Nat) × Nat
abbrev Cxt : Type := Program × Env × Room × State × MethodId × Array Value × List Frame × Method × Code × (State → Prop) × Nat
/-- how many cells there are: 504, and one row of a digest once it is made -/
def tp_N (w : WPar) : Nat := w.2.2.2.2.2
def tp_kd (i : Nat) : Nat :=
  if i < 17 then (if i = 0 then 7 else if i = 1 then 3 else if i < 6 then 11 else if i = 6 then 12 else if i = 7 then 14 else 13)
  else if i < 227 then (let j := (i - 17) % 105
    if j = 0 then 5 else if j = 1 then 15 else if j = 2 then 16
    else if j < 75 then (if j % 3 = 0 then 6 else if j % 3 = 1 then 8 else 9)
    else if j % 5 = 0 then 2 else if j % 5 = 1 then 1 else if j % 5 = 2 then 4 else if j % 5 = 3 then 0 else 10)
  else if i = 227 then 17 else if i < 234 then 18 else if i = 234 then 20 else if i < 239 then 11
  else if i < 503 then (let j := (i - 239) % 132
    if j = 0 then 21 else if j = 1 then 12 else if j = 2 then 22 else if j < 11 then 13 else if j = 11 then 23 else if j = 12 then 24
    else if j < 15 then 25 else if j = 15 then 26 else if j < 22 then 27 else if j = 22 then 28 else if j < 29 then 18 else if j = 29 then 29
    else if j < 36 then 30 else if (j - 36) % 2 = 0 then 31 else 32)
  else if i = 503 then 33 else 19
/-- a long out of two ints, and back -/
def tp_jl (a b : Int32) : Int64 := Int64.ofBitVec (a.toBitVec ++ b.toBitVec)
def tp_hi (v : Int64) : Int32 := Int32.ofBitVec (v.toBitVec.extractLsb' 32 32)
def tp_lo (v : Int64) : Int32 := Int32.ofBitVec (v.toBitVec.extractLsb' 0 32)
theorem tp_jl_hl (v : Int64) : tp_jl (tp_hi v) (tp_lo v) = v := by
  unfold tp_jl tp_hi tp_lo
  apply Int64.toBitVec_inj.mp
  show (v.toBitVec.extractLsb' 32 32 ++ v.toBitVec.extractLsb' 0 32 : BitVec 64) = v.toBitVec
  apply BitVec.eq_of_getLsbD_eq
  intro i hi
  rw [BitVec.getLsbD_append]
  by_cases h : i < 32
  · simp [h]
  · simp [h]
    rw [show 32 + (i - 32) = i by omega, decide_eq_true (show i - 32 < 32 by omega), Bool.true_and]
def tp_rs (f : Nat → Option Nat) : vp_A → Prop := fun _ => True
/-- what the cell i holds -/
def tp_E (w : WPar) (i : Nat) (f : Nat → Int32) : va_E := match tp_kd i with
  | 0 => .inr (0, [.int (f 0), .int (f 1), .int (f 2), .ref (w.1 (i + 1))])
  | 1 => .inr (1, [.int (f 0), .int (f 1), .int (f 2), .int (f 3), .int (f 4), .int (f 5), .int (f 6), .int (f 7), .int (f 8), .int (f 9), .int (f 10), .int (f 11), .int (f 12), .ref (w.1 (i + 1))])
  | 2 => .inr (2, [.int (f 0), .int (f 1), .ref (w.1 (i + 1)), .ref (w.1 (i + 3))])
  | 3 => .inr (3, [.int (f 0), .int (f 1), .ref (w.1 2), .ref (w.1 3), .ref (w.1 4), .ref (w.1 5), .ref (w.1 6), .ref (w.1 7), .ref (w.1 16)])
  | 4 => .inr (4, [.int (f 0), .int (f 1), .int (f 2), .int (f 3), .int (f 4)])
  | 5 => .inr (5, [.ref (w.1 1), .ref (w.1 (i + 1)), .ref (w.1 (i + 2)), .int (f 3), .int (f 4), .int (f 5)])
  | 6 => .inr (6, [.ref (w.1 (i + 1)), .int (f 1), .int (f 2), .ref (w.1 (i + 2)), .int (f 4), .int (f 5), .int (f 6)])
  | 7 => .inr (7, [.ref (w.1 1), .ref (w.1 17), .ref (w.1 122), .ref (w.1 227)])
  | 8 => .inl (w.2.2.1 0, 20, .inl f)
  | 9 => .inl (w.2.2.1 0, 10, .inl f)
  | 10 => .inl (w.2.2.1 1, 201, .inl f)
  | 11 => .inl (w.2.2.1 0, 12, .inl f)
  | 12 => .inl (w.2.2.1 1, 12, .inl f)
  | 13 => .inl (w.2.2.1 0, 8, .inl f)
  | 14 => .inl (w.2.2.1 4, 8, .inr (.inr (.inr (.inr (fun j => if j < 8 then some (w.1 (8 + j)) else none)))))
  | 15 => .inl (w.2.2.1 2, 24, .inr (.inr (.inr (.inr (fun j => if j < 24 then some (w.1 (i + 2 + 3 * j)) else none)))))
  | 16 => .inl (w.2.2.1 3, 6, .inr (.inr (.inr (.inr (fun j => if j < 6 then some (w.1 (i + 73 + 5 * j)) else none)))))
  | 17 => .inl (w.2.2.1 4, 6, .inr (.inr (.inr (.inr (fun j => if j < 6 then some (w.1 (228 + j)) else none)))))
  | 18 => .inl (w.2.2.1 0, 200, .inl f)
  | 20 => .inr (10, [.int (f 0), .int (f 1), .int (f 2), .ref (w.1 235), .ref (w.1 236), .ref (w.1 237), .ref (w.1 238), .ref (w.1 239), .ref (w.1 371), .long (tp_jl (f 9) (f 10))])
  | 21 => .inr (9, [.int (f 0), .int (f 1), .int (f 2), .ref (w.1 (i + 1)), .ref (w.1 (i + 2)), .ref (w.1 (i + 11)), .ref (w.1 (i + 12)), .ref (w.1 (i + 13)), .ref (w.1 (i + 14)), .ref (w.1 (i + 15)), .ref (w.1 (i + 22)), .ref (w.1 (i + 29)), .ref (w.1 234)])
  | 22 => .inl (w.2.2.1 4, 8, .inr (.inr (.inr (.inr (fun j => if j < 8 then some (w.1 (i + 1 + j)) else none)))))
  | 23 => .inl (w.2.2.1 5, 24, .inr (.inr (.inr (.inr (fun j => if j < 24 then some (w.1 (i + 25 + 4 * j)) else none)))))
  | 24 => .inl (w.2.2.1 5, 24, .inr (.inr (.inr (.inr (fun j => if j < 24 then some (w.1 (i + 26 + 4 * j)) else none)))))
  | 25 => .inl (w.2.2.1 0, 24, .inl f)
  | 26 => .inl (w.2.2.1 4, 6, .inr (.inr (.inr (.inr (fun j => if j < 6 then some (w.1 (i + 1 + j)) else none)))))
  | 27 => .inl (w.2.2.1 0, 23, .inl f)
  | 28 => .inl (w.2.2.1 4, 6, .inr (.inr (.inr (.inr (fun j => if j < 6 then some (w.1 (i + 1 + j)) else none)))))
  | 29 => .inl (w.2.2.1 6, 6, .inr (.inr (.inr (.inr (fun j => if j < 6 then some (w.1 (i + 1 + j)) else none)))))
  | 30 => .inl (w.2.2.1 1, 202, .inl f)
  | 31 => .inr (8, [.ref (w.1 (i + 1)), .int (f 1)])
  | 32 => .inl (w.2.2.1 0, 120, .inl f)
  | 33 => .inl (w.2.2.1 7, 1, .inr (.inl (fun j => tp_jl (f (2 * j)) (f (2 * j + 1)))))
  | _ => .inl (w.2.2.1 0, 6, .inl f)
abbrev tp_tys (w : WPar) : List (ClassId × FieldType) := [(w.2.2.1 0, .int), (w.2.2.1 1, .boolean), (w.2.2.1 2, .object "TidePost$Way"), (w.2.2.1 3, .object "TidePost$Connection"), (w.2.2.1 4, .array .int), (w.2.2.1 5, .object "TidePostModel$Row"), (w.2.2.1 6, .array .boolean), (w.2.2.1 7, .long)]
def tp_W (w : WPar) (τ : TS) : va_W := (List.range (tp_N w)).map (fun i => (w.1 i, tp_E w i (τ i)))
abbrev tp_D (w : WPar) : va_G := (w.2.2.2.1, w.2.2.2.2.1)
def tp_inj (w : WPar) : Prop := ∀ i j, i < tp_N w → j < tp_N w → w.1 i = w.1 j → i = j
def tp_A (w : WPar) (sz : Nat) : Nat → Prop := fun q => (∃ i, i < tp_N w ∧ q = w.1 i) ∨ sz ≤ q
/-- the cell i holds the row f -/
def tp_rw (τ : TS) (i : Nat) (f : Nat → Int32) : TS := fun a => if a = i then f else τ a
/-- slot k of the cell i holds v -/
def tp_up (τ : TS) (i k : Nat) (v : Int32) : TS := tp_rw τ i (upd (τ i) k v)
theorem tp_at {w : WPar} {τ : TS} {i : Nat} (hi : i < tp_N w) : (tp_W w τ)[i]? = some (w.1 i, tp_E w i (τ i)) := by
  simp [tp_W, List.getElem?_map, List.getElem?_range hi]
theorem tp_set {w : WPar} {τ : TS} {i : Nat} (f : Nat → Int32) (hi : i < tp_N w) : (tp_W w τ).set i (w.1 i, tp_E w i f) = tp_W w (tp_rw τ i f) := by
  apply List.ext_getElem?
  intro j
  rw [List.getElem?_set]
  by_cases hj : j < tp_N w
  · by_cases e : i = j
    · subst e
      rw [tp_at hi]
      simp [tp_W, tp_rw, hi]
    · rw [if_neg e, tp_at hj, tp_at hj]
      simp [tp_rw, Ne.symm e]
  · have h1 : ∀ τ' : TS, (tp_W w τ')[j]? = none := fun τ' => List.getElem?_eq_none (by simp [tp_W]; omega)
    rw [h1, h1, if_neg (by omega)]
theorem tp_Dd {w : WPar} {τ : TS} {sz : Nat} (h : tp_inj w) : va_D (tp_A w sz) (tp_W w τ) := by
  have hk : ∀ (k : Nat) (q : Nat × va_E), (tp_W w τ)[k]? = some q → k < tp_N w ∧ q.1 = w.1 k := fun k q hq => by
    have hl : k < tp_N w := by
      rcases Nat.lt_or_ge k (tp_N w) with h2 | h2
      · exact h2
      · rw [List.getElem?_eq_none (by simp [tp_W]; omega)] at hq
        cases hq
    rw [tp_at hl] at hq
    cases hq
    exact ⟨hl, rfl⟩
  refine ⟨fun i j p q hi hj hpq => ?_, fun k q hq => ?_⟩
  · obtain ⟨h1, h2⟩ := hk i p hi
    obtain ⟨h3, h4⟩ := hk j q hj
    exact h i j h1 h3 (by rw [← h2, ← h4, hpq])
  · obtain ⟨h1, h2⟩ := hk k q hq
    exact Or.inl ⟨k, h1, h2⟩
theorem tp_same {w : WPar} {sz sz' : Nat} (h : sz ≤ sz') : ∀ q, tp_A w sz' q → tp_A w sz q := fun q hq => hq.elim Or.inl (fun h2 => Or.inr (Nat.le_trans h h2))
theorem tp_old {w : WPar} {sz0 sz : Nat} : ∀ q, q < sz → tp_A w sz q → tp_A w sz0 q := fun q hq h => h.elim Or.inl (fun h2 => absurd hq (Nat.not_lt.mpr h2))

theorem tE0 {w : WPar} {i : Nat} {f : Nat → Int32} (h : tp_kd i = 0) : tp_E w i f = .inr (0, [.int (f 0), .int (f 1), .int (f 2), .ref (w.1 (i + 1))]) := by simp only [tp_E, h]
theorem tS0_0 {w : WPar} {i : Nat} {f : Nat → Int32} (h : tp_kd i = 0) (v : Int32) : ((.inr (0, List.set [.int (f 0), .int (f 1), .int (f 2), .ref (w.1 (i + 1))] 0 (.int v))) : va_E) = tp_E w i (upd f 0 v) := by rw [tE0 h]; simp [upd, List.set]
theorem tS0_1 {w : WPar} {i : Nat} {f : Nat → Int32} (h : tp_kd i = 0) (v : Int32) : ((.inr (0, List.set [.int (f 0), .int (f 1), .int (f 2), .ref (w.1 (i + 1))] 1 (.int v))) : va_E) = tp_E w i (upd f 1 v) := by rw [tE0 h]; simp [upd, List.set]
theorem tS0_2 {w : WPar} {i : Nat} {f : Nat → Int32} (h : tp_kd i = 0) (v : Int32) : ((.inr (0, List.set [.int (f 0), .int (f 1), .int (f 2), .ref (w.1 (i + 1))] 2 (.int v))) : va_E) = tp_E w i (upd f 2 v) := by rw [tE0 h]; simp [upd, List.set]
theorem tE1 {w : WPar} {i : Nat} {f : Nat → Int32} (h : tp_kd i = 1) : tp_E w i f = .inr (1, [.int (f 0), .int (f 1), .int (f 2), .int (f 3), .int (f 4), .int (f 5), .int (f 6), .int (f 7), .int (f 8), .int (f 9), .int (f 10), .int (f 11), .int (f 12), .ref (w.1 (i + 1))]) := by simp only [tp_E, h]
theorem tS1_0 {w : WPar} {i : Nat} {f : Nat → Int32} (h : tp_kd i = 1) (v : Int32) : ((.inr (1, List.set [.int (f 0), .int (f 1), .int (f 2), .int (f 3), .int (f 4), .int (f 5), .int (f 6), .int (f 7), .int (f 8), .int (f 9), .int (f 10), .int (f 11), .int (f 12), .ref (w.1 (i + 1))] 0 (.int v))) : va_E) = tp_E w i (upd f 0 v) := by rw [tE1 h]; simp [upd, List.set]
theorem tS1_1 {w : WPar} {i : Nat} {f : Nat → Int32} (h : tp_kd i = 1) (v : Int32) : ((.inr (1, List.set [.int (f 0), .int (f 1), .int (f 2), .int (f 3), .int (f 4), .int (f 5), .int (f 6), .int (f 7), .int (f 8), .int (f 9), .int (f 10), .int (f 11), .int (f 12), .ref (w.1 (i + 1))] 1 (.int v))) : va_E) = tp_E w i (upd f 1 v) := by rw [tE1 h]; simp [upd, List.set]
theorem tS1_2 {w : WPar} {i : Nat} {f : Nat → Int32} (h : tp_kd i = 1) (v : Int32) : ((.inr (1, List.set [.int (f 0), .int (f 1), .int (f 2), .int (f 3), .int (f 4), .int (f 5), .int (f 6), .int (f 7), .int (f 8), .int (f 9), .int (f 10), .int (f 11), .int (f 12), .ref (w.1 (i + 1))] 2 (.int v))) : va_E) = tp_E w i (upd f 2 v) := by rw [tE1 h]; simp [upd, List.set]
theorem tS1_3 {w : WPar} {i : Nat} {f : Nat → Int32} (h : tp_kd i = 1) (v : Int32) : ((.inr (1, List.set [.int (f 0), .int (f 1), .int (f 2), .int (f 3), .int (f 4), .int (f 5), .int (f 6), .int (f 7), .int (f 8), .int (f 9), .int (f 10), .int (f 11), .int (f 12), .ref (w.1 (i + 1))] 3 (.int v))) : va_E) = tp_E w i (upd f 3 v) := by rw [tE1 h]; simp [upd, List.set]
theorem tS1_4 {w : WPar} {i : Nat} {f : Nat → Int32} (h : tp_kd i = 1) (v : Int32) : ((.inr (1, List.set [.int (f 0), .int (f 1), .int (f 2), .int (f 3), .int (f 4), .int (f 5), .int (f 6), .int (f 7), .int (f 8), .int (f 9), .int (f 10), .int (f 11), .int (f 12), .ref (w.1 (i + 1))] 4 (.int v))) : va_E) = tp_E w i (upd f 4 v) := by rw [tE1 h]; simp [upd, List.set]
theorem tS1_5 {w : WPar} {i : Nat} {f : Nat → Int32} (h : tp_kd i = 1) (v : Int32) : ((.inr (1, List.set [.int (f 0), .int (f 1), .int (f 2), .int (f 3), .int (f 4), .int (f 5), .int (f 6), .int (f 7), .int (f 8), .int (f 9), .int (f 10), .int (f 11), .int (f 12), .ref (w.1 (i + 1))] 5 (.int v))) : va_E) = tp_E w i (upd f 5 v) := by rw [tE1 h]; simp [upd, List.set]
theorem tS1_6 {w : WPar} {i : Nat} {f : Nat → Int32} (h : tp_kd i = 1) (v : Int32) : ((.inr (1, List.set [.int (f 0), .int (f 1), .int (f 2), .int (f 3), .int (f 4), .int (f 5), .int (f 6), .int (f 7), .int (f 8), .int (f 9), .int (f 10), .int (f 11), .int (f 12), .ref (w.1 (i + 1))] 6 (.int v))) : va_E) = tp_E w i (upd f 6 v) := by rw [tE1 h]; simp [upd, List.set]
theorem tS1_7 {w : WPar} {i : Nat} {f : Nat → Int32} (h : tp_kd i = 1) (v : Int32) : ((.inr (1, List.set [.int (f 0), .int (f 1), .int (f 2), .int (f 3), .int (f 4), .int (f 5), .int (f 6), .int (f 7), .int (f 8), .int (f 9), .int (f 10), .int (f 11), .int (f 12), .ref (w.1 (i + 1))] 7 (.int v))) : va_E) = tp_E w i (upd f 7 v) := by rw [tE1 h]; simp [upd, List.set]
theorem tS1_8 {w : WPar} {i : Nat} {f : Nat → Int32} (h : tp_kd i = 1) (v : Int32) : ((.inr (1, List.set [.int (f 0), .int (f 1), .int (f 2), .int (f 3), .int (f 4), .int (f 5), .int (f 6), .int (f 7), .int (f 8), .int (f 9), .int (f 10), .int (f 11), .int (f 12), .ref (w.1 (i + 1))] 8 (.int v))) : va_E) = tp_E w i (upd f 8 v) := by rw [tE1 h]; simp [upd, List.set]
theorem tS1_9 {w : WPar} {i : Nat} {f : Nat → Int32} (h : tp_kd i = 1) (v : Int32) : ((.inr (1, List.set [.int (f 0), .int (f 1), .int (f 2), .int (f 3), .int (f 4), .int (f 5), .int (f 6), .int (f 7), .int (f 8), .int (f 9), .int (f 10), .int (f 11), .int (f 12), .ref (w.1 (i + 1))] 9 (.int v))) : va_E) = tp_E w i (upd f 9 v) := by rw [tE1 h]; simp [upd, List.set]
theorem tS1_10 {w : WPar} {i : Nat} {f : Nat → Int32} (h : tp_kd i = 1) (v : Int32) : ((.inr (1, List.set [.int (f 0), .int (f 1), .int (f 2), .int (f 3), .int (f 4), .int (f 5), .int (f 6), .int (f 7), .int (f 8), .int (f 9), .int (f 10), .int (f 11), .int (f 12), .ref (w.1 (i + 1))] 10 (.int v))) : va_E) = tp_E w i (upd f 10 v) := by rw [tE1 h]; simp [upd, List.set]
theorem tS1_11 {w : WPar} {i : Nat} {f : Nat → Int32} (h : tp_kd i = 1) (v : Int32) : ((.inr (1, List.set [.int (f 0), .int (f 1), .int (f 2), .int (f 3), .int (f 4), .int (f 5), .int (f 6), .int (f 7), .int (f 8), .int (f 9), .int (f 10), .int (f 11), .int (f 12), .ref (w.1 (i + 1))] 11 (.int v))) : va_E) = tp_E w i (upd f 11 v) := by rw [tE1 h]; simp [upd, List.set]
theorem tS1_12 {w : WPar} {i : Nat} {f : Nat → Int32} (h : tp_kd i = 1) (v : Int32) : ((.inr (1, List.set [.int (f 0), .int (f 1), .int (f 2), .int (f 3), .int (f 4), .int (f 5), .int (f 6), .int (f 7), .int (f 8), .int (f 9), .int (f 10), .int (f 11), .int (f 12), .ref (w.1 (i + 1))] 12 (.int v))) : va_E) = tp_E w i (upd f 12 v) := by rw [tE1 h]; simp [upd, List.set]
theorem tE2 {w : WPar} {i : Nat} {f : Nat → Int32} (h : tp_kd i = 2) : tp_E w i f = .inr (2, [.int (f 0), .int (f 1), .ref (w.1 (i + 1)), .ref (w.1 (i + 3))]) := by simp only [tp_E, h]
theorem tS2_0 {w : WPar} {i : Nat} {f : Nat → Int32} (h : tp_kd i = 2) (v : Int32) : ((.inr (2, List.set [.int (f 0), .int (f 1), .ref (w.1 (i + 1)), .ref (w.1 (i + 3))] 0 (.int v))) : va_E) = tp_E w i (upd f 0 v) := by rw [tE2 h]; simp [upd, List.set]
theorem tS2_1 {w : WPar} {i : Nat} {f : Nat → Int32} (h : tp_kd i = 2) (v : Int32) : ((.inr (2, List.set [.int (f 0), .int (f 1), .ref (w.1 (i + 1)), .ref (w.1 (i + 3))] 1 (.int v))) : va_E) = tp_E w i (upd f 1 v) := by rw [tE2 h]; simp [upd, List.set]
theorem tE3 {w : WPar} {i : Nat} {f : Nat → Int32} (h : tp_kd i = 3) : tp_E w i f = .inr (3, [.int (f 0), .int (f 1), .ref (w.1 2), .ref (w.1 3), .ref (w.1 4), .ref (w.1 5), .ref (w.1 6), .ref (w.1 7), .ref (w.1 16)]) := by simp only [tp_E, h]
theorem tS3_0 {w : WPar} {i : Nat} {f : Nat → Int32} (h : tp_kd i = 3) (v : Int32) : ((.inr (3, List.set [.int (f 0), .int (f 1), .ref (w.1 2), .ref (w.1 3), .ref (w.1 4), .ref (w.1 5), .ref (w.1 6), .ref (w.1 7), .ref (w.1 16)] 0 (.int v))) : va_E) = tp_E w i (upd f 0 v) := by rw [tE3 h]; simp [upd, List.set]
theorem tS3_1 {w : WPar} {i : Nat} {f : Nat → Int32} (h : tp_kd i = 3) (v : Int32) : ((.inr (3, List.set [.int (f 0), .int (f 1), .ref (w.1 2), .ref (w.1 3), .ref (w.1 4), .ref (w.1 5), .ref (w.1 6), .ref (w.1 7), .ref (w.1 16)] 1 (.int v))) : va_E) = tp_E w i (upd f 1 v) := by rw [tE3 h]; simp [upd, List.set]
theorem tE4 {w : WPar} {i : Nat} {f : Nat → Int32} (h : tp_kd i = 4) : tp_E w i f = .inr (4, [.int (f 0), .int (f 1), .int (f 2), .int (f 3), .int (f 4)]) := by simp only [tp_E, h]
theorem tS4_0 {w : WPar} {i : Nat} {f : Nat → Int32} (h : tp_kd i = 4) (v : Int32) : ((.inr (4, List.set [.int (f 0), .int (f 1), .int (f 2), .int (f 3), .int (f 4)] 0 (.int v))) : va_E) = tp_E w i (upd f 0 v) := by rw [tE4 h]; simp [upd, List.set]
theorem tS4_1 {w : WPar} {i : Nat} {f : Nat → Int32} (h : tp_kd i = 4) (v : Int32) : ((.inr (4, List.set [.int (f 0), .int (f 1), .int (f 2), .int (f 3), .int (f 4)] 1 (.int v))) : va_E) = tp_E w i (upd f 1 v) := by rw [tE4 h]; simp [upd, List.set]
theorem tS4_2 {w : WPar} {i : Nat} {f : Nat → Int32} (h : tp_kd i = 4) (v : Int32) : ((.inr (4, List.set [.int (f 0), .int (f 1), .int (f 2), .int (f 3), .int (f 4)] 2 (.int v))) : va_E) = tp_E w i (upd f 2 v) := by rw [tE4 h]; simp [upd, List.set]
theorem tS4_3 {w : WPar} {i : Nat} {f : Nat → Int32} (h : tp_kd i = 4) (v : Int32) : ((.inr (4, List.set [.int (f 0), .int (f 1), .int (f 2), .int (f 3), .int (f 4)] 3 (.int v))) : va_E) = tp_E w i (upd f 3 v) := by rw [tE4 h]; simp [upd, List.set]
theorem tS4_4 {w : WPar} {i : Nat} {f : Nat → Int32} (h : tp_kd i = 4) (v : Int32) : ((.inr (4, List.set [.int (f 0), .int (f 1), .int (f 2), .int (f 3), .int (f 4)] 4 (.int v))) : va_E) = tp_E w i (upd f 4 v) := by rw [tE4 h]; simp [upd, List.set]
theorem tE5 {w : WPar} {i : Nat} {f : Nat → Int32} (h : tp_kd i = 5) : tp_E w i f = .inr (5, [.ref (w.1 1), .ref (w.1 (i + 1)), .ref (w.1 (i + 2)), .int (f 3), .int (f 4), .int (f 5)]) := by simp only [tp_E, h]
theorem tS5_3 {w : WPar} {i : Nat} {f : Nat → Int32} (h : tp_kd i = 5) (v : Int32) : ((.inr (5, List.set [.ref (w.1 1), .ref (w.1 (i + 1)), .ref (w.1 (i + 2)), .int (f 3), .int (f 4), .int (f 5)] 3 (.int v))) : va_E) = tp_E w i (upd f 3 v) := by rw [tE5 h]; simp [upd, List.set]
theorem tS5_4 {w : WPar} {i : Nat} {f : Nat → Int32} (h : tp_kd i = 5) (v : Int32) : ((.inr (5, List.set [.ref (w.1 1), .ref (w.1 (i + 1)), .ref (w.1 (i + 2)), .int (f 3), .int (f 4), .int (f 5)] 4 (.int v))) : va_E) = tp_E w i (upd f 4 v) := by rw [tE5 h]; simp [upd, List.set]
theorem tS5_5 {w : WPar} {i : Nat} {f : Nat → Int32} (h : tp_kd i = 5) (v : Int32) : ((.inr (5, List.set [.ref (w.1 1), .ref (w.1 (i + 1)), .ref (w.1 (i + 2)), .int (f 3), .int (f 4), .int (f 5)] 5 (.int v))) : va_E) = tp_E w i (upd f 5 v) := by rw [tE5 h]; simp [upd, List.set]
theorem tE6 {w : WPar} {i : Nat} {f : Nat → Int32} (h : tp_kd i = 6) : tp_E w i f = .inr (6, [.ref (w.1 (i + 1)), .int (f 1), .int (f 2), .ref (w.1 (i + 2)), .int (f 4), .int (f 5), .int (f 6)]) := by simp only [tp_E, h]
theorem tS6_1 {w : WPar} {i : Nat} {f : Nat → Int32} (h : tp_kd i = 6) (v : Int32) : ((.inr (6, List.set [.ref (w.1 (i + 1)), .int (f 1), .int (f 2), .ref (w.1 (i + 2)), .int (f 4), .int (f 5), .int (f 6)] 1 (.int v))) : va_E) = tp_E w i (upd f 1 v) := by rw [tE6 h]; simp [upd, List.set]
theorem tS6_2 {w : WPar} {i : Nat} {f : Nat → Int32} (h : tp_kd i = 6) (v : Int32) : ((.inr (6, List.set [.ref (w.1 (i + 1)), .int (f 1), .int (f 2), .ref (w.1 (i + 2)), .int (f 4), .int (f 5), .int (f 6)] 2 (.int v))) : va_E) = tp_E w i (upd f 2 v) := by rw [tE6 h]; simp [upd, List.set]
theorem tS6_4 {w : WPar} {i : Nat} {f : Nat → Int32} (h : tp_kd i = 6) (v : Int32) : ((.inr (6, List.set [.ref (w.1 (i + 1)), .int (f 1), .int (f 2), .ref (w.1 (i + 2)), .int (f 4), .int (f 5), .int (f 6)] 4 (.int v))) : va_E) = tp_E w i (upd f 4 v) := by rw [tE6 h]; simp [upd, List.set]
theorem tS6_5 {w : WPar} {i : Nat} {f : Nat → Int32} (h : tp_kd i = 6) (v : Int32) : ((.inr (6, List.set [.ref (w.1 (i + 1)), .int (f 1), .int (f 2), .ref (w.1 (i + 2)), .int (f 4), .int (f 5), .int (f 6)] 5 (.int v))) : va_E) = tp_E w i (upd f 5 v) := by rw [tE6 h]; simp [upd, List.set]
theorem tS6_6 {w : WPar} {i : Nat} {f : Nat → Int32} (h : tp_kd i = 6) (v : Int32) : ((.inr (6, List.set [.ref (w.1 (i + 1)), .int (f 1), .int (f 2), .ref (w.1 (i + 2)), .int (f 4), .int (f 5), .int (f 6)] 6 (.int v))) : va_E) = tp_E w i (upd f 6 v) := by rw [tE6 h]; simp [upd, List.set]
theorem tE7 {w : WPar} {i : Nat} {f : Nat → Int32} (h : tp_kd i = 7) : tp_E w i f = .inr (7, [.ref (w.1 1), .ref (w.1 17), .ref (w.1 122), .ref (w.1 227)]) := by simp only [tp_E, h]
theorem tE20 {w : WPar} {i : Nat} {f : Nat → Int32} (h : tp_kd i = 20) : tp_E w i f = .inr (10, [.int (f 0), .int (f 1), .int (f 2), .ref (w.1 235), .ref (w.1 236), .ref (w.1 237), .ref (w.1 238), .ref (w.1 239), .ref (w.1 371), .long (tp_jl (f 9) (f 10))]) := by simp only [tp_E, h]
theorem tS20_0 {w : WPar} {i : Nat} {f : Nat → Int32} (h : tp_kd i = 20) (v : Int32) : ((.inr (10, List.set [.int (f 0), .int (f 1), .int (f 2), .ref (w.1 235), .ref (w.1 236), .ref (w.1 237), .ref (w.1 238), .ref (w.1 239), .ref (w.1 371), .long (tp_jl (f 9) (f 10))] 0 (.int v))) : va_E) = tp_E w i (upd f 0 v) := by rw [tE20 h]; simp [upd, List.set]
theorem tS20_1 {w : WPar} {i : Nat} {f : Nat → Int32} (h : tp_kd i = 20) (v : Int32) : ((.inr (10, List.set [.int (f 0), .int (f 1), .int (f 2), .ref (w.1 235), .ref (w.1 236), .ref (w.1 237), .ref (w.1 238), .ref (w.1 239), .ref (w.1 371), .long (tp_jl (f 9) (f 10))] 1 (.int v))) : va_E) = tp_E w i (upd f 1 v) := by rw [tE20 h]; simp [upd, List.set]
theorem tS20_2 {w : WPar} {i : Nat} {f : Nat → Int32} (h : tp_kd i = 20) (v : Int32) : ((.inr (10, List.set [.int (f 0), .int (f 1), .int (f 2), .ref (w.1 235), .ref (w.1 236), .ref (w.1 237), .ref (w.1 238), .ref (w.1 239), .ref (w.1 371), .long (tp_jl (f 9) (f 10))] 2 (.int v))) : va_E) = tp_E w i (upd f 2 v) := by rw [tE20 h]; simp [upd, List.set]
theorem tE21 {w : WPar} {i : Nat} {f : Nat → Int32} (h : tp_kd i = 21) : tp_E w i f = .inr (9, [.int (f 0), .int (f 1), .int (f 2), .ref (w.1 (i + 1)), .ref (w.1 (i + 2)), .ref (w.1 (i + 11)), .ref (w.1 (i + 12)), .ref (w.1 (i + 13)), .ref (w.1 (i + 14)), .ref (w.1 (i + 15)), .ref (w.1 (i + 22)), .ref (w.1 (i + 29)), .ref (w.1 234)]) := by simp only [tp_E, h]
theorem tS21_0 {w : WPar} {i : Nat} {f : Nat → Int32} (h : tp_kd i = 21) (v : Int32) : ((.inr (9, List.set [.int (f 0), .int (f 1), .int (f 2), .ref (w.1 (i + 1)), .ref (w.1 (i + 2)), .ref (w.1 (i + 11)), .ref (w.1 (i + 12)), .ref (w.1 (i + 13)), .ref (w.1 (i + 14)), .ref (w.1 (i + 15)), .ref (w.1 (i + 22)), .ref (w.1 (i + 29)), .ref (w.1 234)] 0 (.int v))) : va_E) = tp_E w i (upd f 0 v) := by rw [tE21 h]; simp [upd, List.set]
theorem tS21_1 {w : WPar} {i : Nat} {f : Nat → Int32} (h : tp_kd i = 21) (v : Int32) : ((.inr (9, List.set [.int (f 0), .int (f 1), .int (f 2), .ref (w.1 (i + 1)), .ref (w.1 (i + 2)), .ref (w.1 (i + 11)), .ref (w.1 (i + 12)), .ref (w.1 (i + 13)), .ref (w.1 (i + 14)), .ref (w.1 (i + 15)), .ref (w.1 (i + 22)), .ref (w.1 (i + 29)), .ref (w.1 234)] 1 (.int v))) : va_E) = tp_E w i (upd f 1 v) := by rw [tE21 h]; simp [upd, List.set]
theorem tS21_2 {w : WPar} {i : Nat} {f : Nat → Int32} (h : tp_kd i = 21) (v : Int32) : ((.inr (9, List.set [.int (f 0), .int (f 1), .int (f 2), .ref (w.1 (i + 1)), .ref (w.1 (i + 2)), .ref (w.1 (i + 11)), .ref (w.1 (i + 12)), .ref (w.1 (i + 13)), .ref (w.1 (i + 14)), .ref (w.1 (i + 15)), .ref (w.1 (i + 22)), .ref (w.1 (i + 29)), .ref (w.1 234)] 2 (.int v))) : va_E) = tp_E w i (upd f 2 v) := by rw [tE21 h]; simp [upd, List.set]
theorem tE31 {w : WPar} {i : Nat} {f : Nat → Int32} (h : tp_kd i = 31) : tp_E w i f = .inr (8, [.ref (w.1 (i + 1)), .int (f 1)]) := by simp only [tp_E, h]
theorem tS31_1 {w : WPar} {i : Nat} {f : Nat → Int32} (h : tp_kd i = 31) (v : Int32) : ((.inr (8, List.set [.ref (w.1 (i + 1)), .int (f 1)] 1 (.int v))) : va_E) = tp_E w i (upd f 1 v) := by rw [tE31 h]; simp [upd, List.set]
theorem tE8 {w : WPar} {i : Nat} {f : Nat → Int32} (h : tp_kd i = 8) : tp_E w i f = .inl (w.2.2.1 0, 20, .inl f) := by simp only [tp_E, h]
theorem tE9 {w : WPar} {i : Nat} {f : Nat → Int32} (h : tp_kd i = 9) : tp_E w i f = .inl (w.2.2.1 0, 10, .inl f) := by simp only [tp_E, h]
theorem tE10 {w : WPar} {i : Nat} {f : Nat → Int32} (h : tp_kd i = 10) : tp_E w i f = .inl (w.2.2.1 1, 201, .inl f) := by simp only [tp_E, h]
theorem tE11 {w : WPar} {i : Nat} {f : Nat → Int32} (h : tp_kd i = 11) : tp_E w i f = .inl (w.2.2.1 0, 12, .inl f) := by simp only [tp_E, h]
theorem tE12 {w : WPar} {i : Nat} {f : Nat → Int32} (h : tp_kd i = 12) : tp_E w i f = .inl (w.2.2.1 1, 12, .inl f) := by simp only [tp_E, h]
theorem tE13 {w : WPar} {i : Nat} {f : Nat → Int32} (h : tp_kd i = 13) : tp_E w i f = .inl (w.2.2.1 0, 8, .inl f) := by simp only [tp_E, h]
theorem tE18 {w : WPar} {i : Nat} {f : Nat → Int32} (h : tp_kd i = 18) : tp_E w i f = .inl (w.2.2.1 0, 200, .inl f) := by simp only [tp_E, h]
theorem tE19 {w : WPar} {i : Nat} {f : Nat → Int32} (h : tp_kd i = 19) : tp_E w i f = .inl (w.2.2.1 0, 6, .inl f) := by simp only [tp_E, h]
theorem tE25 {w : WPar} {i : Nat} {f : Nat → Int32} (h : tp_kd i = 25) : tp_E w i f = .inl (w.2.2.1 0, 24, .inl f) := by simp only [tp_E, h]
theorem tE27 {w : WPar} {i : Nat} {f : Nat → Int32} (h : tp_kd i = 27) : tp_E w i f = .inl (w.2.2.1 0, 23, .inl f) := by simp only [tp_E, h]
theorem tE30 {w : WPar} {i : Nat} {f : Nat → Int32} (h : tp_kd i = 30) : tp_E w i f = .inl (w.2.2.1 1, 202, .inl f) := by simp only [tp_E, h]
theorem tE32 {w : WPar} {i : Nat} {f : Nat → Int32} (h : tp_kd i = 32) : tp_E w i f = .inl (w.2.2.1 0, 120, .inl f) := by simp only [tp_E, h]
theorem tE14 {w : WPar} {i : Nat} {f : Nat → Int32} (h : tp_kd i = 14) : tp_E w i f = .inl (w.2.2.1 4, 8, .inr (.inr (.inr (.inr (fun j => if j < 8 then some (w.1 (8 + j)) else none))))) := by simp only [tp_E, h]
theorem tE15 {w : WPar} {i : Nat} {f : Nat → Int32} (h : tp_kd i = 15) : tp_E w i f = .inl (w.2.2.1 2, 24, .inr (.inr (.inr (.inr (fun j => if j < 24 then some (w.1 (i + 2 + 3 * j)) else none))))) := by simp only [tp_E, h]
theorem tE16 {w : WPar} {i : Nat} {f : Nat → Int32} (h : tp_kd i = 16) : tp_E w i f = .inl (w.2.2.1 3, 6, .inr (.inr (.inr (.inr (fun j => if j < 6 then some (w.1 (i + 73 + 5 * j)) else none))))) := by simp only [tp_E, h]
theorem tE17 {w : WPar} {i : Nat} {f : Nat → Int32} (h : tp_kd i = 17) : tp_E w i f = .inl (w.2.2.1 4, 6, .inr (.inr (.inr (.inr (fun j => if j < 6 then some (w.1 (228 + j)) else none))))) := by simp only [tp_E, h]
theorem tE22 {w : WPar} {i : Nat} {f : Nat → Int32} (h : tp_kd i = 22) : tp_E w i f = .inl (w.2.2.1 4, 8, .inr (.inr (.inr (.inr (fun j => if j < 8 then some (w.1 (i + 1 + j)) else none))))) := by simp only [tp_E, h]
theorem tE23 {w : WPar} {i : Nat} {f : Nat → Int32} (h : tp_kd i = 23) : tp_E w i f = .inl (w.2.2.1 5, 24, .inr (.inr (.inr (.inr (fun j => if j < 24 then some (w.1 (i + 25 + 4 * j)) else none))))) := by simp only [tp_E, h]
theorem tE24 {w : WPar} {i : Nat} {f : Nat → Int32} (h : tp_kd i = 24) : tp_E w i f = .inl (w.2.2.1 5, 24, .inr (.inr (.inr (.inr (fun j => if j < 24 then some (w.1 (i + 26 + 4 * j)) else none))))) := by simp only [tp_E, h]
theorem tE26 {w : WPar} {i : Nat} {f : Nat → Int32} (h : tp_kd i = 26) : tp_E w i f = .inl (w.2.2.1 4, 6, .inr (.inr (.inr (.inr (fun j => if j < 6 then some (w.1 (i + 1 + j)) else none))))) := by simp only [tp_E, h]
theorem tE28 {w : WPar} {i : Nat} {f : Nat → Int32} (h : tp_kd i = 28) : tp_E w i f = .inl (w.2.2.1 4, 6, .inr (.inr (.inr (.inr (fun j => if j < 6 then some (w.1 (i + 1 + j)) else none))))) := by simp only [tp_E, h]
theorem tE29 {w : WPar} {i : Nat} {f : Nat → Int32} (h : tp_kd i = 29) : tp_E w i f = .inl (w.2.2.1 6, 6, .inr (.inr (.inr (.inr (fun j => if j < 6 then some (w.1 (i + 1 + j)) else none))))) := by simp only [tp_E, h]
abbrev tp_ik (i k : Nat) : Prop := tp_kd i = k ∧ i < 505
abbrev tp_ok (w : WPar) (i : Nat) : Prop := i < tp_N w ∧ 504 ≤ tp_N w
abbrev tp_is (w : WPar) (i k : Nat) : Prop := tp_kd i = k ∧ tp_ok w i
theorem tp_small {i k : Nat} (h : tp_kd i = k) (h2 : k ≠ 19) : i < 504 := by
  rcases Nat.lt_or_ge i 504 with h3 | h3
  · exact h3
  · refine absurd (h.symm.trans ?_) h2
    unfold tp_kd
    rw [if_neg (by omega), if_neg (by omega), if_neg (by omega), if_neg (by omega), if_neg (by omega), if_neg (by omega), if_neg (by omega), if_neg (by omega)]
theorem tp_isk {w : WPar} {i k : Nat} (h : tp_is w i k) (h2 : k ≠ 19) : tp_ik i k := ⟨h.1, Nat.lt_trans (tp_small h.1 h2) (by decide)⟩
theorem tp_ofk {w : WPar} {i k : Nat} (h : tp_kd i = k) (h2 : k ≠ 19) (hN : 504 ≤ tp_N w) : tp_is w i k := ⟨h, Nat.lt_of_lt_of_le (tp_small h h2) hN, hN⟩
theorem tK0_3 {i : Nat} (h : tp_ik i 0) : tp_ik (i + 1) 10 := by
  have h0 : ∀ j : Fin 505, tp_kd j.val = 0 → tp_kd (j.val + 1) = 10 ∧ j.val + 1 < 505 := by decide +kernel
  exact h0 ⟨i, h.2⟩ h.1
theorem tR0_3 {w : WPar} {i : Nat} (h : tp_is w i 0) : tp_is w (i + 1) 10 := tp_ofk (tK0_3 (tp_isk h (by decide))).1 (by decide) h.2.2
theorem tK1_13 {i : Nat} (h : tp_ik i 1) : tp_ik (i + 1) 4 := by
  have h0 : ∀ j : Fin 505, tp_kd j.val = 1 → tp_kd (j.val + 1) = 4 ∧ j.val + 1 < 505 := by decide +kernel
  exact h0 ⟨i, h.2⟩ h.1
theorem tR1_13 {w : WPar} {i : Nat} (h : tp_is w i 1) : tp_is w (i + 1) 4 := tp_ofk (tK1_13 (tp_isk h (by decide))).1 (by decide) h.2.2
theorem tK2_2 {i : Nat} (h : tp_ik i 2) : tp_ik (i + 1) 1 := by
  have h0 : ∀ j : Fin 505, tp_kd j.val = 2 → tp_kd (j.val + 1) = 1 ∧ j.val + 1 < 505 := by decide +kernel
  exact h0 ⟨i, h.2⟩ h.1
theorem tR2_2 {w : WPar} {i : Nat} (h : tp_is w i 2) : tp_is w (i + 1) 1 := tp_ofk (tK2_2 (tp_isk h (by decide))).1 (by decide) h.2.2
theorem tK2_3 {i : Nat} (h : tp_ik i 2) : tp_ik (i + 3) 0 := by
  have h0 : ∀ j : Fin 505, tp_kd j.val = 2 → tp_kd (j.val + 3) = 0 ∧ j.val + 3 < 505 := by decide +kernel
  exact h0 ⟨i, h.2⟩ h.1
theorem tR2_3 {w : WPar} {i : Nat} (h : tp_is w i 2) : tp_is w (i + 3) 0 := tp_ofk (tK2_3 (tp_isk h (by decide))).1 (by decide) h.2.2
theorem tR3_2 {w : WPar} {i : Nat} (h : tp_is w i 3) : tp_is w 2 11 := tp_ofk (show tp_kd 2 = 11 by decide +kernel) (by decide) h.2.2
theorem tR3_3 {w : WPar} {i : Nat} (h : tp_is w i 3) : tp_is w 3 11 := tp_ofk (show tp_kd 3 = 11 by decide +kernel) (by decide) h.2.2
theorem tR3_4 {w : WPar} {i : Nat} (h : tp_is w i 3) : tp_is w 4 11 := tp_ofk (show tp_kd 4 = 11 by decide +kernel) (by decide) h.2.2
theorem tR3_5 {w : WPar} {i : Nat} (h : tp_is w i 3) : tp_is w 5 11 := tp_ofk (show tp_kd 5 = 11 by decide +kernel) (by decide) h.2.2
theorem tR3_6 {w : WPar} {i : Nat} (h : tp_is w i 3) : tp_is w 6 12 := tp_ofk (show tp_kd 6 = 12 by decide +kernel) (by decide) h.2.2
theorem tR3_7 {w : WPar} {i : Nat} (h : tp_is w i 3) : tp_is w 7 14 := tp_ofk (show tp_kd 7 = 14 by decide +kernel) (by decide) h.2.2
theorem tR3_8 {w : WPar} {i : Nat} (h : tp_is w i 3) : tp_is w 16 13 := tp_ofk (show tp_kd 16 = 13 by decide +kernel) (by decide) h.2.2
theorem tR5_0 {w : WPar} {i : Nat} (h : tp_is w i 5) : tp_is w 1 3 := tp_ofk (show tp_kd 1 = 3 by decide +kernel) (by decide) h.2.2
theorem tK5_1 {i : Nat} (h : tp_ik i 5) : tp_ik (i + 1) 15 := by
  have h0 : ∀ j : Fin 505, tp_kd j.val = 5 → tp_kd (j.val + 1) = 15 ∧ j.val + 1 < 505 := by decide +kernel
  exact h0 ⟨i, h.2⟩ h.1
theorem tR5_1 {w : WPar} {i : Nat} (h : tp_is w i 5) : tp_is w (i + 1) 15 := tp_ofk (tK5_1 (tp_isk h (by decide))).1 (by decide) h.2.2
theorem tK5_2 {i : Nat} (h : tp_ik i 5) : tp_ik (i + 2) 16 := by
  have h0 : ∀ j : Fin 505, tp_kd j.val = 5 → tp_kd (j.val + 2) = 16 ∧ j.val + 2 < 505 := by decide +kernel
  exact h0 ⟨i, h.2⟩ h.1
theorem tR5_2 {w : WPar} {i : Nat} (h : tp_is w i 5) : tp_is w (i + 2) 16 := tp_ofk (tK5_2 (tp_isk h (by decide))).1 (by decide) h.2.2
theorem tK6_0 {i : Nat} (h : tp_ik i 6) : tp_ik (i + 1) 8 := by
  have h0 : ∀ j : Fin 505, tp_kd j.val = 6 → tp_kd (j.val + 1) = 8 ∧ j.val + 1 < 505 := by decide +kernel
  exact h0 ⟨i, h.2⟩ h.1
theorem tR6_0 {w : WPar} {i : Nat} (h : tp_is w i 6) : tp_is w (i + 1) 8 := tp_ofk (tK6_0 (tp_isk h (by decide))).1 (by decide) h.2.2
theorem tK6_3 {i : Nat} (h : tp_ik i 6) : tp_ik (i + 2) 9 := by
  have h0 : ∀ j : Fin 505, tp_kd j.val = 6 → tp_kd (j.val + 2) = 9 ∧ j.val + 2 < 505 := by decide +kernel
  exact h0 ⟨i, h.2⟩ h.1
theorem tR6_3 {w : WPar} {i : Nat} (h : tp_is w i 6) : tp_is w (i + 2) 9 := tp_ofk (tK6_3 (tp_isk h (by decide))).1 (by decide) h.2.2
theorem tR7_0 {w : WPar} {i : Nat} (h : tp_is w i 7) : tp_is w 1 3 := tp_ofk (show tp_kd 1 = 3 by decide +kernel) (by decide) h.2.2
theorem tR7_1 {w : WPar} {i : Nat} (h : tp_is w i 7) : tp_is w 17 5 := tp_ofk (show tp_kd 17 = 5 by decide +kernel) (by decide) h.2.2
theorem tR7_2 {w : WPar} {i : Nat} (h : tp_is w i 7) : tp_is w 122 5 := tp_ofk (show tp_kd 122 = 5 by decide +kernel) (by decide) h.2.2
theorem tR7_3 {w : WPar} {i : Nat} (h : tp_is w i 7) : tp_is w 227 17 := tp_ofk (show tp_kd 227 = 17 by decide +kernel) (by decide) h.2.2
theorem tR20_3 {w : WPar} {i : Nat} (h : tp_is w i 20) : tp_is w 235 11 := tp_ofk (show tp_kd 235 = 11 by decide +kernel) (by decide) h.2.2
theorem tR20_4 {w : WPar} {i : Nat} (h : tp_is w i 20) : tp_is w 236 11 := tp_ofk (show tp_kd 236 = 11 by decide +kernel) (by decide) h.2.2
theorem tR20_5 {w : WPar} {i : Nat} (h : tp_is w i 20) : tp_is w 237 11 := tp_ofk (show tp_kd 237 = 11 by decide +kernel) (by decide) h.2.2
theorem tR20_6 {w : WPar} {i : Nat} (h : tp_is w i 20) : tp_is w 238 11 := tp_ofk (show tp_kd 238 = 11 by decide +kernel) (by decide) h.2.2
theorem tR20_7 {w : WPar} {i : Nat} (h : tp_is w i 20) : tp_is w 239 21 := tp_ofk (show tp_kd 239 = 21 by decide +kernel) (by decide) h.2.2
theorem tR20_8 {w : WPar} {i : Nat} (h : tp_is w i 20) : tp_is w 371 21 := tp_ofk (show tp_kd 371 = 21 by decide +kernel) (by decide) h.2.2
theorem tK21_3 {i : Nat} (h : tp_ik i 21) : tp_ik (i + 1) 12 := by
  have h0 : ∀ j : Fin 505, tp_kd j.val = 21 → tp_kd (j.val + 1) = 12 ∧ j.val + 1 < 505 := by decide +kernel
  exact h0 ⟨i, h.2⟩ h.1
theorem tR21_3 {w : WPar} {i : Nat} (h : tp_is w i 21) : tp_is w (i + 1) 12 := tp_ofk (tK21_3 (tp_isk h (by decide))).1 (by decide) h.2.2
theorem tK21_4 {i : Nat} (h : tp_ik i 21) : tp_ik (i + 2) 22 := by
  have h0 : ∀ j : Fin 505, tp_kd j.val = 21 → tp_kd (j.val + 2) = 22 ∧ j.val + 2 < 505 := by decide +kernel
  exact h0 ⟨i, h.2⟩ h.1
theorem tR21_4 {w : WPar} {i : Nat} (h : tp_is w i 21) : tp_is w (i + 2) 22 := tp_ofk (tK21_4 (tp_isk h (by decide))).1 (by decide) h.2.2
theorem tK21_5 {i : Nat} (h : tp_ik i 21) : tp_ik (i + 11) 23 := by
  have h0 : ∀ j : Fin 505, tp_kd j.val = 21 → tp_kd (j.val + 11) = 23 ∧ j.val + 11 < 505 := by decide +kernel
  exact h0 ⟨i, h.2⟩ h.1
theorem tR21_5 {w : WPar} {i : Nat} (h : tp_is w i 21) : tp_is w (i + 11) 23 := tp_ofk (tK21_5 (tp_isk h (by decide))).1 (by decide) h.2.2
theorem tK21_6 {i : Nat} (h : tp_ik i 21) : tp_ik (i + 12) 24 := by
  have h0 : ∀ j : Fin 505, tp_kd j.val = 21 → tp_kd (j.val + 12) = 24 ∧ j.val + 12 < 505 := by decide +kernel
  exact h0 ⟨i, h.2⟩ h.1
theorem tR21_6 {w : WPar} {i : Nat} (h : tp_is w i 21) : tp_is w (i + 12) 24 := tp_ofk (tK21_6 (tp_isk h (by decide))).1 (by decide) h.2.2
theorem tK21_7 {i : Nat} (h : tp_ik i 21) : tp_ik (i + 13) 25 := by
  have h0 : ∀ j : Fin 505, tp_kd j.val = 21 → tp_kd (j.val + 13) = 25 ∧ j.val + 13 < 505 := by decide +kernel
  exact h0 ⟨i, h.2⟩ h.1
theorem tR21_7 {w : WPar} {i : Nat} (h : tp_is w i 21) : tp_is w (i + 13) 25 := tp_ofk (tK21_7 (tp_isk h (by decide))).1 (by decide) h.2.2
theorem tK21_8 {i : Nat} (h : tp_ik i 21) : tp_ik (i + 14) 25 := by
  have h0 : ∀ j : Fin 505, tp_kd j.val = 21 → tp_kd (j.val + 14) = 25 ∧ j.val + 14 < 505 := by decide +kernel
  exact h0 ⟨i, h.2⟩ h.1
theorem tR21_8 {w : WPar} {i : Nat} (h : tp_is w i 21) : tp_is w (i + 14) 25 := tp_ofk (tK21_8 (tp_isk h (by decide))).1 (by decide) h.2.2
theorem tK21_9 {i : Nat} (h : tp_ik i 21) : tp_ik (i + 15) 26 := by
  have h0 : ∀ j : Fin 505, tp_kd j.val = 21 → tp_kd (j.val + 15) = 26 ∧ j.val + 15 < 505 := by decide +kernel
  exact h0 ⟨i, h.2⟩ h.1
theorem tR21_9 {w : WPar} {i : Nat} (h : tp_is w i 21) : tp_is w (i + 15) 26 := tp_ofk (tK21_9 (tp_isk h (by decide))).1 (by decide) h.2.2
theorem tK21_10 {i : Nat} (h : tp_ik i 21) : tp_ik (i + 22) 28 := by
  have h0 : ∀ j : Fin 505, tp_kd j.val = 21 → tp_kd (j.val + 22) = 28 ∧ j.val + 22 < 505 := by decide +kernel
  exact h0 ⟨i, h.2⟩ h.1
theorem tR21_10 {w : WPar} {i : Nat} (h : tp_is w i 21) : tp_is w (i + 22) 28 := tp_ofk (tK21_10 (tp_isk h (by decide))).1 (by decide) h.2.2
theorem tK21_11 {i : Nat} (h : tp_ik i 21) : tp_ik (i + 29) 29 := by
  have h0 : ∀ j : Fin 505, tp_kd j.val = 21 → tp_kd (j.val + 29) = 29 ∧ j.val + 29 < 505 := by decide +kernel
  exact h0 ⟨i, h.2⟩ h.1
theorem tR21_11 {w : WPar} {i : Nat} (h : tp_is w i 21) : tp_is w (i + 29) 29 := tp_ofk (tK21_11 (tp_isk h (by decide))).1 (by decide) h.2.2
theorem tR21_12 {w : WPar} {i : Nat} (h : tp_is w i 21) : tp_is w 234 20 := tp_ofk (show tp_kd 234 = 20 by decide +kernel) (by decide) h.2.2
theorem tK31_0 {i : Nat} (h : tp_ik i 31) : tp_ik (i + 1) 32 := by
  have h0 : ∀ j : Fin 505, tp_kd j.val = 31 → tp_kd (j.val + 1) = 32 ∧ j.val + 1 < 505 := by decide +kernel
  exact h0 ⟨i, h.2⟩ h.1
theorem tR31_0 {w : WPar} {i : Nat} (h : tp_is w i 31) : tp_is w (i + 1) 32 := tp_ofk (tK31_0 (tp_isk h (by decide))).1 (by decide) h.2.2
theorem tK14 {i j : Nat} (h : tp_ik i 14) (hj : j < 8) : tp_ik (8 + j) 13 := by
  have h0 : ∀ x : Fin 505, ∀ y : Fin 8, tp_kd x.val = 14 → tp_kd (8 + y.val) = 13 ∧ 8 + y.val < 505 := by decide +kernel
  exact h0 ⟨i, h.2⟩ ⟨j, hj⟩ h.1
theorem tR14 {w : WPar} {i j : Nat} (h : tp_is w i 14) (hj : j < 8) : tp_is w (8 + j) 13 := tp_ofk (tK14 (tp_isk h (by decide)) hj).1 (by decide) h.2.2
theorem tK15 {i j : Nat} (h : tp_ik i 15) (hj : j < 24) : tp_ik (i + 2 + 3 * j) 6 := by
  have h0 : ∀ x : Fin 505, ∀ y : Fin 24, tp_kd x.val = 15 → tp_kd (x.val + 2 + 3 * y.val) = 6 ∧ x.val + 2 + 3 * y.val < 505 := by decide +kernel
  exact h0 ⟨i, h.2⟩ ⟨j, hj⟩ h.1
theorem tR15 {w : WPar} {i j : Nat} (h : tp_is w i 15) (hj : j < 24) : tp_is w (i + 2 + 3 * j) 6 := tp_ofk (tK15 (tp_isk h (by decide)) hj).1 (by decide) h.2.2
theorem tK16 {i j : Nat} (h : tp_ik i 16) (hj : j < 6) : tp_ik (i + 73 + 5 * j) 2 := by
  have h0 : ∀ x : Fin 505, ∀ y : Fin 6, tp_kd x.val = 16 → tp_kd (x.val + 73 + 5 * y.val) = 2 ∧ x.val + 73 + 5 * y.val < 505 := by decide +kernel
  exact h0 ⟨i, h.2⟩ ⟨j, hj⟩ h.1
theorem tR16 {w : WPar} {i j : Nat} (h : tp_is w i 16) (hj : j < 6) : tp_is w (i + 73 + 5 * j) 2 := tp_ofk (tK16 (tp_isk h (by decide)) hj).1 (by decide) h.2.2
theorem tK17 {i j : Nat} (h : tp_ik i 17) (hj : j < 6) : tp_ik (228 + j) 18 := by
  have h0 : ∀ x : Fin 505, ∀ y : Fin 6, tp_kd x.val = 17 → tp_kd (228 + y.val) = 18 ∧ 228 + y.val < 505 := by decide +kernel
  exact h0 ⟨i, h.2⟩ ⟨j, hj⟩ h.1
theorem tR17 {w : WPar} {i j : Nat} (h : tp_is w i 17) (hj : j < 6) : tp_is w (228 + j) 18 := tp_ofk (tK17 (tp_isk h (by decide)) hj).1 (by decide) h.2.2
theorem tK22 {i j : Nat} (h : tp_ik i 22) (hj : j < 8) : tp_ik (i + 1 + j) 13 := by
  have h0 : ∀ x : Fin 505, ∀ y : Fin 8, tp_kd x.val = 22 → tp_kd (x.val + 1 + y.val) = 13 ∧ x.val + 1 + y.val < 505 := by decide +kernel
  exact h0 ⟨i, h.2⟩ ⟨j, hj⟩ h.1
theorem tR22 {w : WPar} {i j : Nat} (h : tp_is w i 22) (hj : j < 8) : tp_is w (i + 1 + j) 13 := tp_ofk (tK22 (tp_isk h (by decide)) hj).1 (by decide) h.2.2
theorem tK23 {i j : Nat} (h : tp_ik i 23) (hj : j < 24) : tp_ik (i + 25 + 4 * j) 31 := by
  have h0 : ∀ x : Fin 505, ∀ y : Fin 24, tp_kd x.val = 23 → tp_kd (x.val + 25 + 4 * y.val) = 31 ∧ x.val + 25 + 4 * y.val < 505 := by decide +kernel
  exact h0 ⟨i, h.2⟩ ⟨j, hj⟩ h.1
theorem tR23 {w : WPar} {i j : Nat} (h : tp_is w i 23) (hj : j < 24) : tp_is w (i + 25 + 4 * j) 31 := tp_ofk (tK23 (tp_isk h (by decide)) hj).1 (by decide) h.2.2
theorem tK24 {i j : Nat} (h : tp_ik i 24) (hj : j < 24) : tp_ik (i + 26 + 4 * j) 31 := by
  have h0 : ∀ x : Fin 505, ∀ y : Fin 24, tp_kd x.val = 24 → tp_kd (x.val + 26 + 4 * y.val) = 31 ∧ x.val + 26 + 4 * y.val < 505 := by decide +kernel
  exact h0 ⟨i, h.2⟩ ⟨j, hj⟩ h.1
theorem tR24 {w : WPar} {i j : Nat} (h : tp_is w i 24) (hj : j < 24) : tp_is w (i + 26 + 4 * j) 31 := tp_ofk (tK24 (tp_isk h (by decide)) hj).1 (by decide) h.2.2
theorem tK26 {i j : Nat} (h : tp_ik i 26) (hj : j < 6) : tp_ik (i + 1 + j) 27 := by
  have h0 : ∀ x : Fin 505, ∀ y : Fin 6, tp_kd x.val = 26 → tp_kd (x.val + 1 + y.val) = 27 ∧ x.val + 1 + y.val < 505 := by decide +kernel
  exact h0 ⟨i, h.2⟩ ⟨j, hj⟩ h.1
theorem tR26 {w : WPar} {i j : Nat} (h : tp_is w i 26) (hj : j < 6) : tp_is w (i + 1 + j) 27 := tp_ofk (tK26 (tp_isk h (by decide)) hj).1 (by decide) h.2.2
theorem tK28 {i j : Nat} (h : tp_ik i 28) (hj : j < 6) : tp_ik (i + 1 + j) 18 := by
  have h0 : ∀ x : Fin 505, ∀ y : Fin 6, tp_kd x.val = 28 → tp_kd (x.val + 1 + y.val) = 18 ∧ x.val + 1 + y.val < 505 := by decide +kernel
  exact h0 ⟨i, h.2⟩ ⟨j, hj⟩ h.1
theorem tR28 {w : WPar} {i j : Nat} (h : tp_is w i 28) (hj : j < 6) : tp_is w (i + 1 + j) 18 := tp_ofk (tK28 (tp_isk h (by decide)) hj).1 (by decide) h.2.2
theorem tK29 {i j : Nat} (h : tp_ik i 29) (hj : j < 6) : tp_ik (i + 1 + j) 30 := by
  have h0 : ∀ x : Fin 505, ∀ y : Fin 6, tp_kd x.val = 29 → tp_kd (x.val + 1 + y.val) = 30 ∧ x.val + 1 + y.val < 505 := by decide +kernel
  exact h0 ⟨i, h.2⟩ ⟨j, hj⟩ h.1
theorem tR29 {w : WPar} {i j : Nat} (h : tp_is w i 29) (hj : j < 6) : tp_is w (i + 1 + j) 30 := tp_ofk (tK29 (tp_isk h (by decide)) hj).1 (by decide) h.2.2
/-- the machine, at pc with the locals ls and the stack st, in the world τ, comes to an end as the method's post says -/
def Zt (w : WPar) (g : Cxt) (τ : TS) (k : Nat × Nat) (pc : Nat) (ls : List (Nat × Value)) (st : List Value) : Prop := match g with
  | (p, e, R, s, m, args, below, meth, c, Q, nL) => ∀ (H : Heap) (locs : List Loc) (la : Array Slot), lv_has la nL ls → va_P (tp_D w) vwCl (tp_W w τ) H → va_S (tp_A w s.heap.size) s.heap H locs → W p w.2.1 e R s m args below meth c H locs k.1 k.2 Q (F0 m pc la st)
/-- a nest mate's fields -/
abbrev tp_nfs : List (String × Nat × String × String × String) := [("TidePostModel$State", 165, "TidePostModel$Row", "cells", "[I"), ("TidePostModel$State", 103, "TidePostModel$Row", "many", "I"), ("TidePostModel", 133, "TidePostModel$Row", "many", "I"), ("TidePostModel", 116, "TidePostModel$State", "clock", "I"), ("TidePostModel", 144, "TidePostModel$State", "lost", "I"), ("TidePostModel", 48, "TidePostModel$State", "calls", "I"), ("TidePostModel", 66, "TidePostModel$State", "isUp", "[Z"), ("TidePostModel", 129, "TidePostModel$State", "queue", "[LTidePostModel$Row;"), ("TidePostModel", 138, "TidePostModel$State", "flight", "[LTidePostModel$Row;"), ("TidePostModel", 141, "TidePostModel$State", "flown", "[I"), ("TidePostModel", 76, "TidePostModel$State", "losing", "[I"), ("TidePostModel", 79, "TidePostModel$State", "call", "[[I"), ("TidePostModel", 92, "TidePostModel$State", "value", "[[I"), ("TidePostModel", 154, "TidePostModel$State", "held", "[[Z"), ("TidePostModel$State", 79, "TidePostModel", "nodes", "I"), ("TidePostModel$State", 82, "TidePostModel", "links", "I"), ("TidePostModel$State", 85, "TidePostModel", "first", "[I"), ("TidePostModel$State", 88, "TidePostModel", "second", "[I"), ("TidePostModel$State", 91, "TidePostModel", "delay", "[I"), ("TidePostModel$State", 106, "TidePostModel", "space", "[I")]
def tp_NF (U : State) : Prop := ∀ x ∈ tp_nfs, va_Nw (.fieldLinkNest x.1 x.2.1 x.2.2.1 x.2.2.2.1 x.2.2.2.2 "TidePostModel") U
theorem tp_NF.go {s U : State} (hW : s.WarmedH U.vm) (h : tp_NF s) : tp_NF U := fun x hx => va_Nw.warmF hW (h x hx)
theorem tp_NF.blind {U : State} {g : JFrame} {mk : MethodId} {a : Array Value} (h : tp_NF U) : tp_NF (U.calling g mk a) := fun x hx => va_tabs rfl (rfl : U.vm = (U.calling g mk a).vm) (h x hx)
def Cok (w : WPar) (g : Cxt) (cc : ByteArray) (own : String) (Ts : List Cond) (n F L Ce Sl : Nat) : Prop := match g with
  | (p, _, R, s, m, args, _, meth, c, _, nL) => p.tables.exec = Jvm.exec ∧ c.code = cc ∧ c.maxLocals = n ∧ s.vm.findClass own = some m.cls ∧ (∀ x ∈ Ts, x.before args s = true) ∧ va_K (tp_D w) vwCl (tp_tys w) s ∧ tp_inj w ∧ nL = n ∧ R.frames = F ∧ R.locals = L ∧ R.cells = Ce ∧ R.slots = Sl ∧ meth.locks = false ∧ tp_NF s
section ZT
variable {w : WPar} {g : Cxt} {τ : TS} {k : Nat × Nat} {pc : Nat} {ls : List (Nat × Value)} {st : List Value} {cc : ByteArray} {own : String} {Ts : List Cond} {n F L Ce Sl : Nat}
theorem z_iconst (C : Cok w g cc own Ts n F L Ce Sl) {q : Int} (v : Int32) (hv : Int32.ofInt q = v) (hdg : decode cc pc = .ok (.iconst q, 1)) (kk : Zt w g τ k (pc + 1) ls (.int v :: st)) : Zt w g τ k pc ls (st) := by
  obtain ⟨p, e, R, s, m, args, below, meth, c, Q, nL⟩ := g
  obtain ⟨hx, hb, -⟩ := C
  exact fun H locs la hl hP hS => lv_iconst hx hb hdg hv (kk H locs la hl hP hS)
theorem z_bipush (C : Cok w g cc own Ts n F L Ce Sl) {q : Int} (v : Int32) (hv : (Int8.ofInt q).toInt32 = v) (hdg : decode cc pc = .ok (.bipush q, 2)) (kk : Zt w g τ k (pc + 2) ls (.int v :: st)) : Zt w g τ k pc ls (st) := by
  obtain ⟨p, e, R, s, m, args, below, meth, c, Q, nL⟩ := g
  obtain ⟨hx, hb, -⟩ := C
  exact fun H locs la hl hP hS => lv_bipush hx hb hdg hv (kk H locs la hl hP hS)
theorem z_sipush (C : Cok w g cc own Ts n F L Ce Sl) {q : Int} (v : Int32) (hv : (Int16.ofInt q).toInt32 = v) (hdg : decode cc pc = .ok (.sipush q, 3)) (kk : Zt w g τ k (pc + 3) ls (.int v :: st)) : Zt w g τ k pc ls (st) := by
  obtain ⟨p, e, R, s, m, args, below, meth, c, Q, nL⟩ := g
  obtain ⟨hx, hb, -⟩ := C
  exact fun H locs la hl hP hS => lv_sipush hx hb hdg hv (kk H locs la hl hP hS)
theorem z_iload_n (C : Cok w g cc own Ts n F L Ce Sl) {j : Fin 4} {x : Int32} (q : Nat) (hq : ls[q]? = some ((j : Nat), .int x)) (hdg : decode cc pc = .ok (.iload_n j, 1)) (kk : Zt w g τ k (pc + 1) ls (.int x :: st)) : Zt w g τ k pc ls (st) := by
  obtain ⟨p, e, R, s, m, args, below, meth, c, Q, nL⟩ := g
  obtain ⟨hx, hb, -⟩ := C
  exact fun H locs la hl hP hS => lv_iload_n hx hb hdg rfl (lv_at hl q hq) (kk H locs la hl hP hS)
theorem z_iload (C : Cok w g cc own Ts n F L Ce Sl) {j : Nat} {x : Int32} (q : Nat) (hq : ls[q]? = some (j, .int x)) (hdg : decode cc pc = .ok (.iload j, 2)) (kk : Zt w g τ k (pc + 2) ls (.int x :: st)) : Zt w g τ k pc ls (st) := by
  obtain ⟨p, e, R, s, m, args, below, meth, c, Q, nL⟩ := g
  obtain ⟨hx, hb, -⟩ := C
  exact fun H locs la hl hP hS => lv_iload hx hb hdg (lv_at hl q hq) (kk H locs la hl hP hS)
theorem z_lload_n (C : Cok w g cc own Ts n F L Ce Sl) {j : Fin 4} {x : Int64} (q : Nat) (hq : ls[q]? = some ((j : Nat), .long x)) (hdg : decode cc pc = .ok (.lload_n j, 1)) (kk : Zt w g τ k (pc + 1) ls (.long x :: st)) : Zt w g τ k pc ls (st) := by
  obtain ⟨p, e, R, s, m, args, below, meth, c, Q, nL⟩ := g
  obtain ⟨hx, hb, -⟩ := C
  exact fun H locs la hl hP hS => lv_lload_n hx hb hdg rfl (lv_at hl q hq) (kk H locs la hl hP hS)
theorem z_lload (C : Cok w g cc own Ts n F L Ce Sl) {j : Nat} {x : Int64} (q : Nat) (hq : ls[q]? = some (j, .long x)) (hdg : decode cc pc = .ok (.lload j, 2)) (kk : Zt w g τ k (pc + 2) ls (.long x :: st)) : Zt w g τ k pc ls (st) := by
  obtain ⟨p, e, R, s, m, args, below, meth, c, Q, nL⟩ := g
  obtain ⟨hx, hb, -⟩ := C
  exact fun H locs la hl hP hS => lv_lload hx hb hdg (lv_at hl q hq) (kk H locs la hl hP hS)
theorem z_aload_n (C : Cok w g cc own Ts n F L Ce Sl) {j : Fin 4} {x : Nat} (q : Nat) (hq : ls[q]? = some ((j : Nat), .ref x)) (hdg : decode cc pc = .ok (.aload_n j, 1)) (kk : Zt w g τ k (pc + 1) ls (.ref x :: st)) : Zt w g τ k pc ls (st) := by
  obtain ⟨p, e, R, s, m, args, below, meth, c, Q, nL⟩ := g
  obtain ⟨hx, hb, -⟩ := C
  exact fun H locs la hl hP hS => lv_aload_n hx hb hdg rfl (lv_at hl q hq) (kk H locs la hl hP hS)
theorem z_aload (C : Cok w g cc own Ts n F L Ce Sl) {j : Nat} {x : Nat} (q : Nat) (hq : ls[q]? = some (j, .ref x)) (hdg : decode cc pc = .ok (.aload j, 2)) (kk : Zt w g τ k (pc + 2) ls (.ref x :: st)) : Zt w g τ k pc ls (st) := by
  obtain ⟨p, e, R, s, m, args, below, meth, c, Q, nL⟩ := g
  obtain ⟨hx, hb, -⟩ := C
  exact fun H locs la hl hP hS => lv_aload hx hb hdg (lv_at hl q hq) (kk H locs la hl hP hS)
theorem z_istore_n (C : Cok w g cc own Ts n F L Ce Sl) {j : Fin 4} {x : Int32} (ls2 : List (Nat × Value)) (hdg : decode cc pc = .ok (.istore_n j, 1)) (hn : (j : Nat) < n) (hl2 : ((j : Nat), Value.int x) :: ls.filter (fun q => !(q.1 == (j : Nat)) && !(q.1 + 1 == (j : Nat) && q.2.category == 2)) = ls2) (kk : Zt w g τ k (pc + 1) ls2 st) : Zt w g τ k pc ls (.int x :: st) := by
  obtain ⟨p, e, R, s, m, args, below, meth, c, Q, nL⟩ := g
  obtain ⟨hx, hb, -, -, -, -, -, hnL, -⟩ := C
  exact fun H locs la hl hP hS => lv_istore_n hx hb hdg rfl hl (by rw [hnL]; exact hn) hl2 (fun la2 hl3 => kk H locs la2 hl3 hP hS)
theorem z_istore (C : Cok w g cc own Ts n F L Ce Sl) {j : Nat} {x : Int32} (ls2 : List (Nat × Value)) (hdg : decode cc pc = .ok (.istore j, 2)) (hn : j < n) (hl2 : (j, Value.int x) :: ls.filter (fun q => !(q.1 == j) && !(q.1 + 1 == j && q.2.category == 2)) = ls2) (kk : Zt w g τ k (pc + 2) ls2 st) : Zt w g τ k pc ls (.int x :: st) := by
  obtain ⟨p, e, R, s, m, args, below, meth, c, Q, nL⟩ := g
  obtain ⟨hx, hb, -, -, -, -, -, hnL, -⟩ := C
  exact fun H locs la hl hP hS => lv_istore hx hb hdg hl (by rw [hnL]; exact hn) hl2 (fun la2 hl3 => kk H locs la2 hl3 hP hS)
theorem z_astore_n (C : Cok w g cc own Ts n F L Ce Sl) {j : Fin 4} {x : Nat} (ls2 : List (Nat × Value)) (hdg : decode cc pc = .ok (.astore_n j, 1)) (hn : (j : Nat) < n) (hl2 : ((j : Nat), Value.ref x) :: ls.filter (fun q => !(q.1 == (j : Nat)) && !(q.1 + 1 == (j : Nat) && q.2.category == 2)) = ls2) (kk : Zt w g τ k (pc + 1) ls2 st) : Zt w g τ k pc ls (.ref x :: st) := by
  obtain ⟨p, e, R, s, m, args, below, meth, c, Q, nL⟩ := g
  obtain ⟨hx, hb, -, -, -, -, -, hnL, -⟩ := C
  exact fun H locs la hl hP hS => lv_astore_n hx hb hdg rfl hl (by rw [hnL]; exact hn) hl2 (fun la2 hl3 => kk H locs la2 hl3 hP hS)
theorem z_astore (C : Cok w g cc own Ts n F L Ce Sl) {j : Nat} {x : Nat} (ls2 : List (Nat × Value)) (hdg : decode cc pc = .ok (.astore j, 2)) (hn : j < n) (hl2 : (j, Value.ref x) :: ls.filter (fun q => !(q.1 == j) && !(q.1 + 1 == j && q.2.category == 2)) = ls2) (kk : Zt w g τ k (pc + 2) ls2 st) : Zt w g τ k pc ls (.ref x :: st) := by
  obtain ⟨p, e, R, s, m, args, below, meth, c, Q, nL⟩ := g
  obtain ⟨hx, hb, -, -, -, -, -, hnL, -⟩ := C
  exact fun H locs la hl hP hS => lv_astore hx hb hdg hl (by rw [hnL]; exact hn) hl2 (fun la2 hl3 => kk H locs la2 hl3 hP hS)
theorem z_lstore_n (C : Cok w g cc own Ts n F L Ce Sl) {j : Fin 4} {x : Int64} (ls2 : List (Nat × Value)) (hdg : decode cc pc = .ok (.lstore_n j, 1)) (hn : (j : Nat) + 1 < n) (hl2 : ((j : Nat), Value.long x) :: ls.filter (fun q => !(q.1 == (j : Nat)) && (!(q.1 == (j : Nat) + 1) && !(q.1 + 1 == (j : Nat) && q.2.category == 2))) = ls2) (kk : Zt w g τ k (pc + 1) ls2 st) : Zt w g τ k pc ls (.long x :: st) := by
  obtain ⟨p, e, R, s, m, args, below, meth, c, Q, nL⟩ := g
  obtain ⟨hx, hb, -, -, -, -, -, hnL, -⟩ := C
  exact fun H locs la hl hP hS => lv_lstore_n hx hb hdg rfl hl (by rw [hnL]; exact hn) hl2 (fun la2 hl3 => kk H locs la2 hl3 hP hS)
theorem z_lstore (C : Cok w g cc own Ts n F L Ce Sl) {j : Nat} {x : Int64} (ls2 : List (Nat × Value)) (hdg : decode cc pc = .ok (.lstore j, 2)) (hn : j + 1 < n) (hl2 : (j, Value.long x) :: ls.filter (fun q => !(q.1 == j) && (!(q.1 == j + 1) && !(q.1 + 1 == j && q.2.category == 2))) = ls2) (kk : Zt w g τ k (pc + 2) ls2 st) : Zt w g τ k pc ls (.long x :: st) := by
  obtain ⟨p, e, R, s, m, args, below, meth, c, Q, nL⟩ := g
  obtain ⟨hx, hb, -, -, -, -, -, hnL, -⟩ := C
  exact fun H locs la hl hP hS => lv_lstore hx hb hdg hl (by rw [hnL]; exact hn) hl2 (fun la2 hl3 => kk H locs la2 hl3 hP hS)
theorem z_iinc (C : Cok w g cc own Ts n F L Ce Sl) {j : Nat} {d : Int} {x : Int32} (q : Nat) (v : Int32) (ls2 : List (Nat × Value)) (hdg : decode cc pc = .ok (.iinc j d, 3)) (hq : ls[q]? = some (j, .int x)) (hv : x + Int32.ofInt d = v) (hn : j < n) (hl2 : (j, Value.int v) :: ls.filter (fun q => !(q.1 == j) && !(q.1 + 1 == j && q.2.category == 2)) = ls2) (kk : Zt w g τ k (pc + 3) ls2 st) : Zt w g τ k pc ls st := by
  obtain ⟨p, e, R, s, m, args, below, meth, c, Q, nL⟩ := g
  obtain ⟨hx, hb, -, -, -, -, -, hnL, -⟩ := C
  exact fun H locs la hl hP hS => lv_iinc hx hb hdg hl hq hv (by rw [hnL]; exact hn) hl2 (fun la2 hl3 => kk H locs la2 hl3 hP hS)
theorem z_iadd (C : Cok w g cc own Ts n F L Ce Sl) {x y : Int32} (hdg : decode cc pc = .ok (.iadd, 1)) (kk : Zt w g τ k (pc + 1) ls (.int (x + y) :: st)) : Zt w g τ k pc ls (.int y :: .int x :: st) := by
  obtain ⟨p, e, R, s, m, args, below, meth, c, Q, nL⟩ := g
  obtain ⟨hx, hb, -⟩ := C
  exact fun H locs la hl hP hS => lv_iadd hx hb hdg (kk H locs la hl hP hS)
theorem z_isub (C : Cok w g cc own Ts n F L Ce Sl) {x y : Int32} (hdg : decode cc pc = .ok (.isub, 1)) (kk : Zt w g τ k (pc + 1) ls (.int (x - y) :: st)) : Zt w g τ k pc ls (.int y :: .int x :: st) := by
  obtain ⟨p, e, R, s, m, args, below, meth, c, Q, nL⟩ := g
  obtain ⟨hx, hb, -⟩ := C
  exact fun H locs la hl hP hS => lv_isub hx hb hdg (kk H locs la hl hP hS)
theorem z_imul (C : Cok w g cc own Ts n F L Ce Sl) {x y : Int32} (hdg : decode cc pc = .ok (.imul, 1)) (kk : Zt w g τ k (pc + 1) ls (.int (x * y) :: st)) : Zt w g τ k pc ls (.int y :: .int x :: st) := by
  obtain ⟨p, e, R, s, m, args, below, meth, c, Q, nL⟩ := g
  obtain ⟨hx, hb, -⟩ := C
  exact fun H locs la hl hP hS => lv_imul hx hb hdg (kk H locs la hl hP hS)
theorem z_iand (C : Cok w g cc own Ts n F L Ce Sl) {x y : Int32} (hdg : decode cc pc = .ok (.iand, 1)) (kk : Zt w g τ k (pc + 1) ls (.int (x &&& y) :: st)) : Zt w g τ k pc ls (.int y :: .int x :: st) := by
  obtain ⟨p, e, R, s, m, args, below, meth, c, Q, nL⟩ := g
  obtain ⟨hx, hb, -⟩ := C
  exact fun H locs la hl hP hS => lv_iand hx hb hdg (kk H locs la hl hP hS)
theorem z_ior (C : Cok w g cc own Ts n F L Ce Sl) {x y : Int32} (hdg : decode cc pc = .ok (.ior, 1)) (kk : Zt w g τ k (pc + 1) ls (.int (x ||| y) :: st)) : Zt w g τ k pc ls (.int y :: .int x :: st) := by
  obtain ⟨p, e, R, s, m, args, below, meth, c, Q, nL⟩ := g
  obtain ⟨hx, hb, -⟩ := C
  exact fun H locs la hl hP hS => lv_ior hx hb hdg (kk H locs la hl hP hS)
theorem z_ixor (C : Cok w g cc own Ts n F L Ce Sl) {x y : Int32} (hdg : decode cc pc = .ok (.ixor, 1)) (kk : Zt w g τ k (pc + 1) ls (.int (x ^^^ y) :: st)) : Zt w g τ k pc ls (.int y :: .int x :: st) := by
  obtain ⟨p, e, R, s, m, args, below, meth, c, Q, nL⟩ := g
  obtain ⟨hx, hb, -⟩ := C
  exact fun H locs la hl hP hS => lv_ixor hx hb hdg (kk H locs la hl hP hS)
theorem z_ishl (C : Cok w g cc own Ts n F L Ce Sl) {x y : Int32} (hdg : decode cc pc = .ok (.ishl, 1)) (kk : Zt w g τ k (pc + 1) ls (.int (x <<< (y &&& 31)) :: st)) : Zt w g τ k pc ls (.int y :: .int x :: st) := by
  obtain ⟨p, e, R, s, m, args, below, meth, c, Q, nL⟩ := g
  obtain ⟨hx, hb, -⟩ := C
  exact fun H locs la hl hP hS => lv_ishl hx hb hdg (kk H locs la hl hP hS)
theorem z_ishr (C : Cok w g cc own Ts n F L Ce Sl) {x y : Int32} (hdg : decode cc pc = .ok (.ishr, 1)) (kk : Zt w g τ k (pc + 1) ls (.int (x >>> (y &&& 31)) :: st)) : Zt w g τ k pc ls (.int y :: .int x :: st) := by
  obtain ⟨p, e, R, s, m, args, below, meth, c, Q, nL⟩ := g
  obtain ⟨hx, hb, -⟩ := C
  exact fun H locs la hl hP hS => lv_ishr hx hb hdg (kk H locs la hl hP hS)
theorem z_idiv (C : Cok w g cc own Ts n F L Ce Sl) {x y : Int32} (hy : ¬ y = 0) (hdg : decode cc pc = .ok (.idiv, 1)) (kk : Zt w g τ k (pc + 1) ls (.int (x / y) :: st)) : Zt w g τ k pc ls (.int y :: .int x :: st) := by
  obtain ⟨p, e, R, s, m, args, below, meth, c, Q, nL⟩ := g
  obtain ⟨hx, hb, -⟩ := C
  exact fun H locs la hl hP hS => lv_idiv hx hb hdg hy (kk H locs la hl hP hS)
theorem z_irem (C : Cok w g cc own Ts n F L Ce Sl) {x y : Int32} (hy : ¬ y = 0) (hdg : decode cc pc = .ok (.irem, 1)) (kk : Zt w g τ k (pc + 1) ls (.int (x - x / y * y) :: st)) : Zt w g τ k pc ls (.int y :: .int x :: st) := by
  obtain ⟨p, e, R, s, m, args, below, meth, c, Q, nL⟩ := g
  obtain ⟨hx, hb, -⟩ := C
  exact fun H locs la hl hP hS => lv_irem hx hb hdg hy (kk H locs la hl hP hS)
theorem z_ineg (C : Cok w g cc own Ts n F L Ce Sl) {x : Int32} (hdg : decode cc pc = .ok (.ineg, 1)) (kk : Zt w g τ k (pc + 1) ls (.int (-x) :: st)) : Zt w g τ k pc ls (.int x :: st) := by
  obtain ⟨p, e, R, s, m, args, below, meth, c, Q, nL⟩ := g
  obtain ⟨hx, hb, -⟩ := C
  exact fun H locs la hl hP hS => lv_ineg hx hb hdg (kk H locs la hl hP hS)
theorem z_ladd (C : Cok w g cc own Ts n F L Ce Sl) {x y : Int64} (hdg : decode cc pc = .ok (.ladd, 1)) (kk : Zt w g τ k (pc + 1) ls (.long (x + y) :: st)) : Zt w g τ k pc ls (.long y :: .long x :: st) := by
  obtain ⟨p, e, R, s, m, args, below, meth, c, Q, nL⟩ := g
  obtain ⟨hx, hb, -⟩ := C
  exact fun H locs la hl hP hS => lv_ladd hx hb hdg (kk H locs la hl hP hS)
theorem z_lmul (C : Cok w g cc own Ts n F L Ce Sl) {x y : Int64} (hdg : decode cc pc = .ok (.lmul, 1)) (kk : Zt w g τ k (pc + 1) ls (.long (x * y) :: st)) : Zt w g τ k pc ls (.long y :: .long x :: st) := by
  obtain ⟨p, e, R, s, m, args, below, meth, c, Q, nL⟩ := g
  obtain ⟨hx, hb, -⟩ := C
  exact fun H locs la hl hP hS => lv_lmul hx hb hdg (kk H locs la hl hP hS)
theorem z_lsub (C : Cok w g cc own Ts n F L Ce Sl) {x y : Int64} (hdg : decode cc pc = .ok (.lsub, 1)) (kk : Zt w g τ k (pc + 1) ls (.long (x - y) :: st)) : Zt w g τ k pc ls (.long y :: .long x :: st) := by
  obtain ⟨p, e, R, s, m, args, below, meth, c, Q, nL⟩ := g
  obtain ⟨hx, hb, -⟩ := C
  exact fun H locs la hl hP hS => lv_lsub hx hb hdg (kk H locs la hl hP hS)
theorem z_i2l (C : Cok w g cc own Ts n F L Ce Sl) {x : Int32} (hdg : decode cc pc = .ok (.i2l, 1)) (kk : Zt w g τ k (pc + 1) ls (.long x.toInt64 :: st)) : Zt w g τ k pc ls (.int x :: st) := by
  obtain ⟨p, e, R, s, m, args, below, meth, c, Q, nL⟩ := g
  obtain ⟨hx, hb, -⟩ := C
  exact fun H locs la hl hP hS => lv_i2l hx hb hdg rfl (kk H locs la hl hP hS)
theorem z_lcmp (C : Cok w g cc own Ts n F L Ce Sl) {x y : Int64} (hdg : decode cc pc = .ok (.lcmp, 1)) (kk : Zt w g τ k (pc + 1) ls (.int (lg_cmp x y) :: st)) : Zt w g τ k pc ls (.long y :: .long x :: st) := by
  obtain ⟨p, e, R, s, m, args, below, meth, c, Q, nL⟩ := g
  obtain ⟨hx, hb, -⟩ := C
  exact fun H locs la hl hP hS => W.lcmp hx hb hdg (kk H locs la hl hP hS)
theorem z_dup (C : Cok w g cc own Ts n F L Ce Sl) {v : Value} (hv : v.category = 1) (hdg : decode cc pc = .ok (.dup, 1)) (kk : Zt w g τ k (pc + 1) ls (v :: v :: st)) : Zt w g τ k pc ls (v :: st) := by
  obtain ⟨p, e, R, s, m, args, below, meth, c, Q, nL⟩ := g
  obtain ⟨hx, hb, -⟩ := C
  exact fun H locs la hl hP hS => lv_dup hx hb hdg hv (kk H locs la hl hP hS)
theorem z_dup_x1 (C : Cok w g cc own Ts n F L Ce Sl) {v u : Value} (hv : v.category = 1) (hu : u.category = 1) (hdg : decode cc pc = .ok (.dup_x1, 1)) (kk : Zt w g τ k (pc + 1) ls (v :: u :: v :: st)) : Zt w g τ k pc ls (v :: u :: st) := by
  obtain ⟨p, e, R, s, m, args, below, meth, c, Q, nL⟩ := g
  obtain ⟨hx, hb, -⟩ := C
  exact fun H locs la hl hP hS => lv_dup_x1 hx hb hdg hv hu (kk H locs la hl hP hS)
theorem z_dup2 (C : Cok w g cc own Ts n F L Ce Sl) {v u : Value} (hv : v.category = 1) (hu : u.category = 1) (hdg : decode cc pc = .ok (.dup2, 1)) (kk : Zt w g τ k (pc + 1) ls (v :: u :: v :: u :: st)) : Zt w g τ k pc ls (v :: u :: st) := by
  obtain ⟨p, e, R, s, m, args, below, meth, c, Q, nL⟩ := g
  obtain ⟨hx, hb, -⟩ := C
  exact fun H locs la hl hP hS => lv_dup2_11 hx hb hdg hv hu (kk H locs la hl hP hS)
theorem z_pop (C : Cok w g cc own Ts n F L Ce Sl) {v : Value} (hv : v.category = 1) (hdg : decode cc pc = .ok (.pop, 1)) (kk : Zt w g τ k (pc + 1) ls (st)) : Zt w g τ k pc ls (v :: st) := by
  obtain ⟨p, e, R, s, m, args, below, meth, c, Q, nL⟩ := g
  obtain ⟨hx, hb, -⟩ := C
  exact fun H locs la hl hP hS => lv_pop hx hb hdg hv (kk H locs la hl hP hS)
theorem z_ldc (C : Cok w g cc own Ts n F L Ce Sl) {index : Nat} (v : Int32) (hc : Cond.constant own index v ∈ Ts) (hdg : decode cc pc = .ok (.ldc index, 2)) (kk : Zt w g τ k (pc + 2) ls (.int v :: st)) : Zt w g τ k pc ls st := by
  obtain ⟨p, e, R, s, m, args, below, meth, c, Q, nL⟩ := g
  obtain ⟨hx, hb, hml, hown, hts, -⟩ := C
  exact fun H locs la hl hP hS => lv_ldc hx hb hown (hts _ hc) hdg (kk H locs la hl hP hS)
theorem z_ldcw (C : Cok w g cc own Ts n F L Ce Sl) {index : Nat} (v : Int32) (hc : Cond.constant own index v ∈ Ts) (hdg : decode cc pc = .ok (.ldc_w index, 3)) (kk : Zt w g τ k (pc + 3) ls (.int v :: st)) : Zt w g τ k pc ls st := by
  obtain ⟨p, e, R, s, m, args, below, meth, c, Q, nL⟩ := g
  obtain ⟨hx, hb, hml, hown, hts, -⟩ := C
  exact fun H locs la hl hP hS => lv_ldcw hx hb hown (hts _ hc) hdg (kk H locs la hl hP hS)
theorem z_ldc2 (C : Cok w g cc own Ts n F L Ce Sl) {index : Nat} (v : Int64) (hc : Cond.constantLong own index v ∈ Ts) (hdg : decode cc pc = .ok (.ldc2_w index, 3)) (kk : Zt w g τ k (pc + 3) ls (.long v :: st)) : Zt w g τ k pc ls st := by
  obtain ⟨p, e, R, s, m, args, below, meth, c, Q, nL⟩ := g
  obtain ⟨hx, hb, hml, hown, hts, -⟩ := C
  exact fun H locs la hl hP hS => lv_ldc2 hx hb hown (hts _ hc) hdg (kk H locs la hl hP hS)
theorem z_icmp_eq (C : Cok w g cc own Ts n F L Ce Sl) {x y : Int32} {off : Int} {tgt : Nat} (hdg : decode cc pc = .ok (.if_icmp .eq off, 3)) (ht : (pc : Int) + off = (tgt : Int)) (kt : x = y → Zt w g τ k tgt ls st) (kf : ¬ x = y → Zt w g τ k (pc + 3) ls st) : Zt w g τ k pc ls (.int y :: .int x :: st) := by
  obtain ⟨p, e, R, s, m, args, below, meth, c, Q, nL⟩ := g
  obtain ⟨hx, hb, -⟩ := C
  exact fun H locs la hl hP hS => lv_icmp_eq hx hb hdg ht (fun h => kt h H locs la hl hP hS) (fun h => kf h H locs la hl hP hS)
theorem z_if_eq (C : Cok w g cc own Ts n F L Ce Sl) {x : Int32} {off : Int} {tgt : Nat} (hdg : decode cc pc = .ok (.ifCond .eq off, 3)) (ht : (pc : Int) + off = (tgt : Int)) (kt : x = 0 → Zt w g τ k tgt ls st) (kf : ¬ x = 0 → Zt w g τ k (pc + 3) ls st) : Zt w g τ k pc ls (.int x :: st) := by
  obtain ⟨p, e, R, s, m, args, below, meth, c, Q, nL⟩ := g
  obtain ⟨hx, hb, -⟩ := C
  exact fun H locs la hl hP hS => lv_if_eq hx hb hdg ht (fun h => kt h H locs la hl hP hS) (fun h => kf h H locs la hl hP hS)
theorem z_icmp_ne (C : Cok w g cc own Ts n F L Ce Sl) {x y : Int32} {off : Int} {tgt : Nat} (hdg : decode cc pc = .ok (.if_icmp .ne off, 3)) (ht : (pc : Int) + off = (tgt : Int)) (kt : ¬ x = y → Zt w g τ k tgt ls st) (kf : x = y → Zt w g τ k (pc + 3) ls st) : Zt w g τ k pc ls (.int y :: .int x :: st) := by
  obtain ⟨p, e, R, s, m, args, below, meth, c, Q, nL⟩ := g
  obtain ⟨hx, hb, -⟩ := C
  exact fun H locs la hl hP hS => lv_icmp_ne hx hb hdg ht (fun h => kt h H locs la hl hP hS) (fun h => kf h H locs la hl hP hS)
theorem z_if_ne (C : Cok w g cc own Ts n F L Ce Sl) {x : Int32} {off : Int} {tgt : Nat} (hdg : decode cc pc = .ok (.ifCond .ne off, 3)) (ht : (pc : Int) + off = (tgt : Int)) (kt : ¬ x = 0 → Zt w g τ k tgt ls st) (kf : x = 0 → Zt w g τ k (pc + 3) ls st) : Zt w g τ k pc ls (.int x :: st) := by
  obtain ⟨p, e, R, s, m, args, below, meth, c, Q, nL⟩ := g
  obtain ⟨hx, hb, -⟩ := C
  exact fun H locs la hl hP hS => lv_if_ne hx hb hdg ht (fun h => kt h H locs la hl hP hS) (fun h => kf h H locs la hl hP hS)
theorem z_icmp_lt (C : Cok w g cc own Ts n F L Ce Sl) {x y : Int32} {off : Int} {tgt : Nat} (hdg : decode cc pc = .ok (.if_icmp .lt off, 3)) (ht : (pc : Int) + off = (tgt : Int)) (kt : x < y → Zt w g τ k tgt ls st) (kf : ¬ x < y → Zt w g τ k (pc + 3) ls st) : Zt w g τ k pc ls (.int y :: .int x :: st) := by
  obtain ⟨p, e, R, s, m, args, below, meth, c, Q, nL⟩ := g
  obtain ⟨hx, hb, -⟩ := C
  exact fun H locs la hl hP hS => lv_icmp_lt hx hb hdg ht (fun h => kt h H locs la hl hP hS) (fun h => kf h H locs la hl hP hS)
theorem z_if_lt (C : Cok w g cc own Ts n F L Ce Sl) {x : Int32} {off : Int} {tgt : Nat} (hdg : decode cc pc = .ok (.ifCond .lt off, 3)) (ht : (pc : Int) + off = (tgt : Int)) (kt : x < 0 → Zt w g τ k tgt ls st) (kf : ¬ x < 0 → Zt w g τ k (pc + 3) ls st) : Zt w g τ k pc ls (.int x :: st) := by
  obtain ⟨p, e, R, s, m, args, below, meth, c, Q, nL⟩ := g
  obtain ⟨hx, hb, -⟩ := C
  exact fun H locs la hl hP hS => lv_if_lt hx hb hdg ht (fun h => kt h H locs la hl hP hS) (fun h => kf h H locs la hl hP hS)
theorem z_icmp_ge (C : Cok w g cc own Ts n F L Ce Sl) {x y : Int32} {off : Int} {tgt : Nat} (hdg : decode cc pc = .ok (.if_icmp .ge off, 3)) (ht : (pc : Int) + off = (tgt : Int)) (kt : y ≤ x → Zt w g τ k tgt ls st) (kf : ¬ y ≤ x → Zt w g τ k (pc + 3) ls st) : Zt w g τ k pc ls (.int y :: .int x :: st) := by
  obtain ⟨p, e, R, s, m, args, below, meth, c, Q, nL⟩ := g
  obtain ⟨hx, hb, -⟩ := C
  exact fun H locs la hl hP hS => lv_icmp_ge hx hb hdg ht (fun h => kt h H locs la hl hP hS) (fun h => kf h H locs la hl hP hS)
theorem z_if_ge (C : Cok w g cc own Ts n F L Ce Sl) {x : Int32} {off : Int} {tgt : Nat} (hdg : decode cc pc = .ok (.ifCond .ge off, 3)) (ht : (pc : Int) + off = (tgt : Int)) (kt : 0 ≤ x → Zt w g τ k tgt ls st) (kf : ¬ 0 ≤ x → Zt w g τ k (pc + 3) ls st) : Zt w g τ k pc ls (.int x :: st) := by
  obtain ⟨p, e, R, s, m, args, below, meth, c, Q, nL⟩ := g
  obtain ⟨hx, hb, -⟩ := C
  exact fun H locs la hl hP hS => lv_if_ge hx hb hdg ht (fun h => kt h H locs la hl hP hS) (fun h => kf h H locs la hl hP hS)
theorem z_icmp_gt (C : Cok w g cc own Ts n F L Ce Sl) {x y : Int32} {off : Int} {tgt : Nat} (hdg : decode cc pc = .ok (.if_icmp .gt off, 3)) (ht : (pc : Int) + off = (tgt : Int)) (kt : y < x → Zt w g τ k tgt ls st) (kf : ¬ y < x → Zt w g τ k (pc + 3) ls st) : Zt w g τ k pc ls (.int y :: .int x :: st) := by
  obtain ⟨p, e, R, s, m, args, below, meth, c, Q, nL⟩ := g
  obtain ⟨hx, hb, -⟩ := C
  exact fun H locs la hl hP hS => lv_icmp_gt hx hb hdg ht (fun h => kt h H locs la hl hP hS) (fun h => kf h H locs la hl hP hS)
theorem z_if_gt (C : Cok w g cc own Ts n F L Ce Sl) {x : Int32} {off : Int} {tgt : Nat} (hdg : decode cc pc = .ok (.ifCond .gt off, 3)) (ht : (pc : Int) + off = (tgt : Int)) (kt : 0 < x → Zt w g τ k tgt ls st) (kf : ¬ 0 < x → Zt w g τ k (pc + 3) ls st) : Zt w g τ k pc ls (.int x :: st) := by
  obtain ⟨p, e, R, s, m, args, below, meth, c, Q, nL⟩ := g
  obtain ⟨hx, hb, -⟩ := C
  exact fun H locs la hl hP hS => lv_if_gt hx hb hdg ht (fun h => kt h H locs la hl hP hS) (fun h => kf h H locs la hl hP hS)
theorem z_icmp_le (C : Cok w g cc own Ts n F L Ce Sl) {x y : Int32} {off : Int} {tgt : Nat} (hdg : decode cc pc = .ok (.if_icmp .le off, 3)) (ht : (pc : Int) + off = (tgt : Int)) (kt : x ≤ y → Zt w g τ k tgt ls st) (kf : ¬ x ≤ y → Zt w g τ k (pc + 3) ls st) : Zt w g τ k pc ls (.int y :: .int x :: st) := by
  obtain ⟨p, e, R, s, m, args, below, meth, c, Q, nL⟩ := g
  obtain ⟨hx, hb, -⟩ := C
  exact fun H locs la hl hP hS => lv_icmp_le hx hb hdg ht (fun h => kt h H locs la hl hP hS) (fun h => kf h H locs la hl hP hS)
theorem z_if_le (C : Cok w g cc own Ts n F L Ce Sl) {x : Int32} {off : Int} {tgt : Nat} (hdg : decode cc pc = .ok (.ifCond .le off, 3)) (ht : (pc : Int) + off = (tgt : Int)) (kt : x ≤ 0 → Zt w g τ k tgt ls st) (kf : ¬ x ≤ 0 → Zt w g τ k (pc + 3) ls st) : Zt w g τ k pc ls (.int x :: st) := by
  obtain ⟨p, e, R, s, m, args, below, meth, c, Q, nL⟩ := g
  obtain ⟨hx, hb, -⟩ := C
  exact fun H locs la hl hP hS => lv_if_le hx hb hdg ht (fun h => kt h H locs la hl hP hS) (fun h => kf h H locs la hl hP hS)
theorem z_goto (C : Cok w g cc own Ts n F L Ce Sl) {off : Int} {tgt : Nat} (hdg : decode cc pc = .ok (.goto off, 3)) (ht : (pc : Int) + off = (tgt : Int)) (kk : Zt w g τ k tgt ls st) : Zt w g τ k pc ls st := by
  obtain ⟨p, e, R, s, m, args, below, meth, c, Q, nL⟩ := g
  obtain ⟨hx, hb, -⟩ := C
  exact fun H locs la hl hP hS => lv_goto hx hb hdg ht (kk H locs la hl hP hS)
theorem z_sub (ks : List Nat) (ls2 : List (Nat × Value)) (h2 : lv_pick ls ks = ls2) (kk : Zt w g τ k pc ls2 st) : Zt w g τ k pc ls st := by
  obtain ⟨p, e, R, s, m, args, below, meth, c, Q, nL⟩ := g
  exact fun H locs la hl hP hS => kk H locs la (lv_sub hl ks h2) hP hS
theorem z_top {x : Int32} (kk : ∀ y : Int32, y = x → Zt w g τ k pc ls (.int y :: st)) : Zt w g τ k pc ls (.int x :: st) := kk x rfl
theorem z_topl {x : Int64} (kk : ∀ y : Int64, y = x → Zt w g τ k pc ls (.long y :: st)) : Zt w g τ k pc ls (.long x :: st) := kk x rfl
theorem z_widen (k2 : Nat × Nat) (h1 : k.1 ≤ k2.1) (h2 : k.2 ≤ k2.2) (kk : Zt w g τ k2 pc ls st) : Zt w g τ k pc ls st := by
  obtain ⟨p, e, R, s, m, args, below, meth, c, Q, nL⟩ := g
  exact fun H locs la hl hP hS => W.widen h1 h2 (kk H locs la hl hP hS)
theorem z_get (C : Cok w g cc own Ts n F L Ce Sl) {ref Cn : String} {T : u_T} {N ci index i : Nat} (hi : tp_ok w i) (q : Nat) {fs : List Value} {v : Value} (hE : tp_E w i (τ i) = .inr (ci, fs)) (hin : ∀ x ∈ u_ws Cn T N, x ∈ Ts) (hc : vwCl[ci]? = some (Cn, T, N)) (hq : q < N) (hlink : Cond.fieldLink own index ref (T q).2.1 (T q).2.2.1 ∈ Ts) (hsame : ref = (T q).1) (hv : fs[q]? = some v) (hdg : decode cc pc = .ok (.getfield index, 3)) (kk : Zt w g τ k (pc + 3) ls (v :: st)) : Zt w g τ k pc ls (.ref (w.1 i) :: st) := by
  obtain ⟨p, e, R, s, m, args, below, meth, c, Q, nL⟩ := g
  obtain ⟨hx, hb, hml, hown, hts, hK, hj, -⟩ := C
  exact fun H locs la hl hP hS => va_get hx hb hts hin hown hK hP i (by rw [tp_at hi.1, hE]) hc q hq (hts _ hlink) (fun x h => by rw [hsame]; exact h) hv hdg (kk H locs la hl hP hS)
theorem z_put (C : Cok w g cc own Ts n F L Ce Sl) {ref Cn : String} {T : u_T} {N ci index i : Nat} (hi : tp_ok w i) (q : Nat) {fs : List Value} {v : Int32} {ty : FieldType} (hE : tp_E w i (τ i) = .inr (ci, fs)) (hS2 : ((.inr (ci, fs.set q (.int v))) : va_E) = tp_E w i (upd (τ i) q v)) (hin : ∀ x ∈ u_ws Cn T N, x ∈ Ts) (ty0 : Nat → FieldType) (hty : ∀ j, j < N → parseFieldDescriptor (T j).2.2.1 = some (ty0 j)) (hnm : ∀ a, a < N → ∀ b, b < N → a ≠ b → (T a).2.1 ≠ (T b).2.1) (hc : vwCl[ci]? = some (Cn, T, N)) (hq : q < N) (hlink : Cond.fieldLink own index ref (T q).2.1 (T q).2.2.1 ∈ Ts) (hsame : ref = (T q).1) (hfin : (T q).2.2.2 = false) (hd : parseFieldDescriptor (T q).2.2.1 = some ty) (hn : narrow ty (.int v) = .int v) (hfit : fits ty (.int v) = true) (hlen : q < fs.length) (hdg : decode cc pc = .ok (.putfield index, 3)) (kk : ∀ τ2 : TS, τ2 = tp_up τ i q v → Zt w g τ2 k (pc + 3) ls st) : Zt w g τ k pc ls (.int v :: .ref (w.1 i) :: st) := by
  obtain ⟨p, e, R, s, m, args, below, meth, c, Q, nL⟩ := g
  obtain ⟨hx, hb, hml, hown, hts, hK, hj, -⟩ := C
  exact fun H locs la hl hP hS => va_put hx hb hts hin ty0 hty hnm hown hK hP (tp_Dd hj) hS i (by rw [tp_at hi.1, hE]) hc q hq (hts _ hlink) (fun x h => by rw [hsame]; exact h) hfin hd hn hfit hlen hdg (fun H1 locs1 hP1 _ hS1 => by
    rw [hS2, tp_set _ hi.1] at hP1
    exact kk _ rfl H1 locs1 la hl hP1 hS1)
theorem z_getN (C : Cok w g cc own Ts n F L Ce Sl) {ref Cn : String} {T : u_T} {N ci index i : Nat} (hi : tp_ok w i) (q : Nat) {fs : List Value} {v : Value} (hE : tp_E w i (τ i) = .inr (ci, fs)) (hin : ∀ x ∈ u_ws Cn T N, x ∈ Ts) (hc : vwCl[ci]? = some (Cn, T, N)) (hq : q < N) (nf : (own, index, ref, (T q).2.1, (T q).2.2.1) ∈ tp_nfs) (hsame : ref = (T q).1) (hv : fs[q]? = some v) (hdg : decode cc pc = .ok (.getfield index, 3)) (kk : Zt w g τ k (pc + 3) ls (v :: st)) : Zt w g τ k pc ls (.ref (w.1 i) :: st) := by
  obtain ⟨p, e, R, s, m, args, below, meth, c, Q, nL⟩ := g
  obtain ⟨hx, hb, hml, hown, hts, hK, hj, hnL, rF, rL, rC, rS, hlk, hNF⟩ := C
  exact fun H locs la hl hP hS => va_getN (host := "TidePostModel") hx hb hts hin hown hK hP i (by rw [tp_at hi.1, hE]) hc q hq (va_tabs rfl rfl (hNF _ nf)) (fun x h => by rw [hsame]; exact h) hv hdg (kk H locs la hl hP hS)
theorem z_putN (C : Cok w g cc own Ts n F L Ce Sl) {ref Cn : String} {T : u_T} {N ci index i : Nat} (hi : tp_ok w i) (q : Nat) {fs : List Value} {v : Int32} {ty : FieldType} (hE : tp_E w i (τ i) = .inr (ci, fs)) (hS2 : ((.inr (ci, fs.set q (.int v))) : va_E) = tp_E w i (upd (τ i) q v)) (hin : ∀ x ∈ u_ws Cn T N, x ∈ Ts) (ty0 : Nat → FieldType) (hty : ∀ j, j < N → parseFieldDescriptor (T j).2.2.1 = some (ty0 j)) (hnm : ∀ a, a < N → ∀ b, b < N → a ≠ b → (T a).2.1 ≠ (T b).2.1) (hc : vwCl[ci]? = some (Cn, T, N)) (hq : q < N) (nf : (own, index, ref, (T q).2.1, (T q).2.2.1) ∈ tp_nfs) (hsame : ref = (T q).1) (hfin : (T q).2.2.2 = false) (hd : parseFieldDescriptor (T q).2.2.1 = some ty) (hn : narrow ty (.int v) = .int v) (hfit : fits ty (.int v) = true) (hlen : q < fs.length) (hdg : decode cc pc = .ok (.putfield index, 3)) (kk : ∀ τ2 : TS, τ2 = tp_up τ i q v → Zt w g τ2 k (pc + 3) ls st) : Zt w g τ k pc ls (.int v :: .ref (w.1 i) :: st) := by
  obtain ⟨p, e, R, s, m, args, below, meth, c, Q, nL⟩ := g
  obtain ⟨hx, hb, hml, hown, hts, hK, hj, hnL, rF, rL, rC, rS, hlk, hNF⟩ := C
  exact fun H locs la hl hP hS => va_putN (host := "TidePostModel") hx hb hts hin ty0 hty hnm hown hK hP (tp_Dd hj) hS i (by rw [tp_at hi.1, hE]) hc q hq (va_tabs rfl rfl (hNF _ nf)) (fun x h => by rw [hsame]; exact h) hfin hd hn hfit hlen hdg (fun H1 locs1 hP1 _ hS1 => by
    rw [hS2, tp_set _ hi.1] at hP1
    exact kk _ rfl H1 locs1 la hl hP1 hS1)
theorem z_iald (C : Cok w g cc own Ts n F L Ce Sl) {i N : Nat} {x : Int32} (hi : tp_ok w i) (hE : tp_E w i (τ i) = .inl (w.2.2.1 0, N, .inl (τ i))) (hx2 : vp_in x N) (hdg : decode cc pc = .ok (.iaload, 1)) (kk : Zt w g τ k (pc + 1) ls (.int (τ i x.toNatClampNeg) :: st)) : Zt w g τ k pc ls (.int x :: .ref (w.1 i) :: st) := by
  obtain ⟨p, e, R, s, m, args, below, meth, c, Q, nL⟩ := g
  obtain ⟨hx, hb, hml, hown, hts, hK, hj, -⟩ := C
  exact fun H locs la hl hP hS => va_iald hx hb hK hP i 0 (by rw [tp_at hi.1, hE]) rfl hx2 hdg (kk H locs la hl hP hS)
theorem z_zald (C : Cok w g cc own Ts n F L Ce Sl) {i N : Nat} {x : Int32} (hi : tp_ok w i) (hE : tp_E w i (τ i) = .inl (w.2.2.1 1, N, .inl (τ i))) (hx2 : vp_in x N) (hdg : decode cc pc = .ok (.baload, 1)) (kk : Zt w g τ k (pc + 1) ls (.int (τ i x.toNatClampNeg) :: st)) : Zt w g τ k pc ls (.int x :: .ref (w.1 i) :: st) := by
  obtain ⟨p, e, R, s, m, args, below, meth, c, Q, nL⟩ := g
  obtain ⟨hx, hb, hml, hown, hts, hK, hj, -⟩ := C
  exact fun H locs la hl hP hS => va_zald hx hb hK hP i 1 (by rw [tp_at hi.1, hE]) rfl hx2 hdg (kk H locs la hl hP hS)
theorem z_iast (C : Cok w g cc own Ts n F L Ce Sl) {i N : Nat} {x v : Int32} (hi : tp_ok w i) (hE : ∀ f, tp_E w i f = .inl (w.2.2.1 0, N, .inl f)) (hx2 : vp_in x N) (hdg : decode cc pc = .ok (.iastore, 1)) (kk : ∀ τ2 : TS, τ2 = tp_up τ i x.toNatClampNeg v → Zt w g τ2 k (pc + 1) ls st) : Zt w g τ k pc ls (.int v :: .int x :: .ref (w.1 i) :: st) := by
  obtain ⟨p, e, R, s, m, args, below, meth, c, Q, nL⟩ := g
  obtain ⟨hx, hb, hml, hown, hts, hK, hj, -⟩ := C
  exact fun H locs la hl hP hS => va_iast hx hb hK hP (tp_Dd hj) hS i 0 (by rw [tp_at hi.1, hE]) rfl hx2 hdg (fun H1 locs1 hP1 _ hS1 => by
    rw [← hE, tp_set _ hi.1] at hP1
    exact kk _ rfl H1 locs1 la hl hP1 hS1)
theorem z_zast (C : Cok w g cc own Ts n F L Ce Sl) {i N : Nat} {x v : Int32} (hi : tp_ok w i) (hE : ∀ f, tp_E w i f = .inl (w.2.2.1 1, N, .inl f)) (hx2 : vp_in x N) (hv : vp_nar .boolean v = v) (hdg : decode cc pc = .ok (.bastore, 1)) (kk : ∀ τ2 : TS, τ2 = tp_up τ i x.toNatClampNeg v → Zt w g τ2 k (pc + 1) ls st) : Zt w g τ k pc ls (.int v :: .int x :: .ref (w.1 i) :: st) := by
  obtain ⟨p, e, R, s, m, args, below, meth, c, Q, nL⟩ := g
  obtain ⟨hx, hb, hml, hown, hts, hK, hj, -⟩ := C
  exact fun H locs la hl hP hS => va_zast hx hb hK hP (tp_Dd hj) hS i 1 (by rw [tp_at hi.1, hE]) rfl hx2 hdg (fun H1 locs1 hP1 _ hS1 => by
    rw [hv, ← hE, tp_set _ hi.1] at hP1
    exact kk _ rfl H1 locs1 la hl hP1 hS1)
theorem z_aald_q2 (C : Cok w g cc own Ts n F L Ce Sl) {i N b : Nat} {f : Nat → Option Nat} {x : Int32} (hi : tp_ok w i) (hE : tp_E w i (τ i) = .inl (w.2.2.1 2, N, .inr (.inr (.inr (.inr f))))) (hx2 : vp_in x N) (hf : f x.toNatClampNeg = some b) (hdg : decode cc pc = .ok (.aaload, 1)) (kk : Zt w g τ k (pc + 1) ls (.ref b :: st)) : Zt w g τ k pc ls (.int x :: .ref (w.1 i) :: st) := by
  obtain ⟨p, e, R, s, m, args, below, meth, c, Q, nL⟩ := g
  obtain ⟨hx, hb, hml, hown, hts, hK, hj, -⟩ := C
  exact fun H locs la hl hP hS => va_aldq hx hb hK hP i 2 (by rw [tp_at hi.1, hE]) rfl hx2 hdg (by rw [hf]; exact kk H locs la hl hP hS)
theorem z_aald_q3 (C : Cok w g cc own Ts n F L Ce Sl) {i N b : Nat} {f : Nat → Option Nat} {x : Int32} (hi : tp_ok w i) (hE : tp_E w i (τ i) = .inl (w.2.2.1 3, N, .inr (.inr (.inr (.inr f))))) (hx2 : vp_in x N) (hf : f x.toNatClampNeg = some b) (hdg : decode cc pc = .ok (.aaload, 1)) (kk : Zt w g τ k (pc + 1) ls (.ref b :: st)) : Zt w g τ k pc ls (.int x :: .ref (w.1 i) :: st) := by
  obtain ⟨p, e, R, s, m, args, below, meth, c, Q, nL⟩ := g
  obtain ⟨hx, hb, hml, hown, hts, hK, hj, -⟩ := C
  exact fun H locs la hl hP hS => va_aldq hx hb hK hP i 3 (by rw [tp_at hi.1, hE]) rfl hx2 hdg (by rw [hf]; exact kk H locs la hl hP hS)
theorem z_aald_q5 (C : Cok w g cc own Ts n F L Ce Sl) {i N b : Nat} {f : Nat → Option Nat} {x : Int32} (hi : tp_ok w i) (hE : tp_E w i (τ i) = .inl (w.2.2.1 5, N, .inr (.inr (.inr (.inr f))))) (hx2 : vp_in x N) (hf : f x.toNatClampNeg = some b) (hdg : decode cc pc = .ok (.aaload, 1)) (kk : Zt w g τ k (pc + 1) ls (.ref b :: st)) : Zt w g τ k pc ls (.int x :: .ref (w.1 i) :: st) := by
  obtain ⟨p, e, R, s, m, args, below, meth, c, Q, nL⟩ := g
  obtain ⟨hx, hb, hml, hown, hts, hK, hj, -⟩ := C
  exact fun H locs la hl hP hS => va_aldq hx hb hK hP i 5 (by rw [tp_at hi.1, hE]) rfl hx2 hdg (by rw [hf]; exact kk H locs la hl hP hS)
theorem z_alen (C : Cok w g cc own Ts n F L Ce Sl) {i : Nat} {cA : ClassId} {x : vp_A} {ty : FieldType} (t0 : Nat) (v : Int32) (hi : tp_ok w i) (hE : tp_E w i (τ i) = .inl (cA, x)) (ht : (tp_tys w)[t0]? = some (cA, ty)) (hv : Int32.ofNat x.1 = v) (hdg : decode cc pc = .ok (.arraylength, 1)) (kk : Zt w g τ k (pc + 1) ls (.int v :: st)) : Zt w g τ k pc ls (.ref (w.1 i) :: st) := by
  obtain ⟨p, e, R, s, m, args, below, meth, c, Q, nL⟩ := g
  obtain ⟨hx, hb, hml, hown, hts, hK, hj, -⟩ := C
  exact fun H locs la hl hP hS => va_alen hx hb hK hP i t0 (by rw [tp_at hi.1, hE]) ht hv hdg (kk H locs la hl hP hS)
theorem z_max (C : Cok w g cc own Ts n F L Ce Sl) {index : Nat} {x y : Int32} (h1 : Cond.methodLink own index Lib.Math.max.name ∈ Ts) (h2 : Cond.static Lib.Math.max.name ∈ Ts) (h3 : Cond.initialized "java/lang/Math" ∈ Ts) (h4 : Cond.code Lib.Math.max.name Lib.Math.max.code 2 (some .int) ∈ Ts) (hF : 1 ≤ F) (hL : (st.map fun v => v.category).sum + 13 ≤ L) (hk1 : k.1 ≤ Ce) (hk2 : k.2 ≤ Sl) (hdg : decode cc pc = .ok (.invokestatic index, 3)) (kk : Zt w g τ k (pc + 3) ls (.int (if x < y then y else x) :: st)) : Zt w g τ k pc ls (.int y :: .int x :: st) := by
  obtain ⟨p, e, R, s, m, args, below, meth, c, Q, nL⟩ := g
  obtain ⟨hx, hb, hml, hown, hts, hK, hj, hnL, rF, rL, rC, rS, -⟩ := C
  subst rF rL rC rS hnL
  exact fun H locs la hl hP hS => va_mmax hx hb (by rw [hml]; exact hl.1.symm) hown (hts _ h1) (hts _ h2) (hts _ h3) (hts _ h4) hF hL hk1 hk2 hdg (kk H locs la hl hP hS)
theorem z_min (C : Cok w g cc own Ts n F L Ce Sl) {index : Nat} {x y : Int32} (h1 : Cond.methodLink own index Lib.Math.min.name ∈ Ts) (h2 : Cond.static Lib.Math.min.name ∈ Ts) (h3 : Cond.initialized "java/lang/Math" ∈ Ts) (h4 : Cond.code Lib.Math.min.name Lib.Math.min.code 2 (some .int) ∈ Ts) (hF : 1 ≤ F) (hL : (st.map fun v => v.category).sum + 13 ≤ L) (hk1 : k.1 ≤ Ce) (hk2 : k.2 ≤ Sl) (hdg : decode cc pc = .ok (.invokestatic index, 3)) (kk : Zt w g τ k (pc + 3) ls (.int (if y < x then y else x) :: st)) : Zt w g τ k pc ls (.int y :: .int x :: st) := by
  obtain ⟨p, e, R, s, m, args, below, meth, c, Q, nL⟩ := g
  obtain ⟨hx, hb, hml, hown, hts, hK, hj, hnL, rF, rL, rC, rS, -⟩ := C
  subst rF rL rC rS hnL
  exact fun H locs la hl hP hS => va_mmin hx hb (by rw [hml]; exact hl.1.symm) hown (hts _ h1) (hts _ h2) (hts _ h3) (hts _ h4) hF hL hk1 hk2 hdg (kk H locs la hl hP hS)
theorem z_abs (C : Cok w g cc own Ts n F L Ce Sl) {index : Nat} {x : Int32} (h1 : Cond.methodLink own index Lib.Math.abs.name ∈ Ts) (h2 : Cond.static Lib.Math.abs.name ∈ Ts) (h3 : Cond.initialized "java/lang/Math" ∈ Ts) (h4 : Cond.code Lib.Math.abs.name Lib.Math.abs.code 1 (some .int) ∈ Ts) (hF : 1 ≤ F) (hL : (st.map fun v => v.category).sum + 13 ≤ L) (hk1 : k.1 ≤ Ce) (hk2 : k.2 ≤ Sl) (hdg : decode cc pc = .ok (.invokestatic index, 3)) (kk : Zt w g τ k (pc + 3) ls (.int (if 0 ≤ x then x else 0 - x) :: st)) : Zt w g τ k pc ls (.int x :: st) := by
  obtain ⟨p, e, R, s, m, args, below, meth, c, Q, nL⟩ := g
  obtain ⟨hx, hb, hml, hown, hts, hK, hj, hnL, rF, rL, rC, rS, -⟩ := C
  subst rF rL rC rS hnL
  exact fun H locs la hl hP hS => va_mabs hx hb (by rw [hml]; exact hl.1.symm) hown (hts _ h1) (hts _ h2) (hts _ h3) (hts _ h4) hF hL hk1 hk2 hdg (kk H locs la hl hP hS)
theorem va_ald2 {p : Program} {l : Launch} {e : Env} {R : Room} {s : State} {m : MethodId} {args : Array Value} {below : List Frame} {meth : Method} {c : Code} {H : Heap} {locs : List Loc} {cells slots : Nat} {Q : State → Prop} {cc : ByteArray} {pc : Nat} {la : Array Slot} {rest : List Value} {D : va_G} {cl : List vw_C} {a : Nat} {tys : List (ClassId × FieldType)} {ws : va_W} (hexec : p.tables.exec = Jvm.exec) (hb : c.code = cc) (hK : va_K D cl tys s) (hP : va_P D cl ws H) (q0 t0 : Nat) {cA : ClassId} {N : Nat} {f : Nat → Option Nat} (ha : ws[q0]? = some (a, .inl (cA, N, .inr (.inr (.inr (.inr f)))))) {tz : FieldType} (hz : refKind (.array tz) = true) (ht : tys[t0]? = some (cA, .array tz)) {i : Int32} (hin : vp_in i N) (hdg : decode cc pc = .ok (.aaload, 1))
    (kk : W p l e R s m args below meth c H locs cells slots Q (F0 m (pc + 1) la (va_rf (f i.toNatClampNeg) :: rest))) : W p l e R s m args below meth c H locs cells slots Q (F0 m pc la (.int i :: .ref a :: rest)) := by
  have hlt : i.toNatClampNeg < N := Nat.not_le.mp fun q => hin (Or.inr q)
  exact W.aald (v := va_rf (f i.toNatClampNeg)) (ty := .array tz) hexec hb (hP q0 _ ha) ((hK.2 t0 _ ht).1 N (fun j => va_rf (f j))) rfl (fun q => by cases q) (by show ¬ (i < 0 ∨ (arrV _ _ _).slots.size ≤ _); rw [arrV_size]; exact hin) (by show (arrV _ _ _).slots[_]? = _; rw [arrV_read _ _ hlt]) rfl rfl hdg kk
theorem z_aald_q4 (C : Cok w g cc own Ts n F L Ce Sl) {i N b : Nat} {f : Nat → Option Nat} {x : Int32} (hi : tp_ok w i) (hE : tp_E w i (τ i) = .inl (w.2.2.1 4, N, .inr (.inr (.inr (.inr f))))) (hx2 : vp_in x N) (hf : f x.toNatClampNeg = some b) (hdg : decode cc pc = .ok (.aaload, 1)) (kk : Zt w g τ k (pc + 1) ls (.ref b :: st)) : Zt w g τ k pc ls (.int x :: .ref (w.1 i) :: st) := by
  obtain ⟨p, e, R, s, m, args, below, meth, c, Q, nL⟩ := g
  obtain ⟨hx, hb, hml, hown, hts, hK, hj, -⟩ := C
  exact fun H locs la hl hP hS => va_ald2 hx hb hK hP i 4 (by rw [tp_at hi.1, hE]) rfl rfl hx2 hdg (by rw [hf]; exact kk H locs la hl hP hS)
theorem z_aald_q6 (C : Cok w g cc own Ts n F L Ce Sl) {i N b : Nat} {f : Nat → Option Nat} {x : Int32} (hi : tp_ok w i) (hE : tp_E w i (τ i) = .inl (w.2.2.1 6, N, .inr (.inr (.inr (.inr f))))) (hx2 : vp_in x N) (hf : f x.toNatClampNeg = some b) (hdg : decode cc pc = .ok (.aaload, 1)) (kk : Zt w g τ k (pc + 1) ls (.ref b :: st)) : Zt w g τ k pc ls (.int x :: .ref (w.1 i) :: st) := by
  obtain ⟨p, e, R, s, m, args, below, meth, c, Q, nL⟩ := g
  obtain ⟨hx, hb, hml, hown, hts, hK, hj, -⟩ := C
  exact fun H locs la hl hP hS => va_ald2 hx hb hK hP i 6 (by rw [tp_at hi.1, hE]) rfl rfl hx2 hdg (by rw [hf]; exact kk H locs la hl hP hS)
theorem z_copy (C : Cok w g cc own Ts n F L Ce Sl) {index i j t N M : Nat} {ty : FieldType} {sp dp x : Int32} (hi : tp_ok w i) (hj2 : tp_ok w j) (hEi : ∀ f, tp_E w i f = .inl (w.2.2.1 t, N, .inl f)) (hEj : ∀ f, tp_E w j f = .inl (w.2.2.1 t, M, .inl f)) (ht : (tp_tys w)[t]? = some (w.2.2.1 t, ty)) (hprim : refKind ty = false) (h1 : ¬ sp < 0) (h2 : ¬ dp < 0) (h3 : ¬ x < 0) (h4 : sp.toNatClampNeg + x.toNatClampNeg ≤ N) (h5 : dp.toNatClampNeg + x.toNatClampNeg ≤ M) (hfit : ∀ q, q < x.toNatClampNeg → fits ty (.int (τ i (sp.toNatClampNeg + q))) = true)
    (a1 : Cond.methodLink own index arraycopyName ∈ Ts) (a2 : Cond.native arraycopyName ∈ Ts) (a3 : Cond.static arraycopyName ∈ Ts) (a4 : Cond.initialized "java/lang/System" ∈ Ts) (hF : 1 ≤ F) (hL : (st.map fun v => v.category).sum + (nativeFrameWords "java/lang/System" "arraycopy" 5 + 11) ≤ L) (hdg : decode cc pc = .ok (.invokestatic index, 3))
    (kk : ∀ τ2 : TS, τ2 = tp_rw τ j (va_cpy (τ i) (τ j) sp.toNatClampNeg dp.toNatClampNeg x.toNatClampNeg) → Zt w g τ2 k (pc + 3) ls st) : Zt w g τ k pc ls (.int x :: .int dp :: .ref (w.1 j) :: .int sp :: .ref (w.1 i) :: st) := by
  obtain ⟨p, e, R, s, m, args, below, meth, c, Q, nL⟩ := g
  obtain ⟨hx, hb, hml, hown, hts, hK, hj, hnL, rF, rL, rC, rS, -⟩ := C
  subst rF rL rC rS hnL
  exact fun H locs la hl hP hS => va_copyi hx hb (by rw [hml]; exact hl.1.symm) hown (hts _ a1) (hts _ a2) (hts _ a3) (hts _ a4) hK hP (tp_Dd hj) hS i j t t (by rw [tp_at hi.1, hEi]) (by rw [tp_at hj2.1, hEj]) ht ht hprim h1 h2 h3 h4 h5 hfit hF hL hdg (fun H1 locs1 hP1 _ hS1 => by
    rw [← hEj, tp_set _ hj2.1] at hP1
    exact kk _ rfl H1 locs1 la hl hP1 hS1)
theorem tp_lt {x : Int32} {N : Nat} (h : vp_in x N) : x.toNatClampNeg < N := Nat.lt_of_not_le (fun h2 => h (Or.inr h2))
/-- a truth value -/
def tp_z (v : Int32) : Prop := narrow .boolean (.int v) = .int v ∧ fits .boolean (.int v) = true ∧ vp_nar .boolean v = v
theorem tp_z0 : tp_z 0 := ⟨rfl, rfl, rfl⟩
theorem tp_z1 : tp_z 1 := ⟨rfl, rfl, rfl⟩
theorem z_putJ (C : Cok w g cc own Ts n F L Ce Sl) {ref Cn : String} {T : u_T} {N ci index i : Nat} (hi : tp_ok w i) (q : Nat) {fs : List Value} {v : Int64} {ty : FieldType} (hE : tp_E w i (τ i) = .inr (ci, fs)) (hS2 : ((.inr (ci, fs.set q (.long v))) : va_E) = tp_E w i (upd (upd (τ i) q (tp_hi v)) (q + 1) (tp_lo v))) (hin : ∀ x ∈ u_ws Cn T N, x ∈ Ts) (ty0 : Nat → FieldType) (hty : ∀ j, j < N → parseFieldDescriptor (T j).2.2.1 = some (ty0 j)) (hnm : ∀ a, a < N → ∀ b, b < N → a ≠ b → (T a).2.1 ≠ (T b).2.1) (hc : vwCl[ci]? = some (Cn, T, N)) (hq : q < N) (hlink : Cond.fieldLink own index ref (T q).2.1 (T q).2.2.1 ∈ Ts) (hsame : ref = (T q).1) (hfin : (T q).2.2.2 = false) (hd : parseFieldDescriptor (T q).2.2.1 = some ty) (hn : narrow ty (.long v) = .long v) (hfit : fits ty (.long v) = true) (hlen : q < fs.length) (hdg : decode cc pc = .ok (.putfield index, 3)) (kk : ∀ τ2 : TS, τ2 = tp_rw τ i (upd (upd (τ i) q (tp_hi v)) (q + 1) (tp_lo v)) → Zt w g τ2 k (pc + 3) ls st) : Zt w g τ k pc ls (.long v :: .ref (w.1 i) :: st) := by
  obtain ⟨p, e, R, s, m, args, below, meth, c, Q, nL⟩ := g
  obtain ⟨hx, hb, hml, hown, hts, hK, hj, -⟩ := C
  exact fun H locs la hl hP hS => va_put hx hb hts hin ty0 hty hnm hown hK hP (tp_Dd hj) hS i (by rw [tp_at hi.1, hE]) hc q hq (hts _ hlink) (fun x h => by rw [hsame]; exact h) hfin hd hn hfit hlen hdg (fun H1 locs1 hP1 _ hS1 => by
    rw [hS2, tp_set _ hi.1] at hP1
    exact kk _ rfl H1 locs1 la hl hP1 hS1)
theorem tS20_9 {w : WPar} {i : Nat} {f : Nat → Int32} (h : tp_kd i = 20) (v : Int64) : ((.inr (10, List.set [.int (f 0), .int (f 1), .int (f 2), .ref (w.1 235), .ref (w.1 236), .ref (w.1 237), .ref (w.1 238), .ref (w.1 239), .ref (w.1 371), .long (tp_jl (f 9) (f 10))] 9 (.long v))) : va_E) = tp_E w i (upd (upd f 9 (tp_hi v)) 10 (tp_lo v)) := by rw [tE20 h]; simp [upd, List.set, tp_jl_hl]
theorem tE33 {w : WPar} {i : Nat} {f : Nat → Int32} (h : tp_kd i = 33) : tp_E w i f = .inl (w.2.2.1 7, 1, .inr (.inl (fun j => tp_jl (f (2 * j)) (f (2 * j + 1))))) := by simp only [tp_E, h]
theorem z_lald (C : Cok w g cc own Ts n F L Ce Sl) {i : Nat} {x : Int32} (hi : tp_is w i 33) (hx2 : vp_in x 1) (hdg : decode cc pc = .ok (.laload, 1)) (kk : Zt w g τ k (pc + 1) ls (.long (tp_jl (τ i (2 * x.toNatClampNeg)) (τ i (2 * x.toNatClampNeg + 1))) :: st)) : Zt w g τ k pc ls (.int x :: .ref (w.1 i) :: st) := by
  obtain ⟨p, e, R, s, m, args, below, meth, c, Q, nL⟩ := g
  obtain ⟨hx, hb, hml, hown, hts, hK, hj, -⟩ := C
  exact fun H locs la hl hP hS => va_lald hx hb hK hP i 7 (by rw [tp_at hi.2.1, tE33 hi.1]) rfl hx2 hdg (kk H locs la hl hP hS)
/-- out[0] = v -/
theorem z_last0 (C : Cok w g cc own Ts n F L Ce Sl) {i : Nat} {v : Int64} (hi : tp_is w i 33) (hdg : decode cc pc = .ok (.lastore, 1)) (kk : ∀ τ2 : TS, τ2 = tp_rw τ i (upd (upd (τ i) 0 (tp_hi v)) 1 (tp_lo v)) → Zt w g τ2 k (pc + 1) ls st) : Zt w g τ k pc ls (.long v :: .int 0 :: .ref (w.1 i) :: st) := by
  obtain ⟨p, e, R, s, m, args, below, meth, c, Q, nL⟩ := g
  obtain ⟨hx, hb, hml, hown, hts, hK, hj, -⟩ := C
  exact fun H locs la hl hP hS => va_last hx hb hK hP (tp_Dd hj) hS i 7 (by rw [tp_at hi.2.1, tE33 hi.1]) rfl (by unfold vp_in; decide) hdg (fun H1 locs1 hP1 _ hS1 => by
    have e9 : ((.inl (w.2.2.1 7, 1, .inr (.inl (vp_updL (fun j => tp_jl (τ i (2 * j)) (τ i (2 * j + 1))) (Int32.toNatClampNeg 0) v)))) : va_E) = tp_E w i (upd (upd (τ i) 0 (tp_hi v)) 1 (tp_lo v)) := by
      rw [tE33 hi.1]
      have e8 : vp_updL (fun j => tp_jl (τ i (2 * j)) (τ i (2 * j + 1))) (Int32.toNatClampNeg 0) v = fun j => tp_jl (upd (upd (τ i) 0 (tp_hi v)) 1 (tp_lo v) (2 * j)) (upd (upd (τ i) 0 (tp_hi v)) 1 (tp_lo v) (2 * j + 1)) := by
        funext j
        show (if j = 0 then v else _) = _
        by_cases hj0 : j = 0
        · subst hj0
          simp [upd, tp_jl_hl]
        · rw [if_neg hj0]
          simp only [upd]
          rw [if_neg (by omega), if_neg (by omega), if_neg (by omega), if_neg (by omega)]
      rw [e8]
    rw [e9, tp_set _ hi.2.1] at hP1
    exact kk _ rfl H1 locs1 la hl hP1 hS1)
theorem z_dconst0 (C : Cok w g cc own Ts n F L Ce Sl)  (hdg : decode cc pc = .ok (.dconst 0, 1)) (kk : Zt w g τ k (pc + 1) ls (.double FP.dconst0 :: st)) : Zt w g τ k pc ls (st) := by
  obtain ⟨p, e, R, s, m, args, below, meth, c, Q, nL⟩ := g
  obtain ⟨hx, hb, -⟩ := C
  exact fun H locs la hl hP hS => lv_dconst0 hx hb hdg (kk H locs la hl hP hS)
theorem z_dload_n (C : Cok w g cc own Ts n F L Ce Sl) {j : Fin 4} {x : UInt64} (q : Nat) (hq : ls[q]? = some ((j : Nat), .double x)) (hdg : decode cc pc = .ok (.dload_n j, 1)) (kk : Zt w g τ k (pc + 1) ls (.double x :: st)) : Zt w g τ k pc ls (st) := by
  obtain ⟨p, e, R, s, m, args, below, meth, c, Q, nL⟩ := g
  obtain ⟨hx, hb, -⟩ := C
  exact fun H locs la hl hP hS => lv_dload_n hx hb hdg rfl (lv_at hl q hq) (kk H locs la hl hP hS)
theorem z_dload (C : Cok w g cc own Ts n F L Ce Sl) {j : Nat} {x : UInt64} (q : Nat) (hq : ls[q]? = some (j, .double x)) (hdg : decode cc pc = .ok (.dload j, 2)) (kk : Zt w g τ k (pc + 2) ls (.double x :: st)) : Zt w g τ k pc ls (st) := by
  obtain ⟨p, e, R, s, m, args, below, meth, c, Q, nL⟩ := g
  obtain ⟨hx, hb, -⟩ := C
  exact fun H locs la hl hP hS => lv_dload hx hb hdg (lv_at hl q hq) (kk H locs la hl hP hS)
theorem z_dstore_n (C : Cok w g cc own Ts n F L Ce Sl) {j : Fin 4} {x : UInt64} (ls2 : List (Nat × Value)) (hdg : decode cc pc = .ok (.dstore_n j, 1)) (hn : (j : Nat) + 1 < n) (hl2 : ((j : Nat), Value.double x) :: ls.filter (fun q => !(q.1 == (j : Nat)) && (!(q.1 == (j : Nat) + 1) && !(q.1 + 1 == (j : Nat) && q.2.category == 2))) = ls2) (kk : Zt w g τ k (pc + 1) ls2 st) : Zt w g τ k pc ls (.double x :: st) := by
  obtain ⟨p, e, R, s, m, args, below, meth, c, Q, nL⟩ := g
  obtain ⟨hx, hb, -, -, -, -, -, hnL, -⟩ := C
  exact fun H locs la hl hP hS => lv_dstore_n hx hb hdg rfl hl (by rw [hnL]; exact hn) hl2 (fun la2 hl3 => kk H locs la2 hl3 hP hS)
theorem z_dstore (C : Cok w g cc own Ts n F L Ce Sl) {j : Nat} {x : UInt64} (ls2 : List (Nat × Value)) (hdg : decode cc pc = .ok (.dstore j, 2)) (hn : j + 1 < n) (hl2 : (j, Value.double x) :: ls.filter (fun q => !(q.1 == j) && (!(q.1 == j + 1) && !(q.1 + 1 == j && q.2.category == 2))) = ls2) (kk : Zt w g τ k (pc + 2) ls2 st) : Zt w g τ k pc ls (.double x :: st) := by
  obtain ⟨p, e, R, s, m, args, below, meth, c, Q, nL⟩ := g
  obtain ⟨hx, hb, -, -, -, -, -, hnL, -⟩ := C
  exact fun H locs la hl hP hS => lv_dstore hx hb hdg hl (by rw [hnL]; exact hn) hl2 (fun la2 hl3 => kk H locs la2 hl3 hP hS)
theorem z_dcmp (C : Cok w g cc own Ts n F L Ce Sl) {x y : UInt64} {op : CmpOp} (hdg : decode cc pc = .ok (.dcmp op, 1)) (kk : Zt w g τ k (pc + 1) ls (.int (Op.cmpValue (FP.dcmp x y) op) :: st)) : Zt w g τ k pc ls (.double y :: .double x :: st) := by
  obtain ⟨p, e, R, s, m, args, below, meth, c, Q, nL⟩ := g
  obtain ⟨hx, hb, -⟩ := C
  exact fun H locs la hl hP hS => lv_dcmp hx hb hdg (kk H locs la hl hP hS)
end ZT
