/-- the growing world, once it is whole -/
theorem tp_bridge {w w2 : WPar} {p : Program} {e : Env} {R : Room} {s : State} {m : MethodId} {args : Array Value} {below : List Frame} {meth : Method} {c : Code} {Q : State → Prop} {nL : Nat} {u : va_W} {k : Nat × Nat} {pc : Nat} {ls : List (Nat × Value)} {st : List Value} (hu : u = tp_W w2 tp_t0) (hD : tp_D w2 = tp_D w) (hl : w2.2.1 = w.2.1)
    (kk : tp_inj w2 → (∀ i, i < tp_N w2 → s.heap.size ≤ w2.1 i) → Zt w2 (p, e, R, s, m, args, below, meth, c, Q, nL) tp_t0 k pc ls st) : Zg w (p, e, R, s, m, args, below, meth, c, Q, nL) (fun q => s.heap.size ≤ q) u k pc ls st := by
  subst hu
  intro H locs la hla hP hD2 hS
  have h1 : tp_inj w2 := fun i j hi hj h => hD2.1 i j _ _ (tp_at hi) (tp_at hj) h
  have h2 : ∀ i, i < tp_N w2 → s.heap.size ≤ w2.1 i := fun i hi => hD2.2 i _ (tp_at hi)
  have hA : tp_A w2 s.heap.size = fun q => s.heap.size ≤ q := by
    funext q
    apply propext
    constructor
    · rintro (⟨i, hi, rfl⟩ | h)
      · exact h2 i hi
      · exact h
    · exact fun h => Or.inr h
  have hz := kk h1 h2 H locs la hla (by rw [hD]; exact hP) (by rw [hA]; exact hS)
  rw [hl] at hz
  exact hz
