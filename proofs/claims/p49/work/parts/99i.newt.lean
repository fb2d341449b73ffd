/-! a row of the law's own: the world grows by a cell -/
theorem tp_rf234 : ∀ i : Fin 234, ∀ r ∈ tp_refs i.val, r < 234 := by decide +kernel
theorem tp_rf235 : ∀ i : Fin 235, ∀ r ∈ tp_refs i.val, r < 235 := by decide +kernel
theorem tp_kd9 {n : Nat} (h : 234 ≤ n) : tp_kd n = 19 := by
  unfold tp_kd
  rw [if_neg (by omega), if_neg (by omega), if_neg (by omega), if_neg (by omega)]
theorem z_newT {w : WPar} {g : Cxt} {τ : TS} {k : Nat × Nat} {pc : Nat} {ls : List (Nat × Value)} {st : List Value} {cc : ByteArray} {own : String} {Ts : List Cond} {n F L Ce Sl : Nat} (C : Cok w g cc own Ts n F L Ce Sl) (M : Nat) (hM : 234 ≤ M) (href : ∀ i, i < M → ∀ r ∈ tp_refs i, r < M) (hN : tp_N w = M) (harr : Cond.arrayClass .int ∈ Ts) (hk : k.1 + 1 ≤ Ce ∧ k.2 + 6 ≤ Sl) (hdg : decode cc pc = .ok (.newarray .int, 2)) {k2 : Nat × Nat} (hk2 : k2 = (k.1 + 1, k.2 + 6))
    (kk : ∀ w2 : WPar, w2.2.1 = w.2.1 → tp_N w2 = M + 1 → (∀ i, i < M → w2.1 i = w.1 i) → Cok w2 g cc own Ts n F L Ce Sl → (CX w g → CX w2 g) → (∀ (b L : Nat) (xs : Nat → Int32), CS w g b L xs → CS w2 g b L xs) → (∀ (τ : TS) (k : Nat × Nat) (pc : Nat) (ls : List (Nat × Value)) (st : List Value), Zt w g τ k pc ls st → Zt w2 g τ k pc ls st) → ∀ τ2 : TS, τ2 = tp_rw τ M (fun _ => 0) → Zt w2 g τ2 k2 (pc + 2) ls (.ref (w2.1 M) :: st)) : Zt w g τ k pc ls (.int 6 :: st) := by
  obtain ⟨p, e, R, s, m, args, below, meth, c, Q, nL⟩ := g
  obtain ⟨hx, hb, hml, hown, hts, hK, hj, hnL, rF, rL, rC, rS, hlk⟩ := C
  subst rF rL rC rS hnL
  subst hk2
  intro H locs la hl hP hS
  refine va_newa (atype := .int) (ty := .int) (a0 := (6, .inl (fun _ => 0))) (N' := 6) hx hb (hts _ harr) rfl hK hP (tp_Dd hj) hS (fun q h => Or.inr h) (fun cA => rfl) (by decide) (by decide) (by decide) hk.1 hk.2 hdg (fun q cA H1 hK1 hP1 hD1 hS1 => ?_)
  have e1 : cA = w.2.2.1 0 := by
    have h1 : s.vm.findClass ("[" ++ (.int : FieldType).toString) = some cA := (hK1.2 5 (cA, .int) rfl).2
    have h2 : s.vm.findClass ("[" ++ (.int : FieldType).toString) = some (w.2.2.1 0) := (hK.2 0 (w.2.2.1 0, .int) rfl).2
    exact Option.some.inj (h1.symm.trans h2)
  subst e1
  generalize hw2 : (((fun i => if i = M then q else w.1 i), w.2.1, w.2.2.1, w.2.2.2.1, w.2.2.2.2.1, M + 1) : WPar) = w2
  have hN2 : tp_N w2 = M + 1 := by rw [← hw2]; rfl
  have ha : ∀ i, i < M → w2.1 i = w.1 i := fun i hi => by rw [← hw2]; exact if_neg (by omega)
  have ha9 : w2.1 M = q := by
    rw [← hw2]
    show (if M = M then q else w.1 M) = q
    exact if_pos rfl
  have h2 : w2.2.1 = w.2.1 ∧ w2.2.2.1 = w.2.2.1 ∧ tp_D w2 = tp_D w := by rw [← hw2]; exact ⟨rfl, rfl, rfl⟩
  have hE : ∀ (i : Nat) (f : Nat → Int32), i < M → tp_E w2 i f = tp_E w i f := fun i f hi => by
    have h3 : tp_E w2 i f = tp_E (w2.1, w.2) i f := by
      rw [← hw2]; unfold tp_E; rfl
    rw [h3]
    exact tp_E_congr (w := (w2.1, w.2)) (w2 := w) (fun r hr => ha r (href i hi r hr)) rfl
  have hWW : ∀ τ3 : TS, tp_W w2 τ3 = tp_W w τ3 ++ [(q, tp_E w2 M (τ3 M))] := fun τ3 => by
    unfold tp_W
    rw [hN2, hN, List.range_succ, List.map_append]
    have ap : ∀ (x y x2 y2 : va_W), x = x2 → y = y2 → x ++ y = x2 ++ y2 := fun _ _ _ _ h1 h2 => by rw [h1, h2]
    refine ap _ _ _ _ (List.map_congr_left fun i hi => ?_) ?_
    · rw [List.mem_range] at hi
      rw [ha i hi, hE i _ hi]
    · show [(w2.1 M, tp_E w2 M (τ3 M))] = _
      rw [ha9]
  have hap : ∀ i, i < M → w.1 i ≠ q := fun i hi h => by
    have h3 := hD1.1 i M (w.1 i, tp_E w i (τ i)) (q, .inl (w.2.2.1 0, 6, .inl fun _ => 0)) (by
      rw [List.getElem?_append_left (by simp [tp_W, hN]; exact hi)]; exact tp_at (by rw [hN]; exact hi)) (by
      rw [List.getElem?_append_right (by simp [tp_W, hN])]; simp [tp_W, hN]) h
    omega
  have hqA : s.heap.size ≤ q := by
    have h3 := hD1.2 M (q, .inl (w.2.2.1 0, 6, .inl fun _ => 0)) (by
      rw [List.getElem?_append_right (by simp [tp_W, hN])]; simp [tp_W, hN])
    rcases h3 with ⟨i, hi, h4⟩ | h4
    · exact absurd h4.symm (hap i (by rw [hN] at hi; exact hi))
    · exact h4
  have hA : tp_A w2 s.heap.size = tp_A w s.heap.size := by
    funext q2
    apply propext
    constructor
    · rintro (⟨i, hi, rfl⟩ | h)
      · rw [hN2] at hi
        by_cases h9 : i = M
        · subst h9; rw [ha9]; exact Or.inr hqA
        · rw [ha i (by omega)]; exact Or.inl ⟨i, by rw [hN]; omega, rfl⟩
      · exact Or.inr h
    · rintro (⟨i, hi, rfl⟩ | h)
      · rw [hN] at hi
        exact Or.inl ⟨i, by rw [hN2]; omega, (ha i hi).symm⟩
      · exact Or.inr h
  have hj2 : tp_inj w2 := fun i j hi hj3 h => by
    rw [hN2] at hi hj3
    by_cases h3 : i = M <;> by_cases h4 : j = M
    · omega
    · rw [h3, ha9, ha j (by omega)] at h; exact absurd h.symm (hap j (by omega))
    · rw [h4, ha9, ha i (by omega)] at h; exact absurd h (hap i (by omega))
    · rw [ha i (by omega), ha j (by omega)] at h; exact hj i j (by rw [hN]; omega) (by rw [hN]; omega) h
  have hT : tp_tys w2 = tp_tys w := by unfold tp_tys; rw [h2.2.1]
  have hZ : ∀ (τ : TS) (k : Nat × Nat) (pc : Nat) (ls : List (Nat × Value)) (st : List Value), Zt w (p, e, R, s, m, args, below, meth, c, Q, nL) τ k pc ls st → Zt w2 (p, e, R, s, m, args, below, meth, c, Q, nL) τ k pc ls st := fun τ3 k3 pc3 ls3 st3 hz H3 locs3 la3 hl3 hP3 hS3 => by
    rw [h2.1]
    rw [h2.2.2] at hP3
    rw [hA] at hS3
    refine hz H3 locs3 la3 hl3 (fun j x hx => hP3 j x ?_) hS3
    rw [hWW, List.getElem?_append_left (List.getElem?_eq_some_iff.mp hx).1]
    exact hx
  have hCX : CX w (p, e, R, s, m, args, below, meth, c, Q, nL) → CX w2 (p, e, R, s, m, args, below, meth, c, Q, nL) := fun h => by
    obtain ⟨h5, h6⟩ := h
    refine ⟨?_, by rw [h2.1]; exact h6⟩
    unfold tp_X at h5 ⊢
    rw [hA]
    exact h5
  have hCS : ∀ (b L : Nat) (xs : Nat → Int32), CS w (p, e, R, s, m, args, below, meth, c, Q, nL) b L xs → CS w2 (p, e, R, s, m, args, below, meth, c, Q, nL) b L xs := fun b L xs h => ⟨h.1, h.2.1, by rw [hA]; exact h.2.2⟩
  have hz := kk w2 h2.1 hN2 ha ⟨hx, hb, hml, hown, hts, by rw [h2.2.2, hT]; exact hK, hj2, rfl, rfl, rfl, rfl, rfl, hlk⟩ hCX hCS hZ (tp_rw τ M (fun _ => 0)) rfl
  rw [ha9] at hz
  have hz2 := hz H1 locs la hl ?_ ?_
  · rw [h2.1] at hz2
    exact hz2
  · rw [h2.2.2, hWW]
    have e2 : tp_W w (tp_rw τ M (fun _ => 0)) = tp_W w τ := by
      unfold tp_W
      apply List.map_congr_left
      intro i hi
      rw [List.mem_range, hN] at hi
      rw [show tp_rw τ M (fun _ => 0) i = τ i from if_neg (by omega)]
    rw [e2, show tp_rw τ M (fun _ => 0) M = fun _ => 0 from if_pos rfl, tE19 (tp_kd9 hM), h2.2.1]
    exact hP1
  · rw [hA]
    exact hS1
