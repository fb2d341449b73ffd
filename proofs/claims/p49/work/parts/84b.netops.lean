/-! a node, a link, a link turned -/
theorem c0_n (τ : TS) {i j : Nat} (k : Nat) (v : Int32) (h : j ≠ i) : tp_up τ i k v j = τ j := if_neg h
theorem c0_s (τ : TS) (i k : Nat) (v : Int32) : tp_up τ i k v i = upd (τ i) k v := if_pos rfl
section NO
variable {τ : TS} {a f s d rm up : Nat → Int32}
theorem s_X3_layNode {K : TS → Int32 → Prop} (ea : τ 1 = a) (ef : τ 2 = f) (es : τ 3 = s) (ed : τ 4 = d) (eu : τ 6 = up) (hq : qNet a f s d rm) (h8 : (a 0).toInt < 8)
    (hk : ∀ τ2 : TS, (∀ i, i ≠ 1 → i < 8 ∨ 16 ≤ i → τ2 i = τ i) → τ2 1 = upd a 0 (a 0 + 1) → (a 0 + 1).toInt = (a 0).toInt + 1 → qNet (upd a 0 (a 0 + 1)) f s d rm → qRows τ2 (nE f s d up (a 1).toInt) ((a 0).toInt + 1) → K τ2 (a 0 + 1 - 1)) : wp_X3_layNode τ 1 K := by
  unfold wp_X3_layNode
  intro τ1 e1
  have e0 : (a 0 + 1).toInt = (a 0).toInt + 1 := by
    have := hq.1
    simp only [fa_lt, fa_le, fa_eq, q_add, q_sub, q_ite, Int32.reduceToInt]
    omega
  have ha : τ1 1 = upd a 0 (a 0 + 1) := by rw [e1, c0_s, ea]
  have fr : ∀ i, i ≠ 1 → τ1 i = τ i := fun i hi => by rw [e1]; exact if_neg hi
  have hq2 : qNet (upd a 0 (a 0 + 1)) f s d rm := by
    obtain ⟨q1, q2, q3⟩ := hq
    refine ⟨?_, q2, fun l hl => ?_⟩
    · show 0 ≤ (a 0 + 1).toInt ∧ (a 0 + 1).toInt ≤ 8
      omega
    · have := q3 l hl
      show (0 ≤ (f l).toInt ∧ (f l).toInt < (a 0 + 1).toInt) ∧ (0 ≤ (s l).toInt ∧ (s l).toInt < (a 0 + 1).toInt) ∧ _
      exact ⟨⟨this.1.1, by omega⟩, ⟨this.2.1.1, by omega⟩, this.2.2⟩
  refine s_X3_measureRoutes ha ((fr 2 (by decide)).trans ef) ((fr 3 (by decide)).trans es) ((fr 4 (by decide)).trans ed) ((fr 6 (by decide)).trans eu) hq2 (fun τ2 f2 hr => ?_)
  have h1 : τ2 1 = upd a 0 (a 0 + 1) := (f2 1 (Or.inl (by decide))).trans ha
  rw [h1]
  refine hk τ2 (fun i hi hi2 => (f2 i hi2).trans (fr i hi)) h1 e0 hq2 ?_
  rw [← e0]
  exact hr
theorem s_X3_layLink {x1 x2 x3 x4 : Int32} {K : TS → Int32 → Prop} (ea : τ 1 = a) (ef : τ 2 = f) (es : τ 3 = s) (ed : τ 4 = d) (er : τ 5 = rm) (eu : τ 6 = up) (hq : qNet a f s d rm) (h12 : (a 1).toInt < 12) (h1 : 0 ≤ x1.toInt ∧ x1.toInt < (a 0).toInt) (h2 : 0 ≤ x2.toInt ∧ x2.toInt < (a 0).toInt) (h3 : 1 ≤ x3.toInt ∧ x3.toInt ≤ 9) (h4 : 1 ≤ x4.toInt ∧ x4.toInt ≤ 20)
    (hk : ∀ τ2 : TS, (∀ i, i = 0 ∨ i = 7 ∨ 16 ≤ i → τ2 i = τ i) → τ2 1 = upd a 1 (a 1 + 1) → (a 1 + 1).toInt = (a 1).toInt + 1 → τ2 2 = upd f (a 1).toInt.toNat x1 → τ2 3 = upd s (a 1).toInt.toNat x2 → τ2 4 = upd d (a 1).toInt.toNat x3 → τ2 5 = upd rm (a 1).toInt.toNat x4 → τ2 6 = upd up (a 1).toInt.toNat 1 → qNet (τ2 1) (τ2 2) (τ2 3) (τ2 4) (τ2 5) → qRows τ2 (nE (τ2 2) (τ2 3) (τ2 4) (τ2 6) (τ2 1 1).toInt) (τ2 1 0).toInt → K τ2 (a 1)) : wp_X3_layLink τ 1 x1 x2 x3 x4 K := by
  unfold wp_X3_layLink
  obtain ⟨q1, q2, q3⟩ := id hq
  intro x e
  have ex : x = a 1 := by rw [e, ea]
  subst ex
  have hv : vp_in (a 1) 12 := q_in q2.1 (by omega)
  rw [q_cl]
  generalize hl : (a 1).toInt.toNat = l at *
  refine ⟨hv, fun τ1 e1 => ⟨hv, fun τ2 e2 => ⟨hv, fun τ3 e3 => ⟨hv, fun τ4 e4 => ⟨hv, fun τ5 e5 τ6 e6 => ?_⟩⟩⟩⟩⟩
  have e0 : (a 1 + 1).toInt = (a 1).toInt + 1 := by
    simp only [fa_lt, fa_le, fa_eq, q_add, q_sub, q_ite, Int32.reduceToInt]
    omega
  have r2 : τ6 2 = upd f l x1 := by rw [e6, c0_n _ _ _ (by decide), e5, c0_n _ _ _ (by decide), e4, c0_n _ _ _ (by decide), e3, c0_n _ _ _ (by decide), e2, c0_n _ _ _ (by decide), e1, c0_s, ef]
  have r3 : τ6 3 = upd s l x2 := by rw [e6, c0_n _ _ _ (by decide), e5, c0_n _ _ _ (by decide), e4, c0_n _ _ _ (by decide), e3, c0_n _ _ _ (by decide), e2, c0_s, e1, c0_n _ _ _ (by decide), es]
  have r4 : τ6 4 = upd d l x3 := by rw [e6, c0_n _ _ _ (by decide), e5, c0_n _ _ _ (by decide), e4, c0_n _ _ _ (by decide), e3, c0_s, e2, c0_n _ _ _ (by decide), e1, c0_n _ _ _ (by decide), ed]
  have r5 : τ6 5 = upd rm l x4 := by rw [e6, c0_n _ _ _ (by decide), e5, c0_n _ _ _ (by decide), e4, c0_s, e3, c0_n _ _ _ (by decide), e2, c0_n _ _ _ (by decide), e1, c0_n _ _ _ (by decide), er]
  have r6 : τ6 6 = upd up l 1 := by rw [e6, c0_n _ _ _ (by decide), e5, c0_s, e4, c0_n _ _ _ (by decide), e3, c0_n _ _ _ (by decide), e2, c0_n _ _ _ (by decide), e1, c0_n _ _ _ (by decide), eu]
  have s5 : τ5 1 = a := by rw [e5, c0_n _ _ _ (by decide), e4, c0_n _ _ _ (by decide), e3, c0_n _ _ _ (by decide), e2, c0_n _ _ _ (by decide), e1, c0_n _ _ _ (by decide), ea]
  have r1 : τ6 1 = upd a 1 (a 1 + 1) := by rw [e6, c0_s, s5]
  have fr : ∀ i, i = 0 ∨ 7 ≤ i → τ6 i = τ i := fun i hi => by
    rw [e6, c0_n _ _ _ (by omega), e5, c0_n _ _ _ (by omega), e4, c0_n _ _ _ (by omega), e3, c0_n _ _ _ (by omega), e2, c0_n _ _ _ (by omega), e1, c0_n _ _ _ (by omega)]
  clear e1 e2 e3 e4 e5 e6 s5
  have hq2 : qNet (upd a 1 (a 1 + 1)) (upd f l x1) (upd s l x2) (upd d l x3) (upd rm l x4) := by
    refine ⟨q1, ?_, fun j hj => ?_⟩
    · show 0 ≤ (a 1 + 1).toInt ∧ (a 1 + 1).toInt ≤ 12
      omega
    · have hj2 : (j : Int) < (a 1 + 1).toInt := hj
      show (0 ≤ (upd f l x1 j).toInt ∧ (upd f l x1 j).toInt < (a 0).toInt) ∧ (0 ≤ (upd s l x2 j).toInt ∧ (upd s l x2 j).toInt < (a 0).toInt) ∧ _
      by_cases h9 : j = l
      · subst h9
        rw [show upd f j x1 j = x1 from if_pos rfl, show upd s j x2 j = x2 from if_pos rfl, show upd d j x3 j = x3 from if_pos rfl, show upd rm j x4 j = x4 from if_pos rfl]
        exact ⟨h1, h2, h3, h4⟩
      · rw [show upd f l x1 j = f j from if_neg h9, show upd s l x2 j = s j from if_neg h9, show upd d l x3 j = d j from if_neg h9, show upd rm l x4 j = rm j from if_neg h9]
        exact q3 j (by omega)
  refine s_X3_measureRoutes r1 r2 r3 r4 r6 hq2 (fun τ7 f7 hr => ?_)
  have t1 := (f7 1 (Or.inl (by decide))).trans r1
  have t2 := (f7 2 (Or.inl (by decide))).trans r2
  have t3 := (f7 3 (Or.inl (by decide))).trans r3
  have t4 := (f7 4 (Or.inl (by decide))).trans r4
  have t5 := (f7 5 (Or.inl (by decide))).trans r5
  have t6 := (f7 6 (Or.inl (by decide))).trans r6
  refine hk τ7 (fun i hi => (f7 i (by omega)).trans (fr i (by omega))) t1 e0 t2 t3 t4 t5 t6 ?_ ?_
  · rw [t1, t2, t3, t4, t5]; exact hq2
  · rw [t1, t2, t3, t4, t6]; exact hr
theorem s_X3_flip {x1 : Int32} {K : TS → Prop} (ea : τ 1 = a) (ef : τ 2 = f) (es : τ 3 = s) (ed : τ 4 = d) (eu : τ 6 = up) (hq : qNet a f s d rm) (h1 : 0 ≤ x1.toInt ∧ x1.toInt < (a 1).toInt)
    (hk : ∀ (τ2 : TS) (v : Int32), (∀ i, i ≠ 6 → i < 8 ∨ 16 ≤ i → τ2 i = τ i) → (v = 0 ∧ up x1.toInt.toNat ≠ 0 ∨ v = 1 ∧ up x1.toInt.toNat = 0) → τ2 6 = upd up x1.toInt.toNat v → qRows τ2 (nE f s d (upd up x1.toInt.toNat v) (a 1).toInt) (a 0).toInt → K τ2) : wp_X3_flip τ 1 x1 K := by
  unfold wp_X3_flip
  have hv : vp_in x1 12 := q_in h1.1 (by have := hq.2.1.2; omega)
  rw [q_cl, eu]
  have go : ∀ (v : Int32), (v = 0 ∧ up x1.toInt.toNat ≠ 0 ∨ v = 1 ∧ up x1.toInt.toNat = 0) → ∀ τ1 : TS, τ1 = tp_up τ 6 x1.toInt.toNat v → wp_X3_measureRoutes τ1 1 (fun τ25 => K τ25) := fun v hv2 τ1 e1 => by
    have r6 : τ1 6 = upd up x1.toInt.toNat v := by rw [e1, c0_s, eu]
    have fr : ∀ i, i ≠ 6 → τ1 i = τ i := fun i hi => by rw [e1, c0_n _ _ _ hi]
    refine s_X3_measureRoutes ((fr 1 (by decide)).trans ea) ((fr 2 (by decide)).trans ef) ((fr 3 (by decide)).trans es) ((fr 4 (by decide)).trans ed) r6 hq (fun τ2 f2 hr => ?_)
    exact hk τ2 v (fun i hi hi2 => (f2 i hi2).trans (fr i hi)) hv2 ((f2 6 (Or.inl (by decide))).trans r6) hr
  exact ⟨hv, fun c => ⟨hv, fun τ1 e1 => go 0 (Or.inl ⟨rfl, c⟩) τ1 e1⟩, fun c => ⟨hv, fun τ1 e1 => go 1 (Or.inr ⟨rfl, c⟩) τ1 e1⟩⟩
end NO
