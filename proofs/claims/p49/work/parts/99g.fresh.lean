/-! the fresh world, and its nodes -/
/-- m nodes, nothing else -/
def gP (τ : TS) (m : Int) : Prop := qN τ ∧ tI 17 0 0 (fun _ => 0) (fun _ => 1) (fun _ => 0) (fun _ => 1) (fun _ => 0) 0 0 τ ∧ (τ 1 0).toInt = m ∧ τ 17 3 = 0 ∧ τ 17 4 = 0
theorem gP_0 : gP tp_t0 0 := by
  have z : ∀ (i k : Nat), tp_kd i = k → k ≠ 9 → ∀ q, tp_t0 i q = 0 := fun i k h h2 q => by rw [tp_t0z h h2]
  have z0 : (0 : Int32).toInt = 0 := rfl
  have e10 := z 1 3 (by decide) (by decide) 0
  have e11 := z 1 3 (by decide) (by decide) 1
  have e6 : ∀ l, tp_t0 6 l = 0 := z 6 12 (by decide) (by decide)
  have e173 := z 17 5 (by decide) (by decide) 3
  have e174 := z 17 5 (by decide) (by decide) 4
  have e175 := z 17 5 (by decide) (by decide) 5
  have kw : ∀ k : Fin 24, tp_kd (17 + 3 + 3 * k.val) = 6 ∧ tp_kd (17 + 4 + 3 * k.val) = 8 ∧ tp_kd (17 + 5 + 3 * k.val) = 9 := by decide +kernel
  have kc : ∀ c : Fin 6, tp_kd (17 + 76 + 5 * c.val) = 1 ∧ tp_kd (17 + 78 + 5 * c.val) = 0 ∧ tp_kd (17 + 79 + 5 * c.val) = 10 := by decide +kernel
  refine ⟨⟨⟨by rw [e10]; decide, by rw [e11]; decide, fun l hl => ?_⟩, fun g hg => ?_, fun l _ => Or.inl (e6 l), fun l _ _ => e6 l⟩, ⟨by rw [e173]; decide, by rw [e174]; decide, by rw [e175]; decide, fun c hc => ?_, fun k hk _ => ?_, fun _ c hc _ => ?_⟩, by rw [e10]; rfl, e173, e174⟩
  · rw [e11, z0] at hl
    omega
  · rw [e10, z0] at hg
    omega
  · rw [e173, z0] at hc
    omega
  · obtain ⟨k1, k2, k3⟩ := kw ⟨k, hk⟩
    have f9 : ∀ n, n < 10 → tp_t0 (17 + 5 + 3 * k) n = -1 := fun n hn => by
      have : tp_t0 (17 + 5 + 3 * k) = fun j => if j < 10 then -1 else 0 := if_pos k3
      rw [this]
      exact if_pos hn
    refine ⟨⟨?_, ?_, fun n hn => ?_, fun n hn => Or.inl (f9 n hn), ?_⟩, fun e _ hf => absurd (f9 _ (Nat.mod_lt _ (by decide))) hf, fun _ => ⟨?_, f9⟩⟩
    · rw [z _ 6 k1 (by decide)]
      decide
    · rw [z _ 6 k1 (by decide)]
      decide
    · rw [z _ 8 k2 (by decide)]
      exact ⟨0, rfl, by decide, fun h => absurd h (by decide), fun h => absurd h (by decide)⟩
    · rw [z _ 6 k1 (by decide), fb_ct_zero.mpr (fun n hn => by
        unfold qIn
        exact decide_eq_false (fun h => h (f9 n hn)))]
      rfl
    · rw [z _ 6 k1 (by decide)]
      rfl
  · obtain ⟨k1, k2, k3⟩ := kc ⟨c, hc⟩
    exact ⟨⟨z _ 1 k1 (by decide) _, z _ 1 k1 (by decide) _, z _ 1 k1 (by decide) _, z _ 1 k1 (by decide) _, z _ 1 k1 (by decide) _⟩, ⟨z _ 0 k2 (by decide) _, z _ 0 k2 (by decide) _⟩, fun n _ => z _ 10 k3 (by decide) _⟩
theorem gP_node {τ : TS} {m : Int} (h : gP τ m) (hm : m < 8) {K : TS → Int32 → Prop} (hk : ∀ (τ2 : TS) (v : Int32), gP τ2 (m + 1) → K τ2 v) : wp_X8_addNode τ 0 K := by
  obtain ⟨hn, hI, h0, h3, h4⟩ := h
  refine ⟨fun _ => s_X3_layNode rfl rfl rfl rfl rfl hn.1 (by omega) (fun τ2 fr e1 e2 q1 q2 => hk τ2 _ ⟨?_, hI.cg (fun j hj _ => fr j (by omega) (by omega)), ?_, ?_, ?_⟩), fun c => absurd ?_ c⟩
  · unfold qN
    rw [fr 2 (by decide) (by decide), fr 3 (by decide) (by decide), fr 4 (by decide) (by decide), fr 5 (by decide) (by decide), fr 6 (by decide) (by decide), e1]
    refine ⟨q1, ?_, hn.2.2⟩
    have e3 : (upd (τ 1) 0 (τ 1 0 + 1) 0).toInt = (τ 1 0).toInt + 1 := e2
    rw [e3]
    exact q2
  · rw [e1]
    show (τ 1 0 + 1).toInt = m + 1
    omega
  · rw [fr 17 (by decide) (by decide)]
    exact h3
  · rw [fr 17 (by decide) (by decide)]
    exact h4
  · rw [fa_lt, h0]
    exact hm
theorem gP_T {τ : TS} {N : Int} (h : gP τ N) (hN : 2 ≤ N ∧ N ≤ 6) : gT N τ 0 := by
  obtain ⟨hn, hI, h0, h3, h4⟩ := h
  have z4 : (τ 17 4).toInt = 0 := by rw [h4]; rfl
  have z3 : (τ 17 3).toInt = 0 := by rw [h3]; rfl
  have h9 := tI.net (L2 := (τ 1 1).toInt) (up2 := τ 6) (fl2 := fun _ => 1) (fh2 := tDl τ) hI (fun k _ hu => absurd rfl hu)
  refine ⟨hn, ?_, h0, hN⟩
  obtain ⟨a1, a2, a3, -, a5⟩ := h9
  rw [z4]
  exact ⟨a1, a2, a3, fun c hc => absurd hc (by omega), a5⟩
theorem gP_V {τ τ2 : TS} {N : Int} (h : gP τ N) (e : ∀ j, j < 122 → τ2 j = τ j) (z : ∀ q, τ2 235 q = 0) : gV τ2 := by
  obtain ⟨-, hI, -, h3, -⟩ := h
  have z3 : (τ 17 3).toInt = 0 := by rw [h3]; rfl
  refine ⟨fun c hc => ?_, fun c hc => ?_⟩
  · rw [e 17 (by decide)] at hc
    omega
  · have hf := (hI.2.2.2.2.2 rfl c hc (by omega)).2.1.2
    rw [show 17 + 78 + 5 * c = 95 + 5 * c by omega] at hf
    rw [z, e _ (by omega), hf]
