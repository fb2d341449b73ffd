/-! copies -/
def eqWay (τ2 τ : TS) (i j : Nat) : Prop := (τ2 i 1 = τ j 1 ∧ τ2 i 2 = τ j 2 ∧ τ2 i 4 = τ j 4) ∧ (∀ n, n < 20 → τ2 (i + 1) n = τ (j + 1) n) ∧ ∀ n, n < 10 → τ2 (i + 2) n = τ (j + 2) n
def eqCon (τ2 τ : TS) (i j : Nat) : Prop := (τ2 i 0 = τ j 0 ∧ τ2 i 1 = τ j 1) ∧ (∀ k, k < 13 → τ2 (i + 1) k = τ (j + 1) k) ∧ (∀ k, k < 5 → τ2 (i + 2) k = τ (j + 2) k) ∧ (∀ k, k < 3 → τ2 (i + 3) k = τ (j + 3) k) ∧ ∀ n, n < 201 → τ2 (i + 4) n = τ (j + 4) n
theorem c_upn (τ : TS) {i j : Nat} (k : Nat) (v : Int32) (h : j ≠ i) : tp_up τ i k v j = τ j := if_neg h
theorem c_ups (τ : TS) (i k : Nat) (v : Int32) : tp_up τ i k v i = upd (τ i) k v := if_pos rfl
theorem c_upk (f : Nat → Int32) (k : Nat) (v : Int32) : upd f k v k = v := if_pos rfl
theorem c_upo (f : Nat → Int32) {k k2 : Nat} (v : Int32) (h : k2 ≠ k) : upd f k v k2 = f k2 := if_neg h
theorem c_cpy {f g : Nat → Int32} {N n : Nat} (h : n < N) : va_cpy f g (Int32.toNatClampNeg 0) (Int32.toNatClampNeg 0) N n = f n := by
  unfold va_cpy
  rw [show Int32.toNatClampNeg 0 = 0 from rfl, if_pos ⟨Nat.zero_le _, by omega⟩]
  congr 1
  omega
theorem s_X7_copyFrom {τ : TS} {i j : Nat} (hij : i + 3 ≤ j ∨ j + 3 ≤ i) {K : TS → Prop} (hk : ∀ τ2 : TS, (∀ m, m ≠ i → m ≠ i + 1 → m ≠ i + 2 → τ2 m = τ m) → eqWay τ2 τ i j → K τ2) : wp_X7_copyFrom τ i j K := by
  unfold wp_X7_copyFrom
  intro τ1 e1 τ2 e2 τ3 e3 τ4 e4 τ5 e5 τ6 e6 τ7 e7
  have f1 : ∀ m, m ≠ i + 1 → τ1 m = τ m := fun m h => by rw [e1]; exact if_neg h
  have g1 : τ1 (i + 1) = va_cpy (τ (j + 1)) (τ (i + 1)) (Int32.toNatClampNeg 0) (Int32.toNatClampNeg 0) (Int32.toNatClampNeg 20) := by rw [e1]; exact if_pos rfl
  have f2 : ∀ m, m ≠ i → τ2 m = τ1 m := fun m h => by rw [e2]; exact if_neg h
  have g2 : τ2 i = upd (τ1 i) 1 (τ1 j 1) := by rw [e2]; exact if_pos rfl
  have f3 : ∀ m, m ≠ i → τ3 m = τ2 m := fun m h => by rw [e3]; exact if_neg h
  have g3 : τ3 i = upd (τ2 i) 2 (τ2 j 2) := by rw [e3]; exact if_pos rfl
  have f4 : ∀ m, m ≠ i + 2 → τ4 m = τ3 m := fun m h => by rw [e4]; exact if_neg h
  have g4 : τ4 (i + 2) = va_cpy (τ3 (j + 2)) (τ3 (i + 2)) (Int32.toNatClampNeg 0) (Int32.toNatClampNeg 0) (Int32.toNatClampNeg 10) := by rw [e4]; exact if_pos rfl
  have f5 : ∀ m, m ≠ i → τ5 m = τ4 m := fun m h => by rw [e5]; exact if_neg h
  have g5 : τ5 i = upd (τ4 i) 4 (τ4 j 4) := by rw [e5]; exact if_pos rfl
  have f6 : ∀ m, m ≠ i → τ6 m = τ5 m := fun m h => by rw [e6]; exact if_neg h
  have g6 : τ6 i = upd (τ5 i) 5 (τ5 j 5) := by rw [e6]; exact if_pos rfl
  have f7 : ∀ m, m ≠ i → τ7 m = τ6 m := fun m h => by rw [e7]; exact if_neg h
  have g7 : τ7 i = upd (τ6 i) 6 (τ6 j 6) := by rw [e7]; exact if_pos rfl
  clear e1 e2 e3 e4 e5 e6 e7
  refine hk τ7 (fun m h1 h2 h3 => ?_) ⟨⟨?_, ?_, ?_⟩, fun n hn => ?_, fun n hn => ?_⟩
  · rw [f7 m h1, f6 m h1, f5 m h1, f4 m h3, f3 m h1, f2 m h1, f1 m h2]
  · rw [g7, c_upo _ _ (by decide), g6, c_upo _ _ (by decide), g5, c_upo _ _ (by decide), f4 i (by omega), g3, c_upo _ _ (by decide), g2, c_upk, f1 j (by omega)]
  · rw [g7, c_upo _ _ (by decide), g6, c_upo _ _ (by decide), g5, c_upo _ _ (by decide), f4 i (by omega), g3, c_upk, f2 j (by omega), f1 j (by omega)]
  · rw [g7, c_upo _ _ (by decide), g6, c_upo _ _ (by decide), g5, c_upk, f4 j (by omega), f3 j (by omega), f2 j (by omega), f1 j (by omega)]
  · rw [f7 _ (by omega), f6 _ (by omega), f5 _ (by omega), f4 _ (by omega), f3 _ (by omega), f2 _ (by omega), g1]
    exact c_cpy hn
  · rw [f7 _ (by omega), f6 _ (by omega), f5 _ (by omega), g4, f3 (j + 2) (by omega), f2 (j + 2) (by omega), f1 (j + 2) (by omega)]
    exact c_cpy hn
theorem s_X0_copyFrom {τ : TS} {i j : Nat} (hij : i + 2 ≤ j ∨ j + 2 ≤ i) (hz : ∀ n, n < 201 → τ (j + 1) n = 0 ∨ τ (j + 1) n = 1) {K : TS → Prop} (hk : ∀ τ2 : TS, (∀ m, m ≠ i → m ≠ i + 1 → τ2 m = τ m) → (∀ k, k < 3 → τ2 i k = τ j k) → (∀ n, n < 201 → τ2 (i + 1) n = τ (j + 1) n) → K τ2) : wp_X0_copyFrom τ i j K := by
  unfold wp_X0_copyFrom
  intro τ1 e1 τ2 e2 τ3 e3
  have f1 : ∀ m, m ≠ i → τ1 m = τ m := fun m h => by rw [e1]; exact if_neg h
  have g1 : τ1 i = upd (τ i) 0 (τ j 0) := by rw [e1]; exact if_pos rfl
  have f2 : ∀ m, m ≠ i → τ2 m = τ1 m := fun m h => by rw [e2]; exact if_neg h
  have g2 : τ2 i = upd (τ1 i) 1 (τ1 j 1) := by rw [e2]; exact if_pos rfl
  have f3 : ∀ m, m ≠ i → τ3 m = τ2 m := fun m h => by rw [e3]; exact if_neg h
  have g3 : τ3 i = upd (τ2 i) 2 (τ2 j 2) := by rw [e3]; exact if_pos rfl
  clear e1 e2 e3
  have h3 : ∀ m, m ≠ i → τ3 m = τ m := fun m h => by rw [f3 m h, f2 m h, f1 m h]
  refine ⟨fun q hq => ?_, fun τ4 e4 => ?_⟩
  · rw [h3 _ (by omega), show Int32.toNatClampNeg 0 + q = q from Nat.zero_add q]
    exact q_z (hz q hq)
  · have f4 : ∀ m, m ≠ i + 1 → τ4 m = τ3 m := fun m h => by rw [e4]; exact if_neg h
    have g4 : τ4 (i + 1) = va_cpy (τ3 (j + 1)) (τ3 (i + 1)) (Int32.toNatClampNeg 0) (Int32.toNatClampNeg 0) (Int32.toNatClampNeg 201) := by rw [e4]; exact if_pos rfl
    clear e4
    refine hk τ4 (fun m h1 h2 => by rw [f4 m h2, h3 m h1]) (fun k hk3 => ?_) (fun n hn => ?_)
    · rw [f4 i (by omega)]
      rcases (show k = 0 ∨ k = 1 ∨ k = 2 by omega) with rfl | rfl | rfl
      · rw [g3, c_upo _ _ (by decide), g2, c_upo _ _ (by decide), g1, c_upk]
      · rw [g3, c_upo _ _ (by decide), g2, c_upk, f1 j (by omega)]
      · rw [g3, c_upk, f2 j (by omega), f1 j (by omega)]
    · rw [g4, h3 (j + 1) (by omega)]
      exact c_cpy hn
theorem s_X5_copyFrom {τ : TS} {i j : Nat} (hij : i ≠ j) {K : TS → Prop} (hk : ∀ τ2 : TS, (∀ m, m ≠ i → τ2 m = τ m) → (∀ k, k < 5 → τ2 i k = τ j k) → K τ2) : wp_X5_copyFrom τ i j K := by
  unfold wp_X5_copyFrom
  intro τ1 e1 τ2 e2 τ3 e3 τ4 e4 τ5 e5
  have hji : j ≠ i := Ne.symm hij
  refine hk τ5 (fun m h => ?_) (fun k hk5 => ?_)
  · rw [e5, c_upn _ _ _ h, e4, c_upn _ _ _ h, e3, c_upn _ _ _ h, e2, c_upn _ _ _ h, e1, c_upn _ _ _ h]
  · have j1 : τ1 j = τ j := by rw [e1, c_upn _ _ _ hji]
    have j2 : τ2 j = τ j := by rw [e2, c_upn _ _ _ hji, j1]
    have j3 : τ3 j = τ j := by rw [e3, c_upn _ _ _ hji, j2]
    have j4 : τ4 j = τ j := by rw [e4, c_upn _ _ _ hji, j3]
    rcases (show k = 0 ∨ k = 1 ∨ k = 2 ∨ k = 3 ∨ k = 4 by omega) with rfl | rfl | rfl | rfl | rfl
    · rw [e5, c_ups, c_upo _ _ (by decide), e4, c_ups, c_upo _ _ (by decide), e3, c_ups, c_upo _ _ (by decide), e2, c_ups, c_upo _ _ (by decide), e1, c_ups, c_upk]
    · rw [e5, c_ups, c_upo _ _ (by decide), e4, c_ups, c_upo _ _ (by decide), e3, c_ups, c_upo _ _ (by decide), e2, c_ups, c_upk, j1]
    · rw [e5, c_ups, c_upo _ _ (by decide), e4, c_ups, c_upo _ _ (by decide), e3, c_ups, c_upk, j2]
    · rw [e5, c_ups, c_upo _ _ (by decide), e4, c_ups, c_upk, j3]
    · rw [e5, c_ups, c_upk, j4]
theorem s_X1_copyFrom {τ : TS} {i j : Nat} (hij : i + 2 ≤ j ∨ j + 2 ≤ i) (hz : τ j 2 = 0 ∨ τ j 2 = 1) {K : TS → Prop} (hk : ∀ τ2 : TS, (∀ m, m ≠ i → m ≠ i + 1 → τ2 m = τ m) → (∀ k, k < 13 → τ2 i k = τ j k) → (∀ k, k < 5 → τ2 (i + 1) k = τ (j + 1) k) → K τ2) : wp_X1_copyFrom τ i j K := by
  unfold wp_X1_copyFrom
  have hji : j ≠ i := by omega
  intro τ0 e0 τ1 e1
  have j0 : τ0 j = τ j := by rw [e0, c_upn _ _ _ hji]
  have j1 : τ1 j = τ j := by rw [e1, c_upn _ _ _ hji, j0]
  refine ⟨by rw [j1]; exact q_z hz, ?_⟩
  intro τ2 e2 τ3 e3 τ4 e4 τ5 e5 τ6 e6 τ7 e7 τ8 e8 τ9 e9 τ10 e10 τ11 e11 τ12 e12
  have j2 : τ2 j = τ j := by rw [e2, c_upn _ _ _ hji, j1]
  have j3 : τ3 j = τ j := by rw [e3, c_upn _ _ _ hji, j2]
  have j4 : τ4 j = τ j := by rw [e4, c_upn _ _ _ hji, j3]
  have j5 : τ5 j = τ j := by rw [e5, c_upn _ _ _ hji, j4]
  have j6 : τ6 j = τ j := by rw [e6, c_upn _ _ _ hji, j5]
  have j7 : τ7 j = τ j := by rw [e7, c_upn _ _ _ hji, j6]
  have j8 : τ8 j = τ j := by rw [e8, c_upn _ _ _ hji, j7]
  have j9 : τ9 j = τ j := by rw [e9, c_upn _ _ _ hji, j8]
  have j10 : τ10 j = τ j := by rw [e10, c_upn _ _ _ hji, j9]
  have j11 : τ11 j = τ j := by rw [e11, c_upn _ _ _ hji, j10]
  have j12 : τ12 j = τ j := by rw [e12, c_upn _ _ _ hji, j11]
  have fr : ∀ m, m ≠ i → τ12 m = τ m := fun m h => by rw [e12, c_upn _ _ _ h, e11, c_upn _ _ _ h, e10, c_upn _ _ _ h, e9, c_upn _ _ _ h, e8, c_upn _ _ _ h, e7, c_upn _ _ _ h, e6, c_upn _ _ _ h, e5, c_upn _ _ _ h, e4, c_upn _ _ _ h, e3, c_upn _ _ _ h, e2, c_upn _ _ _ h, e1, c_upn _ _ _ h, e0, c_upn _ _ _ h]
  have vl : ∀ k, k < 13 → τ12 i k = τ j k := fun k hk13 => by
    rcases (show k = 0 ∨ k = 1 ∨ k = 2 ∨ k = 3 ∨ k = 4 ∨ k = 5 ∨ k = 6 ∨ k = 7 ∨ k = 8 ∨ k = 9 ∨ k = 10 ∨ k = 11 ∨ k = 12 by omega) with rfl | rfl | rfl | rfl | rfl | rfl | rfl | rfl | rfl | rfl | rfl | rfl | rfl
    · rw [e12, c_ups, c_upo _ _ (by decide), e11, c_ups, c_upo _ _ (by decide), e10, c_ups, c_upo _ _ (by decide), e9, c_ups, c_upo _ _ (by decide), e8, c_ups, c_upo _ _ (by decide), e7, c_ups, c_upo _ _ (by decide), e6, c_ups, c_upo _ _ (by decide), e5, c_ups, c_upo _ _ (by decide), e4, c_ups, c_upo _ _ (by decide), e3, c_ups, c_upo _ _ (by decide), e2, c_ups, c_upo _ _ (by decide), e1, c_ups, c_upo _ _ (by decide), e0, c_ups, c_upk]
    · rw [e12, c_ups, c_upo _ _ (by decide), e11, c_ups, c_upo _ _ (by decide), e10, c_ups, c_upo _ _ (by decide), e9, c_ups, c_upo _ _ (by decide), e8, c_ups, c_upo _ _ (by decide), e7, c_ups, c_upo _ _ (by decide), e6, c_ups, c_upo _ _ (by decide), e5, c_ups, c_upo _ _ (by decide), e4, c_ups, c_upo _ _ (by decide), e3, c_ups, c_upo _ _ (by decide), e2, c_ups, c_upo _ _ (by decide), e1, c_ups, c_upk, j0]
    · rw [e12, c_ups, c_upo _ _ (by decide), e11, c_ups, c_upo _ _ (by decide), e10, c_ups, c_upo _ _ (by decide), e9, c_ups, c_upo _ _ (by decide), e8, c_ups, c_upo _ _ (by decide), e7, c_ups, c_upo _ _ (by decide), e6, c_ups, c_upo _ _ (by decide), e5, c_ups, c_upo _ _ (by decide), e4, c_ups, c_upo _ _ (by decide), e3, c_ups, c_upo _ _ (by decide), e2, c_ups, c_upk, j1]
    · rw [e12, c_ups, c_upo _ _ (by decide), e11, c_ups, c_upo _ _ (by decide), e10, c_ups, c_upo _ _ (by decide), e9, c_ups, c_upo _ _ (by decide), e8, c_ups, c_upo _ _ (by decide), e7, c_ups, c_upo _ _ (by decide), e6, c_ups, c_upo _ _ (by decide), e5, c_ups, c_upo _ _ (by decide), e4, c_ups, c_upo _ _ (by decide), e3, c_ups, c_upk, j2]
    · rw [e12, c_ups, c_upo _ _ (by decide), e11, c_ups, c_upo _ _ (by decide), e10, c_ups, c_upo _ _ (by decide), e9, c_ups, c_upo _ _ (by decide), e8, c_ups, c_upo _ _ (by decide), e7, c_ups, c_upo _ _ (by decide), e6, c_ups, c_upo _ _ (by decide), e5, c_ups, c_upo _ _ (by decide), e4, c_ups, c_upk, j3]
    · rw [e12, c_ups, c_upo _ _ (by decide), e11, c_ups, c_upo _ _ (by decide), e10, c_ups, c_upo _ _ (by decide), e9, c_ups, c_upo _ _ (by decide), e8, c_ups, c_upo _ _ (by decide), e7, c_ups, c_upo _ _ (by decide), e6, c_ups, c_upo _ _ (by decide), e5, c_ups, c_upk, j4]
    · rw [e12, c_ups, c_upo _ _ (by decide), e11, c_ups, c_upo _ _ (by decide), e10, c_ups, c_upo _ _ (by decide), e9, c_ups, c_upo _ _ (by decide), e8, c_ups, c_upo _ _ (by decide), e7, c_ups, c_upo _ _ (by decide), e6, c_ups, c_upk, j5]
    · rw [e12, c_ups, c_upo _ _ (by decide), e11, c_ups, c_upo _ _ (by decide), e10, c_ups, c_upo _ _ (by decide), e9, c_ups, c_upo _ _ (by decide), e8, c_ups, c_upo _ _ (by decide), e7, c_ups, c_upk, j6]
    · rw [e12, c_ups, c_upo _ _ (by decide), e11, c_ups, c_upo _ _ (by decide), e10, c_ups, c_upo _ _ (by decide), e9, c_ups, c_upo _ _ (by decide), e8, c_ups, c_upk, j7]
    · rw [e12, c_ups, c_upo _ _ (by decide), e11, c_ups, c_upo _ _ (by decide), e10, c_ups, c_upo _ _ (by decide), e9, c_ups, c_upk, j8]
    · rw [e12, c_ups, c_upo _ _ (by decide), e11, c_ups, c_upo _ _ (by decide), e10, c_ups, c_upk, j9]
    · rw [e12, c_ups, c_upo _ _ (by decide), e11, c_ups, c_upk, j10]
    · rw [e12, c_ups, c_upk, j11]
  refine s_X5_copyFrom (by omega) (fun τa fa va => hk τa (fun m h1 h2 => by rw [fa m h2, fr m h1]) (fun k hk13 => by rw [fa i (by omega)]; exact vl k hk13) (fun k hk5 => by rw [va k hk5, fr (j + 1) (by omega)]))
theorem s_X2_copyFrom {τ : TS} {i j : Nat} (hij : i + 5 ≤ j ∨ j + 5 ≤ i) (hz : τ (j + 1) 2 = 0 ∨ τ (j + 1) 2 = 1) (hz2 : ∀ n, n < 201 → τ (j + 4) n = 0 ∨ τ (j + 4) n = 1) {K : TS → Prop} (hk : ∀ τ2 : TS, (∀ m, m < i ∨ i + 5 ≤ m → τ2 m = τ m) → eqCon τ2 τ i j → K τ2) : wp_X2_copyFrom τ i j K := by
  unfold wp_X2_copyFrom
  intro τ1 e1 τ2 e2
  have f2 : ∀ m, m ≠ i → τ2 m = τ m := fun m h => by rw [e2, c_upn _ _ _ h, e1, c_upn _ _ _ h]
  have v0 : τ2 i 0 = τ j 0 := by rw [e2, c_ups, c_upo _ _ (by decide), e1, c_ups, c_upk]
  have v1 : τ2 i 1 = τ j 1 := by rw [e2, c_ups, c_upk, e1, c_upn _ _ _ (show j ≠ i by omega)]
  clear e1 e2
  refine s_X1_copyFrom (by omega) (by rw [f2 (j + 1) (by omega)]; exact hz) (fun τ3 f3 a3 b3 => ?_)
  refine s_X0_copyFrom (by omega) (fun n hn => by rw [show j + 3 + 1 = j + 4 by omega, f3 _ (by omega) (by omega), f2 _ (by omega)]; exact hz2 n hn) (fun τ4 f4 a4 b4 => ?_)
  refine hk τ4 (fun m hm => by rw [f4 m (by omega) (by omega), f3 m (by omega) (by omega), f2 m (by omega)]) ⟨⟨?_, ?_⟩, fun k hk13 => ?_, fun k hk5 => ?_, fun k hk3 => ?_, fun n hn => ?_⟩
  · rw [f4 i (by omega) (by omega), f3 i (by omega) (by omega)]; exact v0
  · rw [f4 i (by omega) (by omega), f3 i (by omega) (by omega)]; exact v1
  · rw [f4 _ (by omega) (by omega), a3 k hk13, f2 _ (by omega)]
  · rw [f4 _ (by omega) (by omega), show i + 2 = i + 1 + 1 by omega, b3 k hk5, f2 _ (by omega)]
  · rw [a4 k hk3, f3 _ (by omega) (by omega), f2 _ (by omega)]
  · rw [show i + 4 = i + 3 + 1 by omega, b4 n hn, show j + 3 + 1 = j + 4 by omega, f3 _ (by omega) (by omega), f2 _ (by omega)]
