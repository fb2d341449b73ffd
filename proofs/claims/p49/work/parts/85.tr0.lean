/-! a traffic: what holds of it (T: 17 or 122; N nodes, L links; a connection's timer not before its lo; xc: what a packet's number may be beyond next; fl, fh: how far ahead a way's flights are; A, B: bounds of lost) -/
def qFl (f : Nat → Int32) (clk lo hi : Int) : Prop := ∀ e : Nat, e < 10 → f ((clk.toNat + e) % 10) ≠ -1 → lo ≤ e ∧ (e : Int) ≤ hi
def tNx (τ : TS) (T : Nat) (xc : Nat → Int) (c : Nat) : Int := (τ (T + 76 + 5 * c) 4).toInt + xc c
def tWt (τ : TS) (T : Nat) (c : Nat) : Int := (τ (T + 78 + 5 * c) 1).toInt
def tCon (τ : TS) (T : Nat) (N lo : Int) (c : Nat) : Prop :=
  qCal (τ (T + 76 + 5 * c)) (τ (T + 77 + 5 * c)) (tWt τ T c) lo ∧ qCle (τ (T + 78 + 5 * c)) (τ (T + 79 + 5 * c)) (τ (T + 76 + 5 * c) 4).toInt (τ (T + 76 + 5 * c) 1).toInt ∧
  (0 ≤ (τ (T + 75 + 5 * c) 0).toInt ∧ (τ (T + 75 + 5 * c) 0).toInt < N) ∧ (0 ≤ (τ (T + 75 + 5 * c) 1).toInt ∧ (τ (T + 75 + 5 * c) 1).toInt < N)
def tWayR (τ : TS) (T : Nat) (up : Nat → Int32) (xc : Nat → Int) (lo hi : Int) (k : Nat) (r q f : Nat → Int32) : Prop :=
  qWay (pkOK (τ T 3).toInt (tWt τ T) (tNx τ T xc) 16) (pkOK (τ T 3).toInt (tWt τ T) (tNx τ T xc) 17) r q f ∧ qFl f (τ T 4).toInt lo hi ∧
  (up (k / 2) = 0 → (r 2).toInt = 0 ∧ ∀ n, n < 10 → f n = -1)
/-- a connection that isn't made yet -/
def tFr (τ : TS) (T c : Nat) : Prop := (τ (T + 76 + 5 * c) 1 = 0 ∧ τ (T + 76 + 5 * c) 2 = 0 ∧ τ (T + 76 + 5 * c) 3 = 0 ∧ τ (T + 76 + 5 * c) 4 = 0 ∧ τ (T + 76 + 5 * c) 11 = 0) ∧ (τ (T + 78 + 5 * c) 1 = 0 ∧ τ (T + 78 + 5 * c) 2 = 0) ∧ ∀ n, n < 201 → τ (T + 79 + 5 * c) n = 0
def tI (T : Nat) (N L : Int) (up : Nat → Int32) (lo xc fl fh : Nat → Int) (A B : Int) (τ : TS) : Prop :=
  (0 ≤ (τ T 3).toInt ∧ (τ T 3).toInt ≤ 6) ∧ (0 ≤ (τ T 4).toInt ∧ (τ T 4).toInt ≤ 90000) ∧ (A ≤ (τ T 5).toInt ∧ (τ T 5).toInt ≤ B) ∧
  (∀ c : Nat, (c : Int) < (τ T 3).toInt → tCon τ T N (lo c) c) ∧
  (∀ k : Nat, k < 24 → ((k : Int) < 2 * L ∨ T = 17) → tWayR τ T up xc (fl k) (fh k) k (τ (T + 3 + 3 * k)) (τ (T + 4 + 3 * k)) (τ (T + 5 + 3 * k))) ∧
  (T = 17 → ∀ c : Nat, c < 6 → (τ T 3).toInt ≤ c → tFr τ T c)
section TI
variable {T : Nat} {N L A B : Int} {up : Nat → Int32} {lo xc fl fh : Nat → Int} {τ : TS}
/-- one way changes -/
theorem tI.way (h : tI T N L up lo xc fl fh A B τ) {k : Nat} (hk : k < 24) {fl2 fh2 : Nat → Int} {r q f : Nat → Int32} (hw : tWayR τ T up xc (fl2 k) (fh2 k) k r q f) (he : ∀ j, j ≠ k → fl2 j = fl j ∧ fh2 j = fh j) : tI T N L up lo xc fl2 fh2 A B (q3 τ (T + 3 + 3 * k) r q f) := by
  have hn : ∀ j, j < T + 3 ∨ T + 75 ≤ j → q3 τ (T + 3 + 3 * k) r q f j = τ j := fun j hj => q3_n τ _ r q f (by omega) (by omega) (by omega)
  obtain ⟨h1, h2, h3, h4, h5, h6⟩ := h
  have e0 : q3 τ (T + 3 + 3 * k) r q f T = τ T := hn T (by omega)
  have e1 : tWt (q3 τ (T + 3 + 3 * k) r q f) T = tWt τ T := by funext c; unfold tWt; rw [hn _ (by omega)]
  have e2 : tNx (q3 τ (T + 3 + 3 * k) r q f) T xc = tNx τ T xc := by funext c; unfold tNx; rw [hn _ (by omega)]
  refine ⟨by rw [e0]; exact h1, by rw [e0]; exact h2, by rw [e0]; exact h3, fun c hc => ?_, fun j hlt hj => ?_, fun hT c hc hm => ?_⟩
  · rw [e0] at hc
    have := h4 c hc
    unfold tCon at this ⊢
    rw [e1, hn _ (by omega), hn _ (by omega), hn _ (by omega), hn _ (by omega), hn _ (by omega)]
    exact this
  · unfold tWayR
    rw [e0, e1, e2]
    by_cases hjk : j = k
    · subst hjk
      rw [q3_a, show T + 4 + 3 * j = T + 3 + 3 * j + 1 by omega, q3_b, show T + 5 + 3 * j = T + 3 + 3 * j + 2 by omega, q3_c]
      exact hw
    · rw [q3_n _ _ _ _ _ (by omega) (by omega) (by omega), q3_n _ _ _ _ _ (by omega) (by omega) (by omega), q3_n _ _ _ _ _ (by omega) (by omega) (by omega), (he j hjk).1, (he j hjk).2]
      exact h5 j hlt hj
  · rw [e0] at hm
    have := h6 hT c hc hm
    unfold tFr at this ⊢
    rw [hn _ (by omega), hn _ (by omega), hn _ (by omega)]
    exact this
/-- lost changes -/
theorem tI.lost (h : tI T N L up lo xc fl fh A B τ) {v : Int32} {A2 B2 : Int} (hv : A2 ≤ v.toInt ∧ v.toInt ≤ B2) : tI T N L up lo xc fl fh A2 B2 (tp_up τ T 5 v) := by
  have hn : ∀ j, j ≠ T → tp_up τ T 5 v j = τ j := fun j hj => if_neg hj
  have hs : tp_up τ T 5 v T = upd (τ T) 5 v := if_pos rfl
  obtain ⟨h1, h2, h3, h4, h5, h6⟩ := h
  have e1 : tWt (tp_up τ T 5 v) T = tWt τ T := by funext c; unfold tWt; rw [hn _ (by omega)]
  have e2 : tNx (tp_up τ T 5 v) T xc = tNx τ T xc := by funext c; unfold tNx; rw [hn _ (by omega)]
  refine ⟨by rw [hs]; exact h1, by rw [hs]; exact h2, by rw [hs]; exact hv, fun c hc => ?_, fun j hlt hj => ?_, fun hT c hc hm => ?_⟩
  · rw [hs] at hc
    have := h4 c hc
    unfold tCon at this ⊢
    rw [e1, hn _ (by omega), hn _ (by omega), hn _ (by omega), hn _ (by omega), hn _ (by omega)]
    exact this
  · unfold tWayR
    rw [hs, e1, e2, hn _ (by omega), hn _ (by omega), hn _ (by omega)]
    exact h5 j hlt hj
  · rw [hs] at hm
    have := h6 hT c hc hm
    unfold tFr at this ⊢
    rw [hn _ (by omega), hn _ (by omega), hn _ (by omega)]
    exact this
/-- a caller changes, its next no lower -/
theorem tI.caller (h : tI T N L up lo xc fl fh A B τ) {c : Nat} (hcm : (c : Int) < (τ T 3).toInt) {lo2 xc2 : Nat → Int} {r t : Nat → Int32} (hr : (c : Int) < (τ T 3).toInt → qCal r t (tWt τ T c) (lo2 c) ∧ qCle (τ (T + 78 + 5 * c)) (τ (T + 79 + 5 * c)) (r 4).toInt (r 1).toInt) (hlo : ∀ d : Nat, d ≠ c → (d : Int) < (τ T 3).toInt → qCal (τ (T + 76 + 5 * d)) (τ (T + 77 + 5 * d)) (tWt τ T d) (lo2 d)) (hx : ∀ d : Nat, tNx τ T xc d ≤ (if d = c then (r 4).toInt + xc2 c else tNx τ T xc2 d)) : tI T N L up lo2 xc2 fl fh A B (q2 τ (T + 76 + 5 * c) r t) := by
  have hc6 : c < 6 := by have := h.1.2; omega
  have hn : ∀ j, j ≠ T + 76 + 5 * c → j ≠ T + 77 + 5 * c → q2 τ (T + 76 + 5 * c) r t j = τ j := fun j h1 h2 => q2_n τ _ r t h1 (by omega)
  have ha : q2 τ (T + 76 + 5 * c) r t (T + 76 + 5 * c) = r := q2_a _ _ _ _
  have hb : q2 τ (T + 76 + 5 * c) r t (T + 77 + 5 * c) = t := by rw [show T + 77 + 5 * c = T + 76 + 5 * c + 1 by omega]; exact q2_b _ _ _ _
  obtain ⟨h1, h2, h3, h4, h5, h6⟩ := h
  have e0 : q2 τ (T + 76 + 5 * c) r t T = τ T := hn T (by omega) (by omega)
  have e1 : tWt (q2 τ (T + 76 + 5 * c) r t) T = tWt τ T := by funext d; unfold tWt; rw [hn _ (by omega) (by omega)]
  have e2 : ∀ d, tNx τ T xc d ≤ tNx (q2 τ (T + 76 + 5 * c) r t) T xc2 d := fun d => by
    refine Int.le_trans (hx d) ?_
    by_cases hd : d = c
    · subst hd
      rw [if_pos rfl]
      unfold tNx
      rw [ha]
      exact Int.le_refl _
    · rw [if_neg hd]
      unfold tNx
      rw [hn _ (by omega) (by omega)]
      exact Int.le_refl _
  refine ⟨by rw [e0]; exact h1, by rw [e0]; exact h2, by rw [e0]; exact h3, fun d hd => ?_, fun j hj2 hj => ?_, fun hT d hd6 hm => ?_⟩
  · rw [e0] at hd
    have hold := h4 d hd
    unfold tCon at hold ⊢
    rw [e1]
    by_cases hdc : d = c
    · subst hdc
      rw [ha, hb, hn _ (by omega) (by omega), hn _ (by omega) (by omega), hn _ (by omega) (by omega)]
      exact ⟨(hr hd).1, (hr hd).2, hold.2.2⟩
    · rw [hn _ (by omega) (by omega), hn _ (by omega) (by omega), hn _ (by omega) (by omega), hn _ (by omega) (by omega), hn _ (by omega) (by omega)]
      exact ⟨hlo d hdc hd, hold.2⟩
  · have hw := h5 j hj2 hj
    unfold tWayR at hw ⊢
    rw [e0, e1]
    rw [hn (T + 3 + 3 * j) (by omega) (by omega), hn (T + 4 + 3 * j) (by omega) (by omega), hn (T + 5 + 3 * j) (by omega) (by omega)]
    obtain ⟨⟨w1, w2, w3, w4, w5⟩, w6⟩ := hw
    exact ⟨⟨w1, w2, fun n hn2 => (w3 n hn2).mono (Int.le_refl _) (fun d _ => ⟨Int.le_refl _, e2 d⟩) (Nat.le_refl _), fun n hn2 => (w4 n hn2).imp id (fun z => z.mono (Int.le_refl _) (fun d _ => ⟨Int.le_refl _, e2 d⟩) (Nat.le_refl _)), w5⟩, w6⟩
  · rw [e0] at hm
    have := h6 hT d hd6 hm
    unfold tFr at this ⊢
    rw [hn _ (by omega) (by omega), hn _ (by omega) (by omega), hn _ (by omega) (by omega)]
    exact this
/-- a callee changes, what it wants no lower -/
theorem tI.callee (h : tI T N L up lo xc fl fh A B τ) {c : Nat} (hcm : (c : Int) < (τ T 3).toInt) {r q : Nat → Int32} (hr : (c : Int) < (τ T 3).toInt → qCle r q (τ (T + 76 + 5 * c) 4).toInt (τ (T + 76 + 5 * c) 1).toInt ∧ qCal (τ (T + 76 + 5 * c)) (τ (T + 77 + 5 * c)) (r 1).toInt (lo c)) (hx : tWt τ T c ≤ (r 1).toInt) : tI T N L up lo xc fl fh A B (q2 τ (T + 78 + 5 * c) r q) := by
  have hc6 : c < 6 := by have := h.1.2; omega
  have hn : ∀ j, j ≠ T + 78 + 5 * c → j ≠ T + 79 + 5 * c → q2 τ (T + 78 + 5 * c) r q j = τ j := fun j h1 h2 => q2_n τ _ r q h1 (by omega)
  have ha : q2 τ (T + 78 + 5 * c) r q (T + 78 + 5 * c) = r := q2_a _ _ _ _
  have hb : q2 τ (T + 78 + 5 * c) r q (T + 79 + 5 * c) = q := by rw [show T + 79 + 5 * c = T + 78 + 5 * c + 1 by omega]; exact q2_b _ _ _ _
  obtain ⟨h1, h2, h3, h4, h5, h6⟩ := h
  have e0 : q2 τ (T + 78 + 5 * c) r q T = τ T := hn T (by omega) (by omega)
  have e1 : ∀ d, tWt τ T d ≤ tWt (q2 τ (T + 78 + 5 * c) r q) T d := fun d => by
    by_cases hd : d = c
    · subst hd
      show _ ≤ (q2 τ (T + 78 + 5 * d) r q (T + 78 + 5 * d) 1).toInt
      rw [ha]
      exact hx
    · unfold tWt
      rw [hn _ (by omega) (by omega)]
      exact Int.le_refl _
  have e2 : tNx (q2 τ (T + 78 + 5 * c) r q) T xc = tNx τ T xc := by funext d; unfold tNx; rw [hn _ (by omega) (by omega)]
  refine ⟨by rw [e0]; exact h1, by rw [e0]; exact h2, by rw [e0]; exact h3, fun d hd => ?_, fun j hj2 hj => ?_, fun hT d hd6 hm => ?_⟩
  · rw [e0] at hd
    have hold := h4 d hd
    unfold tCon tWt at hold ⊢
    by_cases hdc : d = c
    · subst hdc
      rw [ha, hb, hn _ (by omega) (by omega), hn _ (by omega) (by omega), hn _ (by omega) (by omega)]
      exact ⟨(hr hd).2, (hr hd).1, hold.2.2⟩
    · rw [hn _ (by omega) (by omega), hn _ (by omega) (by omega), hn _ (by omega) (by omega), hn _ (by omega) (by omega), hn _ (by omega) (by omega)]
      exact hold
  · have hw := h5 j hj2 hj
    unfold tWayR at hw ⊢
    rw [e0, e2]
    rw [hn (T + 3 + 3 * j) (by omega) (by omega), hn (T + 4 + 3 * j) (by omega) (by omega), hn (T + 5 + 3 * j) (by omega) (by omega)]
    obtain ⟨⟨w1, w2, w3, w4, w5⟩, w6⟩ := hw
    exact ⟨⟨w1, w2, fun n hn2 => (w3 n hn2).mono (Int.le_refl _) (fun d _ => ⟨e1 d, Int.le_refl _⟩) (Nat.le_refl _), fun n hn2 => (w4 n hn2).imp id (fun z => z.mono (Int.le_refl _) (fun d _ => ⟨e1 d, Int.le_refl _⟩) (Nat.le_refl _)), w5⟩, w6⟩
  · rw [e0] at hm
    have := h6 hT d hd6 hm
    unfold tFr at this ⊢
    rw [hn _ (by omega) (by omega), hn _ (by omega) (by omega), hn _ (by omega) (by omega)]
    exact this
theorem qFl.mono {f : Nat → Int32} {clk lo hi lo2 hi2 : Int} (h : qFl f clk lo hi) (h1 : lo2 ≤ lo) (h2 : hi ≤ hi2) : qFl f clk lo2 hi2 := fun e he hf => by
  have := h e he hf
  omega
theorem tI.weak (h : tI T N L up lo xc fl fh A B τ) {lo2 xc2 fl2 fh2 : Nat → Int} {A2 B2 : Int} (h1 : ∀ c : Nat, (c : Int) < (τ T 3).toInt → qCal (τ (T + 76 + 5 * c)) (τ (T + 77 + 5 * c)) (tWt τ T c) (lo2 c)) (h2 : ∀ c, xc c ≤ xc2 c) (h3 : ∀ k : Nat, k < 24 → up (k / 2) ≠ 0 → fl2 k ≤ fl k ∧ fh k ≤ fh2 k) (h4 : A2 ≤ A) (h5 : B ≤ B2) : tI T N L up lo2 xc2 fl2 fh2 A2 B2 τ := by
  obtain ⟨z1, z2, z3, z4, z5, z6⟩ := h
  refine ⟨z1, z2, ⟨by omega, by omega⟩, fun c hc => ⟨h1 c hc, (z4 c hc).2⟩, fun k hk hkL => ?_, z6⟩
  obtain ⟨⟨w1, w2, w3, w4, w5⟩, w6, w7⟩ := z5 k hk hkL
  have hm : ∀ d, tNx τ T xc d ≤ tNx τ T xc2 d := fun d => by
    have := h2 d
    unfold tNx
    omega
  refine ⟨⟨w1, w2, fun n hn2 => (w3 n hn2).mono (Int.le_refl _) (fun d _ => ⟨Int.le_refl _, hm d⟩) (Nat.le_refl _), fun n hn2 => (w4 n hn2).imp id (fun z => z.mono (Int.le_refl _) (fun d _ => ⟨Int.le_refl _, hm d⟩) (Nat.le_refl _)), w5⟩, fun e he hf => ?_, w7⟩
  by_cases hup : up (k / 2) = 0
  · exact absurd ((w7 hup).2 _ (Nat.mod_lt _ (by decide))) hf
  · exact w6.mono (h3 k hk hup).1 (h3 k hk hup).2 e he hf
end TI
