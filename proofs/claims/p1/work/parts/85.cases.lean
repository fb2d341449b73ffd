/-! the other calls -/
theorem tp_cmp0 (v : Int64) : lg_cmp v v = 0 := by
  unfold lg_cmp
  simp
/-- both have answered the same -/
theorem lf_same {τ : TS} {r : Int32} (h : τ 234 0 = 0) (h2 : tp_jl (τ 503 0) (τ 503 1) = Int32.toInt64 r) : wp_X11_thrown τ 234 (fun τ25 x26 => ((x26 = 0) → (((¬ (0 : Int32) = 0) → True) ∧ (((0 : Int32) = 0) → ((((lg_cmp (tp_jl (τ25 503 0) (τ25 503 1)) (Int32.toInt64 r)) = 0) → True) ∧ ((¬ (lg_cmp (tp_jl (τ25 503 0) (τ25 503 1)) (Int32.toInt64 r)) = 0) → False))))) ∧ ((¬ x26 = 0) → False)) := by
  unfold wp_X11_thrown
  rw [h]
  refine ⟨fun _ => ⟨fun _ => trivial, fun _ => ?_⟩, fun c => c rfl⟩
  show ((lg_cmp (tp_jl (τ 503 0) (τ 503 1)) (Int32.toInt64 r) = 0) → True) ∧ ((¬ lg_cmp (tp_jl (τ 503 0) (τ 503 1)) (Int32.toInt64 r) = 0) → False)
  rw [h2]
  exact ⟨fun _ => trivial, fun c => c (tp_cmp0 _)⟩
/-- the world of two fresh objects -/
def pT (τ : TS) : Prop := pF τ ∧ pR τ ∧ τ 17 4 = 0 ∧ τ 239 0 = 0 ∧ τ 17 5 = 0 ∧ τ 239 1 = 0
theorem wk_0 {τ : TS} (h : pT τ) (xs : Nat → Int32) : wl_0 τ xs (fun _ => True) := by
  unfold wl_0
  refine lf_addNode h.1 (fun τ2 f hj => ?_)
  refine mf_addNode (by rw [f 234 (by decide) (by decide) (by decide)]; exact h.1.2.2.2.1) (by rw [f 234 (by decide) (by decide) (by decide)]; exact h.1.2.2.2.2.1) (fun τ3 a b => ?_)
  exact lf_same a (by rw [b]; exact hj)
theorem wk_8 {τ : TS} (h : pT τ) (xs : Nat → Int32) : wl_8 τ xs (fun _ => True) := by
  unfold wl_8
  refine lf_pass h.1 h.2.2.1 (fun hx => ?_) (fun τ2 c1 c2 f hj => ?_)
  · refine mf_pass h.1.2.2.2.2.1 h.1.2.2.2.2.2 h.2.2.2.1 (fun _ τ2 e => lf_end e) (fun τ2 c1 c2 _ _ => ?_)
    exfalso
    simp only [fa_lt, Int32.reduceToInt] at hx
    omega
  · refine mf_pass (by rw [f 234 (by decide) (by decide)]; exact h.1.2.2.2.2.1) (by rw [f 239 (by decide) (by decide)]; exact h.1.2.2.2.2.2) (by rw [f 239 (by decide) (by decide)]; exact h.2.2.2.1) (fun hx τ3 _ => ?_) (fun τ3 _ _ a b => lf_same a (by rw [b]; exact hj))
    exfalso
    simp only [fa_lt, Int32.reduceToInt] at hx
    omega
theorem wk_43 {τ : TS} (h : pT τ) (xs : Nat → Int32) : wl_43 τ xs (fun _ => True) := by
  unfold wl_43
  refine lf_lostIn h.1 (fun hx => ?_) (fun τ2 c1 c2 f hj => ?_)
  · refine mf_lostIn h.2.1 h.1.2.2.2.2.1 h.1.2.2.2.2.2 h.2.2.2.2.2 (fun _ τ2 e => lf_end e) (fun τ2 c1 c2 _ _ => ?_)
    exfalso
    simp only [fa_lt, Int32.reduceToInt] at hx
    omega
  · have hr : pR τ2 := ⟨fun q => by rw [f 240 (by decide) (by decide)]; exact h.2.1.1 q, fun k hk q => by rw [f _ (by omega) (by omega)]; exact h.2.1.2.1 k hk q, fun k hk => by rw [f _ (by omega) (by omega)]; exact h.2.1.2.2 k hk⟩
    refine mf_lostIn hr (by rw [f 234 (by decide) (by decide)]; exact h.1.2.2.2.2.1) (by rw [f 239 (by decide) (by decide)]; exact h.1.2.2.2.2.2) (by rw [f 239 (by decide) (by decide)]; exact h.2.2.2.2.2) (fun hx τ3 _ => ?_) (fun τ3 _ _ a b => lf_same a (by rw [b]; exact hj))
    exfalso
    simp only [fa_lt, Int32.reduceToInt] at hx
    omega
theorem wk_9 {τ : TS} (h : pT τ) (xs : Nat → Int32) : wl_9 τ xs (fun _ => True) := by
  unfold wl_9 wp_X8_clock wp_X11_clock
  intro τ2 e
  subst e
  have a : τ 17 4 = tp_up τ 234 0 0 239 0 := h.2.2.1.trans h.2.2.2.1.symm
  exact ⟨fun _ => trivial, fun c => c a⟩
theorem wk_10 {τ : TS} (h : pT τ) (xs : Nat → Int32) : wl_10 τ xs (fun _ => True) := by
  unfold wl_10 wp_X8_nodes wp_X11_nodes
  intro τ2 e
  subst e
  have a : τ 1 0 = tp_up τ 234 0 0 234 1 := h.1.1.trans h.1.2.2.2.1.symm
  exact ⟨fun _ => trivial, fun c => c a⟩
theorem wk_11 {τ : TS} (h : pT τ) (xs : Nat → Int32) : wl_11 τ xs (fun _ => True) := by
  unfold wl_11 wp_X8_links wp_X11_links
  intro τ2 e
  subst e
  have a : τ 1 1 = tp_up τ 234 0 0 234 2 := h.1.2.1.trans h.1.2.2.2.2.1.symm
  exact ⟨fun _ => trivial, fun c => c a⟩
theorem wk_18 {τ : TS} (h : pT τ) (xs : Nat → Int32) : wl_18 τ xs (fun _ => True) := by
  unfold wl_18 wp_X8_lost wp_X11_lost
  intro τ2 e
  subst e
  have a : τ 17 5 = tp_up τ 234 0 0 239 1 := h.2.2.2.2.1.trans h.2.2.2.2.2.symm
  exact ⟨fun _ => trivial, fun c => c a⟩
theorem lf_underWay {τ : TS} (h : τ 1 1 = 0) {i : Nat} {K : TS → Int32 → Prop} (hK : K τ 0) : wp_X8_underWay τ i K := by
  unfold wp_X8_underWay
  refine ⟨fun τ2 x y => τ2 = τ ∧ x = 0 ∧ y = 0, fun _ _ _ => 0, ⟨rfl, rfl, rfl⟩, ?_⟩
  rintro τ2 x y ⟨e1, e2, e3⟩
  subst e1 e2 e3
  rw [h]
  exact ⟨fun _ => hK, fun c => absurd (by decide) c⟩
theorem mf_underWay {τ : TS} (h : τ 234 2 = 0) {i : Nat} {K : TS → Int32 → Prop} (hK : K τ 0) : wp_X10_underWay τ i K := by
  unfold wp_X10_underWay
  refine ⟨fun τ2 x y => τ2 = τ ∧ x = 0 ∧ y = 0, fun _ _ _ => 0, ⟨rfl, rfl, rfl⟩, ?_⟩
  rintro τ2 x y ⟨e1, e2, e3⟩
  subst e1 e2 e3
  rw [h]
  exact ⟨fun _ => hK, fun c => absurd (by decide) c⟩
theorem wk_19 {τ : TS} (h : pT τ) (xs : Nat → Int32) : wl_19 τ xs (fun _ => True) := by
  unfold wl_19
  refine lf_underWay h.1.2.1 ?_
  unfold wp_X11_underWay
  intro τ2 e
  refine mf_underWay (τ := τ2) (by rw [e, r_ups]; exact h.1.2.2.2.2.1) ?_
  exact ⟨fun _ => trivial, fun c => c rfl⟩
theorem wk_20 {τ : TS} (h : pT τ) (xs : Nat → Int32) : wl_20 τ xs (fun _ => True) := by
  unfold wl_20 wp_X8_connections wp_X11_connections
  intro τ2 e
  subst e
  have a : τ 17 3 = tp_up τ 234 0 0 239 2 := h.1.2.2.1.trans h.1.2.2.2.2.2.symm
  exact ⟨fun _ => trivial, fun c => c a⟩
theorem tp_dc0 : (Op.cmpValue (FP.dcmp FP.dconst0 FP.dconst0) .l) = 0 := by decide +kernel
theorem wk_41 {τ : TS} (h : pT τ) (xs : Nat → Int32) : wl_41 τ xs (fun _ => True) := by
  unfold wl_41 wp_X8_meanWindow
  refine ⟨fun τ2 z x y => τ2 = τ ∧ x = 0 ∧ y = 0, fun _ _ _ _ => 0, ⟨rfl, rfl, rfl⟩, ?_⟩
  rintro τ2 z x y ⟨e1, e2, e3⟩
  subst e1 e2 e3
  rw [h.1.2.2.1]
  refine ⟨fun _ => ⟨fun c => c rfl, fun _ => ?_⟩, fun c => absurd (by decide) c⟩
  unfold wp_X11_meanWindow
  intro τ3 e
  have a : τ3 239 2 = 0 := by rw [e, r_upn _ _ _ (by decide)]; exact h.1.2.2.2.2.2
  refine ⟨fun τ4 u x y => τ4 = τ3 ∧ x = 0 ∧ y = 0, fun _ _ _ _ => 0, ⟨rfl, rfl, rfl⟩, ?_⟩
  rintro τ4 u x y ⟨e1, e2, e3⟩
  subst e1 e2 e3
  rw [a]
  refine ⟨fun _ => ⟨fun c => c rfl, fun _ => ?_⟩, fun c => absurd (by decide) c⟩
  exact ⟨fun _ => trivial, fun c => absurd tp_dc0 c⟩
/-- the digest of a fresh object, number by number -/
def pS : Nat → Int64
  | 0 => 58043
  | n + 1 => pS n * 31 + Int32.toInt64 0
theorem lf_digest {τ : TS} (h : pT τ) {K : TS → Int64 → Prop} (hK : K τ (pS 6)) : wp_X8_digest τ 0 K := by
  unfold wp_X8_digest wp_X8_clock wp_X8_nodes wp_X8_links wp_X8_lost wp_X8_connections
  intro y1 e1 y2 e2 y3 e3 y4 e4
  rw [h.2.2.1] at e1
  rw [h.1.1] at e2
  rw [h.1.2.1] at e3
  rw [h.2.2.2.2.1] at e4
  refine lf_underWay h.1.2.1 ?_
  intro y5 e5 y6 e6
  rw [h.1.2.2.1] at e6
  have e7 : y6 = pS 6 := by subst e1 e2 e3 e4 e5 e6; rfl
  clear e1 e2 e3 e4 e5 e6
  subst e7
  refine ⟨fun τ2 y x => τ2 = τ ∧ y = pS 6 ∧ x = 0, fun _ _ _ => 0, ⟨rfl, rfl, rfl⟩, ?_⟩
  rintro τ2 y x ⟨e1, e2, e3⟩
  subst e1 e2 e3
  rw [h.1.2.1]
  refine ⟨fun _ => ?_, fun c => absurd (by decide) c⟩
  refine ⟨fun τ3 y x => τ3 = τ2 ∧ y = pS 6 ∧ x = 0, fun _ _ _ => 0, ⟨rfl, rfl, rfl⟩, ?_⟩
  rintro τ3 y x ⟨e1, e2, e3⟩
  subst e1 e2 e3
  rw [h.1.2.2.1]
  refine ⟨fun _ => ?_, fun c => absurd (by decide) c⟩
  refine ⟨fun τ4 y x => τ4 = τ3 ∧ y = pS 6 ∧ x = 0, fun _ _ _ => 0, ⟨rfl, rfl, rfl⟩, ?_⟩
  rintro τ4 y x ⟨e1, e2, e3⟩
  subst e1 e2 e3
  rw [h.1.1]
  exact ⟨fun _ => hK, fun c => absurd (by decide) c⟩
theorem mf_digest {τ : TS} (h : pT τ) {K : TS → Int64 → Prop} (hK : ∀ τ2, K τ2 (pS 6)) : wp_X11_digest τ K := by
  unfold wp_X11_digest
  intro τ1 e1 τ2 e2 τ3 e3
  have a1 : τ3 234 1 = 0 := by rw [e3, r_rwn _ _ (by decide), e2, r_rws, e1]; exact h.1.2.2.2.1
  have a2 : τ3 234 2 = 0 := by rw [e3, r_rwn _ _ (by decide), e2, r_rws, e1]; exact h.1.2.2.2.2.1
  have a9 : tp_jl (τ3 234 9) (τ3 234 10) = pS 0 := by
    rw [e3, r_rwn _ _ (by decide), e2, r_rws]
    exact tp_jl_hl _
  have b : τ3 239 = τ 239 := by rw [e3, r_rwn _ _ (by decide), e2, r_rwn _ _ (by decide), e1, r_upn _ _ _ (by decide)]
  have t : ∀ q, τ3 504 q = 0 := fun q => by rw [e3, r_rws]
  clear e1 e2 e3
  have b0 : τ3 239 0 = 0 := by rw [b]; exact h.2.2.2.1
  have b1 : τ3 239 1 = 0 := by rw [b]; exact h.2.2.2.2.2
  have b2 : τ3 239 2 = 0 := by rw [b]; exact h.1.2.2.2.2.2
  clear b
  unfold wp_X11_digest2
  have up0 : ∀ (τ : TS) (q : Nat) (v : Int32), v = 0 → (∀ q, τ 504 q = 0) → ∀ q2, tp_up τ 504 q v 504 q2 = 0 := fun τ q v hv ht q2 => by
    rw [r_ups]
    unfold upd
    split
    · exact hv
    · exact ht q2
  intro τ4 e4
  have t4 : ∀ q, τ4 504 q = 0 := by rw [e4]; exact up0 _ _ _ b0 t
  have f4 : ∀ j, j ≠ 504 → τ4 j = τ3 j := fun j hj => by rw [e4, r_upn _ _ _ hj]
  clear e4
  intro τ5 e5
  have t5 : ∀ q, τ5 504 q = 0 := by rw [e5]; exact up0 _ _ _ (by rw [f4 234 (by decide)]; exact a1) t4
  have f5 : ∀ j, j ≠ 504 → τ5 j = τ3 j := fun j hj => by rw [e5, r_upn _ _ _ hj]; exact f4 j hj
  clear e5
  intro τ6 e6
  have t6 : ∀ q, τ6 504 q = 0 := by rw [e6]; exact up0 _ _ _ (by rw [f5 234 (by decide)]; exact a2) t5
  have f6 : ∀ j, j ≠ 504 → τ6 j = τ3 j := fun j hj => by rw [e6, r_upn _ _ _ hj]; exact f5 j hj
  clear e6
  intro τ7 e7
  have t7 : ∀ q, τ7 504 q = 0 := by rw [e7]; exact up0 _ _ _ (by rw [f6 239 (by decide)]; exact b1) t6
  have f7 : ∀ j, j ≠ 504 → τ7 j = τ3 j := fun j hj => by rw [e7, r_upn _ _ _ hj]; exact f6 j hj
  clear e7
  refine mf_underWay (by rw [f7 234 (by decide)]; exact a2) ?_
  intro τ8 e8
  have t8 : ∀ q, τ8 504 q = 0 := by rw [e8]; exact up0 _ _ _ rfl t7
  have f8 : ∀ j, j ≠ 504 → τ8 j = τ3 j := fun j hj => by rw [e8, r_upn _ _ _ hj]; exact f7 j hj
  clear e8
  intro τ9 e9
  have t9 : ∀ q, τ9 504 q = 0 := by rw [e9]; exact up0 _ _ _ (by rw [f8 239 (by decide)]; exact b2) t8
  have f9 : ∀ j, j ≠ 504 → τ9 j = τ3 j := fun j hj => by rw [e9, r_upn _ _ _ hj]; exact f8 j hj
  clear e9
  refine ⟨fun τa k => ∃ n : Nat, n ≤ 6 ∧ k.toInt = n ∧ (∀ q, τa 504 q = 0) ∧ tp_jl (τa 234 9) (τa 234 10) = pS n ∧ τa 234 1 = 0 ∧ τa 234 2 = 0 ∧ τa 239 2 = 0, fun _ k => 6 - k.toInt.toNat, ⟨0, by decide, by decide, t9, by rw [f9 234 (by decide)]; exact a9, by rw [f9 234 (by decide)]; exact a1, by rw [f9 234 (by decide)]; exact a2, by rw [f9 239 (by decide)]; exact b2⟩, ?_⟩
  rintro τa k ⟨n, n6, kn, ta, sa, c1, c2, c3⟩
  refine ⟨fun c => ?_, fun c => ?_⟩
  · have en : n = 6 := by
      simp only [fa_le, Int32.reduceToInt] at c
      omega
    subst en
    refine ⟨fun τb x => τb = τa ∧ x = 0, fun _ _ => 0, ⟨rfl, rfl⟩, ?_⟩
    rintro τb x ⟨e1, e2⟩
    subst e1 e2
    rw [c2]
    refine ⟨fun _ => ?_, fun c => absurd (by decide) c⟩
    refine ⟨fun τc x => τc = τb ∧ x = 0, fun _ _ => 0, ⟨rfl, rfl⟩, ?_⟩
    rintro τc x ⟨e1, e2⟩
    subst e1 e2
    rw [c3]
    refine ⟨fun _ => ?_, fun c => absurd (by decide) c⟩
    refine ⟨fun τd x => τd = τc ∧ x = 0, fun _ _ => 0, ⟨rfl, rfl⟩, ?_⟩
    rintro τd x ⟨e1, e2⟩
    subst e1 e2
    rw [c1]
    refine ⟨fun _ => ?_, fun c => absurd (by decide) c⟩
    rw [sa]
    exact hK _
  · have hlt : k.toInt < 6 := by
      simp only [fa_le, Int32.reduceToInt] at c
      omega
    have k0 : 0 ≤ k.toInt := by omega
    refine ⟨fb_in k0 hlt, ?_⟩
    rw [ta]
    first
      | (intro x ex; subst ex)
      | skip
    unfold wp_X11_add
    intro τb eb k2 e2
    have e3 := fb_nx k0 (by decide) hlt e2
    have eb9 : τb 234 = upd (upd (τa 234) 9 (tp_hi (tp_jl (τa 234 9) (τa 234 10) * 31 + Int32.toInt64 0))) 10 (tp_lo (tp_jl (τa 234 9) (τa 234 10) * 31 + Int32.toInt64 0)) := by rw [eb, r_rws]
    refine ⟨⟨n + 1, by omega, by omega, fun q => by rw [eb, r_rwn _ _ (by decide)]; exact ta q, ?_, by rw [eb9]; exact c1, by rw [eb9]; exact c2, by rw [eb, r_rwn _ _ (by decide)]; exact c3⟩, ?_⟩
    · rw [eb9]
      show tp_jl (tp_hi _) (tp_lo _) = _
      rw [tp_jl_hl, sa]
      rfl
    · show 6 - k2.toInt.toNat < 6 - k.toInt.toNat
      omega
theorem wk_45 {τ : TS} (h : pT τ) (xs : Nat → Int32) : wl_45 τ xs (fun _ => True) := by
  unfold wl_45
  exact lf_digest h (mf_digest h (fun _ => ⟨fun _ => trivial, fun c => c (tp_cmp0 _)⟩))
