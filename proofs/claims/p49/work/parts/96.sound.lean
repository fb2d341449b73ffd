/-! what the law asks behind each tenth -/
section SO
variable {τ : TS} {B N : Int}
theorem s_soundC (h : gT N τ B) {c : Nat} (hc : (c : Int) < (τ 17 3).toInt) :
    qCal (τ (93 + 5 * c)) (τ (94 + 5 * c)) (τ (95 + 5 * c) 1).toInt ((τ 17 4).toInt + 1) ∧ qCle (τ (95 + 5 * c)) (τ (96 + 5 * c)) (τ (93 + 5 * c) 4).toInt (τ (93 + 5 * c) 1).toInt := by
  have h1 := h.2.1.2.2.2.1 c hc
  unfold tCon tWt at h1
  rw [show 17 + 76 + 5 * c = 93 + 5 * c by omega, show 17 + 77 + 5 * c = 94 + 5 * c by omega, show 17 + 78 + 5 * c = 95 + 5 * c by omega, show 17 + 79 + 5 * c = 96 + 5 * c by omega] at h1
  exact ⟨h1.1, h1.2.1⟩
theorem s_unread (h : gT N τ B) {c : Nat} (hc : (c : Int) < (τ 17 3).toInt) : 0 ≤ (tUr τ c).toInt ∧ (tUr τ c).toInt + (τ (95 + 5 * c) 2).toInt ≤ (τ (93 + 5 * c) 1).toInt ∧ (tUr τ c).toInt + (τ (95 + 5 * c) 2).toInt ≤ (τ (95 + 5 * c) 1).toInt := by
  obtain ⟨hq, hz⟩ := s_soundC h hc
  obtain ⟨a0, a1, -⟩ := hq
  obtain ⟨b0, b1, b2, b3, b4, b5, -⟩ := hz
  unfold tUr
  simp only [fa_lt, fa_le, fa_eq, q_add, q_sub, q_ite, Int32.reduceToInt]
  omega
theorem s_sound_con (h : gT N τ B) {x : Int32} (x0 : 0 ≤ x.toInt) (hx : x.toInt < (τ 17 3).toInt) {I23 : TS → Int32 → Prop} {u23 : TS → Int32 → Nat} {K : TS → Int32 → Prop} (hI : ∀ y : Int32, y = x + 1 → I23 τ y ∧ u23 τ y < u23 τ x) :
    wp_X8_stateOf τ 0 x (fun τ98 x99 => wp_X8_base τ98 0 x (fun τ100 x101 => wp_X8_wanted τ100 0 x (fun τ102 x103 => ((x103 < x101) → (K τ102 0)) ∧ ((¬ x103 < x101) → (wp_X8_wanted τ102 0 x (fun τ105 x106 => wp_X8_next τ105 0 x (fun τ107 x108 => ((x108 < x106) → (K τ107 0)) ∧ ((¬ x108 < x106) → (wp_X8_next τ107 0 x (fun τ110 x111 => wp_X8_given τ110 0 x (fun τ112 x113 => (((x113 + 1) < x111) → (K τ112 0)) ∧ ((¬ (x113 + 1) < x111) → (wp_X8_hasRead τ112 0 x (fun τ115 x116 => wp_X8_readable τ115 0 x (fun τ117 x118 => wp_X8_given τ117 0 x (fun τ119 x120 => ((x120 < (x116 + x118)) → (K τ119 0)) ∧ ((¬ x120 < (x116 + x118)) → (wp_X8_readable τ119 0 x (fun τ122 x123 => ((0 ≤ x123) → (wp_X8_window τ122 0 x (fun τ125 x126 => ((x126 < 8) → (K τ125 0)) ∧ ((¬ x126 < 8) → (wp_X8_window τ125 0 x (fun τ128 x129 => ((256 < x129) → (K τ128 0)) ∧ ((¬ 256 < x129) → (wp_X8_timeout τ128 0 x (fun τ131 x132 => ((x132 < 3) → (K τ131 0)) ∧ ((¬ x132 < 3) → (wp_X8_timeout τ131 0 x (fun τ134 x135 => ((60 < x135) → (K τ134 0)) ∧ ((¬ 60 < x135) → (wp_X8_tries τ134 0 x (fun τ137 x138 => ((x138 < 0) → (K τ137 0)) ∧ ((¬ x138 < 0) → (wp_X8_tries τ137 0 x (fun τ140 x141 => ((6 < x141) → (K τ140 0)) ∧ ((¬ 6 < x141) → (wp_X8_tries τ140 0 x (fun τ143 x144 => ∃ J145 : Int32 → Prop, (∀ (x146 : Int32), J145 x146 → (∃ J147 : Int32 → Prop, (∀ (x148 : Int32), J147 x148 → (((x146 = x148) → (∃ J150 : TS → Prop, (∀ (τ151 : TS), J150 τ151 → (∃ J152 : TS → Prop, (∀ (τ153 : TS), J152 τ153 → (∃ J154 : TS → Prop, (∀ (τ155 : TS), J154 τ155 → (wp_X8_timer τ155 0 x (fun τ156 x157 => ∃ J158 : TS → Prop, (∀ (τ159 : TS), J158 τ159 → (wp_X8_measured τ159 0 x (fun τ160 x161 => ((x161 < 0) → (wp_X8_recover τ160 0 x (fun τ163 x164 => wp_X8_next τ163 0 x (fun τ165 x166 => ((x166 ≤ x164) → (K τ165 0)) ∧ ((¬ x166 ≤ x164) → (wp_X8_wanted τ165 0 x (fun τ168 x169 => wp_X8_holds τ168 0 x x169 (fun τ170 x171 => ((x171 = 0) → (∀ x173 : Int32, x173 = x + 1 → I23 τ170 x173 ∧ u23 τ170 x173 < u23 τ x)) ∧ ((¬ x171 = 0) → (K τ170 0)))))))))) ∧ ((¬ x161 < 0) → (wp_X8_measured τ160 0 x (fun τ174 x175 => wp_X8_base τ174 0 x (fun τ176 x177 => ∃ J178 : Prop, (J178  → (wp_X8_measured τ176 0 x (fun τ179 x180 => wp_X8_next τ179 0 x (fun τ181 x182 => ((x182 ≤ x180) → (K τ181 0)) ∧ ((¬ x182 ≤ x180) → (wp_X8_recover τ181 0 x (fun τ184 x185 => wp_X8_next τ184 0 x (fun τ186 x187 => ((x187 ≤ x185) → (K τ186 0)) ∧ ((¬ x187 ≤ x185) → (wp_X8_wanted τ186 0 x (fun τ189 x190 => wp_X8_holds τ189 0 x x190 (fun τ191 x192 => ((x192 = 0) → (∀ x194 : Int32, x194 = x + 1 → I23 τ191 x194 ∧ u23 τ191 x194 < u23 τ x)) ∧ ((¬ x192 = 0) → (K τ191 0)))))))))))))) ∧ (((x177 ≤ x175) → J178) ∧ ((¬ x177 ≤ x175) → (((x99 = 1) → (K τ176 0)) ∧ ((¬ x99 = 1) → J178))))))))))) ∧ (((x157 < 0) → (J158 τ156)) ∧ ((¬ x157 < 0) → (wp_X8_timer τ156 0 x (fun τ198 x199 => wp_X8_clock τ198 0 (fun τ200 x201 => ((x201 < x199) → (J158 τ200)) ∧ ((¬ x201 < x199) → (K τ200 0)))))))))) ∧ (((¬ x99 = 0) → (J154 τ153)) ∧ ((x99 = 0) → (wp_X8_next τ153 0 x (fun τ204 x205 => ((¬ x205 = 0) → (K τ204 0)) ∧ ((x205 = 0) → (J154 τ204)))))))) ∧ (((¬ x99 = 3) → (J152 τ151)) ∧ ((x99 = 3) → (wp_X8_timer τ151 0 x (fun τ208 x209 => ((¬ x209 = (-1)) → (K τ208 0)) ∧ ((x209 = (-1)) → (J152 τ208)))))))) ∧ (((¬ x99 = 2) → (J150 τ143)) ∧ ((x99 = 2) → (wp_X8_base τ143 0 x (fun τ212 x213 => wp_X8_given τ212 0 x (fun τ214 x215 => ((¬ x213 = (x215 + 1)) → (K τ214 0)) ∧ ((x213 = (x215 + 1)) → (wp_X8_timer τ214 0 x (fun τ217 x218 => ((¬ x218 = (-1)) → (K τ217 0)) ∧ ((x218 = (-1)) → (wp_X8_wanted τ217 0 x (fun τ220 x1 => wp_X8_base τ220 0 x (fun τ222 x3 => ((¬ x1 = x3) → (K τ222 0)) ∧ ((x1 = x3) → (J150 τ222)))))))))))))))) ∧ ((¬ x146 = x148) → (K τ143 0)))) ∧ (((¬ x99 = 3) → (J147 0)) ∧ ((x99 = 3) → (J147 1))))) ∧ (((¬ x144 = 6) → (J145 0)) ∧ ((x144 = 6) → (J145 1)))))))))))))))))))))))) ∧ ((¬ 0 ≤ x123) → (K τ122 0))))))))))))))))))))) := by
  have h6 := h.2.1.1.2
  obtain ⟨hq, hz⟩ := s_soundC h (c := x.toInt.toNat) (by omega)
  have hu := s_unread h (c := x.toInt.toNat) (by omega)
  have hck := h.2.1.2.1
  obtain ⟨a0, a1, a2, a3, a4, a5, a6, a7, a8, a9, a10, a11, a12, a13, a14, a15, a16, a17, a18, a19⟩ := hq
  obtain ⟨b0, b1, b2, b3, b4, b5, b6, b7, b8⟩ := hz
  simp only [e_stateOf h6 x0 hx, e_base h6 x0 hx, e_wanted h6 x0 hx, e_next h6 x0 hx, e_given h6 x0 hx, e_hasRead h6 x0 hx, e_readable h6 x0 hx, e_window h6 x0 hx, e_timeout h6 x0 hx, e_tries h6 x0 hx]
  refine k_no ?_ (k_no ?_ (k_no ?_ (k_no ?_ (k_yes ?_ (k_no ?_ (k_no ?_ (k_no ?_ (k_no ?_ (k_no ?_ (k_no ?_ ?_))))))))))
  · simp only [fa_lt, fa_le, fa_eq, q_add, q_sub, q_ite, Int32.reduceToInt]; omega
  · simp only [fa_lt, fa_le, fa_eq, q_add, q_sub, q_ite, Int32.reduceToInt]; omega
  · simp only [fa_lt, fa_le, fa_eq, q_add, q_sub, q_ite, Int32.reduceToInt]; omega
  · simp only [fa_lt, fa_le, fa_eq, q_add, q_sub, q_ite, Int32.reduceToInt]; omega
  · simp only [fa_lt, fa_le, fa_eq, q_add, q_sub, q_ite, Int32.reduceToInt]; omega
  · simp only [fa_lt, fa_le, fa_eq, q_add, q_sub, q_ite, Int32.reduceToInt]; omega
  · simp only [fa_lt, fa_le, fa_eq, q_add, q_sub, q_ite, Int32.reduceToInt]; omega
  · simp only [fa_lt, fa_le, fa_eq, q_add, q_sub, q_ite, Int32.reduceToInt]; omega
  · simp only [fa_lt, fa_le, fa_eq, q_add, q_sub, q_ite, Int32.reduceToInt]; omega
  · simp only [fa_lt, fa_le, fa_eq, q_add, q_sub, q_ite, Int32.reduceToInt]; omega
  · simp only [fa_lt, fa_le, fa_eq, q_add, q_sub, q_ite, Int32.reduceToInt]; omega
  refine ⟨fun v => (v = 0 ∧ ¬ τ (93 + 5 * x.toInt.toNat) 11 = 6) ∨ (v = 1 ∧ τ (93 + 5 * x.toInt.toNat) 11 = 6), fun v hv => ⟨fun z => (z = 0 ∧ ¬ τ (93 + 5 * x.toInt.toNat) 0 = 3) ∨ (z = 1 ∧ τ (93 + 5 * x.toInt.toNat) 0 = 3), fun z hz => k_yes ?_ ?_, fun c => Or.inl ⟨rfl, c⟩, fun c => Or.inr ⟨rfl, c⟩⟩, fun c => Or.inl ⟨rfl, c⟩, fun c => Or.inr ⟨rfl, c⟩⟩
  · rcases hv with ⟨rfl, p⟩ | ⟨rfl, p⟩ <;> rcases hz with ⟨rfl, q⟩ | ⟨rfl, q⟩ <;> first | rfl | (exfalso; simp only [fa_lt, fa_le, fa_eq, q_add, q_sub, q_ite, Int32.reduceToInt] at p q; omega)
  refine ⟨fun τ2 => τ = τ2, fun τ2 e2 => ?_, fun _ => rfl, fun c => ?_⟩
  · subst e2
    refine ⟨fun τ2 => τ = τ2, fun τ2 e2 => ?_, fun _ => rfl, fun c => ?_⟩
    · subst e2
      refine ⟨fun τ2 => τ = τ2, fun τ2 e2 => ?_, fun _ => rfl, fun c => ?_⟩
      · subst e2
        simp only [e_timer h6 x0 hx]
        refine ⟨fun τ2 => τ = τ2, fun τ2 e2 => ?_, fun _ => rfl, fun c => ?_⟩
        · subst e2
          have hh : ∀ {K' : TS → Int32 → Prop}, K' τ 0 → wp_X8_holds τ 0 x (τ (95 + 5 * x.toInt.toNat) 1) K' := fun {K'} hk => e_holds0 h6 x0 hx (by omega) b8 hk
          simp only [e_measured h6 x0 hx, e_recover h6 x0 hx, e_next h6 x0 hx, e_base h6 x0 hx, e_wanted h6 x0 hx]
          refine ⟨fun _ => k_no ?_ (hh (k_yes rfl hI)), fun c => ⟨True, fun _ => k_no ?_ (k_no ?_ (hh (k_yes rfl hI))), fun _ => trivial, fun c2 => ⟨fun c3 => ?_, fun _ => trivial⟩⟩⟩
          · simp only [fa_lt, fa_le, fa_eq, q_add, q_sub, q_ite, Int32.reduceToInt]; omega
          · simp only [fa_lt, fa_le, fa_eq, q_add, q_sub, q_ite, Int32.reduceToInt]; omega
          · simp only [fa_lt, fa_le, fa_eq, q_add, q_sub, q_ite, Int32.reduceToInt]; omega
          · exfalso
            simp only [fa_lt, fa_le, fa_eq, q_add, q_sub, q_ite, Int32.reduceToInt] at c c2 c3
            omega
        · simp only [wp_X8_clock]
          refine k_yes ?_ trivial
          simp only [fa_lt, fa_le, fa_eq, q_add, q_sub, q_ite, Int32.reduceToInt] at c ⊢
          omega
      · simp only [e_next h6 x0 hx]
        refine k_ny ?_ trivial
        simp only [fa_lt, fa_le, fa_eq, q_add, q_sub, q_ite, Int32.reduceToInt] at c ⊢
        omega
    · simp only [e_timer h6 x0 hx]
      refine k_ny ?_ trivial
      simp only [fa_lt, fa_le, fa_eq, q_add, q_sub, q_ite, Int32.reduceToInt] at c ⊢
      omega
  · simp only [e_base h6 x0 hx, e_given h6 x0 hx, e_timer h6 x0 hx, e_wanted h6 x0 hx]
    refine k_ny ?_ (k_ny ?_ (k_ny ?_ trivial))
    · simp only [fa_lt, fa_le, fa_eq, q_add, q_sub, q_ite, Int32.reduceToInt] at c ⊢
      omega
    · simp only [fa_lt, fa_le, fa_eq, q_add, q_sub, q_ite, Int32.reduceToInt] at c ⊢
      omega
    · simp only [fa_lt, fa_le, fa_eq, q_add, q_sub, q_ite, Int32.reduceToInt] at c ⊢
      omega
theorem s_flying (h : gT N τ B) {k : Nat} (hk : k < 24) : (τ (20 + 3 * k) 4).toInt ≤ 9 := by
  obtain ⟨⟨-, -, -, -, w5⟩, w6, -⟩ := h.2.1.2.2.2.2.1 k hk (Or.inr rfl)
  rw [show 17 + 3 + 3 * k = 20 + 3 * k by omega] at w5
  have h0 : τ (17 + 5 + 3 * k) (((τ 17 4).toInt.toNat + 0) % 10) = -1 := Classical.byContradiction fun hne => by
    have : (1 : Int) ≤ ((0 : Nat) : Int) := (w6 0 (by decide) hne).1
    omega
  rw [Nat.add_zero] at h0
  have hlt : (τ 17 4).toInt.toNat % 10 < 10 := Nat.mod_lt _ (by decide)
  have a := fb_ct_upd (qIn (τ (17 + 5 + 3 * k))) true hlt
  have b : qIn (τ (17 + 5 + 3 * k)) ((τ 17 4).toInt.toNat % 10) = false := by
    unfold qIn
    exact decide_eq_false (fun z => z h0)
  have c := fb_ct_le (fun j => if j = (τ 17 4).toInt.toNat % 10 then true else qIn (τ (17 + 5 + 3 * k)) j) 10
  simp only [b, if_true, Bool.false_eq_true, if_false] at a
  omega
theorem s_down (h : gT N τ B) {k : Nat} (hk : k < 24) (hu : τ 6 (k / 2) = 0) : (τ (20 + 3 * k) 2).toInt = 0 ∧ (τ (20 + 3 * k) 4).toInt = 0 := by
  obtain ⟨⟨-, -, -, -, w5⟩, -, w7⟩ := h.2.1.2.2.2.2.1 k hk (Or.inr rfl)
  rw [show 17 + 3 + 3 * k = 20 + 3 * k by omega] at w5 w7
  obtain ⟨e1, e2⟩ := w7 hu
  refine ⟨e1, ?_⟩
  rw [w5, fb_ct_zero.mpr (fun n hn => by
    unfold qIn
    exact decide_eq_false (fun z => z (e2 n hn)))]
  rfl
theorem s_sound (h : gT N τ B) {x1 : Int32} (hx1 : x1.toInt = (τ 1 0).toInt) {K : TS → Int32 → Prop} (hk : K τ 1) : wp_L_isSound τ 0 x1 K := by
  obtain ⟨hn, hI, hN2, hN6⟩ := id h
  have hL := hn.1.2.1
  have h6 := hI.1
  have hw := h.ways
  have hb := uS_b hw
  unfold wp_L_isSound
  refine ⟨fun τ2 x => τ = τ2 ∧ 0 ≤ x.toInt ∧ x.toInt ≤ (τ 17 3).toInt, fun _ x => 6 - x.toInt.toNat, ⟨rfl, by decide, by simp only [Int32.reduceToInt]; omega⟩, ?_⟩
  rintro τ2 x ⟨rfl, x0, xm⟩
  unfold wp_X8_connections
  refine ⟨fun _ => ?_, fun c => ?_⟩
  · refine ⟨fun τ2 y x => τ = τ2 ∧ 0 ≤ x.toInt ∧ x.toInt ≤ (τ 1 1).toInt ∧ y.toInt = uS τ (2 * x.toInt.toNat), fun _ _ x => 12 - x.toInt.toNat, ⟨rfl, by decide, by simp only [Int32.reduceToInt]; omega, rfl⟩, ?_⟩
    rintro τ2 y l ⟨rfl, l0, l1, hy⟩
    unfold wp_X8_links
    refine ⟨fun c => ?_, fun c => ?_⟩
    · have el : l.toInt = (τ 1 1).toInt := by
        rw [fa_le] at c
        omega
      rw [el] at hy
      refine ⟨fun τ2 a => τ = τ2 ∧ 0 ≤ a.toInt ∧ a.toInt ≤ (τ 1 0).toInt, fun _ a => 8 - a.toInt.toNat, ⟨rfl, by decide, by simp only [Int32.reduceToInt]; omega⟩, ?_⟩
      rintro τ2 a ⟨rfl, a0, a1⟩
      refine ⟨fun _ => s_X8_underWay h (fun v hv => k_ny (Int32.toInt_inj.mp (by rw [hv, hy])) hk), fun c2 => ?_⟩
      have al : a.toInt < (τ 1 0).toInt := by
        rw [fa_le] at c2
        omega
      have z0 : (0 : Int32).toInt = 0 := rfl
      have nxt : ∀ y : Int32, y = a + 1 → (τ = τ ∧ 0 ≤ y.toInt ∧ y.toInt ≤ (τ 1 0).toInt) ∧ 8 - y.toInt.toNat < 8 - a.toInt.toNat := fun y ey => by
        have : y.toInt = a.toInt + 1 := by
          subst ey
          simp only [fa_lt, fa_le, fa_eq, q_add, q_sub, q_ite, Int32.reduceToInt]
          omega
        exact ⟨⟨rfl, by omega, by omega⟩, by omega⟩
      have hE : ∀ u v w, nE (τ 2) (τ 3) (τ 4) (τ 6) (τ 1 1).toInt u v w → 1 ≤ w := fun u v w h => (nE_ok hn.1 h).1
      obtain ⟨p1, p2, -⟩ := hn.2.1 0 (by omega)
      obtain ⟨q1, q2, -⟩ := hn.2.1 a.toInt.toNat (by omega)
      have hsym : nD (τ (8 + 0)) a.toInt.toNat = nD (τ (8 + a.toInt.toNat)) 0 := n_sym hE nE_sym p1 p2 q1 q2
      rw [nD_in _ (by omega), nD_in _ (by omega)] at hsym
      have ha0 : ∀ v : Int32, v.toInt = 0 → v = 0 := fun v hv => Int32.toInt_inj.mp (by rw [hv]; rfl)
      have hd0 := nD_in (τ (8 + 0)) (v := a.toInt.toNat) (by omega)
      have deq : τ (8 + (0 : Int32).toInt.toNat) a.toInt.toNat = τ (8 + a.toInt.toNat) (0 : Int32).toInt.toNat := Int32.toInt_inj.mp hsym
      unfold wp_X8_nextLink
      rw [e_node a0 al, e_node (by omega) (by rw [z0]; omega)]
      have tail : ∀ v : Int32, (0 ≤ v.toInt → v.toInt < (τ 1 1).toInt ∧ τ 6 v.toInt.toNat ≠ 0) → ∀ (k1 k2 : Int32), k1 = k2 → (¬ k1 = k2 → K τ 0) ∧ (k1 = k2 → wp_X8_distance τ 0 a 0 (fun τ49 x50 => wp_X8_distance τ49 0 0 a (fun τ51 x52 => ((¬ x50 = x52) → (K τ51 0)) ∧ ((x50 = x52) → (((v < 0) → (∀ x55 : Int32, x55 = a + 1 → (τ = τ51 ∧ 0 ≤ x55.toInt ∧ x55.toInt ≤ (τ 1 0).toInt) ∧ 8 - x55.toInt.toNat < 8 - a.toInt.toNat)) ∧ ((¬ v < 0) → (wp_X8_isUp τ51 0 v (fun τ56 x57 => ((¬ x57 = 0) → (∀ x59 : Int32, x59 = a + 1 → (τ = τ56 ∧ 0 ≤ x59.toInt ∧ x59.toInt ≤ (τ 1 0).toInt) ∧ 8 - x59.toInt.toNat < 8 - a.toInt.toNat)) ∧ ((x57 = 0) → (K τ56 0)))))))))) := fun v hv k1 k2 hk12 => by
        refine k_ny hk12 ?_
        rw [e_distance (by omega) a0 al (by omega) (by rw [z0]; omega), e_distance (by omega) (by omega) (by rw [z0]; omega) a0 al]
        refine k_ny deq ⟨fun _ => nxt, fun c3 => ?_⟩
        have hv0 : 0 ≤ v.toInt := by
          simp only [fa_lt, fa_le, fa_eq, q_add, q_sub, q_ite, Int32.reduceToInt] at c3
          omega
        rw [e_isUp hL.2 hv0 (hv hv0).1 hn.2.2.1]
        exact k_nn (hv hv0).2 nxt
      refine s_X3_linkTowards rfl rfl rfl rfl rfl hn.1 hn.2.1 (v := a.toInt.toNat) (g := 0) (by omega) (by omega) z0 (by omega) (fun hno => ?_) (fun v hv0 hv1 hgo => ?_)
      · refine ⟨fun k => k = 1, fun k hk1 => ⟨fun τ2 k2 => τ = τ2 ∧ k2 = 1, fun τ2 k2 hk2 => ?_, fun τ2 => τ = τ2, fun τ2 e2 => ⟨e2, rfl⟩, fun _ => rfl, fun c3 => ?_⟩, fun c3 => absurd c3 (by decide), fun _ => rfl⟩
        · obtain ⟨rfl, e3⟩ := hk2
          exact tail (-1) (fun e => absurd e (by decide)) k k2 (by rw [hk1, e3])
        · rw [e_distance (by omega) a0 al (by omega) (by rw [z0]; omega)]
          refine k_no ?_ rfl
          intro c4
          have hne : a.toInt.toNat ≠ 0 := fun e => c3 (ha0 a (by omega))
          have c4' : 0 ≤ nD (τ (8 + 0)) a.toInt.toNat := by
            rw [hd0]
            rw [fa_le] at c4
            exact c4
          obtain ⟨u, w, ⟨l2, hl2, hu2, hel⟩, g1, g2⟩ := n_eq p1 p2 hne c4'
          exact hno l2 hl2 ⟨hu2, u, w, ⟨hel.1, hel.2.symm⟩, g1, g2⟩
      · obtain ⟨hup, u, w, hel, g1, g2⟩ := hgo
        have hw1 : 1 ≤ w := hE a.toInt.toNat u w ⟨v.toInt.toNat, by omega, hup, hel⟩
        have hpos : 1 ≤ nD (τ (8 + 0)) a.toInt.toNat := by omega
        refine ⟨fun k => k = 0, fun k hk1 => ⟨fun τ2 k2 => τ = τ2 ∧ k2 = 0, fun τ2 k2 hk2 => ?_, fun _ => False, fun _ e => e.elim, fun c3 => ?_, fun c3 => ?_⟩, fun _ => rfl, fun c3 => absurd (by rw [fa_le]; exact hv0) c3⟩
        · obtain ⟨rfl, e3⟩ := hk2
          exact tail v (fun _ => ⟨hv1, hup⟩) k k2 (by rw [hk1, e3])
        · have e4 : a.toInt.toNat = 0 := by rw [c3]; rfl
          rw [e4, p1.1] at hpos
          omega
        · rw [e_distance (by omega) a0 al (by omega) (by rw [z0]; omega)]
          refine k_yes ?_ ⟨rfl, rfl⟩
          rw [hd0] at hpos
          rw [fa_le]
          show 0 ≤ (τ (8 + 0) a.toInt.toNat).toInt
          omega
    · have ll : l.toInt < (τ 1 1).toInt := by
        rw [fa_le] at c
        omega
      refine ⟨fun τ2 y2 w => τ = τ2 ∧ 0 ≤ w.toInt ∧ w.toInt ≤ 2 ∧ y2.toInt = uS τ (2 * l.toInt.toNat + w.toInt.toNat), fun _ _ w => 2 - w.toInt.toNat, ⟨rfl, by decide, by decide, hy⟩, ?_⟩
      rintro τ2 y2 w ⟨rfl, w0, w1, hy2⟩
      refine ⟨fun c2 z ez => ?_, fun c2 => ?_⟩
      · have ew : w.toInt = 2 := by
          simp only [fa_lt, fa_le, fa_eq, q_add, q_sub, q_ite, Int32.reduceToInt] at c2
          omega
        have ez2 : z.toInt = l.toInt + 1 := by
          subst ez
          simp only [fa_lt, fa_le, fa_eq, q_add, q_sub, q_ite, Int32.reduceToInt]
          omega
        refine ⟨⟨rfl, by omega, by omega, ?_⟩, by show 12 - z.toInt.toNat < 12 - l.toInt.toNat; omega⟩
        rw [hy2, ew, ez2, show (l.toInt + 1).toNat = l.toInt.toNat + 1 by omega]
        rfl
      · have wl : w.toInt ≤ 1 := by
          simp only [fa_lt, fa_le, fa_eq, q_add, q_sub, q_ite, Int32.reduceToInt] at c2
          omega
        simp only [e_queued hL.2 l0 ll w0 wl, e_flying hL.2 l0 ll w0 wl, e_isUp hL.2 l0 ll hn.2.2.1]
        generalize hkk : 2 * l.toInt.toNat + w.toInt.toNat = k at *
        have hk24 : k < 24 := by omega
        have h1 := hw k hk24
        have h2 := hb k (by omega)
        have h3 := s_flying h hk24
        have hd : l.toInt.toNat = k / 2 := by omega
        intro z ez
        have ez2 : z.toInt = (τ (20 + 3 * k) 2).toInt + (τ (20 + 3 * k) 4).toInt := by
          subst ez
          simp only [fa_lt, fa_le, fa_eq, q_add, q_sub, q_ite, Int32.reduceToInt]
          omega
        have nxt : ∀ x87 : Int32, x87 = y2 + z → ∀ x88 : Int32, x88 = w + 1 → (True ∧ 0 ≤ x88.toInt ∧ x88.toInt ≤ 2 ∧ x87.toInt = uS τ (2 * l.toInt.toNat + x88.toInt.toNat)) ∧ 2 - x88.toInt.toNat < 2 - w.toInt.toNat := fun x87 e87 x88 e88 => by
          have e1 : x88.toInt = w.toInt + 1 := by
            subst e88
            simp only [fa_lt, fa_le, fa_eq, q_add, q_sub, q_ite, Int32.reduceToInt]
            omega
          refine ⟨⟨trivial, by omega, by omega, ?_⟩, by omega⟩
          rw [e1, show 2 * l.toInt.toNat + (w.toInt + 1).toNat = k + 1 by omega, uS_s, ← ez2, ← hy2, e87, q_add]
          omega
        refine ⟨fun _ => k_no ?_ (k_yes ?_ nxt), fun c3 => k_no ?_ (k_no ?_ (k_yes ?_ nxt))⟩
        · simp only [fa_lt, fa_le, fa_eq, q_add, q_sub, q_ite, Int32.reduceToInt]; omega
        · simp only [fa_lt, fa_le, fa_eq, q_add, q_sub, q_ite, Int32.reduceToInt]; omega
        · have := s_down h hk24 (by rw [← hd]; exact c3)
          simp only [fa_lt, fa_le, fa_eq, q_add, q_sub, q_ite, Int32.reduceToInt]
          omega
        · simp only [fa_lt, fa_le, fa_eq, q_add, q_sub, q_ite, Int32.reduceToInt]; omega
        · simp only [fa_lt, fa_le, fa_eq, q_add, q_sub, q_ite, Int32.reduceToInt]; omega
  · have hxl : x.toInt < (τ 17 3).toInt := by
      rw [fa_le] at c
      omega
    refine s_sound_con h x0 hxl (fun y ey => ?_)
    have e1 : y.toInt = x.toInt + 1 := by
      subst ey
      simp only [fa_lt, fa_le, fa_eq, q_add, q_sub, q_ite, Int32.reduceToInt]
      omega
    exact ⟨⟨rfl, by omega, by omega⟩, by show 6 - y.toInt.toNat < 6 - x.toInt.toNat; omega⟩
end SO
