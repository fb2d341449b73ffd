/-! a packet arrives -/
theorem qCal.wd {r t : Nat → Int32} {wd wd2 lo : Int} (h : qCal r t wd lo) (h1 : wd ≤ wd2) (h2 : wd2 ≤ (r 4).toInt) : qCal r t wd2 lo := by
  obtain ⟨a1, a2, a3, a4, a5, a6⟩ := h
  exact ⟨a1, a2, a3, ⟨a4.1, by omega⟩, h2, a6⟩
section AR
variable {T : Nat} {A B : Int} {lo xc fl fh : Nat → Int} {τ τ0 : TS}
theorem tS.con (h : tS T τ0 lo xc fl fh A B τ) {c : Nat} (hc : (c : Int) < (τ T 3).toInt) : tCon τ T (τ0 1 0).toInt (lo c) c := h.1.2.2.2.1 c hc
theorem tS.caller (hT : 17 ≤ T) (hn : qN τ0) (h : tS T τ0 lo xc fl fh A B τ) {c : Nat} (hc : (c : Int) < (τ T 3).toInt) {r t : Nat → Int32} (hr : qCal r t (tWt τ T c) (lo c)) (h1 : r 1 = τ (T + 76 + 5 * c) 1) (h4 : r 4 = τ (T + 76 + 5 * c) 4) : tS T τ0 lo xc fl fh A B (q2 τ (T + 76 + 5 * c) r t) := by
  have h6 := h.1.1.2
  refine ⟨h.1.caller hc (xc2 := xc) (fun _ => ⟨hr, by rw [h1, h4]; exact (h.con hc).2.1⟩) (fun d _ hd => (h.con hd).1) (fun d => ?_), fun j hj => ?_, fun d hd => ?_⟩
  · by_cases hd : d = c
    · subst hd
      rw [if_pos rfl, h4]
      exact Int.le_refl _
    · rw [if_neg hd]
      exact Int.le_refl _
  · rw [q2_n _ _ _ _ (by omega) (by omega)]
    exact h.2.1 j hj
  · rw [q2_n _ _ _ _ (show T + 78 + 5 * d ≠ _ by omega) (by omega)]
    refine ⟨?_, (h.2.2 d hd).2⟩
    by_cases hdc : d = c
    · subst hdc
      rw [q2_a, h1]
      exact (h.2.2 d hd).1
    · rw [q2_n _ _ _ _ (by omega) (by omega)]
      exact (h.2.2 d hd).1
theorem tS.callee (hT : 17 ≤ T) (hn : qN τ0) (h : tS T τ0 lo xc fl fh A B τ) {c : Nat} (hc : (c : Int) < (τ T 3).toInt) {r q : Nat → Int32} (hr : qCle r q (τ (T + 76 + 5 * c) 4).toInt (τ (T + 76 + 5 * c) 1).toInt) (hx : tWt τ T c ≤ (r 1).toInt) (h2 : r 2 = τ (T + 78 + 5 * c) 2) : tS T τ0 lo xc fl fh A B (q2 τ (T + 78 + 5 * c) r q) := by
  have h6 := h.1.1.2
  refine ⟨h.1.callee hc (fun _ => ⟨hr, (h.con hc).1.wd hx hr.2.2.1⟩) hx, fun j hj => ?_, fun d hd => ?_⟩
  · rw [q2_n _ _ _ _ (by omega) (by omega)]
    exact h.2.1 j hj
  · rw [q2_n _ _ _ _ (show T + 76 + 5 * d ≠ _ by omega) (by omega)]
    refine ⟨(h.2.2 d hd).1, ?_⟩
    by_cases hdc : d = c
    · subst hdc
      rw [q2_a, h2]
      exact (h.2.2 d hd).2
    · rw [q2_n _ _ _ _ (by omega) (by omega)]
      exact (h.2.2 d hd).2
theorem tS.mono (h : tS T τ0 lo xc fl fh A B τ) {A2 B2 : Int} (h1 : A2 ≤ A) (h2 : B ≤ B2) : tS T τ0 lo xc fl fh A2 B2 τ := by
  obtain ⟨⟨z1, z2, z3, z4⟩, z5⟩ := h
  exact ⟨⟨z1, z2, ⟨by omega, by omega⟩, z4⟩, z5⟩
theorem s_X6_arrive (hT : 17 ≤ T) (hn : qN τ0) (h : tS T τ0 lo (fun _ => 0) fl fh A B τ) (hB : B < 1900000000) (hlo : ∀ c, lo c ≤ (τ T 4).toInt + 1) {x1 x2 : Int32} (hp : pkOK (τ T 3).toInt (tWt τ T) (tNx τ T (fun _ => 0)) 17 x1) (h2 : 0 ≤ x2.toInt ∧ x2.toInt < (τ0 1 0).toInt) {K : TS → Prop}
    (hk : ∀ τ2, tS T τ0 lo (fun _ => 0) fl fh A (B + 2) τ2 → (∀ k, k ≠ 5 → τ2 T k = τ T k) → K τ2) : wp_X6_arrive τ T x1 x2 K := by
  unfold wp_X6_arrive
  have h6 := h.1.1
  have hck := h.1.2.1
  obtain ⟨n, e1, hnn, hp3, hp12⟩ := id hp
  subst e1
  have hn31 : n < 2 ^ 31 := by omega
  refine s_X4_connectionOf hn31 ⟨fun c => ?_, fun _ => hk _ (h.mono (Int.le_refl _) (by omega)) (fun _ _ => rfl)⟩
  have hc8 : n / 32768 % 8 < 2 ^ 31 := by omega
  have ec : (nI (n / 32768 % 8)).toInt = (n / 32768 % 8 : Nat) := nI_toInt hc8
  have hcm : ((n / 32768 % 8 : Nat) : Int) < (τ T 3).toInt := by
    rw [fa_lt, ec] at c
    exact c
  generalize hcc : n / 32768 % 8 = cc at *
  have hcon := h.con hcm
  have hcl : Int32.toNatClampNeg (nI cc) = cc := nI_clamp hc8
  have hkk : n / 8192 % 4 < 2 ^ 31 := by omega
  have ekk : (nI (n / 8192 % 4)).toInt = (n / 8192 % 4 : Nat) := nI_toInt hkk
  rw [hcl]
  rw [show T + 2 + 73 + 5 * cc + 3 = T + 78 + 5 * cc by omega, show T + 2 + 73 + 5 * cc + 1 = T + 76 + 5 * cc by omega, show T + 2 + 73 + 5 * cc = T + 75 + 5 * cc by omega]
  refine ⟨q_in (by omega) (by omega), s_X4_kindOf hn31 ⟨fun v => (v = 1 ∧ n / 8192 % 4 = 3) ∨ (v = 0 ∧ n / 8192 % 4 ≠ 3), fun v hv => ?_, fun c3 => Or.inr ⟨rfl, fun e => c3 (by rw [e]; rfl)⟩, fun c3 => Or.inl ⟨rfl, ?_⟩⟩⟩
  · refine ⟨fun g => (0 ≤ g.toInt ∧ g.toInt < (τ0 1 0).toInt), fun g hg => ⟨fun _ => ⟨fun v0 => ?_, fun v1 => ?_⟩, fun _ => ?_⟩, fun _ => hcon.2.2.2, fun _ => hcon.2.2.1⟩
    · have hk3 : n / 8192 % 4 ≠ 3 := by
        rcases hv with ⟨e, -⟩ | ⟨-, e⟩
        · rw [e] at v0; exact absurd v0 (by decide)
        · exact e
      refine s_X4_kindOf hn31 ⟨fun _ => s_X6_sendAnswer hT hn h (by omega) (by omega) (by omega) (fun τ2 g1 g2 g3 => hk _ (g1.mono (Int.le_refl _) (by omega)) g3), fun k0 => ?_⟩
      have hk12 : n / 8192 % 4 = 1 ∨ n / 8192 % 4 = 2 := by
        have : n / 8192 % 4 ≠ 0 := fun e => k0 (by rw [e]; rfl)
        omega
      have hnx := (hp12 hk12).2
      refine s_X4_kindOf hn31 ⟨fun _ => True, fun x40 _ => ?_, fun _ => trivial, fun _ => trivial⟩
      refine s_X4_numberOf hn31 ?_
      have en : (nI (n / 32 % 256)).toInt = (n / 32 % 256 : Nat) := nI_toInt (by omega)
      have e := q2_self τ (T + 78 + 5 * cc)
      refine Eq.mp (congrArg (fun z => wp_X0_take z (T + 78 + 5 * cc) (nI (n / 32 % 256)) x40 _) e) ?_
      refine s_X0_take (nx := (τ (T + 76 + 5 * cc) 4).toInt) (gv := (τ (T + 76 + 5 * cc) 1).toInt) (by rw [show T + 78 + 5 * cc + 1 = T + 79 + 5 * cc by omega]; exact hcon.2.1) ⟨by omega, by rw [en]; unfold tNx at hnx; simp only [Int.add_zero] at hnx; exact hnx⟩ (fun r2 q2' x44 hq e0 e2 hge hx44 => ?_)
      have hS := h.callee hT hn hcm hq hge e2
      have hcm2 : (nI cc).toInt < (q2 τ (T + 78 + 5 * cc) r2 q2' T 3).toInt := by rw [q2_n _ _ _ _ (by omega) (by omega), ec]; exact hcm
      have fin : ∀ v : Int32, A ≤ v.toInt ∧ v.toInt ≤ B + 1 → wp_X6_sendAnswer (tp_up (q2 τ (T + 78 + 5 * cc) r2 q2') T 5 v) T (nI cc) (fun τ47 => K τ47) := fun v hv => by
        refine s_X6_sendAnswer hT hn (hS.lost hv) (by omega) (by omega) ?_ (fun τ2 g1 g2 g3 => hk _ (g1.mono (Int.le_refl _) (by omega)) (fun k hk5 => ?_))
        · rw [show tp_up (q2 τ (T + 78 + 5 * cc) r2 q2') T 5 v T = upd (q2 τ (T + 78 + 5 * cc) r2 q2' T) 5 v from if_pos rfl]
          exact hcm2
        · rw [g3 k hk5, show tp_up (q2 τ (T + 78 + 5 * cc) r2 q2') T 5 v T = upd (q2 τ (T + 78 + 5 * cc) r2 q2' T) 5 v from if_pos rfl, show upd (q2 τ (T + 78 + 5 * cc) r2 q2' T) 5 v k = q2 τ (T + 78 + 5 * cc) r2 q2' T k from if_neg hk5, q2_n _ _ _ _ (by omega) (by omega)]
      have hls := h.1.2.2.1
      refine ⟨fun _ τ3 e3 => ?_, fun _ τ3 e3 => ?_⟩
      · subst e3
        exact fin _ (fb_inc hls (by omega))
      · subst e3
        refine fin _ ?_
        rw [Int32.add_zero]
        omega
    · have hk3 : n / 8192 % 4 = 3 := by
        rcases hv with ⟨-, e⟩ | ⟨e, -⟩
        · exact e
        · exact absurd e v1
      have hw := (hp3 hk3).2
      refine s_X4_numberOf hn31 (s_X4_roomOf hn31 ?_)
      have en : (nI (n / 32 % 256)).toInt = (n / 32 % 256 : Nat) := nI_toInt (by omega)
      have e := q2_self τ (T + 76 + 5 * cc)
      refine Eq.mp (congrArg (fun z => wp_X1_takeAnswer z (T + 76 + 5 * cc) (nI (n / 32 % 256)) (nI (n % 32)) (τ T 4) _) e) ?_
      refine s_X1_takeAnswer (wd := tWt τ T cc) (lo := lo cc) (by rw [show T + 76 + 5 * cc + 1 = T + 77 + 5 * cc by omega]; exact hcon.1) ⟨hck.1, by omega⟩ (hlo cc) (by rw [en]; exact hw) (fun r2 t2 x56 hq e1 e2 e4 hx56 => ?_)
      have hS := h.caller hT hn hcm hq e1 e4
      have hT5 : ∀ k, q2 τ (T + 76 + 5 * cc) r2 t2 T k = τ T k := fun k => by rw [q2_n _ _ _ _ (by omega) (by omega)]
      refine ⟨fun _ => hk _ (hS.mono (Int.le_refl _) (by omega)) (fun k _ => hT5 k), fun c56 => ?_⟩
      have hb : (r2 0).toInt = 1 ∧ (r2 3).toInt < (r2 4).toInt := by
        rcases hx56 with e | ⟨-, e⟩
        · exact absurd e c56
        · exact e
      refine s_X1_baseAgain hq (fun r3 t3 hq3 f0 f1 f2 f3 f4 => ?_)
      have hS3 := h.caller hT hn hcm hq3 (f1.trans e1) (f4.trans e4)
      have hb0 : 0 ≤ (r2 3).toInt := hq.2.2.2.1.1
      have h201 : (r2 4).toInt ≤ 201 := by
        have := hq.2.1
        have := hq.2.2.1
        have := hq.2.2.2.2.2.1
        omega
      refine s_X6_sendThing hT hn hS3 (by omega) (by omega) (by rw [q2_n _ _ _ _ (by omega) (by omega), ec]; exact hcm) hb0 ?_ (by omega) (fun τ2 g1 g2 g3 => hk _ (g1.mono (Int.le_refl _) (by omega)) (fun k hk5 => by rw [g3 k hk5, q2_n _ _ _ _ (by omega) (by omega)]))
      rw [ec]
      unfold tNx
      rw [show ((cc : Nat) : Int).toNat = cc by omega, q2_a, f4]
      show (r2 3).toInt < (r2 4).toInt + 0
      omega
    · exact s_X6_send hT hn h (by omega) hp h2 hg (fun τ2 g1 g2 g3 => hk _ (g1.mono (Int.le_refl _) (by omega)) g3)
  · rw [fa_eq, ekk] at c3
    simp only [Int32.reduceToInt] at c3
    omega
end AR
