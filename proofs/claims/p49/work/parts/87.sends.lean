/-! HELLO, THINGs, ANSWERs -/
section SE
variable {T : Nat} {A B : Int} {lo xc fl fh : Nat → Int} {τ τ0 : TS}
theorem pk_17 {md : Int} {wt nx : Nat → Int} {x : Int32} (h : pkOK md wt nx 16 x) : pkOK md wt nx 17 x := h.mono (Int.le_refl _) (fun _ _ => ⟨Int.le_refl _, Int.le_refl _⟩) (by decide)
theorem fb_nI {x : Int32} (h : 0 ≤ x.toInt) : x = nI x.toInt.toNat := q_asN h
theorem s_X6_sendHello (hT : 17 ≤ T) (hn : qN τ0) (h : tS T τ0 lo xc fl fh A B τ) (hB : B < 2000000000) {x1 : Int32} (hc0 : 0 ≤ x1.toInt) (hc : x1.toInt < (τ T 3).toInt) {K : TS → Prop}
    (hk : ∀ τ2, tS T τ0 lo xc fl fh A (B + 1) τ2 → (∀ j, T + 75 ≤ j → τ2 j = τ j) → (∀ k, k ≠ 5 → τ2 T k = τ T k) → K τ2) : wp_X6_sendHello τ T x1 K := by
  unfold wp_X6_sendHello
  have h6 := h.1.1.2
  have hcon := h.1.2.2.2.1 x1.toInt.toNat (by omega)
  refine ⟨q_in hc0 (by omega), ?_⟩
  refine s_X4_of (c := x1.toInt.toNat) (kd := 0) (num := 0) (room := 0) (fb_nI hc0) rfl rfl rfl (by omega) (by decide) (by decide) (by decide) ?_
  rw [q_cl, show T + 2 + 73 + 5 * x1.toInt.toNat = T + 75 + 5 * x1.toInt.toNat by omega]
  exact s_X6_send hT hn h hB (pk_17 (pkOK.of (by omega) (by decide) (by decide) (by decide) (fun e => absurd e (by decide)) (fun e => absurd e (by decide)))) hcon.2.2.1 hcon.2.2.2 hk
theorem s_X6_sendThing (hT : 17 ≤ T) (hn : qN τ0) (h : tS T τ0 lo xc fl fh A B τ) (hB : B < 2000000000) {x1 x2 : Int32} (hc0 : 0 ≤ x1.toInt) (hc : x1.toInt < (τ T 3).toInt) (hn0 : 0 ≤ x2.toInt) (hnx : x2.toInt < tNx τ T xc x1.toInt.toNat) (hn2 : x2.toInt < 256) {K : TS → Prop}
    (hk : ∀ τ2, tS T τ0 lo xc fl fh A (B + 1) τ2 → (∀ j, T + 75 ≤ j → τ2 j = τ j) → (∀ k, k ≠ 5 → τ2 T k = τ T k) → K τ2) : wp_X6_sendThing τ T x1 x2 K := by
  unfold wp_X6_sendThing
  have h6 := h.1.1.2
  have hcon := h.1.2.2.2.1 x1.toInt.toNat (by omega)
  have go : ∀ (kd : Nat) (y : Int32), kd = 1 ∨ kd = 2 → y = nI kd → wp_X4_of τ x1 y x2 0 (fun τ23 x24 => wp_X6_send τ23 T x24 (τ23 ((T + 2) + 73 + 5 * (Int32.toNatClampNeg x1)) 0) (τ23 ((T + 2) + 73 + 5 * (Int32.toNatClampNeg x1)) 1) (fun τ25 => K τ25)) := fun kd y hkd ey => by
    refine s_X4_of (c := x1.toInt.toNat) (kd := kd) (num := x2.toInt.toNat) (room := 0) (fb_nI hc0) ey (fb_nI hn0) rfl (by omega) (by omega) (by omega) (by decide) ?_
    rw [q_cl, show T + 2 + 73 + 5 * x1.toInt.toNat = T + 75 + 5 * x1.toInt.toNat by omega]
    exact s_X6_send hT hn h hB (pk_17 (pkOK.of (by omega) (by omega) (by omega) (by decide) (fun e => absurd e (by omega)) (fun _ => ⟨by omega, by omega⟩))) hcon.2.2.1 hcon.2.2.2 hk
  exact ⟨q_in hc0 (by omega), fun _ => go 2 2 (Or.inr rfl) rfl, fun _ => go 1 1 (Or.inl rfl) rfl⟩
theorem s_X6_sendAnswer (hT : 17 ≤ T) (hn : qN τ0) (h : tS T τ0 lo xc fl fh A B τ) (hB : B < 2000000000) {x1 : Int32} (hc0 : 0 ≤ x1.toInt) (hc : x1.toInt < (τ T 3).toInt) {K : TS → Prop}
    (hk : ∀ τ2, tS T τ0 lo xc fl fh A (B + 1) τ2 → (∀ j, T + 75 ≤ j → τ2 j = τ j) → (∀ k, k ≠ 5 → τ2 T k = τ T k) → K τ2) : wp_X6_sendAnswer τ T x1 K := by
  unfold wp_X6_sendAnswer
  have h6 := h.1.1.2
  have hcon := h.1.2.2.2.1 x1.toInt.toNat (by omega)
  refine ⟨q_in hc0 (by omega), ?_⟩
  rw [q_cl, show T + 2 + 73 + 5 * x1.toInt.toNat + 3 = T + 78 + 5 * x1.toInt.toNat by omega, show T + 2 + 73 + 5 * x1.toInt.toNat = T + 75 + 5 * x1.toInt.toNat by omega]
  have hwt : 0 ≤ tWt τ T x1.toInt.toNat ∧ tWt τ T x1.toInt.toNat ≤ 201 := hcon.2.1.2.1
  have hz : ∀ x : Int32, 0 ≤ x.toInt → x.toInt ≤ 16 → wp_X4_of τ x1 3 (τ (T + 78 + 5 * x1.toInt.toNat) 1) x (fun τ24 x25 => wp_X6_send τ24 T x25 (τ24 (T + 75 + 5 * x1.toInt.toNat) 1) (τ24 (T + 75 + 5 * x1.toInt.toNat) 0) (fun τ26 => K τ26)) := fun x hx0 hx1 => by
    refine s_X4_of (c := x1.toInt.toNat) (kd := 3) (num := (τ (T + 78 + 5 * x1.toInt.toNat) 1).toInt.toNat) (room := x.toInt.toNat) (fb_nI hc0) rfl (fb_nI hwt.1) (fb_nI hx0) (by omega) (by decide) (by have := hwt.2; unfold tWt at this; omega) (by omega) ?_
    exact s_X6_send hT hn h hB (pk_17 (pkOK.of (by omega) (by decide) (by have := hwt.2; unfold tWt at this; omega) (by omega) (fun _ => ⟨by omega, by have := hwt.1; unfold tWt at this ⊢; omega⟩) (fun e => absurd e (by decide)))) hcon.2.2.2 hcon.2.2.1 hk
  have e := q2_self τ (T + 78 + 5 * x1.toInt.toNat)
  refine Eq.mp (congrArg (fun z => wp_X0_spare z (T + 78 + 5 * x1.toInt.toNat) _) e) ?_
  refine s_X0_spare (nx := (τ (T + 76 + 5 * x1.toInt.toNat) 4).toInt) (gv := (τ (T + 76 + 5 * x1.toInt.toNat) 1).toInt) ?_ (fun x hx0 hx1 => ?_)
  · rw [show T + 78 + 5 * x1.toInt.toNat + 1 = T + 79 + 5 * x1.toInt.toNat by omega]
    exact hcon.2.1
  · rw [e]
    exact hz x hx0 hx1
end SE
