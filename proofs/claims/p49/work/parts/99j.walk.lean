/-! the law's own walk -/
theorem wd_int : Cond.arrayClass .int ∈ wsL_law := lawTab_0 _ (List.mem_of_getElem? (i := 3) rfl)
theorem gV.cg {τ τ2 : TS} (h : gV τ) (h6 : (τ 17 3).toInt ≤ 6) (e : ∀ m, m < 122 ∨ 227 ≤ m → τ2 m = τ m) : gV τ2 := by
  refine ⟨fun c hc k hk => ?_, fun c hc => ?_⟩
  · rw [e 17 (Or.inl (by decide))] at hc
    rw [e (93 + 5 * c) (Or.inl (by omega))] at hk
    rw [e (228 + c) (Or.inr (by omega)), e 234 (Or.inr (by decide))]
    exact h.1 c hc k hk
  · rw [e 235 (Or.inr (by decide)), e (95 + 5 * c) (Or.inl (by omega))]
    exact h.2 c hc
section WK
variable {w : WPar} {g : Cxt} {b L : Nat} {xs : Nat → Int32} {y : Int32} {N : Int}
/-- between two times of the law's loop -/
def lI (N : Int) (t : Nat) (τ : TS) : Prop := gT N τ (16000 * (t : Int)) ∧ gV τ ∧ (τ 17 4).toInt ≤ 12 * (t : Int)
abbrev lLs (w : WPar) (b : Nat) (y : Int32) (t : Nat) : List (Nat × Value) := [(5, .int (nI t)), (4, .ref (w.1 235)), (3, .ref (w.1 234)), (2, .int y), (1, .ref (w.1 0)), (0, .ref b)]
theorem law_next (C : Cok w g cL_law RL wsL_law 9 12 452 600104 7301314) {t : Nat} (ht : t < 100) {τ : TS} {k : Nat × Nat} {x6 : Int32} {ls : List (Nat × Value)} (hls : lv_pick ls [0, 1, 2, 3, 4, 5] = lLs w b y t) (kk : Zt w g τ k 52 (lLs w b y (t + 1)) []) : Zt w g τ k 143 ls [] := by
  refine z_sub [0, 1, 2, 3, 4, 5] (lLs w b y t) hls ?_
  have e : nI t + Int32.ofInt 1 = nI (t + 1) := by
    refine Int32.toInt_inj.mp ?_
    have h1 := nI_toInt (n := t) (by omega)
    have h2 := nI_toInt (n := t + 1) (by omega)
    show (nI t + 1).toInt = _
    simp only [fa_lt, fa_le, fa_eq, q_add, q_sub, q_ite, Int32.reduceToInt]
    omega
  refine z_iinc C 0 (nI (t + 1)) (lLs w b y (t + 1)) dL_law_143 (by rfl) e (by decide) rfl ?_
  exact z_goto (tgt := 52) C dL_law_146 (by decide) kk
set_option maxHeartbeats 4000000 in
theorem law_tenth (C : Cok w g cL_law RL wsL_law 9 12 452 600104 7301314) (hN : tp_N w = 236) (hy : y.toInt = N) {t : Nat} (ht : t < 100) {τ : TS} {k : Nat × Nat} {x6 : Int32} (hI : lI N (t + 1) τ) (hk : k.1 ≤ 600104 ∧ k.2 ≤ 7301314)
    (kk : ∀ τ2 : TS, lI N (t + 1) τ2 → Zt w g τ2 k 52 (lLs w b y (t + 1)) []) : Zt w g τ k 109 ((6, .int x6) :: lLs w b y t) [] := by
  obtain ⟨hT, hV, hc⟩ := hI
  have h0 : tp_is w 0 7 := tp_ofk (show tp_kd 0 = 7 by decide) (by decide) (by omega)
  have h6 := hT.2.1.1
  obtain ⟨d, hd⟩ := s_X8_digest hT
  refine z_aload_n C 5 (by rfl) dL_law_109 ?_
  refine zv_l C (As := []) (bytes := cX8_digest) (maxL := 4) (F1 := 3) (L1 := 57) (K := fun τ2 r => τ2 = τ ∧ r = d) (c_X8_digest w τ 0 _ h0 (hd τ (fun _ _ => rfl) _ ⟨rfl, rfl⟩)) h0.2 (tE7 h0.1) rfl 0 gL_law_X8_digest rfl (by decide +kernel) ⟨Nat.le_of_ble_eq_true rfl, Nat.le_of_ble_eq_true rfl⟩ rfl (Nat.le_of_ble_eq_true rfl) hk rfl dL_law_110 (fun r1 τ1 q1 => ?_)
  obtain ⟨rfl, rfl⟩ := q1
  refine z_lstore C ((7, .long r1) :: (6, .int x6) :: lLs w b y t) dL_law_113 (by decide) rfl ?_
  refine z_aload_n C 6 (by rfl) dL_law_115 ?_
  refine z_iload_n C 5 (by rfl) dL_law_116 ?_
  refine zs_i C (As := [.ref (w.1 0), .int y]) (bytes := cL_isSound) (maxL := 6) (F1 := 3) (L1 := 69) (K := fun τ2 r => τ2 = τ1 ∧ r = 1) (c_L_isSound w τ1 0 y _ h0 (s_sound hT (by rw [hT.2.2.1]; exact hy) ⟨rfl, rfl⟩)) 2 gL_law_L_isSound rfl (by decide +kernel) ⟨Nat.le_of_ble_eq_true rfl, Nat.le_of_ble_eq_true rfl⟩ rfl (Nat.le_of_ble_eq_true rfl) hk rfl dL_law_117 (fun r2 τ2 q2 => ?_)
  obtain ⟨rfl, rfl⟩ := q2
  refine z_if_eq (tgt := 141) C dL_law_120 (by decide) (fun c => absurd c (by decide)) (fun _ => ?_)
  refine z_aload_n C 6 (by rfl) dL_law_123 ?_
  refine z_iconst C 4 (by decide) dL_law_124 ?_
  refine zv_i C (As := [.int 4]) (bytes := cX8_lostIn) (maxL := 3) (F1 := 7) (L1 := 167) (K := fun (τ3 : TS) r => (∀ m, m < 122 ∨ 227 ≤ m → τ3 m = τ2 m) ∧ 0 ≤ r.toInt) (c_X8_lostIn w τ2 0 4 _ h0 (s_X8_lostIn hT (by omega) (by omega) (fun τ3 v e hv => ⟨e, hv⟩))) h0.2 (tE7 h0.1) rfl 1 gL_law_X8_lostIn rfl (by decide +kernel) ⟨Nat.le_of_ble_eq_true rfl, Nat.le_of_ble_eq_true rfl⟩ rfl (Nat.le_of_ble_eq_true rfl) hk rfl dL_law_125 (fun r3 τ3 q3 => ?_)
  obtain ⟨e3, hr3⟩ := q3
  refine z_if_lt (tgt := 141) C dL_law_128 (by decide) (fun c => absurd c (by rw [fa_lt]; simp only [Int32.reduceToInt]; omega)) (fun _ => ?_)
  refine z_aload_n C 6 (by rfl) dL_law_131 ?_
  refine zv_l C (As := []) (bytes := cX8_digest) (maxL := 4) (F1 := 3) (L1 := 57) (K := fun τ4 r => τ4 = τ3 ∧ r = r1) (c_X8_digest w τ3 0 _ h0 (hd τ3 (fun j hj => e3 j (Or.inl hj)) _ ⟨rfl, rfl⟩)) h0.2 (tE7 h0.1) rfl 0 gL_law_X8_digest rfl (by decide +kernel) ⟨Nat.le_of_ble_eq_true rfl, Nat.le_of_ble_eq_true rfl⟩ rfl (Nat.le_of_ble_eq_true rfl) hk rfl dL_law_132 (fun r4 τ4 q4 => ?_)
  obtain ⟨rfl, rfl⟩ := q4
  refine z_lload C 0 (by rfl) dL_law_135 ?_
  refine z_lcmp C dL_law_137 ?_
  have hcmp : lg_cmp r4 r4 = 0 := by
    unfold lg_cmp
    rw [if_neg (fun h => absurd h (by simp)), if_pos rfl]
  refine z_if_eq (tgt := 143) C dL_law_138 (by decide) (fun _ => ?_) (fun c => absurd hcmp c)
  refine z_sub [1, 2, 3, 4, 5, 6, 7] ((6, .int x6) :: lLs w b y t) rfl ?_
  refine z_sub [1, 2, 3, 4, 5, 6] (lLs w b y t) rfl ?_
  refine law_next (x6 := x6) C ht rfl (kk τ4 ⟨hT.cg (fun j hj => e3 j (Or.inl hj)), hV.cg h6.2 e3, ?_⟩)
  rw [e3 17 (Or.inl (by decide))]
  exact hc
set_option maxHeartbeats 4000000 in
theorem law_loop (C : Cok w g cL_law RL wsL_law 9 12 452 600104 7301314) (D : CX w g) (N3 : ∀ p e R s m args below meth c Q nL, g = (p, e, R, s, m, args, below, meth, c, Q, nL) → tp_N3 s) (S : CS w g b L xs) (hL : L < 2 ^ 31) (hl : w.2.1.stackTraces = false) (hN : tp_N w = 236) (hy : y.toInt = N)
    (hE : ∀ (τ : TS) (k : Nat × Nat) (ls : List (Nat × Value)), k.1 ≤ 600104 → k.2 ≤ 7301314 → Zt w g τ k 150 ls [.int 1]) : ∀ (m t : Nat), t + m = 100 → ∀ (τ : TS) (k : Nat × Nat), k.1 ≤ 236 + 5 * t → k.2 ≤ 5955 + 30 * t → lI N t τ → Zt w g τ k 52 (lLs w b y t) [] := by
  intro m
  induction m with
  | zero =>
    intro t ht τ k h1 h2 hI
    have e : t = 100 := by omega
    subst e
    refine z_iload C 0 (by rfl) dL_law_52 ?_
    refine z_bipush C 100 (by decide) dL_law_54 ?_
    refine z_icmp_ge (tgt := 149) C dL_law_56 (by decide) (fun _ => ?_) (fun c => absurd (by decide) c)
    refine z_iconst C 1 (by decide) dL_law_149 ?_
    exact hE _ _ _ (by omega) (by omega)
  | succ m ih =>
    intro t ht τ k h1 h2 hI
    have t1 : t < 100 := by omega
    have et := nI_toInt (n := t) (by omega)
    have h0 : tp_is w 0 7 := tp_ofk (show tp_kd 0 = 7 by decide) (by decide) (by omega)
    have h3 : tp_is w 234 19 := ⟨by decide, by omega, by omega⟩
    have h4 : tp_is w 235 19 := ⟨by decide, by omega, by omega⟩
    refine z_iload C 0 (by rfl) dL_law_52 ?_
    refine z_bipush C 100 (by decide) dL_law_54 ?_
    refine z_icmp_ge (tgt := 149) C dL_law_56 (by decide) (fun c => absurd c (by rw [fa_le]; simp only [Int32.reduceToInt]; omega)) (fun _ => ?_)
    refine z_aload_n C 5 (by rfl) dL_law_59 ?_
    refine z_iconst C 1 (by decide) dL_law_60 ?_
    refine z_iload C 0 (by rfl) dL_law_61 ?_
    refine z_bipush C 25 (by decide) dL_law_63 ?_
    refine z_irem C (by decide) dL_law_65 ?_
    refine z_iadd C dL_law_66 ?_
    have er : nI t - nI t / 25 * 25 = nI (t % 25) := pk_rem (a := t) (d := 25) (by omega) (by decide) (by decide)
    have hm := Nat.mod_lt t (show 25 > 0 by decide)
    have ea : 1 + (nI t - nI t / 25 * 25) = nI (1 + t % 25) := by
      rw [er]
      refine Int32.toInt_inj.mp ?_
      have q1 := nI_toInt (n := t % 25) (by omega)
      have q2 := nI_toInt (n := 1 + t % 25) (by omega)
      simp only [fa_lt, fa_le, fa_eq, q_add, q_sub, q_ite, Int32.reduceToInt]
      omega
    rw [ea]
    refine zs_script C S (As := [.ref b, .int (nI (1 + t % 25))]) (bytes := cL_cell) (maxL := 2) (F1 := 0) (L1 := 0) (K := fun τ2 _ => τ2 = τ) (c_L_cell w τ b L xs hL (1 + t % 25) (by omega) _ (fun _ => rfl)) 2 gL_law_L_cell rfl (by decide +kernel) ⟨Nat.le_of_ble_eq_true rfl, Nat.le_of_ble_eq_true rfl⟩ rfl (Nat.le_of_ble_eq_true rfl) ⟨by omega, by omega⟩ rfl dL_law_67 (fun r τ1 q => ?_)
    subst q
    refine z_iload C 0 (by rfl) dL_law_70 ?_
    refine z_bipush C 25 (by decide) dL_law_72 ?_
    refine z_idiv C (by decide) dL_law_74 ?_
    refine z_bipush C 7 (by decide) dL_law_75 ?_
    refine z_imul C dL_law_77 ?_
    refine z_ishr C dL_law_78 ?_
    generalize r >>> ((nI t / 25 * 7) &&& 31) = x6
    refine z_istore C ((6, .int x6) :: lLs w b y t) dL_law_79 (by decide) rfl ?_
    refine z_aload_n C 5 (by rfl) dL_law_81 ?_
    refine z_iload_n C 4 (by rfl) dL_law_82 ?_
    refine z_iload C 0 (by rfl) dL_law_83 ?_
    refine z_aload_n C 3 (by rfl) dL_law_85 ?_
    refine z_aload C 2 (by rfl) dL_law_86 ?_
    obtain ⟨hT, hV, hc⟩ := hI
    refine zs_act C D N3 (As := [.ref (w.1 0), .int y, .int x6, .ref (w.1 234), .ref (w.1 235)]) (bytes := cL_act) (maxL := 14) (F1 := 9) (L1 := 189) (mc := 5) (ms := 30) (K := fun τ2 r => r = 1 ∧ lI N (t + 1) τ2) (c_L_act w τ1 0 y x6 234 235 _ hl h0 h3 h4 (s_act hT hV (by omega) (by omega) hy (fun τ2 g2 v2 c2 => ⟨rfl, ?_, v2, ?_⟩))) 5 gL_law_L_act rfl (by decide +kernel) ⟨Nat.le_of_ble_eq_true rfl, Nat.le_of_ble_eq_true rfl⟩ rfl (Nat.le_of_ble_eq_true rfl) (k2 := (k.1 + 5, k.2 + 30)) rfl ⟨by omega, by omega⟩ rfl dL_law_88 (fun r2 τ2 q => ?_)
    · rw [show (16000 : Int) * ((t + 1 : Nat) : Int) = 16000 * (t : Int) + 16000 by omega]
      exact g2
    · omega
    · obtain ⟨rfl, hI2⟩ := q
      generalize hk2 : ((k.1 + 5, k.2 + 30) : Nat × Nat) = k2
      have k1 : k2.1 ≤ 241 + 5 * t := by
        rw [← hk2]
        show k.1 + 5 ≤ _
        omega
      have k3 : k2.2 ≤ 5985 + 30 * t := by
        rw [← hk2]
        show k.2 + 30 ≤ _
        omega
      clear hk2
      have go : ∀ τ3 : TS, lI N (t + 1) τ3 → Zt w g τ3 k2 52 (lLs w b y (t + 1)) [] := fun τ3 h => ih (t + 1) (by omega) τ3 k2 (by omega) (by omega) h
      refine z_if_ne (tgt := 96) C dL_law_91 (by decide) (fun _ => ?_) (fun c => absurd c (by decide))
      refine z_iload C 1 (by rfl) dL_law_96 ?_
      refine z_bipush C 10 (by decide) dL_law_98 ?_
      refine z_irem C (by decide) dL_law_100 ?_
      refine z_bipush C 9 (by decide) dL_law_101 ?_
      refine z_icmp_eq (tgt := 109) C dL_law_103 (by decide) (fun _ => ?_) (fun _ => ?_)
      · exact law_tenth C hN hy t1 hI2 ⟨by omega, by omega⟩ go
      · refine z_goto (tgt := 143) C dL_law_106 (by decide) ?_
        refine z_sub [1, 2, 3, 4, 5, 6] (lLs w b y t) rfl ?_
        exact law_next (x6 := x6) C t1 rfl (go τ2 hI2)
theorem law_nodes (C : Cok w g cL_law RL wsL_law 9 12 452 600104 7301314) (hN : 234 ≤ tp_N w) {n : Nat} (hn : n ≤ 6) (hy : y = nI n) {k : Nat × Nat} (hk : k.1 ≤ 600104 ∧ k.2 ≤ 7301314)
    (kk : ∀ (τ : TS) (x : Int32), gP τ (n : Int) → Zt w g τ k 38 [(3, .int x), (2, .int y), (1, .ref (w.1 0)), (0, .ref b)] []) : ∀ (m t : Nat), t + m = n → ∀ τ : TS, gP τ (t : Int) → Zt w g τ k 22 [(3, .int (nI t)), (2, .int y), (1, .ref (w.1 0)), (0, .ref b)] [] := by
  intro m
  subst hy
  have en := nI_toInt (n := n) (by omega)
  induction m with
  | zero =>
    intro t ht τ hP
    have e : t = n := by omega
    subst e
    refine z_iload_n C 0 (by rfl) dL_law_22 ?_
    refine z_iload_n C 1 (by rfl) dL_law_23 ?_
    exact z_icmp_ge (tgt := 38) C dL_law_24 (by decide) (fun _ => kk τ _ hP) (fun c => absurd (by rw [fa_le]; exact Int.le_refl _) c)
  | succ m ih =>
    intro t ht τ hP
    have et := nI_toInt (n := t) (by omega)
    have h0 : tp_is w 0 7 := tp_ofk (show tp_kd 0 = 7 by decide) (by decide) hN
    refine z_iload_n C 0 (by rfl) dL_law_22 ?_
    refine z_iload_n C 1 (by rfl) dL_law_23 ?_
    refine z_icmp_ge (tgt := 38) C dL_law_24 (by decide) (fun c => absurd c (by rw [fa_le]; omega)) (fun _ => ?_)
    refine z_aload_n C 2 (by rfl) dL_law_27 ?_
    refine zv_i C (As := []) (bytes := cX8_addNode) (maxL := 1) (F1 := 4) (L1 := 92) (K := fun τ2 _ => gP τ2 ((t : Int) + 1)) (c_X8_addNode w τ 0 _ h0 (gP_node hP (by omega) (fun τ2 _ h => h))) h0.2 (tE7 h0.1) rfl 0 gL_law_X8_addNode rfl (by decide +kernel) ⟨Nat.le_of_ble_eq_true rfl, Nat.le_of_ble_eq_true rfl⟩ rfl (Nat.le_of_ble_eq_true rfl) hk rfl dL_law_28 (fun r τ2 h => ?_)
    refine z_pop C rfl dL_law_31 ?_
    have e : nI t + Int32.ofInt 1 = nI (t + 1) := by
      refine Int32.toInt_inj.mp ?_
      have h2 := nI_toInt (n := t + 1) (by omega)
      show (nI t + 1).toInt = _
      simp only [fa_lt, fa_le, fa_eq, q_add, q_sub, q_ite, Int32.reduceToInt]
      omega
    refine z_iinc C 0 (nI (t + 1)) [(3, .int (nI (t + 1))), (2, .int (nI n)), (1, .ref (w.1 0)), (0, .ref b)] dL_law_32 (by rfl) e (by decide) rfl ?_
    refine z_goto (tgt := 22) C dL_law_35 (by decide) ?_
    exact ih (t + 1) (by omega) τ2 h
end WK
