/-- a long answer, with cells of its own that are forgotten -/
def MLg (w : WPar) (y : MethodName) (ws : List Cond) (F L mc ms : Nat) (As : List Value) (τ : TS) (K : TS → Int64 → Prop) : Prop := ∀ sz, Met w.2.1 y ws { frames := F, cells := mc, slots := ms, locals := L } (va_Pc As (tp_Pre w τ sz)) (va_Ql (fun r τ2 => K τ2 r) (tp_B w) (tp_A w sz)) mc ms (tp_A w sz)
def RLg (w : WPar) (g : Cxt) (cc : ByteArray) (mc ms : Nat) (K : TS → Int64 → Prop) : Prop := ∀ (τ : TS) (pc : Nat) (ls : List (Nat × Value)) (v : Int64), decode cc pc = .ok (.lreturn, 1) → K τ v → Zt w g τ (mc, ms) pc ls [.long v]
theorem tp_enterLg {w : WPar} {y : MethodName} {ws ws2 : List Cond} {cc : ByteArray} {maxL F L mc ms : Nat} {own : String} {As : List Value} {τ : TS} {K : TS → Int64 → Prop} (hy : plainName y.cls = true) (hcls : y.cls = own) (hw : ws = Cond.code y cc maxL (some .long) :: ws2) (hle : (lg_sl As).length ≤ maxL)
    (body : ∀ g : Cxt, Cok w g cc own ws maxL F L mc ms → RLg w g cc mc ms K → Zt w g τ (0, 0) 0 (lv_args 0 As) []) : MLg w y ws F L mc ms As τ K := by
  intro sz
  refine Met.ofW hy hw ?_
  intro p e s m args below meth c s₁ B hml hv
  obtain ⟨rfl, hsz, hP, hK, hj, hNF⟩ := hv
  subst hsz
  have hts := atoms_spec (ws := ws) B.pre
  have hown : s.vm.findClass own = some m.cls := by rw [← hcls]; exact findClass_of_methodNamed B.named
  have hR : RLg w (p, e, ({ frames := F, cells := mc, slots := ms, locals := L } : Room), s, m, As.toArray, below, meth, c, MQ below (va_Ql (fun r τ2 => K τ2 r) (tp_B w) (tp_A w s.heap.size)) As.toArray s mc ms (tp_A w s.heap.size), maxL) cc mc ms K := by
    intro τ2 pc ls v hdg hKv
    exact fun H locs la hl hP2 hS => W.lret B.exec B.bytes B.returns (fun t ht hW => ⟨⟨v, τ2, rfl, hKv, by rw [ht]; exact hP2, va_K.moved hW.alike hK⟩, hS.F ht⟩) hS.2.2 hdg B.notSynchronized
  have hZ := body (p, e, ({ frames := F, cells := mc, slots := ms, locals := L } : Room), s, m, As.toArray, below, meth, c, MQ below (va_Ql (fun r τ2 => K τ2 r) (tp_B w) (tp_A w s.heap.size)) As.toArray s mc ms (tp_A w s.heap.size), maxL) ⟨B.exec, B.bytes, hml, hown, hts, hK, hj, rfl, rfl, rfl, rfl, rfl, B.notSynchronized, hNF⟩ hR
  rw [lg_entry_eq]
  exact hZ s.heap [] _ (lv_entry As hle) hP va_S.rf
theorem zv_lg {w : WPar} {g : Cxt} {τ : TS} {k : Nat × Nat} {pc : Nat} {ls : List (Nat × Value)} {st : List Value} {cc : ByteArray} {own : String} {Ts : List Cond} {n F L Ce Sl : Nat} {y : MethodName} {ws ws2 : List Cond} {bytes : ByteArray} {maxL F1 L1 mc ms index : Nat} {As : List Value} (C : Cok w g cc own Ts n F L Ce Sl) {Cn : String} {i ci N : Nat} {T : u_T} {fs : List Value} {K : TS → Int64 → Prop} (hM : MLg w y ws F1 L1 mc ms (.ref (w.1 i) :: As) τ K) (hi : tp_ok w i) (hE : tp_E w i (τ i) = .inr (ci, fs)) (hc : vwCl[ci]? = some (Cn, T, N)) (nP : Nat) (hG : GoodIn Ts (wsV own index Cn y ws)) (hw : ws = Cond.code y bytes maxL (some .long) :: ws2) (hd : y.cls = Cn ∧ y.cls ≠ "java/lang/invoke/MethodHandle" ∧ y.cls ≠ "java/lang/invoke/VarHandle" ∧ (parseMethodDescriptor y.desc).map (fun d => d.parameters.length) = some nP) (hR : F1 + 1 ≤ F ∧ 8 + (maxL + 11) + L1 ≤ L) (hn : As.length = nP) (hst : 0 + (st.map fun v => v.category).sum ≤ 8) {k2 : Nat × Nat} (hk2 : k2 = (k.1 + mc, k.2 + ms)) (hk : k.1 + mc ≤ Ce ∧ k.2 + ms ≤ Sl) {st0 : List Value} (hs0 : st0 = As.reverse ++ .ref (w.1 i) :: st) (hdg : decode cc pc = .ok (.invokevirtual index, 3))
    (kk : ∀ (r : Int64) (τ2 : TS), K τ2 r → Zt w g τ2 k2 (pc + 3) ls (.long r :: st)) : Zt w g τ k pc ls st0 := by
  subst hs0
  obtain ⟨p, e, R, s, m, args, below, meth, c, Q, nL⟩ := g
  obtain ⟨hx, hb, hml, hown, hts, hK, hj, hnL, rF, rL, rC, rS, -, hNF⟩ := C
  subst rF rL rC rS hnL
  subst hk2
  intro H locs la hl hP hS
  refine va_calll (va_runV (As := As) (rest := st) ⟨hx, hb, hml, hown, hts⟩ (hM H.size) (cwV nP hts hG hw rfl rfl hd hR) ⟨tp_blind, va_recv hK hP hc (q0 := i) (by rw [tp_at hi.1, hE]), fun U hU hW => ⟨rfl, by rw [hU], by rw [hU]; exact hP, va_K.moved hW.alike hK, hj, tp_NF.go hW hNF⟩⟩ rfl hn hl.1 rfl (by simpa using hst) hdg hk) hS (fun q hq h => tp_old q hq h) (fun q h => tp_same hS.1 q h) (fun r τ2 t H1 locs1 ht hvm hw2 hB hz1 hk1 hS1 => ?_)
  obtain ⟨hP1, hK1⟩ := hB
  rw [ht] at hP1
  exact kk r τ2 hw2 H1 locs1 la hl hP1 hS1
theorem tp_refs504 : ∀ i : Fin 504, ∀ r ∈ tp_refs i.val, r < 504 := by decide +kernel
theorem z_newT {w : WPar} {g : Cxt} {τ : TS} {k : Nat × Nat} {pc : Nat} {ls : List (Nat × Value)} {st : List Value} {cc : ByteArray} {own : String} {Ts : List Cond} {n F L Ce Sl : Nat} (C : Cok w g cc own Ts n F L Ce Sl) (hN : tp_N w = 504) (harr : Cond.arrayClass .int ∈ Ts) (hk : k.1 + 1 ≤ Ce ∧ k.2 + 6 ≤ Sl) (hdg : decode cc pc = .ok (.newarray .int, 2)) {k2 : Nat × Nat} (hk2 : k2 = (k.1 + 1, k.2 + 6))
    (kk : ∀ w2 : WPar, w2.2.1 = w.2.1 → tp_N w2 = 505 → (∀ i, i < 504 → w2.1 i = w.1 i) → Cok w2 g cc own Ts n F L Ce Sl → (∀ (τ : TS) (k : Nat × Nat) (pc : Nat) (ls : List (Nat × Value)) (st : List Value), Zt w g τ k pc ls st → Zt w2 g τ k pc ls st) → ∀ τ2 : TS, τ2 = tp_rw τ 504 (fun _ => 0) → Zt w2 g τ2 k2 (pc + 2) ls (.ref (w2.1 504) :: st)) : Zt w g τ k pc ls (.int 6 :: st) := by
  obtain ⟨p, e, R, s, m, args, below, meth, c, Q, nL⟩ := g
  obtain ⟨hx, hb, hml, hown, hts, hK, hj, hnL, rF, rL, rC, rS, hlk, hNF⟩ := C
  subst rF rL rC rS hnL
  subst hk2
  intro H locs la hl hP hS
  refine va_newa (atype := .int) (ty := .int) (a0 := (6, .inl (fun _ => 0))) (N' := 6) hx hb (hts _ harr) rfl hK hP (tp_Dd hj) hS (fun q h => Or.inr h) (fun cA => rfl) (by decide) (by decide) (by decide) hk.1 hk.2 hdg (fun q cA H1 hK1 hP1 hD1 hS1 => ?_)
  have e1 : cA = w.2.2.1 0 := by
    have h1 : s.vm.findClass ("[" ++ (.int : FieldType).toString) = some cA := (hK1.2 8 (cA, .int) rfl).2
    have h2 : s.vm.findClass ("[" ++ (.int : FieldType).toString) = some (w.2.2.1 0) := (hK.2 0 (w.2.2.1 0, .int) rfl).2
    exact Option.some.inj (h1.symm.trans h2)
  subst e1
  generalize hw2 : (((fun i => if i = 504 then q else w.1 i), w.2.1, w.2.2.1, w.2.2.2.1, w.2.2.2.2.1, 505) : WPar) = w2
  have hN2 : tp_N w2 = 505 := by rw [← hw2]; rfl
  have ha : ∀ i, i < 504 → w2.1 i = w.1 i := fun i hi => by rw [← hw2]; exact if_neg (by omega)
  have ha9 : w2.1 504 = q := by
    rw [← hw2]
    show (if (504 : Nat) = 504 then q else w.1 504) = q
    exact if_pos rfl
  have h2 : w2.2.1 = w.2.1 ∧ w2.2.2.1 = w.2.2.1 ∧ tp_D w2 = tp_D w := by rw [← hw2]; exact ⟨rfl, rfl, rfl⟩
  have hE : ∀ (i : Nat) (f : Nat → Int32), i < 504 → tp_E w2 i f = tp_E w i f := fun i f hi => by
    have h3 : tp_E w2 i f = tp_E (w2.1, w.2) i f := by
      rw [← hw2]; unfold tp_E; rfl
    rw [h3]
    exact tp_E_congr (w := (w2.1, w.2)) (w2 := w) (fun r hr => ha r (tp_refs504 ⟨i, hi⟩ r hr)) rfl
  have hWW : ∀ τ3 : TS, tp_W w2 τ3 = tp_W w τ3 ++ [(q, tp_E w2 504 (τ3 504))] := fun τ3 => by
    unfold tp_W
    rw [hN2, hN, List.range_succ, List.map_append]
    have ap : ∀ (x y x2 y2 : va_W), x = x2 → y = y2 → x ++ y = x2 ++ y2 := fun _ _ _ _ h1 h2 => by rw [h1, h2]
    refine ap _ _ _ _ (List.map_congr_left fun i hi => ?_) ?_
    · rw [List.mem_range] at hi
      rw [ha i hi, hE i _ hi]
    · show [(w2.1 504, tp_E w2 504 (τ3 504))] = _
      rw [ha9]
  have hap : ∀ i, i < 504 → w.1 i ≠ q := fun i hi h => by
    have h3 := hD1.1 i 504 (w.1 i, tp_E w i (τ i)) (q, .inl (w.2.2.1 0, 6, .inl fun _ => 0)) (by
      rw [List.getElem?_append_left (by simp [tp_W, hN]; exact hi)]; exact tp_at (by rw [hN]; exact hi)) (by
      rw [List.getElem?_append_right (by simp [tp_W, hN])]; simp [tp_W, hN]) h
    omega
  have hqA : s.heap.size ≤ q := by
    have h3 := hD1.2 504 (q, .inl (w.2.2.1 0, 6, .inl fun _ => 0)) (by
      rw [List.getElem?_append_right (by simp [tp_W, hN])]; simp [tp_W, hN])
    rcases h3 with ⟨i, hi, h4⟩ | h4
    · exact absurd h4.symm (hap i (by rw [hN] at hi; exact hi))
    · exact h4
  have hA : tp_A w2 s.heap.size = tp_A w s.heap.size := by
    funext q2
    apply propext
    constructor
    · rintro (⟨i, hi, rfl⟩ | h)
      · rw [hN2] at hi
        by_cases h9 : i = 504
        · subst h9; rw [ha9]; exact Or.inr hqA
        · rw [ha i (by omega)]; exact Or.inl ⟨i, by rw [hN]; omega, rfl⟩
      · exact Or.inr h
    · rintro (⟨i, hi, rfl⟩ | h)
      · rw [hN] at hi
        exact Or.inl ⟨i, by rw [hN2]; omega, (ha i hi).symm⟩
      · exact Or.inr h
  have hj2 : tp_inj w2 := fun i j hi hj3 h => by
    rw [hN2] at hi hj3
    by_cases h3 : i = 504 <;> by_cases h4 : j = 504
    · omega
    · subst h3; rw [ha9, ha j (by omega)] at h; exact absurd h.symm (hap j (by omega))
    · subst h4; rw [ha9, ha i (by omega)] at h; exact absurd h (hap i (by omega))
    · rw [ha i (by omega), ha j (by omega)] at h; exact hj i j (by rw [hN]; omega) (by rw [hN]; omega) h
  have hT : tp_tys w2 = tp_tys w := by unfold tp_tys; rw [h2.2.1]
  have hZ : ∀ (τ : TS) (k : Nat × Nat) (pc : Nat) (ls : List (Nat × Value)) (st : List Value), Zt w (p, e, R, s, m, args, below, meth, c, Q, nL) τ k pc ls st → Zt w2 (p, e, R, s, m, args, below, meth, c, Q, nL) τ k pc ls st := fun τ3 k3 pc3 ls3 st3 hz H3 locs3 la3 hl3 hP3 hS3 => by
    rw [h2.1]
    rw [h2.2.2] at hP3
    rw [hA] at hS3
    refine hz H3 locs3 la3 hl3 (fun j x hx => hP3 j x ?_) hS3
    rw [hWW, List.getElem?_append_left (List.getElem?_eq_some_iff.mp hx).1]
    exact hx
  have hz := kk w2 h2.1 hN2 ha ⟨hx, hb, hml, hown, hts, by rw [h2.2.2, hT]; exact hK, hj2, rfl, rfl, rfl, rfl, rfl, hlk, hNF⟩ hZ (tp_rw τ 504 (fun _ => 0)) rfl
  rw [ha9] at hz
  have hz2 := hz H1 locs la hl ?_ ?_
  · rw [h2.1] at hz2
    exact hz2
  · rw [h2.2.2, hWW]
    have e2 : tp_W w (tp_rw τ 504 (fun _ => 0)) = tp_W w τ := by
      unfold tp_W
      apply List.map_congr_left
      intro i hi
      rw [List.mem_range, hN] at hi
      rw [show tp_rw τ 504 (fun _ => 0) i = τ i from if_neg (by omega)]
    rw [e2, show tp_rw τ 504 (fun _ => 0) 504 = fun _ => 0 from if_pos rfl, tE19 (show tp_kd 504 = 19 by decide), h2.2.1]
    exact hP1
  · rw [hA]
    exact hS1
