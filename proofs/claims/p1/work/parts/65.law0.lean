def CS (w : WPar) (g : Cxt) (b L : Nat) (xs : Nat → Int32) : Prop := match g with
  | (_, _, _, s, _, _, _, _, _, _, _) => va_X b L xs s s.heap ∧ b < s.heap.size ∧ ¬ tp_A w s.heap.size b
def tp_N3g (g : Cxt) : Prop := match g with
  | (_, _, _, s, _, _, _, _, _, _, _) => tp_N3 s
section LT
variable {w : WPar} {g : Cxt} {τ : TS} {k : Nat × Nat} {pc : Nat} {ls : List (Nat × Value)} {st : List Value} {cc : ByteArray} {own : String} {Ts : List Cond} {n F L9 Ce Sl b L : Nat} {xs : Nat → Int32} {y : MethodName} {ws ws2 : List Cond} {bytes : ByteArray} {maxL F1 L1 mc ms index : Nat} {As : List Value} {rt : Option FieldType}
theorem z_slen (C : Cok w g cc own Ts n F L9 Ce Sl) (S : CS w g b L xs) (hdg : decode cc pc = .ok (.arraylength, 1)) (kk : Zt w g τ k (pc + 1) ls (.int (nI L) :: st)) : Zt w g τ k pc ls (.ref b :: st) := by
  obtain ⟨p, e, R, s, m, args, below, meth, c, Q, nL⟩ := g
  obtain ⟨hx, hb, -⟩ := C
  obtain ⟨hX, hbl, hbA⟩ := S
  exact fun H locs la hl hP hS => va_slen hx hb hX hbl hbA hS hdg (kk H locs la hl hP hS)
theorem z_sldn (C : Cok w g cc own Ts n F L9 Ce Sl) (S : CS w g b L xs) {i : Int32} (q : Nat) (hq : i.toNatClampNeg = q) (hin : vp_in i L) (hdg : decode cc pc = .ok (.iaload, 1)) (kk : Zt w g τ k (pc + 1) ls (.int (xs q) :: st)) : Zt w g τ k pc ls (.int i :: .ref b :: st) := by
  subst hq
  obtain ⟨p, e, R, s, m, args, below, meth, c, Q, nL⟩ := g
  obtain ⟨hx, hb, -⟩ := C
  obtain ⟨hX, hbl, hbA⟩ := S
  exact fun H locs la hl hP hS => va_sld hx hb hX hbl hbA hS hin hdg (kk H locs la hl hP hS)
/-- a call of a method of the law's own with handlers -/
theorem zs_act (C : Cok w g cc own Ts n F L9 Ce Sl) (D : CX w g) (N3 : tp_N3g g) {hh : List (Nat × Nat × Nat × Nat)} {K : TS → Int32 → Prop} (hM : MA w y ws F1 L1 mc ms As τ K) (nP : Nat) (hG : GoodIn Ts (va_wsS own index y ws)) (hw : ws = Cond.codeWith y bytes maxL rt hh :: ws2) (hd : y.cls ≠ "java/lang/invoke/MethodHandle" ∧ y.cls ≠ "java/lang/invoke/VarHandle" ∧ (parseMethodDescriptor y.desc).map (fun d => d.parameters.length) = some nP) (hR : F1 + 1 ≤ F ∧ 8 + (maxL + 11) + L1 ≤ L9) (hn : As.length = nP) (hst : 0 + (st.map fun v => v.category).sum ≤ 8) {k2 : Nat × Nat} (hk2 : k2 = (k.1 + mc, k.2 + ms)) (hk : k.1 + mc ≤ Ce ∧ k.2 + ms ≤ Sl) {st0 : List Value} (hs0 : st0 = As.reverse ++ st) (hdg : decode cc pc = .ok (.invokestatic index, 3))
    (kk : ∀ (r : Int32) (τ2 : TS), K τ2 r → Zt w g τ2 k2 (pc + 3) ls (.int r :: st)) : Zt w g τ k pc ls st0 := by
  subst hs0
  obtain ⟨p, e, R, s, m, args, below, meth, c, Q, nL⟩ := g
  obtain ⟨hx, hb, hml, hown, hts, hK, hj, hnL, rF, rL, rC, rS, -, hNF⟩ := C
  obtain ⟨hXs, hfl⟩ := D
  subst rF rL rC rS hnL
  subst hk2
  intro H locs la hl hP hS
  refine va_calli (vx_runSW (As := As) (rest := st) ⟨hx, hb, hml, hown, hts⟩ (hM H.size) (vx_cwSW nP hts hG hw rfl rfl hd hR) ⟨tp_blindA, fun U hU hW => ⟨rfl, ⟨⟨by rw [hU], by rw [hU]; exact hP, va_K.moved hW.alike hK, hj, tp_NF.go hW hNF⟩, tp_X.go hXs hS hU hW⟩, tp_N3.moved hW.alike N3⟩⟩ rfl hn hl.1 rfl (by simpa using hst) hdg hk) hS (fun q hq h => tp_old q hq h) (fun q h => tp_same hS.1 q h) (fun r τ2 t H1 locs1 ht hvm hw2 hB hz1 hk1 hS1 => ?_)
  obtain ⟨hP1, hK1⟩ := hB
  rw [ht] at hP1
  exact kk r τ2 hw2 H1 locs1 la hl hP1 hS1
end LT
