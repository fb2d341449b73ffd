def CS (w : WPar) (g : Cxt) (b L : Nat) (xs : Nat → Int32) : Prop := match g with
  | (_, _, _, s, _, _, _, _, _, _, _) => va_X b L xs s s.heap ∧ b < s.heap.size ∧ ¬ tp_A w s.heap.size b
def tp_PreS (w : WPar) (τ : TS) (b L : Nat) (xs : Nat → Int32) (sz : Nat) : State → Prop := fun U => tp_Pre w τ sz U ∧ va_X b L xs U U.heap ∧ b < sz ∧ ¬ tp_A w sz b
theorem tp_blindS {w : WPar} {τ : TS} {b L : Nat} {xs : Nat → Int32} {sz : Nat} {As : List Value} : FrameBlind (va_Pc As (tp_PreS w τ b L xs sz)) := fun a U g mk q => ⟨q.1, (tp_blind a U g mk ⟨q.1, q.2.1⟩).2, va_X.moved (u := U) (U := U.calling g mk a) (Vm.Alike.refl U.vm) q.2.2.1, q.2.2.2⟩
def MS (w : WPar) (y : MethodName) (ws : List Cond) (F L9 : Nat) (b L : Nat) (xs : Nat → Int32) (As : List Value) (τ : TS) (K : TS → Int32 → Prop) : Prop := ∀ sz, Met w.2.1 y ws { frames := F, cells := 0, slots := 0, locals := L9 } (va_Pc As (tp_PreS w τ b L xs sz)) (va_Qi (fun r τ2 => K τ2 r) (tp_B w) (tp_A w sz)) 0 0 (tp_A w sz)
theorem tp_enterS {w : WPar} {y : MethodName} {ws ws2 : List Cond} {cc : ByteArray} {maxL F L9 b L : Nat} {xs : Nat → Int32} {own : String} {As : List Value} {τ : TS} {K : TS → Int32 → Prop} (hy : plainName y.cls = true) (hcls : y.cls = own) (hw : ws = Cond.code y cc maxL (some .int) :: ws2) (hle : (lg_sl As).length ≤ maxL)
    (body : ∀ g : Cxt, Cok w g cc own ws maxL F L9 0 0 → CS w g b L xs → RI w g cc K → Zt w g τ (0, 0) 0 (lv_args 0 As) []) : MS w y ws F L9 b L xs As τ K := by
  intro sz
  refine Met.ofW hy hw ?_
  intro p e s m args below meth c s₁ B hml hv
  obtain ⟨rfl, ⟨hsz, hP, hK, hj⟩, hX, hbl, hbA⟩ := hv
  subst hsz
  have hts := atoms_spec (ws := ws) B.pre
  have hown : s.vm.findClass own = some m.cls := by rw [← hcls]; exact findClass_of_methodNamed B.named
  have hR : RI w (p, e, ({ frames := F, cells := 0, slots := 0, locals := L9 } : Room), s, m, As.toArray, below, meth, c, MQ below (va_Qi (fun r τ2 => K τ2 r) (tp_B w) (tp_A w s.heap.size)) As.toArray s 0 0 (tp_A w s.heap.size), maxL) cc K := by
    intro τ2 pc ls v hdg hKv
    exact fun H locs la hl hP2 hS => W.iret B.exec B.bytes B.returns (fun t ht hW => ⟨⟨v, τ2, rfl, hKv, by rw [ht]; exact hP2, va_K.moved hW.alike hK⟩, hS.F ht⟩) hS.2.2 hdg B.notSynchronized
  have hZ := body (p, e, ({ frames := F, cells := 0, slots := 0, locals := L9 } : Room), s, m, As.toArray, below, meth, c, MQ below (va_Qi (fun r τ2 => K τ2 r) (tp_B w) (tp_A w s.heap.size)) As.toArray s 0 0 (tp_A w s.heap.size), maxL) ⟨B.exec, B.bytes, hml, hown, hts, hK, hj, rfl, rfl, rfl, rfl, rfl, B.notSynchronized⟩ ⟨hX, hbl, hbA⟩ hR
  rw [lg_entry_eq]
  exact hZ s.heap [] _ (lv_entry As hle) hP va_S.rf
section LT
variable {w : WPar} {g : Cxt} {τ : TS} {k : Nat × Nat} {pc : Nat} {ls : List (Nat × Value)} {st : List Value} {cc : ByteArray} {own : String} {Ts : List Cond} {n F L9 Ce Sl b L : Nat} {xs : Nat → Int32} {y : MethodName} {ws ws2 : List Cond} {bytes : ByteArray} {maxL F1 L1 mc ms index : Nat} {As : List Value} {rt : Option FieldType}
theorem z_slen (C : Cok w g cc own Ts n F L9 Ce Sl) (S : CS w g b L xs) (hdg : decode cc pc = .ok (.arraylength, 1)) (kk : Zt w g τ k (pc + 1) ls (.int (nI L) :: st)) : Zt w g τ k pc ls (.ref b :: st) := by
  obtain ⟨p, e, R, s, m, args, below, meth, c, Q, nL⟩ := g
  obtain ⟨hx, hb, -⟩ := C
  obtain ⟨hX, hbl, hbA⟩ := S
  exact fun H locs la hl hP hS => va_slen hx hb hX hbl hbA hS hdg (kk H locs la hl hP hS)
theorem z_sld (C : Cok w g cc own Ts n F L9 Ce Sl) (S : CS w g b L xs) {i : Int32} (hin : vp_in i L) (hdg : decode cc pc = .ok (.iaload, 1)) (kk : Zt w g τ k (pc + 1) ls (.int (xs i.toNatClampNeg) :: st)) : Zt w g τ k pc ls (.int i :: .ref b :: st) := by
  obtain ⟨p, e, R, s, m, args, below, meth, c, Q, nL⟩ := g
  obtain ⟨hx, hb, -⟩ := C
  obtain ⟨hX, hbl, hbA⟩ := S
  exact fun H locs la hl hP hS => va_sld hx hb hX hbl hbA hS hin hdg (kk H locs la hl hP hS)
/-- a call with the script -/
theorem zs_script (C : Cok w g cc own Ts n F L9 Ce Sl) (S : CS w g b L xs) {K : TS → Int32 → Prop} (hM : MS w y ws F1 L1 b L xs As τ K) (nP : Nat) (hG : GoodIn Ts (va_wsS own index y ws)) (hw : ws = Cond.code y bytes maxL rt :: ws2) (hd : y.cls ≠ "java/lang/invoke/MethodHandle" ∧ y.cls ≠ "java/lang/invoke/VarHandle" ∧ (parseMethodDescriptor y.desc).map (fun d => d.parameters.length) = some nP) (hR : F1 + 1 ≤ F ∧ 8 + (maxL + 11) + L1 ≤ L9) (hn : As.length = nP) (hst : 0 + (st.map fun v => v.category).sum ≤ 8) (hk : k.1 ≤ Ce ∧ k.2 ≤ Sl) {st0 : List Value} (hs0 : st0 = As.reverse ++ st) (hdg : decode cc pc = .ok (.invokestatic index, 3))
    (kk : ∀ (r : Int32) (τ2 : TS), K τ2 r → Zt w g τ2 k (pc + 3) ls (.int r :: st)) : Zt w g τ k pc ls st0 := by
  subst hs0
  obtain ⟨p, e, R, s, m, args, below, meth, c, Q, nL⟩ := g
  obtain ⟨hx, hb, hml, hown, hts, hK, hj, hnL, rF, rL, rC, rS, -⟩ := C
  obtain ⟨hX, hbl, hbA⟩ := S
  subst rF rL rC rS hnL
  intro H locs la hl hP hS
  refine va_calli (va_runS (As := As) (rest := st) ⟨hx, hb, hml, hown, hts⟩ (hM H.size) (va_cwS nP hts hG hw rfl rfl hd hR) ⟨tp_blindS, fun U hU hW => ⟨rfl, ⟨by rw [hU], by rw [hU]; exact hP, va_K.moved hW.alike hK, hj⟩, by rw [hU]; exact va_X.moved hW.alike (hX.kept (hS.2.1 b hbl hbA)), Nat.lt_of_lt_of_le hbl hS.1, fun h => hbA (tp_same hS.1 b h)⟩⟩ rfl hn hl.1 rfl (by simpa using hst) hdg ⟨by simpa using hk.1, by simpa using hk.2⟩) hS (fun q hq h => tp_old q hq h) (fun q h => tp_same hS.1 q h) (fun r τ2 t H1 locs1 ht hvm hw2 hB hz1 hk1 hS1 => ?_)
  obtain ⟨hP1, hK1⟩ := hB
  rw [ht] at hP1
  exact kk r τ2 hw2 H1 locs1 la hl hP1 hS1
/-- a call of act -/
theorem zs_act (C : Cok w g cc own Ts n F L9 Ce Sl) (D : CX w g) (N3 : ∀ p e R s m args below meth c Q nL, g = (p, e, R, s, m, args, below, meth, c, Q, nL) → tp_N3 s) {K : TS → Int32 → Prop} (hM : MA w y ws F1 L1 mc ms As τ K) (nP : Nat) (hG : GoodIn Ts (va_wsS own index y ws)) (hw : ws = Cond.codeWith y bytes maxL rt tp_hh :: ws2) (hd : y.cls ≠ "java/lang/invoke/MethodHandle" ∧ y.cls ≠ "java/lang/invoke/VarHandle" ∧ (parseMethodDescriptor y.desc).map (fun d => d.parameters.length) = some nP) (hR : F1 + 1 ≤ F ∧ 8 + (maxL + 11) + L1 ≤ L9) (hn : As.length = nP) (hst : 0 + (st.map fun v => v.category).sum ≤ 8) {k2 : Nat × Nat} (hk2 : k2 = (k.1 + mc, k.2 + ms)) (hk : k.1 + mc ≤ Ce ∧ k.2 + ms ≤ Sl) {st0 : List Value} (hs0 : st0 = As.reverse ++ st) (hdg : decode cc pc = .ok (.invokestatic index, 3))
    (kk : ∀ (r : Int32) (τ2 : TS), K τ2 r → Zt w g τ2 k2 (pc + 3) ls (.int r :: st)) : Zt w g τ k pc ls st0 := by
  subst hs0
  obtain ⟨p, e, R, s, m, args, below, meth, c, Q, nL⟩ := g
  obtain ⟨hx, hb, hml, hown, hts, hK, hj, hnL, rF, rL, rC, rS, -⟩ := C
  obtain ⟨hXs, hfl⟩ := D
  have hN := N3 p e R s m args below meth c Q nL rfl
  subst rF rL rC rS hnL
  subst hk2
  intro H locs la hl hP hS
  refine va_calli (vx_runSW (As := As) (rest := st) ⟨hx, hb, hml, hown, hts⟩ (hM H.size) (vx_cwSW nP hts hG hw rfl rfl hd hR) ⟨tp_blindA, fun U hU hW => ⟨rfl, ⟨⟨by rw [hU], by rw [hU]; exact hP, va_K.moved hW.alike hK, hj⟩, tp_X.go hXs hS hU hW⟩, tp_N3.moved hW.alike hN⟩⟩ rfl hn hl.1 rfl (by simpa using hst) hdg hk) hS (fun q hq h => tp_old q hq h) (fun q h => tp_same hS.1 q h) (fun r τ2 t H1 locs1 ht hvm hw2 hB hz1 hk1 hS1 => ?_)
  obtain ⟨hP1, hK1⟩ := hB
  rw [ht] at hP1
  exact kk r τ2 hw2 H1 locs1 la hl hP1 hS1
end LT
theorem mw_L_cell_0 : Cond.constant RL 8 (790386105) ∈ wsL_cell := List.mem_of_getElem? (i := 1) rfl
set_option maxHeartbeats 4000000 in
set_option maxRecDepth 100000 in
/-- a script's cell, or a number in its place: any answer will do -/
theorem c_L_cell (w : WPar) (τ : TS) (b L : Nat) (xs : Nat → Int32) (hL : L < 2 ^ 31) (j : Nat) (hj : j < 2 ^ 31) (K : TS → Int32 → Prop) (hK : ∀ r, K τ r) : MS w yL_cell wsL_cell 0 0 b L xs [.ref b, .int (nI j)] τ K := by
  refine tp_enterS (cc := cL_cell) (maxL := 2) (own := RL) (by decide) rfl rfl (Nat.le_of_ble_eq_true rfl) (fun g C S hR => ?_)
  show Zt w g τ (0, 0) 0 [(0, .ref b), (1, .int (nI j))] []
  refine z_iload_n C 1 (by rfl) dL_cell_0 ?_
  refine z_aload_n C 0 (by rfl) dL_cell_1 ?_
  refine z_slen C S dL_cell_2 ?_
  refine z_icmp_ge (tgt := 12) C dL_cell_3 (by decide) (fun c => ?_) (fun c => ?_)
  · refine z_ldc C 790386105 mw_L_cell_0 dL_cell_12 ?_
    refine z_iload_n C 1 (by rfl) dL_cell_14 ?_
    refine z_iconst C 3 (by decide) dL_cell_15 ?_
    refine z_iadd C dL_cell_16 ?_
    refine z_imul C dL_cell_17 ?_
    exact hR _ _ _ _ dL_cell_18 (hK _)
  · have hlt : j < L := by
      rcases Nat.lt_or_ge j L with h | h
      · exact h
      · exact absurd (nI_le h hj) c
    refine z_aload_n C 0 (by rfl) dL_cell_6 ?_
    refine z_iload_n C 1 (by rfl) dL_cell_7 ?_
    refine z_sld C S (vp_in_nI hlt hL) dL_cell_8 ?_
    refine z_goto (tgt := 18) C dL_cell_9 (by decide) ?_
    exact hR _ _ _ _ dL_cell_18 (hK _)
