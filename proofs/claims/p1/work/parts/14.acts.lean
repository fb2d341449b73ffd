/-- what is not the other's kind -/
def tp_N3 (U : State) : Prop := va_Nc (tp_exn 1) (tp_exn 0) U ∧ va_Nc (tp_exn 2) (tp_exn 0) U ∧ va_Nc (tp_exn 2) (tp_exn 1) U
def tp_PreA (w : WPar) (τ : TS) (sz : Nat) : State → Prop := fun U => tp_PreX w τ sz U ∧ tp_N3 U
theorem tp_N3.moved {u U : State} (hvm : u.vm.Alike U.vm) (h : tp_N3 u) : tp_N3 U := ⟨h.1.moved hvm, h.2.1.moved hvm, h.2.2.moved hvm⟩
theorem tp_blindA {w : WPar} {τ : TS} {sz : Nat} {As : List Value} : FrameBlind (va_Pc As (tp_PreA w τ sz)) := fun a U g mk q => ⟨q.1, (tp_blindX a U g mk ⟨q.1, q.2.1⟩).2, tp_N3.moved (u := U) (U := U.calling g mk a) (Vm.Alike.refl U.vm) q.2.2⟩
def MA (w : WPar) (y : MethodName) (ws : List Cond) (F L mc ms : Nat) (As : List Value) (τ : TS) (K : TS → Int32 → Prop) : Prop := ∀ sz, Met w.2.1 y ws { frames := F, cells := mc, slots := ms, locals := L } (va_Pc As (tp_PreA w τ sz)) (va_Qi (fun r τ2 => K τ2 r) (tp_B w) (tp_A w sz)) mc ms (tp_A w sz)
def CH (hh : List (Nat × Nat × Nat × Nat)) (g : Cxt) : Prop := match g with
  | (_, _, _, s, _, _, _, _, c, _, _) => c.exceptionTable.toList = tableOf hh ∧ tp_N3 s
def RAZ (w : WPar) (g : Cxt) (cc : ByteArray) (mc ms : Nat) (K : TS → Int32 → Prop) : Prop := ∀ (τ : TS) (pc : Nat) (ls : List (Nat × Value)) (v : Int32), decode cc pc = .ok (.ireturn, 1) → K τ v → Zt w g τ (mc, ms) pc ls [.int v]
theorem tp_enterA {w : WPar} {hh : List (Nat × Nat × Nat × Nat)} {y : MethodName} {ws ws2 : List Cond} {cc : ByteArray} {maxL F L mc ms : Nat} {own : String} {As : List Value} {τ : TS} {K : TS → Int32 → Prop} (hl : w.2.1.stackTraces = false) (hy : plainName y.cls = true) (hcls : y.cls = own) (hw : ws = Cond.codeWith y cc maxL (some .int) hh :: ws2) (hle : (lg_sl As).length ≤ maxL)
    (body : ∀ g : Cxt, Cok w g cc own ws maxL F L mc ms → CX w g → CH hh g → RAZ w g cc mc ms K → Zt w g τ (0, 0) 0 (lv_args 0 As) []) : MA w y ws F L mc ms As τ K := by
  intro sz
  refine va_MetW hy hw ?_
  intro p e s m args below meth c s₁ B hml hv
  obtain ⟨rfl, ⟨⟨hsz, hP, hK, hj, hNF⟩, hXs⟩, hN⟩ := hv
  subst hsz
  have hts := atoms_spec (ws := ws) B.pre
  have hown : s.vm.findClass own = some m.cls := by rw [← hcls]; exact findClass_of_methodNamed B.named
  have htab : c.exceptionTable.toList = tableOf hh := vx_table (x := y) B (hts _ (by rw [hw]; exact List.mem_cons_self))
  have hR : RAZ w (p, e, ({ frames := F, cells := mc, slots := ms, locals := L } : Room), s, m, As.toArray, below, meth, c, MQ below (va_Qi (fun r τ2 => K τ2 r) (tp_B w) (tp_A w s.heap.size)) As.toArray s mc ms (tp_A w s.heap.size), maxL) cc mc ms K := by
    intro τ2 pc ls v hdg hKv
    exact fun H locs la hl2 hP2 hS => W.iret B.exec B.bytes B.returns (fun t ht hW => ⟨⟨v, τ2, rfl, hKv, by rw [ht]; exact hP2, va_K.moved hW.alike hK⟩, hS.F ht⟩) hS.2.2 hdg B.notSynchronized
  have hZ := body (p, e, ({ frames := F, cells := mc, slots := ms, locals := L } : Room), s, m, As.toArray, below, meth, c, MQ below (va_Qi (fun r τ2 => K τ2 r) (tp_B w) (tp_A w s.heap.size)) As.toArray s mc ms (tp_A w s.heap.size), maxL) ⟨B.exec, B.bytes, hml, hown, hts, hK, hj, rfl, rfl, rfl, rfl, rfl, B.notSynchronized, hNF⟩ ⟨hXs, hl⟩ ⟨htab, hN⟩ hR
  rw [lg_entry_eq]
  exact hZ s.heap [] _ (lv_entry As hle) hP va_S.rf
section AT
variable {w : WPar} {g : Cxt} {τ : TS} {k : Nat × Nat} {pc : Nat} {ls : List (Nat × Value)} {st : List Value} {cc : ByteArray} {own : String} {Ts : List Cond} {n F L Ce Sl : Nat}
theorem z_swIn (C : Cok w g cc own Ts n F L Ce Sl) {dflt lo hi : Int} {offs : Array Int} {len : Nat} {x : Int32} {off : Int} {tgt : Nat} (hdg : decode cc pc = .ok (.tableswitch dflt lo hi offs, len)) (h1 : ¬ x.toInt < lo) (h2 : ¬ hi < x.toInt) (ho : offs[(x.toInt - lo).toNat]? = some off) (ht : (pc : Int) + off = (tgt : Int)) (kk : Zt w g τ k tgt ls st) : Zt w g τ k pc ls (.int x :: st) := by
  obtain ⟨p, e, R, s, m, args, below, meth, c, Q, nL⟩ := g
  obtain ⟨hx, hb, -⟩ := C
  exact fun H locs la hl hP hS => lv_tableIn hx hb hdg h1 h2 ho ht (kk H locs la hl hP hS)
theorem z_swOut (C : Cok w g cc own Ts n F L Ce Sl) {dflt lo hi : Int} {offs : Array Int} {len : Nat} {x : Int32} {tgt : Nat} (hdg : decode cc pc = .ok (.tableswitch dflt lo hi offs, len)) (h : x.toInt < lo ∨ hi < x.toInt) (ht : (pc : Int) + dflt = (tgt : Int)) (kk : Zt w g τ k tgt ls st) : Zt w g τ k pc ls (.int x :: st) := by
  obtain ⟨p, e, R, s, m, args, below, meth, c, Q, nL⟩ := g
  obtain ⟨hx, hb, -⟩ := C
  exact fun H locs la hl hP hS => lv_tableOut hx hb hdg h ht (kk H locs la hl hP hS)
/-- thrown at pc, caught by the row i of the table -/
theorem z_catch (C : Cok w g cc own Ts n F L Ce Sl) {hh : List (Nat × Nat × Nat × Nat)} (A : CH hh g) {cd i hp ct : Nat} {x : ExceptionTableEntry} (hi : (tableOf hh)[i]? = some x) (hhp : x.handlerPc = hp) (hct : x.catchType = ct) (h0 : ct ≠ 0) (hlink : Cond.classLink own ct (tp_exn cd) ∈ Ts) (D : CX w g) (hx : covers x pc = true)
    (hpass : ∀ s : State, tp_N3 s → ∀ z ∈ (tableOf hh).take i, covers z pc = false ∨ (z.catchType ≠ 0 ∧ ∃ nm : String, Cond.classLink own z.catchType nm ∈ Ts ∧ va_Nc (tp_exn cd) nm s)) (kk : ∀ q : Nat, Zt w g τ k hp ls [.ref q]) : Zx w g τ k pc ls (tp_exn cd) := by
  obtain ⟨p, e, R, s, m, args, below, meth, c, Q, nL⟩ := g
  obtain ⟨hxc, hb, hml, hown, hts, hK, hj, hnL, rF, rL, rC, rS, -⟩ := C
  obtain ⟨htab, hN⟩ := A
  obtain ⟨hXs, hfl⟩ := D
  intro H locs la rest q ce hl hP hS hq hv hcl
  subst hhp hct
  have hsp : tableOf hh = (tableOf hh).take i ++ x :: (tableOf hh).drop (i + 1) := by
    have hlt : i < (tableOf hh).length := (List.getElem?_eq_some_iff.mp hi).1
    have hx2 : (tableOf hh)[i] = x := (List.getElem?_eq_some_iff.mp hi).2
    rw [← hx2, ← List.drop_eq_getElem_cons hlt, List.take_append_drop]
  exact vx_catch (own := own) hown _ x _ (by rw [htab]; exact hsp) (fun z hz => (hpass s hN z hz).elim Or.inl (fun h => Or.inr ⟨h.1, h.2.choose, hts _ h.2.choose_spec.1, h.2.choose_spec.2⟩)) hx h0 (hts _ hlink) (va_tabs rfl rfl (hXs.2.2.1 cd)) hq hv hcl (kk q H locs la hl hP hS)
end AT
