/-- what the constructors rest on beside the words: calls among nest mates, arrays of references -/
def tp_AO (t : FieldType) (U : State) : Prop := (Cond.arrayOver t).before #[] U = true
def tp_NX (U : State) : Prop := (va_Nw (.methodLinkNest RX8 11 yX3_init "TidePost") U ∧ va_Nw (.methodLinkNest RX6 28 yX2_init "TidePost") U ∧ va_Nw (.methodLinkNest RX2 9 yX1_init "TidePost") U ∧ va_Nw (.methodLinkNest RX2 18 yX0_init "TidePost") U ∧ va_Nw (.methodLinkNest RX1 11 yX5_init "TidePost") U) ∧ va_AO "TidePost$Way" U ∧ va_AO "TidePost$Connection" U ∧ tp_AO (.array .int) U
theorem tp_AO.moved {u U : State} (hvm : u.vm.Alike U.vm) (h : tp_AO (.array .int) u) : tp_AO (.array .int) U := by
  have hh := h
  obtain ⟨comp, c, k, h1, h3, h4, h5⟩ := Cond.arrayOver_specA h
  unfold tp_AO Cond.before Cond.holds at hh
  simp only [Cond.value, beq_iff_eq] at hh
  rw [h1] at hh
  simp only [Option.bind_some, Option.bind_eq_some_iff, Option.map_eq_some_iff] at hh
  obtain ⟨c2, hi, k2, hk2, hb⟩ := hh
  obtain ⟨k', hk', he⟩ := hvm.2.2 _ _ hk2
  have e3 : U.vm.bare = u.vm.bare := by first | exact hvm.bare_eq | exact hvm.bare_eq.symm
  have e1 := va_idx_bare U.vm comp
  rw [e3] at e1
  have hi2 : (U.vm.classes.findIdx? fun (x : Class) => match x.kind with | .array component _ => component == comp | _ => false) = some c2 := (e1.symm.trans (va_idx_bare u.vm comp)).trans hi
  have f1 : U.vm.findClass (FieldType.array .int).toString = some comp := by rw [hvm.findClass]; exact h1
  have hb2 : (match k'.kind with | .array _ ty => decide (ty = FieldType.array .int) && decide (U.vm.findClass ("[" ++ (FieldType.array .int).toString) = some c2) | _ => false) = true := by rw [he, hvm.findClass]; exact hb
  unfold tp_AO Cond.before Cond.holds
  simp only [Cond.value]
  rw [f1, Option.bind_some]
  refine (congrArg (fun o : Option Nat => (o.bind (fun c => (U.vm.classes[c]?).map fun (k : Class) => match k.kind with | .array _ ty => decide (ty = FieldType.array .int) && decide (U.vm.findClass ("[" ++ (FieldType.array .int).toString) = some c) | _ => false)) == some true) hi2).trans ?_
  simp only [Option.bind_some, hk', Option.map_some]
  rw [beq_iff_eq]
  exact congrArg some hb2
theorem tp_NX.go {s U : State} (hW : s.WarmedH U.vm) (h : tp_NX s) : tp_NX U := ⟨⟨va_Nw.warmM hW h.1.1, va_Nw.warmM hW h.1.2.1, va_Nw.warmM hW h.1.2.2.1, va_Nw.warmM hW h.1.2.2.2.1, va_Nw.warmM hW h.1.2.2.2.2⟩, va_AO.moved hW.alike h.2.1, va_AO.moved hW.alike h.2.2.1, tp_AO.moved hW.alike h.2.2.2⟩
theorem tp_NX.blind {U : State} {g : JFrame} {mk : MethodId} {a : Array Value} (h : tp_NX U) : tp_NX (U.calling g mk a) := ⟨⟨va_tabs rfl (rfl : U.vm = (U.calling g mk a).vm) h.1.1, va_tabs rfl (rfl : U.vm = (U.calling g mk a).vm) h.1.2.1, va_tabs rfl (rfl : U.vm = (U.calling g mk a).vm) h.1.2.2.1, va_tabs rfl (rfl : U.vm = (U.calling g mk a).vm) h.1.2.2.2.1, va_tabs rfl (rfl : U.vm = (U.calling g mk a).vm) h.1.2.2.2.2⟩, va_AO.moved (u := U) (U := U.calling g mk a) (Vm.Alike.refl U.vm) h.2.1, va_AO.moved (u := U) (U := U.calling g mk a) (Vm.Alike.refl U.vm) h.2.2.1, tp_AO.moved (u := U) (U := U.calling g mk a) (Vm.Alike.refl U.vm) h.2.2.2⟩
def Zg (w : WPar) (g : Cxt) (A : Nat → Prop) (u : va_W) (k : Nat × Nat) (pc : Nat) (ls : List (Nat × Value)) (st : List Value) : Prop := match g with
  | (p, e, R, s, m, args, below, meth, c, Q, nL) => ∀ (H : Heap) (locs : List Loc) (la : Array Slot), lv_has la nL ls → va_P (tp_D w) vwCl u H → va_D A u → va_S A s.heap H locs → W p w.2.1 e R s m args below meth c H locs k.1 k.2 Q (F0 m pc la st)
def Cog (w : WPar) (g : Cxt) (A : Nat → Prop) (cc : ByteArray) (own : String) (Ts : List Cond) (n F L Ce Sl : Nat) : Prop := match g with
  | (p, _, R, s, m, args, _, meth, c, _, nL) => p.tables.exec = Jvm.exec ∧ c.code = cc ∧ c.maxLocals = n ∧ s.vm.findClass own = some m.cls ∧ (∀ x ∈ Ts, x.before args s = true) ∧ va_K (tp_D w) vwCl (tp_tys w) s ∧ (∀ q, s.heap.size ≤ q → A q) ∧ nL = n ∧ R.frames = F ∧ R.locals = L ∧ R.cells = Ce ∧ R.slots = Sl ∧ (own ≠ "TidePostLaw" → meth.name = "<init>") ∧ tp_NX s
section ZG
variable {w : WPar} {g : Cxt} {A : Nat → Prop} {u : va_W} {k : Nat × Nat} {pc : Nat} {ls : List (Nat × Value)} {st : List Value} {cc : ByteArray} {own : String} {Ts : List Cond} {n F L Ce Sl : Nat}
theorem y_iconst (C : Cog w g A cc own Ts n F L Ce Sl) {q : Int} (v : Int32) (hv : Int32.ofInt q = v) (hdg : decode cc pc = .ok (.iconst q, 1)) (kk : Zg w g A u k (pc + 1) ls (.int v :: st)) : Zg w g A u k pc ls (st) := by
  obtain ⟨p, e, R, s, m, args, below, meth, c, Q, nL⟩ := g
  obtain ⟨hx, hb, -⟩ := C
  exact fun H locs la hl hP hD hS => lv_iconst hx hb hdg hv (kk H locs la hl hP hD hS)
theorem y_bipush (C : Cog w g A cc own Ts n F L Ce Sl) {q : Int} (v : Int32) (hv : (Int8.ofInt q).toInt32 = v) (hdg : decode cc pc = .ok (.bipush q, 2)) (kk : Zg w g A u k (pc + 2) ls (.int v :: st)) : Zg w g A u k pc ls (st) := by
  obtain ⟨p, e, R, s, m, args, below, meth, c, Q, nL⟩ := g
  obtain ⟨hx, hb, -⟩ := C
  exact fun H locs la hl hP hD hS => lv_bipush hx hb hdg hv (kk H locs la hl hP hD hS)
theorem y_sipush (C : Cog w g A cc own Ts n F L Ce Sl) {q : Int} (v : Int32) (hv : (Int16.ofInt q).toInt32 = v) (hdg : decode cc pc = .ok (.sipush q, 3)) (kk : Zg w g A u k (pc + 3) ls (.int v :: st)) : Zg w g A u k pc ls (st) := by
  obtain ⟨p, e, R, s, m, args, below, meth, c, Q, nL⟩ := g
  obtain ⟨hx, hb, -⟩ := C
  exact fun H locs la hl hP hD hS => lv_sipush hx hb hdg hv (kk H locs la hl hP hD hS)
theorem y_iload_n (C : Cog w g A cc own Ts n F L Ce Sl) {j : Fin 4} {x : Int32} (q : Nat) (hq : ls[q]? = some ((j : Nat), .int x)) (hdg : decode cc pc = .ok (.iload_n j, 1)) (kk : Zg w g A u k (pc + 1) ls (.int x :: st)) : Zg w g A u k pc ls (st) := by
  obtain ⟨p, e, R, s, m, args, below, meth, c, Q, nL⟩ := g
  obtain ⟨hx, hb, -⟩ := C
  exact fun H locs la hl hP hD hS => lv_iload_n hx hb hdg rfl (lv_at hl q hq) (kk H locs la hl hP hD hS)
theorem y_aload_n (C : Cog w g A cc own Ts n F L Ce Sl) {j : Fin 4} {x : Nat} (q : Nat) (hq : ls[q]? = some ((j : Nat), .ref x)) (hdg : decode cc pc = .ok (.aload_n j, 1)) (kk : Zg w g A u k (pc + 1) ls (.ref x :: st)) : Zg w g A u k pc ls (st) := by
  obtain ⟨p, e, R, s, m, args, below, meth, c, Q, nL⟩ := g
  obtain ⟨hx, hb, -⟩ := C
  exact fun H locs la hl hP hD hS => lv_aload_n hx hb hdg rfl (lv_at hl q hq) (kk H locs la hl hP hD hS)
theorem y_istore_n (C : Cog w g A cc own Ts n F L Ce Sl) {j : Fin 4} {x : Int32} (ls2 : List (Nat × Value)) (hdg : decode cc pc = .ok (.istore_n j, 1)) (hn : (j : Nat) < n) (hl2 : ((j : Nat), Value.int x) :: ls.filter (fun q => !(q.1 == (j : Nat)) && !(q.1 + 1 == (j : Nat) && q.2.category == 2)) = ls2) (kk : Zg w g A u k (pc + 1) ls2 st) : Zg w g A u k pc ls (.int x :: st) := by
  obtain ⟨p, e, R, s, m, args, below, meth, c, Q, nL⟩ := g
  obtain ⟨hx, hb, -, -, -, -, -, hnL, -⟩ := C
  exact fun H locs la hl hP hD hS => lv_istore_n hx hb hdg rfl hl (by rw [hnL]; exact hn) hl2 (fun la2 hl3 => kk H locs la2 hl3 hP hD hS)
theorem y_astore_n (C : Cog w g A cc own Ts n F L Ce Sl) {j : Fin 4} {x : Nat} (ls2 : List (Nat × Value)) (hdg : decode cc pc = .ok (.astore_n j, 1)) (hn : (j : Nat) < n) (hl2 : ((j : Nat), Value.ref x) :: ls.filter (fun q => !(q.1 == (j : Nat)) && !(q.1 + 1 == (j : Nat) && q.2.category == 2)) = ls2) (kk : Zg w g A u k (pc + 1) ls2 st) : Zg w g A u k pc ls (.ref x :: st) := by
  obtain ⟨p, e, R, s, m, args, below, meth, c, Q, nL⟩ := g
  obtain ⟨hx, hb, -, -, -, -, -, hnL, -⟩ := C
  exact fun H locs la hl hP hD hS => lv_astore_n hx hb hdg rfl hl (by rw [hnL]; exact hn) hl2 (fun la2 hl3 => kk H locs la2 hl3 hP hD hS)
theorem y_iinc (C : Cog w g A cc own Ts n F L Ce Sl) {j : Nat} {d : Int} {x : Int32} (q : Nat) (v : Int32) (ls2 : List (Nat × Value)) (hdg : decode cc pc = .ok (.iinc j d, 3)) (hq : ls[q]? = some (j, .int x)) (hv : x + Int32.ofInt d = v) (hn : j < n) (hl2 : (j, Value.int v) :: ls.filter (fun q => !(q.1 == j) && !(q.1 + 1 == j && q.2.category == 2)) = ls2) (kk : Zg w g A u k (pc + 3) ls2 st) : Zg w g A u k pc ls st := by
  obtain ⟨p, e, R, s, m, args, below, meth, c, Q, nL⟩ := g
  obtain ⟨hx, hb, -, -, -, -, -, hnL, -⟩ := C
  exact fun H locs la hl hP hD hS => lv_iinc hx hb hdg hl hq hv (by rw [hnL]; exact hn) hl2 (fun la2 hl3 => kk H locs la2 hl3 hP hD hS)
theorem y_dup (C : Cog w g A cc own Ts n F L Ce Sl) {v : Value} (hv : v.category = 1) (hdg : decode cc pc = .ok (.dup, 1)) (kk : Zg w g A u k (pc + 1) ls (v :: v :: st)) : Zg w g A u k pc ls (v :: st) := by
  obtain ⟨p, e, R, s, m, args, below, meth, c, Q, nL⟩ := g
  obtain ⟨hx, hb, -⟩ := C
  exact fun H locs la hl hP hD hS => lv_dup hx hb hdg hv (kk H locs la hl hP hD hS)
theorem y_icmp_ge (C : Cog w g A cc own Ts n F L Ce Sl) {x y : Int32} {off : Int} {tgt : Nat} (hdg : decode cc pc = .ok (.if_icmp .ge off, 3)) (ht : (pc : Int) + off = (tgt : Int)) (kt : y ≤ x → Zg w g A u k tgt ls st) (kf : ¬ y ≤ x → Zg w g A u k (pc + 3) ls st) : Zg w g A u k pc ls (.int y :: .int x :: st) := by
  obtain ⟨p, e, R, s, m, args, below, meth, c, Q, nL⟩ := g
  obtain ⟨hx, hb, -⟩ := C
  exact fun H locs la hl hP hD hS => lv_icmp_ge hx hb hdg ht (fun h => kt h H locs la hl hP hD hS) (fun h => kf h H locs la hl hP hD hS)
theorem y_goto (C : Cog w g A cc own Ts n F L Ce Sl) {off : Int} {tgt : Nat} (hdg : decode cc pc = .ok (.goto off, 3)) (ht : (pc : Int) + off = (tgt : Int)) (kk : Zg w g A u k tgt ls st) : Zg w g A u k pc ls st := by
  obtain ⟨p, e, R, s, m, args, below, meth, c, Q, nL⟩ := g
  obtain ⟨hx, hb, -⟩ := C
  exact fun H locs la hl hP hD hS => lv_goto hx hb hdg ht (kk H locs la hl hP hD hS)
theorem y_sub (ks : List Nat) (ls2 : List (Nat × Value)) (h2 : lv_pick ls ks = ls2) (kk : Zg w g A u k pc ls2 st) : Zg w g A u k pc ls st := by
  obtain ⟨p, e, R, s, m, args, below, meth, c, Q, nL⟩ := g
  exact fun H locs la hl hP hD hS => kk H locs la (lv_sub hl ks h2) hP hD hS
theorem y_objInit (C : Cog w g A cc own Ts n F L Ce Sl) {idx a : Nat} (h1 : Cond.methodLink own idx objectInit ∈ Ts) (h2 : Cond.instanceMethod objectInit ∈ Ts) (h3 : Cond.code objectInit ⟨#[0xb1]⟩ 1 none ∈ Ts) (hdg : decode cc pc = .ok (.invokespecial idx, 3)) (hF : 1 ≤ F) (hL : (st.map fun v => v.category).sum + 12 ≤ L) (kk : Zg w g A u k (pc + 3) ls st) : Zg w g A u k pc ls (.ref a :: st) := by
  obtain ⟨p, e, R, s, m, args, below, meth, c, Q, nL⟩ := g
  obtain ⟨hx, hb, hml, hown, hts, hK, hA, hnL, rF, rL, rC, rS, hin, hNX⟩ := C
  subst rF rL rC rS hnL
  intro H locs la hl hP hD hS
  refine W.objInit hx hb hown (hts _ h1) (hts _ h2) (hts _ h3) (g := F0 m pc la (.ref a :: st)) rfl (by rw [hml]; exact hl.1) rfl hdg hF (by simpa using hL) ?_
  exact kk H locs la hl hP hD hS
theorem y_new (C : Cog w g A cc own Ts n F L Ce Sl) {Cn : String} {T : u_T} {N ci index : Nat} (fs : List Value) (hin : ∀ x ∈ u_ws Cn T N, x ∈ Ts) (ty : Nat → FieldType) (hty : ∀ j, j < N → parseFieldDescriptor (T j).2.2.1 = some (ty j)) (hcl : Cond.classLink own index Cn ∈ Ts) (hinst : Cond.instantiable Cn N ∈ Ts) (hini : Cond.initialized Cn ∈ Ts) (hc : vwCl[ci]? = some (Cn, T, N)) (hfs : ∀ j, j < N → defaultValue (ty j) = vp_V fs j) (hk : k.1 + 1 ≤ Ce ∧ k.2 + N ≤ Sl) (hdg : decode cc pc = .ok (.new index, 3)) {k2 : Nat × Nat} (hk2 : k2 = (k.1 + 1, k.2 + N)) (kk : ∀ q : Nat, Zg w g A (u ++ [(q, .inr (ci, fs))]) k2 (pc + 3) ls (.ref q :: st)) : Zg w g A u k pc ls st := by
  obtain ⟨p, e, R, s, m, args, below, meth, c, Q, nL⟩ := g
  obtain ⟨hx, hb, hml, hown, hts, hK, hA, hnL, rF, rL, rC, rS, hin9, hNX⟩ := C
  subst rF rL rC rS hnL
  subst hk2
  intro H locs la hl hP hD hS
  exact va_new hx hb hts hin ty hty hown (hts _ hcl) (hts _ hinst) (hts _ hini) hK hP hD hS hA hc hfs hk.1 hk.2 hdg (fun q H1 hP1 hD1 hS1 => kk q H1 locs la hl hP1 hD1 hS1)
theorem y_newI (C : Cog w g A cc own Ts n F L Ce Sl) {x : Int32} (N : Nat) (harr : Cond.arrayClass .int ∈ Ts) (hn : ¬ x < 0) (hN : x.toNatClampNeg = N) (hbytes : N * componentBytes .int ≤ 536870912) (hk : k.1 + 1 ≤ Ce ∧ k.2 + N ≤ Sl) (hdg : decode cc pc = .ok (.newarray .int, 2)) {k2 : Nat × Nat} (hk2 : k2 = (k.1 + 1, k.2 + N)) (kk : ∀ q : Nat, Zg w g A (u ++ [(q, .inl (w.2.2.1 0, N, .inl (fun _ => 0)))]) k2 (pc + 2) ls (.ref q :: st)) : Zg w g A u k pc ls (.int x :: st) := by
  obtain ⟨p, e, R, s, m, args, below, meth, c, Q, nL⟩ := g
  obtain ⟨hx, hb, hml, hown, hts, hK, hA, hnL, rF, rL, rC, rS, hin, hNX⟩ := C
  subst rF rL rC rS hnL
  subst hk2
  intro H locs la hl hP hD hS
  refine va_newa (atype := .int) (ty := .int) (a0 := (N, .inl (fun _ => 0))) (N' := N) hx hb (hts _ harr) rfl hK hP hD hS hA (fun cA => rfl) hn hN hbytes hk.1 hk.2 hdg (fun q cA H1 hK1 hP1 hD1 hS1 => ?_)
  have e1 : cA = w.2.2.1 0 := by
    have h1 : s.vm.findClass ("[" ++ (.int : FieldType).toString) = some cA := (hK1.2 5 (cA, .int) rfl).2
    have h2 : s.vm.findClass ("[" ++ (.int : FieldType).toString) = some (w.2.2.1 0) := (hK.2 0 (w.2.2.1 0, .int) rfl).2
    exact Option.some.inj (h1.symm.trans h2)
  subst e1
  exact kk q H1 locs la hl hP1 hD1 hS1
theorem y_newZ (C : Cog w g A cc own Ts n F L Ce Sl) {x : Int32} (N : Nat) (harr : Cond.arrayClass .boolean ∈ Ts) (hn : ¬ x < 0) (hN : x.toNatClampNeg = N) (hbytes : N * componentBytes .boolean ≤ 536870912) (hk : k.1 + 1 ≤ Ce ∧ k.2 + N ≤ Sl) (hdg : decode cc pc = .ok (.newarray .boolean, 2)) {k2 : Nat × Nat} (hk2 : k2 = (k.1 + 1, k.2 + N)) (kk : ∀ q : Nat, Zg w g A (u ++ [(q, .inl (w.2.2.1 1, N, .inl (fun _ => 0)))]) k2 (pc + 2) ls (.ref q :: st)) : Zg w g A u k pc ls (.int x :: st) := by
  obtain ⟨p, e, R, s, m, args, below, meth, c, Q, nL⟩ := g
  obtain ⟨hx, hb, hml, hown, hts, hK, hA, hnL, rF, rL, rC, rS, hin, hNX⟩ := C
  subst rF rL rC rS hnL
  subst hk2
  intro H locs la hl hP hD hS
  refine va_newa (atype := .boolean) (ty := .boolean) (a0 := (N, .inl (fun _ => 0))) (N' := N) hx hb (hts _ harr) rfl hK hP hD hS hA (fun cA => rfl) hn hN hbytes hk.1 hk.2 hdg (fun q cA H1 hK1 hP1 hD1 hS1 => ?_)
  have e1 : cA = w.2.2.1 1 := by
    have h1 : s.vm.findClass ("[" ++ (.boolean : FieldType).toString) = some cA := (hK1.2 5 (cA, .boolean) rfl).2
    have h2 : s.vm.findClass ("[" ++ (.boolean : FieldType).toString) = some (w.2.2.1 1) := (hK.2 1 (w.2.2.1 1, .boolean) rfl).2
    exact Option.some.inj (h1.symm.trans h2)
  subst e1
  exact kk q H1 locs la hl hP1 hD1 hS1
theorem y_newW (C : Cog w g A cc own Ts n F L Ce Sl) {index : Nat} {x : Int32} (N : Nat) (hcl : Cond.classLink own index "TidePost$Way" ∈ Ts) (hn : ¬ x < 0) (hN : x.toNatClampNeg = N) (hbytes : N * 4 ≤ 536870912) (hk : k.1 + 1 ≤ Ce ∧ k.2 + N ≤ Sl) (hdg : decode cc pc = .ok (.anewarray index, 3)) {k2 : Nat × Nat} (hk2 : k2 = (k.1 + 1, k.2 + N)) (kk : ∀ q : Nat, Zg w g A (u ++ [(q, .inl (w.2.2.1 2, N, .inr (.inr (.inr (.inr (fun _ => none))))))]) k2 (pc + 3) ls (.ref q :: st)) : Zg w g A u k pc ls (.int x :: st) := by
  obtain ⟨p, e, R, s, m, args, below, meth, c, Q, nL⟩ := g
  obtain ⟨hx, hb, hml, hown, hts, hK, hA, hnL, rF, rL, rC, rS, hin, hNX⟩ := C
  subst rF rL rC rS hnL
  subst hk2
  intro H locs la hl hP hD hS
  refine va_newq (N' := N) hx hb hown (hts _ hcl) hNX.2.1 hK hP hD hS hA hn hN hbytes hk.1 hk.2 hdg (fun q cA H1 hK1 hP1 hD1 hS1 => ?_)
  have e1 : cA = w.2.2.1 2 := by
    obtain ⟨kA, comp, -, -, -, h1⟩ := (hK1.2 5 (cA, .object "TidePost$Way") rfl).2
    obtain ⟨kA2, comp2, -, -, -, h2⟩ := (hK.2 2 (w.2.2.1 2, .object "TidePost$Way") rfl).2
    exact Option.some.inj (h1.symm.trans h2)
  subst e1
  exact kk q H1 locs la hl hP1 hD1 hS1
theorem y_newC (C : Cog w g A cc own Ts n F L Ce Sl) {index : Nat} {x : Int32} (N : Nat) (hcl : Cond.classLink own index "TidePost$Connection" ∈ Ts) (hn : ¬ x < 0) (hN : x.toNatClampNeg = N) (hbytes : N * 4 ≤ 536870912) (hk : k.1 + 1 ≤ Ce ∧ k.2 + N ≤ Sl) (hdg : decode cc pc = .ok (.anewarray index, 3)) {k2 : Nat × Nat} (hk2 : k2 = (k.1 + 1, k.2 + N)) (kk : ∀ q : Nat, Zg w g A (u ++ [(q, .inl (w.2.2.1 3, N, .inr (.inr (.inr (.inr (fun _ => none))))))]) k2 (pc + 3) ls (.ref q :: st)) : Zg w g A u k pc ls (.int x :: st) := by
  obtain ⟨p, e, R, s, m, args, below, meth, c, Q, nL⟩ := g
  obtain ⟨hx, hb, hml, hown, hts, hK, hA, hnL, rF, rL, rC, rS, hin, hNX⟩ := C
  subst rF rL rC rS hnL
  subst hk2
  intro H locs la hl hP hD hS
  refine va_newq (N' := N) hx hb hown (hts _ hcl) hNX.2.2.1 hK hP hD hS hA hn hN hbytes hk.1 hk.2 hdg (fun q cA H1 hK1 hP1 hD1 hS1 => ?_)
  have e1 : cA = w.2.2.1 3 := by
    obtain ⟨kA, comp, -, -, -, h1⟩ := (hK1.2 5 (cA, .object "TidePost$Connection") rfl).2
    obtain ⟨kA2, comp2, -, -, -, h2⟩ := (hK.2 3 (w.2.2.1 3, .object "TidePost$Connection") rfl).2
    exact Option.some.inj (h1.symm.trans h2)
  subst e1
  exact kk q H1 locs la hl hP1 hD1 hS1
theorem y_mna (C : Cog w g A cc own Ts n F L Ce Sl) {index : Nat} {x y : Int32} (N M : Nat) (hcl : Cond.classLink own index "[[I" ∈ Ts) (harr : Cond.arrayClass .int ∈ Ts) (hn : ¬ x < 0) (hm : ¬ y < 0) (hN : x.toNatClampNeg = N) (hM : y.toNatClampNeg = M) (hb1 : N * 4 ≤ 536870912) (hb2 : M * componentBytes .int ≤ 536870912) (hb3 : M ≤ 536870912) (hk : k.1 + (1 + N) ≤ Ce ∧ k.2 + (N + N * M) ≤ Sl) (hdg : decode cc pc = .ok (.multianewarray index 2, 4)) {k2 : Nat × Nat} (hk2 : k2 = (k.1 + 1 + N, k.2 + N + N * M)) (kk : ∀ (q : Nat) (r : Nat → Nat), Zg w g A (u ++ (q, .inl (w.2.2.1 4, N, .inr (.inr (.inr (.inr (fun i => if i < N then some (r i) else none)))))) :: (List.range N).map (fun i => (r i, .inl (w.2.2.1 0, M, .inl (fun _ => 0))))) k2 (pc + 4) ls (.ref q :: st)) : Zg w g A u k pc ls (.int y :: .int x :: st) := by
  obtain ⟨p, e, R, s, m, args, below, meth, c, Q, nL⟩ := g
  obtain ⟨hx, hb, hml, hown, hts, hK, hA, hnL, rF, rL, rC, rS, hin, hNX⟩ := C
  subst rF rL rC rS hnL
  subst hk2
  intro H locs la hl hP hD hS
  have hcy : s.vm.findClass (FieldType.array .int).toString = some (w.2.2.1 0) := (hK.2 0 (w.2.2.1 0, .int) rfl).2
  have hP9 : va_P (tp_D w) vwCl (u ++ va_pl [] (fun _ => .inl (w.2.2.1 0, M, .inl (fun _ => 0)))) H := by rw [show va_pl [] (fun _ => (.inl (w.2.2.1 0, M, .inl (fun _ => 0)) : va_E)) = [] from rfl, List.append_nil]; exact hP
  have hD9 : va_D A (u ++ va_pl [] (fun _ => .inl (w.2.2.1 0, M, .inl (fun _ => 0)))) := by rw [show va_pl [] (fun _ => (.inl (w.2.2.1 0, M, .inl (fun _ => 0)) : va_E)) = [] from rfl, List.append_nil]; exact hD
  refine va_mna (ty := .int) (cy := w.2.2.1 0) (N' := N) (K' := M) (z := (M, .inl (fun _ => 0))) hx hb hown (hts _ hcl) hNX.2.2.2 (hts _ harr) hcy hK hP9 hD9 hS hA hn hm hN hM hb1 hb2 hb3 rfl rfl hk.1 hk.2 (fun cI => by show ({ cls := cI, slots := Array.replicate M (.int 0), vm := .none } : Cell) = arrV cI M (fun _ => .int 0); rw [arrV_new]) hdg (fun q r cA H1 hr1 hr2 hK1 hP1 hD1 hS1 => ?_)
  have e1 : cA = w.2.2.1 4 := by
    have h1 : s.vm.findClass ("[" ++ (FieldType.array .int).toString) = some cA := (hK1.2 5 (cA, .array .int) rfl).2
    have h2 : s.vm.findClass ("[" ++ (FieldType.array .int).toString) = some (w.2.2.1 4) := (hK.2 4 (w.2.2.1 4, .array .int) rfl).2
    exact Option.some.inj (h1.symm.trans h2)
  subst e1
  have e2 : ((u ++ [(q, .inl (w.2.2.1 4, N, .inr (.inr (.inr (.inr (fun i => if i < N then some (r i) else none))))))]) ++ va_pl ([] ++ (List.range N).map r) (vr_up (fun _ => .inl (w.2.2.1 0, M, .inl (fun _ => 0))) ((List.range N).map r) (.inl (w.2.2.1 0, (M, .inl (fun _ => 0)))))) = u ++ (q, .inl (w.2.2.1 4, N, .inr (.inr (.inr (.inr (fun i => if i < N then some (r i) else none)))))) :: (List.range N).map (fun i => (r i, .inl (w.2.2.1 0, M, .inl (fun _ => 0)))) := by
    rw [List.append_assoc, List.nil_append]
    simp [va_pl, vr_up, List.map_map, Function.comp_def]
  rw [e2] at hP1 hD1
  exact kk q r H1 locs la hl hP1 hD1 hS1
theorem y_put (C : Cog w g A cc own Ts n F L Ce Sl) {Cn : String} {T : u_T} {N ci index a b : Nat} (q0 q : Nat) {fs : List Value} (ty : FieldType) (he : u[q0]? = some (a, .inr (ci, fs))) (hin : ∀ x ∈ u_ws Cn T N, x ∈ Ts) (ty0 : Nat → FieldType) (hty : ∀ j, j < N → parseFieldDescriptor (T j).2.2.1 = some (ty0 j)) (hnm : ∀ a, a < N → ∀ b, b < N → a ≠ b → (T a).2.1 ≠ (T b).2.1) (hc : vwCl[ci]? = some (Cn, T, N)) (hq : q < N) (hlink : Cond.fieldLink own index Cn (T q).2.1 (T q).2.2.1 ∈ Ts) (hsame : Cn = (T q).1) (hfin : (T q).2.2.2 = true) (hdecl : (T q).1 = own) (hd : parseFieldDescriptor (T q).2.2.1 = some ty) (hn : narrow ty (.ref b) = .ref b) (hfit : fits ty (.ref b) = true) (hlen : q < fs.length) (hne : own ≠ "TidePostLaw") (hdg : decode cc pc = .ok (.putfield index, 3)) {u2 : va_W} (hu : u.set q0 (a, .inr (ci, fs.set q (.ref b))) = u2) (kk : Zg w g A u2 k (pc + 3) ls st) : Zg w g A u k pc ls (.ref b :: .ref a :: st) := by
  obtain ⟨p, e, R, s, m, args, below, meth, c, Q, nL⟩ := g
  obtain ⟨hx, hb, hml, hown, hts, hK, hA, hnL, rF, rL, rC, rS, hin9, hNX⟩ := C
  subst hu
  intro H locs la hl hP hD hS
  exact va_putF hx hb hts hin ty0 hty hnm hown hK hP hD hS q0 he hc q hq (hts _ hlink) (fun x h => by rw [hsame]; exact h) hfin (hin9 hne) hdecl hd hn hfit hlen hdg (fun H1 locs1 hP1 hD1 hS1 => kk H1 locs1 la hl hP1 hD1 hS1)
theorem y_get (C : Cog w g A cc own Ts n F L Ce Sl) {Cn : String} {T : u_T} {N ci index a : Nat} (q0 q : Nat) {fs : List Value} {v : Value} (he : u[q0]? = some (a, .inr (ci, fs))) (hin : ∀ x ∈ u_ws Cn T N, x ∈ Ts) (hc : vwCl[ci]? = some (Cn, T, N)) (hq : q < N) (hlink : Cond.fieldLink own index Cn (T q).2.1 (T q).2.2.1 ∈ Ts) (hsame : Cn = (T q).1) (hv : fs[q]? = some v) (hdg : decode cc pc = .ok (.getfield index, 3)) (kk : Zg w g A u k (pc + 3) ls (v :: st)) : Zg w g A u k pc ls (.ref a :: st) := by
  obtain ⟨p, e, R, s, m, args, below, meth, c, Q, nL⟩ := g
  obtain ⟨hx, hb, hml, hown, hts, hK, hA, hnL, rF, rL, rC, rS, hin9, hNX⟩ := C
  exact fun H locs la hl hP hD hS => va_get hx hb hts hin hown hK hP q0 he hc q hq (hts _ hlink) (fun x h => by rw [hsame]; exact h) hv hdg (kk H locs la hl hP hD hS)
theorem y_iast (C : Cog w g A cc own Ts n F L Ce Sl) {N a : Nat} {f : Nat → Int32} {x v : Int32} (q0 : Nat) (he : u[q0]? = some (a, .inl (w.2.2.1 0, N, .inl f))) (hx2 : vp_in x N) (hdg : decode cc pc = .ok (.iastore, 1)) {u2 : va_W} (hu : u.set q0 (a, .inl (w.2.2.1 0, N, .inl (upd f x.toNatClampNeg v))) = u2) (kk : Zg w g A u2 k (pc + 1) ls st) : Zg w g A u k pc ls (.int v :: .int x :: .ref a :: st) := by
  obtain ⟨p, e, R, s, m, args, below, meth, c, Q, nL⟩ := g
  obtain ⟨hx, hb, hml, hown, hts, hK, hA, hnL, rF, rL, rC, rS, hin, hNX⟩ := C
  subst hu
  exact fun H locs la hl hP hD hS => va_iast hx hb hK hP hD hS q0 0 he rfl hx2 hdg (fun H1 locs1 hP1 hD1 hS1 => kk H1 locs1 la hl hP1 hD1 hS1)
theorem y_astq (C : Cog w g A cc own Ts n F L Ce Sl) {N a b ci t0 : Nat} {cA : ClassId} {r : vw_C} {vs : List Value} {f : Nat → Option Nat} {x : Int32} (q0 qk : Nat) (he : u[q0]? = some (a, .inl (cA, N, .inr (.inr (.inr (.inr f)))))) (ht : (tp_tys w)[t0]? = some (cA, .object r.1)) (hv : u[qk]? = some (b, .inr (ci, vs))) (hc : vwCl[ci]? = some r) (hx2 : vp_in x N) (hdg : decode cc pc = .ok (.aastore, 1)) {u2 : va_W} (hu : u.set q0 (a, .inl (cA, N, .inr (.inr (.inr (.inr (va_up f x.toNatClampNeg (some b))))))) = u2) (kk : Zg w g A u2 k (pc + 1) ls st) : Zg w g A u k pc ls (.ref b :: .int x :: .ref a :: st) := by
  obtain ⟨p, e, R, s, m, args, below, meth, c, Q, nL⟩ := g
  obtain ⟨hx, hb, hml, hown, hts, hK, hA, hnL, rF, rL, rC, rS, hin, hNX⟩ := C
  subst hu
  exact fun H locs la hl hP hD hS => va_astq hx hb hK hP hD hS q0 t0 qk ci he ht hv hc hx2 hdg (fun H1 locs1 hP1 hD1 hS1 => kk H1 locs1 la hl hP1 hD1 hS1)
theorem y_alen (C : Cog w g A cc own Ts n F L Ce Sl) {a t0 : Nat} {cA : ClassId} {x : vp_A} {ty : FieldType} (q0 : Nat) (v : Int32) (he : u[q0]? = some (a, .inl (cA, x))) (ht : (tp_tys w)[t0]? = some (cA, ty)) (hv : Int32.ofNat x.1 = v) (hdg : decode cc pc = .ok (.arraylength, 1)) (kk : Zg w g A u k (pc + 1) ls (.int v :: st)) : Zg w g A u k pc ls (.ref a :: st) := by
  obtain ⟨p, e, R, s, m, args, below, meth, c, Q, nL⟩ := g
  obtain ⟨hx, hb, hml, hown, hts, hK, hA, hnL, rF, rL, rC, rS, hin, hNX⟩ := C
  exact fun H locs la hl hP hD hS => va_alen hx hb hK hP q0 t0 he ht hv hdg (kk H locs la hl hP hD hS)
/-- a constructor's contract: the new object alone is its world; what stands behind it -/
def tp_PreG (w : WPar) (u : va_W) (sz : Nat) : State → Prop := fun U => U.heap.size = sz ∧ va_P (tp_D w) vwCl u U.heap ∧ va_K (tp_D w) vwCl (tp_tys w) U ∧ tp_NX U ∧ va_D (fun _ => True) u
def MG (w : WPar) (y : MethodName) (ws : List Cond) (F L mc ms : Nat) (As : List Value) (u : va_W) (P : va_W → Prop) : Prop := ∀ sz, Met w.2.1 y ws { frames := F, cells := mc, slots := ms, locals := L } (va_Pc As (tp_PreG w u sz)) (va_Qv (fun u2 : va_W => P u2) (fun u2 t => va_P (tp_D w) vwCl u2 t.heap ∧ va_K (tp_D w) vwCl (tp_tys w) t ∧ va_D (va_A u sz) u2) (va_A u sz)) mc ms (va_A u sz)
theorem tp_blindG {sz : Nat} {As : List Value} : FrameBlind (va_Pc As (tp_PreG w u sz)) := fun a U g mk q => by
  obtain ⟨q0, q1, q2, q3, q4, q5⟩ := q
  exact ⟨q0, q1, q2, va_K.moved (u := U) (U := U.calling g mk a) (Vm.Alike.refl U.vm) q3, tp_NX.blind q4, q5⟩
def RG (w : WPar) (g : Cxt) (A : Nat → Prop) (cc : ByteArray) (mc ms : Nat) (P : va_W → Prop) : Prop := ∀ (u : va_W) (pc : Nat) (ls : List (Nat × Value)), decode cc pc = .ok (.return_, 1) → P u → Zg w g A u (mc, ms) pc ls []
theorem tp_enterG {y : MethodName} {ws ws2 : List Cond} {maxL mc ms : Nat} {As : List Value} {P : va_W → Prop} (hy : plainName y.cls = true) (hcls : y.cls = own) (hin : y.name = "<init>") (hw : ws = Cond.code y cc maxL none :: ws2) (hle : (lg_sl As).length ≤ maxL)
    (body : ∀ (g : Cxt) (A : Nat → Prop), Cog w g A cc own ws maxL F L mc ms → RG w g A cc mc ms P → Zg w g A u (0, 0) 0 (lv_args 0 As) []) : MG w y ws F L mc ms As u P := by
  intro sz
  refine Met.ofW hy hw ?_
  intro p e s m args below meth c s₁ B hml hv
  obtain ⟨rfl, hsz, hP, hK, hNX, hD0⟩ := hv
  subst hsz
  have hts := atoms_spec (ws := ws) B.pre
  have hown : s.vm.findClass own = some m.cls := by rw [← hcls]; exact findClass_of_methodNamed B.named
  have hnm : meth.name = "<init>" := (name_of_methodNamed B.named B.method).1.trans hin
  have hR : RG w (p, e, ({ frames := F, cells := mc, slots := ms, locals := L } : Room), s, m, As.toArray, below, meth, c, MQ below (va_Qv (fun u2 : va_W => P u2) (fun u2 t => va_P (tp_D w) vwCl u2 t.heap ∧ va_K (tp_D w) vwCl (tp_tys w) t ∧ va_D (va_A u s.heap.size) u2) (va_A u s.heap.size)) As.toArray s mc ms (va_A u s.heap.size), maxL) (va_A u s.heap.size) cc mc ms P := by
    intro u2 pc ls hdg hPv
    exact fun H locs la hl hP2 hD2 hS => W.vret B.exec B.bytes B.returns (fun t ht hW => ⟨⟨u2, rfl, hPv, by rw [ht]; exact hP2, va_K.moved hW.alike hK, hD2⟩, hS.F ht⟩) hS.2.2 hdg B.notSynchronized
  have hZ := body (p, e, ({ frames := F, cells := mc, slots := ms, locals := L } : Room), s, m, As.toArray, below, meth, c, MQ below (va_Qv (fun u2 : va_W => P u2) (fun u2 t => va_P (tp_D w) vwCl u2 t.heap ∧ va_K (tp_D w) vwCl (tp_tys w) t ∧ va_D (va_A u s.heap.size) u2) (va_A u s.heap.size)) As.toArray s mc ms (va_A u s.heap.size), maxL) (va_A u s.heap.size) ⟨B.exec, B.bytes, hml, hown, hts, hK, fun q h => Or.inr h, rfl, rfl, rfl, rfl, rfl, (fun _ => hnm), hNX⟩ hR
  rw [lg_entry_eq]
  exact hZ s.heap [] _ (lv_entry As hle) hP hD0.self va_S.rf
theorem tp_lastAt (X l : va_W) (j : Nat) : (X ++ l)[X.length + j]? = l[j]? := by
  rw [List.getElem?_append_right (Nat.le_add_right _ _), Nat.add_sub_cancel_left]
/-- the frame rule for the object made last -/
theorem tp_joinL {D : va_G} {cl : List vw_C} {X wc w1 : va_W} {A : Nat → Prop} {H H1 : Heap} (hP : va_P D cl (X ++ wc) H) (hD : va_D A (X ++ wc)) (hk : ∀ q : Nat, q < H.size → ¬ va_A wc H.size q → H1[q]? = H[q]?) (hF : ∀ q, va_A wc H.size q → A q) (hP1 : va_P D cl w1 H1) (hD1 : va_D (va_A wc H.size) w1) : va_P D cl (X ++ w1) H1 ∧ va_D A (X ++ w1) := by
  have hX : ∀ (j : Nat) (x : Nat × va_E), X[j]? = some x → (X ++ wc)[j]? = some x := fun j x hx => by
    rw [List.getElem?_append_left (List.getElem?_eq_some_iff.mp hx).1]; exact hx
  have hlt : ∀ (j : Nat) (x : Nat × va_E), X[j]? = some x → x.1 < H.size := fun j x hx => (hP j x (hX j x hx)).lt
  have hap : ∀ (j : Nat) (x : Nat × va_E), X[j]? = some x → ¬ va_A wc H.size x.1 := fun j x hx h => by
    rcases h with ⟨i, e, hi⟩ | h
    · have h2 : (X ++ wc)[X.length + i]? = some (x.1, e) := by rw [tp_lastAt]; exact hi
      have h3 := hD.1 j (X.length + i) x (x.1, e) (hX j x hx) h2 rfl
      have := (List.getElem?_eq_some_iff.mp hx).1
      omega
    · exact absurd (hlt j x hx) (Nat.not_lt.mpr h)
  refine ⟨fun j x hx => ?_, fun i j x y hi hj hxy => ?_, fun j x hx => ?_⟩
  · by_cases hl : j < X.length
    · rw [List.getElem?_append_left hl] at hx
      exact (hP j x (hX j x hx)).kept (hk x.1 (hlt j x hx) (hap j x hx))
    · rw [List.getElem?_append_right (by omega)] at hx
      exact hP1 _ x hx
  · by_cases h1 : i < X.length <;> by_cases h2 : j < X.length
    · rw [List.getElem?_append_left h1] at hi
      rw [List.getElem?_append_left h2] at hj
      exact hD.1 i j x y (hX i x hi) (hX j y hj) hxy
    · rw [List.getElem?_append_left h1] at hi
      rw [List.getElem?_append_right (by omega)] at hj
      exact absurd (hxy ▸ hD1.2 _ y hj) (hap i x hi)
    · rw [List.getElem?_append_right (by omega)] at hi
      rw [List.getElem?_append_left h2] at hj
      exact absurd (hxy ▸ hD1.2 _ x hi) (hap j y hj)
    · rw [List.getElem?_append_right (by omega)] at hi hj
      have := hD1.1 _ _ x y hi hj hxy
      omega
  · by_cases hl : j < X.length
    · rw [List.getElem?_append_left hl] at hx
      exact hD.2 j x (hX j x hx)
    · rw [List.getElem?_append_right (by omega)] at hx
      exact hF _ (hD1.2 _ x hx)
theorem y_ctor (C : Cog w g A cc own Ts n F L Ce Sl) {y : MethodName} {ws ws2 : List Cond} {bytes : ByteArray} {maxL F1 L1 mc ms index a : Nat} {As : List Value} {e0 : va_E} {P : va_W → Prop} (hM : MG w y ws F1 L1 mc ms (.ref a :: As) [(a, e0)] P) (nP : Nat) (hG : GoodIn Ts ws) (hw : ws = Cond.code y bytes maxL none :: ws2) (hini : Cond.initialized y.cls ∈ Ts) (hlink : Cond.methodLink own index y ∈ Ts) (hinst : Cond.instanceMethod y ∈ Ts) (hy1 : y.name = "<init>") (hd : y.cls ≠ "java/lang/invoke/MethodHandle" ∧ y.cls ≠ "java/lang/invoke/VarHandle" ∧ (parseMethodDescriptor y.desc).map (fun d => d.parameters.length) = some nP) (hR : F1 + 1 ≤ F ∧ 8 + (maxL + 11) + L1 ≤ L) (hn : As.length = nP) (hst : 0 + (st.map fun v => v.category).sum ≤ 8) (hk : k.1 + mc ≤ Ce ∧ k.2 + ms ≤ Sl) {k2 : Nat × Nat} (hk2 : k2 = (k.1 + mc, k.2 + ms)) {st0 : List Value} (hs0 : st0 = As.reverse ++ .ref a :: st) (hdg : decode cc pc = .ok (.invokespecial index, 3))
    (kk : ∀ u2 : va_W, P u2 → Zg w g A (u ++ u2) k2 (pc + 3) ls st) : Zg w g A (u ++ [(a, e0)]) k pc ls st0 := by
  subst hs0
  obtain ⟨p, e, R, s, m, args, below, meth, c, Q, nL⟩ := g
  obtain ⟨hx, hb, hml, hown, hts, hK, hA, hnL, rF, rL, rC, rS, hin, hNX⟩ := C
  subst rF rL rC rS hnL
  subst hk2
  intro H locs la hl hP hD hS
  have hPc : va_P (tp_D w) vwCl [(a, e0)] H := fun j x hx => by
    rw [← tp_lastAt u] at hx
    exact hP _ x hx
  have hDc : va_D (fun _ => True) [(a, e0)] := ⟨fun i j x y hi hj hxy => by
    have h1 := (List.getElem?_eq_some_iff.mp hi).1
    have h2 := (List.getElem?_eq_some_iff.mp hj).1
    simp only [List.length_singleton] at h1 h2
    omega, fun _ _ _ => trivial⟩
  have hF : ∀ q, va_A [(a, e0)] H.size q → A q := fun q h => by
    rcases h with ⟨i, e, hi⟩ | h
    · rw [← tp_lastAt u] at hi
      exact hD.2 _ (q, e) hi
    · exact hA q (Nat.le_trans hS.1 h)
  refine va_callv (va_runI (As := As) (rest := st) ⟨hx, hb, hml, hown, hts⟩ (hM H.size) (cwI nP hts hG hw rfl rfl (hts _ hini) (hts _ hlink) (hts _ hinst) hy1 hd hR) ⟨tp_blindG, fun U hU hW => ⟨rfl, by rw [hU], by rw [hU]; exact hPc, va_K.moved hW.alike hK, tp_NX.go hW hNX, hDc⟩⟩ rfl hn hl.1 rfl (by simpa using hst) hdg hk) hS (fun q _ h => hF q h) hF (fun u2 t H1 locs1 ht hvm hw2 hB hz1 hk1 hS1 => ?_)
  obtain ⟨hP1, hK1, hD1⟩ := hB
  rw [ht] at hP1
  obtain ⟨hP2, hD2⟩ := tp_joinL hP hD hk1 hF hP1 hD1
  exact kk u2 hw2 H1 locs1 la hl hP2 hD2 hS1
theorem y_ctorN (C : Cog w g A cc own Ts n F L Ce Sl) {y : MethodName} {ws ws2 : List Cond} {bytes : ByteArray} {maxL F1 L1 mc ms index a : Nat} {As : List Value} {e0 : va_E} {P : va_W → Prop} (hM : MG w y ws F1 L1 mc ms (.ref a :: As) [(a, e0)] P) (nP : Nat) (hG : GoodIn Ts ws) (hw : ws = Cond.code y bytes maxL none :: ws2) (hini : Cond.initialized y.cls ∈ Ts) (host : String) (hlink : ∀ s : State, tp_NX s → va_Nw (.methodLinkNest own index y host) s) (hinst : Cond.instanceMethod y ∈ Ts) (hy1 : y.name = "<init>") (hd : y.cls ≠ "java/lang/invoke/MethodHandle" ∧ y.cls ≠ "java/lang/invoke/VarHandle" ∧ (parseMethodDescriptor y.desc).map (fun d => d.parameters.length) = some nP) (hR : F1 + 1 ≤ F ∧ 8 + (maxL + 11) + L1 ≤ L) (hn : As.length = nP) (hst : 0 + (st.map fun v => v.category).sum ≤ 8) (hk : k.1 + mc ≤ Ce ∧ k.2 + ms ≤ Sl) {k2 : Nat × Nat} (hk2 : k2 = (k.1 + mc, k.2 + ms)) {st0 : List Value} (hs0 : st0 = As.reverse ++ .ref a :: st) (hdg : decode cc pc = .ok (.invokespecial index, 3))
    (kk : ∀ u2 : va_W, P u2 → Zg w g A (u ++ u2) k2 (pc + 3) ls st) : Zg w g A (u ++ [(a, e0)]) k pc ls st0 := by
  subst hs0
  obtain ⟨p, e, R, s, m, args, below, meth, c, Q, nL⟩ := g
  obtain ⟨hx, hb, hml, hown, hts, hK, hA, hnL, rF, rL, rC, rS, hin, hNX⟩ := C
  subst rF rL rC rS hnL
  subst hk2
  intro H locs la hl hP hD hS
  have hPc : va_P (tp_D w) vwCl [(a, e0)] H := fun j x hx => by
    rw [← tp_lastAt u] at hx
    exact hP _ x hx
  have hDc : va_D (fun _ => True) [(a, e0)] := ⟨fun i j x y hi hj hxy => by
    have h1 := (List.getElem?_eq_some_iff.mp hi).1
    have h2 := (List.getElem?_eq_some_iff.mp hj).1
    simp only [List.length_singleton] at h1 h2
    omega, fun _ _ _ => trivial⟩
  have hF : ∀ q, va_A [(a, e0)] H.size q → A q := fun q h => by
    rcases h with ⟨i, e, hi⟩ | h
    · rw [← tp_lastAt u] at hi
      exact hD.2 _ (q, e) hi
    · exact hA q (Nat.le_trans hS.1 h)
  refine va_callv (va_runIN (As := As) (rest := st) ⟨hx, hb, hml, hown, hts⟩ (hM H.size) ⟨va_cnB nP hts hG hw rfl rfl (hlink s hNX) (hts _ hini) hd hR, hy1, hts _ hinst⟩ ⟨tp_blindG, fun U hU hW => ⟨rfl, by rw [hU], by rw [hU]; exact hPc, va_K.moved hW.alike hK, tp_NX.go hW hNX, hDc⟩⟩ rfl hn hl.1 rfl (by simpa using hst) hdg hk) hS (fun q _ h => hF q h) hF (fun u2 t H1 locs1 ht hvm hw2 hB hz1 hk1 hS1 => ?_)
  obtain ⟨hP1, hK1, hD1⟩ := hB
  rw [ht] at hP1
  obtain ⟨hP2, hD2⟩ := tp_joinL hP hD hk1 hF hP1 hD1
  exact kk u2 hw2 H1 locs1 la hl hP2 hD2 hS1
theorem y_widen (k2 : Nat × Nat) (h1 : k.1 ≤ k2.1) (h2 : k.2 ≤ k2.2) (kk : Zg w g A u k2 pc ls st) : Zg w g A u k pc ls st := by
  obtain ⟨p, e, R, s, m, args, below, meth, c, Q, nL⟩ := g
  exact fun H locs la hl hP hD hS => W.widen h1 h2 (kk H locs la hl hP hD hS)
theorem y_eq {u2 : va_W} (h : u = u2) (kk : Zg w g A u2 k pc ls st) : Zg w g A u k pc ls st := h ▸ kk
end ZG
