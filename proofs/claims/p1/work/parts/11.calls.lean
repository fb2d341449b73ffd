/-- a contract's start: the heap of this size, the world τ -/
def tp_Pre (w : WPar) (τ : TS) (sz : Nat) : State → Prop := fun U => U.heap.size = sz ∧ va_P (tp_D w) vwCl (tp_W w τ) U.heap ∧ va_K (tp_D w) vwCl (tp_tys w) U ∧ tp_inj w ∧ tp_NF U
/-- .. and its end -/
def tp_B (w : WPar) : TS → State → Prop := fun τ t => va_P (tp_D w) vwCl (tp_W w τ) t.heap ∧ va_K (tp_D w) vwCl (tp_tys w) t
def MI (w : WPar) (y : MethodName) (ws : List Cond) (F L : Nat) (As : List Value) (τ : TS) (K : TS → Int32 → Prop) : Prop := ∀ sz, Met w.2.1 y ws { frames := F, cells := 0, slots := 0, locals := L } (va_Pc As (tp_Pre w τ sz)) (va_Qi (fun r τ2 => K τ2 r) (tp_B w) (tp_A w sz)) 0 0 (tp_A w sz)
def ML (w : WPar) (y : MethodName) (ws : List Cond) (F L : Nat) (As : List Value) (τ : TS) (K : TS → Int64 → Prop) : Prop := ∀ sz, Met w.2.1 y ws { frames := F, cells := 0, slots := 0, locals := L } (va_Pc As (tp_Pre w τ sz)) (va_Ql (fun r τ2 => K τ2 r) (tp_B w) (tp_A w sz)) 0 0 (tp_A w sz)
def MV (w : WPar) (y : MethodName) (ws : List Cond) (F L : Nat) (As : List Value) (τ : TS) (K : TS → Prop) : Prop := ∀ sz, Met w.2.1 y ws { frames := F, cells := 0, slots := 0, locals := L } (va_Pc As (tp_Pre w τ sz)) (va_Qv K (tp_B w) (tp_A w sz)) 0 0 (tp_A w sz)
def MR (w : WPar) (y : MethodName) (ws : List Cond) (F L : Nat) (As : List Value) (τ : TS) (K : TS → Nat → Prop) (kd : Nat) : Prop := ∀ sz, Met w.2.1 y ws { frames := F, cells := 0, slots := 0, locals := L } (va_Pc As (tp_Pre w τ sz)) (va_Qr (fun u : TS × Nat => K u.1 u.2 ∧ tp_is w u.2 kd) (fun u a t => a = w.1 u.2 ∧ tp_B w u.1 t) (tp_A w sz)) 0 0 (tp_A w sz)
def MD (w : WPar) (y : MethodName) (ws : List Cond) (F L : Nat) (As : List Value) (τ : TS) (K : TS → UInt64 → Prop) : Prop := ∀ sz, Met w.2.1 y ws { frames := F, cells := 0, slots := 0, locals := L } (va_Pc As (tp_Pre w τ sz)) (va_Qd (fun r τ2 => K τ2 r) (tp_B w) (tp_A w sz)) 0 0 (tp_A w sz)
def RD (w : WPar) (g : Cxt) (cc : ByteArray) (K : TS → UInt64 → Prop) : Prop := ∀ (τ : TS) (pc : Nat) (ls : List (Nat × Value)) (v : UInt64), decode cc pc = .ok (.dreturn, 1) → K τ v → Zt w g τ (0, 0) pc ls [.double v]
def RR (w : WPar) (g : Cxt) (cc : ByteArray) (K : TS → Nat → Prop) (kd : Nat) : Prop := ∀ (τ : TS) (pc : Nat) (ls : List (Nat × Value)) (j : Nat), decode cc pc = .ok (.areturn, 1) → tp_is w j kd → K τ j → Zt w g τ (0, 0) pc ls [.ref (w.1 j)]
/-- how a method's own end is reached -/
def RI (w : WPar) (g : Cxt) (cc : ByteArray) (K : TS → Int32 → Prop) : Prop := ∀ (τ : TS) (pc : Nat) (ls : List (Nat × Value)) (v : Int32), decode cc pc = .ok (.ireturn, 1) → K τ v → Zt w g τ (0, 0) pc ls [.int v]
def RZ (w : WPar) (g : Cxt) (cc : ByteArray) (K : TS → Int32 → Prop) : Prop := ∀ (τ : TS) (pc : Nat) (ls : List (Nat × Value)) (v : Int32), decode cc pc = .ok (.ireturn, 1) → narrow .boolean (.int v) = .int v → K τ v → Zt w g τ (0, 0) pc ls [.int v]
def RL9 (w : WPar) (g : Cxt) (cc : ByteArray) (K : TS → Int64 → Prop) : Prop := ∀ (τ : TS) (pc : Nat) (ls : List (Nat × Value)) (v : Int64), decode cc pc = .ok (.lreturn, 1) → K τ v → Zt w g τ (0, 0) pc ls [.long v]
def RV (w : WPar) (g : Cxt) (cc : ByteArray) (K : TS → Prop) : Prop := ∀ (τ : TS) (pc : Nat) (ls : List (Nat × Value)), decode cc pc = .ok (.return_, 1) → K τ → Zt w g τ (0, 0) pc ls []
theorem tp_blind {w : WPar} {τ : TS} {sz : Nat} {As : List Value} : FrameBlind (va_Pc As (tp_Pre w τ sz)) := fun a U g mk q => by
  obtain ⟨q0, q1, q2, q3, q4⟩ := q
  exact ⟨q0, q1, q2, va_K.moved (u := U) (U := U.calling g mk a) (Vm.Alike.refl U.vm) q3, q4.1, q4.2.blind⟩

theorem tp_enterI {w : WPar} {y : MethodName} {ws ws2 : List Cond} {cc : ByteArray} {maxL F L : Nat} {own : String} {As : List Value} {τ : TS} {K : TS → Int32 → Prop} (hy : plainName y.cls = true) (hcls : y.cls = own) (hw : ws = Cond.code y cc maxL (some .int) :: ws2) (hle : (lg_sl As).length ≤ maxL)
    (body : ∀ g : Cxt, Cok w g cc own ws maxL F L 0 0 → RI w g cc K → Zt w g τ (0, 0) 0 (lv_args 0 As) []) : MI w y ws F L As τ K := by
  intro sz
  refine Met.ofW hy hw ?_
  intro p e s m args below meth c s₁ B hml hv
  obtain ⟨rfl, hsz, hP, hK, hj, hNF⟩ := hv
  subst hsz
  have hts := atoms_spec (ws := ws) B.pre
  have hown : s.vm.findClass own = some m.cls := by rw [← hcls]; exact findClass_of_methodNamed B.named
  have hR : RI w (p, e, ({ frames := F, cells := 0, slots := 0, locals := L } : Room), s, m, As.toArray, below, meth, c, MQ below (va_Qi (fun r τ2 => K τ2 r) (tp_B w) (tp_A w s.heap.size)) As.toArray s 0 0 (tp_A w s.heap.size), maxL) cc K := by
    intro τ2 pc ls v hdg hKv
    exact fun H locs la hl hP2 hS => W.iret B.exec B.bytes B.returns (fun t ht hW => ⟨⟨v, τ2, rfl, hKv, by rw [ht]; exact hP2, va_K.moved hW.alike hK⟩, hS.F ht⟩) hS.2.2 hdg B.notSynchronized
  have hZ := body (p, e, ({ frames := F, cells := 0, slots := 0, locals := L } : Room), s, m, As.toArray, below, meth, c, MQ below (va_Qi (fun r τ2 => K τ2 r) (tp_B w) (tp_A w s.heap.size)) As.toArray s 0 0 (tp_A w s.heap.size), maxL) ⟨B.exec, B.bytes, hml, hown, hts, hK, hj, rfl, rfl, rfl, rfl, rfl, B.notSynchronized, hNF⟩ hR
  rw [lg_entry_eq]
  exact hZ s.heap [] _ (lv_entry As hle) hP va_S.rf
theorem tp_enterV {w : WPar} {y : MethodName} {ws ws2 : List Cond} {cc : ByteArray} {maxL F L : Nat} {own : String} {As : List Value} {τ : TS} {K : TS → Prop} (hy : plainName y.cls = true) (hcls : y.cls = own) (hw : ws = Cond.code y cc maxL (none) :: ws2) (hle : (lg_sl As).length ≤ maxL)
    (body : ∀ g : Cxt, Cok w g cc own ws maxL F L 0 0 → RV w g cc K → Zt w g τ (0, 0) 0 (lv_args 0 As) []) : MV w y ws F L As τ K := by
  intro sz
  refine Met.ofW hy hw ?_
  intro p e s m args below meth c s₁ B hml hv
  obtain ⟨rfl, hsz, hP, hK, hj, hNF⟩ := hv
  subst hsz
  have hts := atoms_spec (ws := ws) B.pre
  have hown : s.vm.findClass own = some m.cls := by rw [← hcls]; exact findClass_of_methodNamed B.named
  have hR : RV w (p, e, ({ frames := F, cells := 0, slots := 0, locals := L } : Room), s, m, As.toArray, below, meth, c, MQ below (va_Qv K (tp_B w) (tp_A w s.heap.size)) As.toArray s 0 0 (tp_A w s.heap.size), maxL) cc K := by
    intro τ2 pc ls hdg hKv
    exact fun H locs la hl hP2 hS => W.vret B.exec B.bytes B.returns (fun t ht hW => ⟨⟨τ2, rfl, hKv, by rw [ht]; exact hP2, va_K.moved hW.alike hK⟩, hS.F ht⟩) hS.2.2 hdg B.notSynchronized
  have hZ := body (p, e, ({ frames := F, cells := 0, slots := 0, locals := L } : Room), s, m, As.toArray, below, meth, c, MQ below (va_Qv K (tp_B w) (tp_A w s.heap.size)) As.toArray s 0 0 (tp_A w s.heap.size), maxL) ⟨B.exec, B.bytes, hml, hown, hts, hK, hj, rfl, rfl, rfl, rfl, rfl, B.notSynchronized, hNF⟩ hR
  rw [lg_entry_eq]
  exact hZ s.heap [] _ (lv_entry As hle) hP va_S.rf
theorem tp_enterL {w : WPar} {y : MethodName} {ws ws2 : List Cond} {cc : ByteArray} {maxL F L : Nat} {own : String} {As : List Value} {τ : TS} {K : TS → Int64 → Prop} (hy : plainName y.cls = true) (hcls : y.cls = own) (hw : ws = Cond.code y cc maxL (some .long) :: ws2) (hle : (lg_sl As).length ≤ maxL)
    (body : ∀ g : Cxt, Cok w g cc own ws maxL F L 0 0 → RL9 w g cc K → Zt w g τ (0, 0) 0 (lv_args 0 As) []) : ML w y ws F L As τ K := by
  intro sz
  refine Met.ofW hy hw ?_
  intro p e s m args below meth c s₁ B hml hv
  obtain ⟨rfl, hsz, hP, hK, hj, hNF⟩ := hv
  subst hsz
  have hts := atoms_spec (ws := ws) B.pre
  have hown : s.vm.findClass own = some m.cls := by rw [← hcls]; exact findClass_of_methodNamed B.named
  have hR : RL9 w (p, e, ({ frames := F, cells := 0, slots := 0, locals := L } : Room), s, m, As.toArray, below, meth, c, MQ below (va_Ql (fun r τ2 => K τ2 r) (tp_B w) (tp_A w s.heap.size)) As.toArray s 0 0 (tp_A w s.heap.size), maxL) cc K := by
    intro τ2 pc ls v hdg hKv
    exact fun H locs la hl hP2 hS => W.lret B.exec B.bytes B.returns (fun t ht hW => ⟨⟨v, τ2, rfl, hKv, by rw [ht]; exact hP2, va_K.moved hW.alike hK⟩, hS.F ht⟩) hS.2.2 hdg B.notSynchronized
  have hZ := body (p, e, ({ frames := F, cells := 0, slots := 0, locals := L } : Room), s, m, As.toArray, below, meth, c, MQ below (va_Ql (fun r τ2 => K τ2 r) (tp_B w) (tp_A w s.heap.size)) As.toArray s 0 0 (tp_A w s.heap.size), maxL) ⟨B.exec, B.bytes, hml, hown, hts, hK, hj, rfl, rfl, rfl, rfl, rfl, B.notSynchronized, hNF⟩ hR
  rw [lg_entry_eq]
  exact hZ s.heap [] _ (lv_entry As hle) hP va_S.rf
theorem tp_enterD {w : WPar} {y : MethodName} {ws ws2 : List Cond} {cc : ByteArray} {maxL F L : Nat} {own : String} {As : List Value} {τ : TS} {K : TS → UInt64 → Prop} (hy : plainName y.cls = true) (hcls : y.cls = own) (hw : ws = Cond.code y cc maxL (some .double) :: ws2) (hle : (lg_sl As).length ≤ maxL)
    (body : ∀ g : Cxt, Cok w g cc own ws maxL F L 0 0 → RD w g cc K → Zt w g τ (0, 0) 0 (lv_args 0 As) []) : MD w y ws F L As τ K := by
  intro sz
  refine Met.ofW hy hw ?_
  intro p e s m args below meth c s₁ B hml hv
  obtain ⟨rfl, hsz, hP, hK, hj, hNF⟩ := hv
  subst hsz
  have hts := atoms_spec (ws := ws) B.pre
  have hown : s.vm.findClass own = some m.cls := by rw [← hcls]; exact findClass_of_methodNamed B.named
  have hR : RD w (p, e, ({ frames := F, cells := 0, slots := 0, locals := L } : Room), s, m, As.toArray, below, meth, c, MQ below (va_Qd (fun r τ2 => K τ2 r) (tp_B w) (tp_A w s.heap.size)) As.toArray s 0 0 (tp_A w s.heap.size), maxL) cc K := by
    intro τ2 pc ls v hdg hKv
    exact fun H locs la hl hP2 hS => W.dret B.exec B.bytes B.returns (fun t ht hW => ⟨⟨v, τ2, rfl, hKv, by rw [ht]; exact hP2, va_K.moved hW.alike hK⟩, hS.F ht⟩) hS.2.2 hdg B.notSynchronized
  have hZ := body (p, e, ({ frames := F, cells := 0, slots := 0, locals := L } : Room), s, m, As.toArray, below, meth, c, MQ below (va_Qd (fun r τ2 => K τ2 r) (tp_B w) (tp_A w s.heap.size)) As.toArray s 0 0 (tp_A w s.heap.size), maxL) ⟨B.exec, B.bytes, hml, hown, hts, hK, hj, rfl, rfl, rfl, rfl, rfl, B.notSynchronized, hNF⟩ hR
  rw [lg_entry_eq]
  exact hZ s.heap [] _ (lv_entry As hle) hP va_S.rf
theorem tp_enterZ {w : WPar} {y : MethodName} {ws ws2 : List Cond} {cc : ByteArray} {maxL F L : Nat} {own : String} {As : List Value} {τ : TS} {K : TS → Int32 → Prop} (hy : plainName y.cls = true) (hcls : y.cls = own) (hw : ws = Cond.code y cc maxL (some .boolean) :: ws2) (hle : (lg_sl As).length ≤ maxL)
    (body : ∀ g : Cxt, Cok w g cc own ws maxL F L 0 0 → RZ w g cc K → Zt w g τ (0, 0) 0 (lv_args 0 As) []) : MI w y ws F L As τ K := by
  intro sz
  refine Met.ofW hy hw ?_
  intro p e s m args below meth c s₁ B hml hv
  obtain ⟨rfl, hsz, hP, hK, hj, hNF⟩ := hv
  subst hsz
  have hts := atoms_spec (ws := ws) B.pre
  have hown : s.vm.findClass own = some m.cls := by rw [← hcls]; exact findClass_of_methodNamed B.named
  have hR : RZ w (p, e, ({ frames := F, cells := 0, slots := 0, locals := L } : Room), s, m, As.toArray, below, meth, c, MQ below (va_Qi (fun r τ2 => K τ2 r) (tp_B w) (tp_A w s.heap.size)) As.toArray s 0 0 (tp_A w s.heap.size), maxL) cc K := by
    intro τ2 pc ls v hdg hnar hKv
    exact fun H locs la hl hP2 hS => W.zret B.exec B.bytes B.returns hnar (fun t ht hW => ⟨⟨v, τ2, rfl, hKv, by rw [ht]; exact hP2, va_K.moved hW.alike hK⟩, hS.F ht⟩) hS.2.2 hdg B.notSynchronized
  have hZ := body (p, e, ({ frames := F, cells := 0, slots := 0, locals := L } : Room), s, m, As.toArray, below, meth, c, MQ below (va_Qi (fun r τ2 => K τ2 r) (tp_B w) (tp_A w s.heap.size)) As.toArray s 0 0 (tp_A w s.heap.size), maxL) ⟨B.exec, B.bytes, hml, hown, hts, hK, hj, rfl, rfl, rfl, rfl, rfl, B.notSynchronized, hNF⟩ hR
  rw [lg_entry_eq]
  exact hZ s.heap [] _ (lv_entry As hle) hP va_S.rf
theorem tp_enterVF {w : WPar} {y : MethodName} {ws ws2 : List Cond} {cc : ByteArray} {maxL F L : Nat} {own : String} {As : List Value} {τ : TS} {K : TS → Prop} (hy : plainFor y = true) (hcls : y.cls = own) (hw : ws = Cond.code y cc maxL (none) :: ws2) (hle : (lg_sl As).length ≤ maxL)
    (body : ∀ g : Cxt, Cok w g cc own ws maxL F L 0 0 → RV w g cc K → Zt w g τ (0, 0) 0 (lv_args 0 As) []) : MV w y ws F L As τ K := by
  intro sz
  refine va_MetF hy hw ?_
  intro p e s m args below meth c s₁ B hml hv
  obtain ⟨rfl, hsz, hP, hK, hj, hNF⟩ := hv
  subst hsz
  have hts := atoms_spec (ws := ws) B.pre
  have hown : s.vm.findClass own = some m.cls := by rw [← hcls]; exact findClass_of_methodNamed B.named
  have hR : RV w (p, e, ({ frames := F, cells := 0, slots := 0, locals := L } : Room), s, m, As.toArray, below, meth, c, MQ below (va_Qv K (tp_B w) (tp_A w s.heap.size)) As.toArray s 0 0 (tp_A w s.heap.size), maxL) cc K := by
    intro τ2 pc ls hdg hKv
    exact fun H locs la hl hP2 hS => W.vret B.exec B.bytes B.returns (fun t ht hW => ⟨⟨τ2, rfl, hKv, by rw [ht]; exact hP2, va_K.moved hW.alike hK⟩, hS.F ht⟩) hS.2.2 hdg B.notSynchronized
  have hZ := body (p, e, ({ frames := F, cells := 0, slots := 0, locals := L } : Room), s, m, As.toArray, below, meth, c, MQ below (va_Qv K (tp_B w) (tp_A w s.heap.size)) As.toArray s 0 0 (tp_A w s.heap.size), maxL) ⟨B.exec, B.bytes, hml, hown, hts, hK, hj, rfl, rfl, rfl, rfl, rfl, B.notSynchronized, hNF⟩ hR
  rw [lg_entry_eq]
  exact hZ s.heap [] _ (lv_entry As hle) hP va_S.rf
theorem tp_enterIF {w : WPar} {y : MethodName} {ws ws2 : List Cond} {cc : ByteArray} {maxL F L : Nat} {own : String} {As : List Value} {τ : TS} {K : TS → Int32 → Prop} (hy : plainFor y = true) (hcls : y.cls = own) (hw : ws = Cond.code y cc maxL (some .int) :: ws2) (hle : (lg_sl As).length ≤ maxL)
    (body : ∀ g : Cxt, Cok w g cc own ws maxL F L 0 0 → RI w g cc K → Zt w g τ (0, 0) 0 (lv_args 0 As) []) : MI w y ws F L As τ K := by
  intro sz
  refine va_MetF hy hw ?_
  intro p e s m args below meth c s₁ B hml hv
  obtain ⟨rfl, hsz, hP, hK, hj, hNF⟩ := hv
  subst hsz
  have hts := atoms_spec (ws := ws) B.pre
  have hown : s.vm.findClass own = some m.cls := by rw [← hcls]; exact findClass_of_methodNamed B.named
  have hR : RI w (p, e, ({ frames := F, cells := 0, slots := 0, locals := L } : Room), s, m, As.toArray, below, meth, c, MQ below (va_Qi (fun r τ2 => K τ2 r) (tp_B w) (tp_A w s.heap.size)) As.toArray s 0 0 (tp_A w s.heap.size), maxL) cc K := by
    intro τ2 pc ls v hdg hKv
    exact fun H locs la hl hP2 hS => W.iret B.exec B.bytes B.returns (fun t ht hW => ⟨⟨v, τ2, rfl, hKv, by rw [ht]; exact hP2, va_K.moved hW.alike hK⟩, hS.F ht⟩) hS.2.2 hdg B.notSynchronized
  have hZ := body (p, e, ({ frames := F, cells := 0, slots := 0, locals := L } : Room), s, m, As.toArray, below, meth, c, MQ below (va_Qi (fun r τ2 => K τ2 r) (tp_B w) (tp_A w s.heap.size)) As.toArray s 0 0 (tp_A w s.heap.size), maxL) ⟨B.exec, B.bytes, hml, hown, hts, hK, hj, rfl, rfl, rfl, rfl, rfl, B.notSynchronized, hNF⟩ hR
  rw [lg_entry_eq]
  exact hZ s.heap [] _ (lv_entry As hle) hP va_S.rf
theorem tp_enterR {w : WPar} {y : MethodName} {ws ws2 : List Cond} {cc : ByteArray} {maxL F L kd : Nat} {own Cr : String} {As : List Value} {τ : TS} {K : TS → Nat → Prop} (hy : plainName y.cls = true) (hcls : y.cls = own) (hw : ws = Cond.code y cc maxL (some (.object Cr)) :: ws2) (hle : (lg_sl As).length ≤ maxL)
    (body : ∀ g : Cxt, Cok w g cc own ws maxL F L 0 0 → RR w g cc K kd → Zt w g τ (0, 0) 0 (lv_args 0 As) []) : MR w y ws F L As τ K kd := by
  intro sz
  refine Met.ofW hy hw ?_
  intro p e s m args below meth c s₁ B hml hv
  obtain ⟨rfl, hsz, hP, hK, hj, hNF⟩ := hv
  subst hsz
  have hts := atoms_spec (ws := ws) B.pre
  have hown : s.vm.findClass own = some m.cls := by rw [← hcls]; exact findClass_of_methodNamed B.named
  have hR : RR w (p, e, ({ frames := F, cells := 0, slots := 0, locals := L } : Room), s, m, As.toArray, below, meth, c, MQ below (va_Qr (fun u : TS × Nat => K u.1 u.2 ∧ tp_is w u.2 kd) (fun u a t => a = w.1 u.2 ∧ tp_B w u.1 t) (tp_A w s.heap.size)) As.toArray s 0 0 (tp_A w s.heap.size), maxL) cc K kd := by
    intro τ2 pc ls j hdg hkd hKv
    exact fun H locs la hl hP2 hS => W.aret B.exec B.bytes B.returns (Or.inl ⟨_, rfl⟩) (Or.inr ⟨_, rfl⟩) (fun t ht hW => ⟨⟨(τ2, j), _, rfl, ⟨hKv, hkd⟩, rfl, by rw [ht]; exact hP2, va_K.moved hW.alike hK⟩, hS.F ht⟩) hS.2.2 hdg B.notSynchronized
  have hZ := body (p, e, ({ frames := F, cells := 0, slots := 0, locals := L } : Room), s, m, As.toArray, below, meth, c, MQ below (va_Qr (fun u : TS × Nat => K u.1 u.2 ∧ tp_is w u.2 kd) (fun u a t => a = w.1 u.2 ∧ tp_B w u.1 t) (tp_A w s.heap.size)) As.toArray s 0 0 (tp_A w s.heap.size), maxL) ⟨B.exec, B.bytes, hml, hown, hts, hK, hj, rfl, rfl, rfl, rfl, rfl, B.notSynchronized, hNF⟩ hR
  rw [lg_entry_eq]
  exact hZ s.heap [] _ (lv_entry As hle) hP va_S.rf
section CT
variable {w : WPar} {g : Cxt} {τ : TS} {k : Nat × Nat} {pc : Nat} {ls : List (Nat × Value)} {st : List Value} {cc : ByteArray} {own : String} {Ts : List Cond} {n F L Ce Sl : Nat} {y : MethodName} {ws ws2 : List Cond} {bytes : ByteArray} {maxL F1 L1 index : Nat} {As : List Value} {rt : Option FieldType}
theorem zv_i (C : Cok w g cc own Ts n F L Ce Sl) {Cn : String} {i ci N : Nat} {T : u_T} {fs : List Value} {K : TS → Int32 → Prop} (hM : MI w y ws F1 L1 (.ref (w.1 i) :: As) τ K) (hi : tp_ok w i) (hE : tp_E w i (τ i) = .inr (ci, fs)) (hc : vwCl[ci]? = some (Cn, T, N)) (nP : Nat) (hG : GoodIn Ts (wsV own index Cn y ws)) (hw : ws = Cond.code y bytes maxL (rt) :: ws2) (hd : y.cls = Cn ∧ y.cls ≠ "java/lang/invoke/MethodHandle" ∧ y.cls ≠ "java/lang/invoke/VarHandle" ∧ (parseMethodDescriptor y.desc).map (fun d => d.parameters.length) = some nP) (hR : F1 + 1 ≤ F ∧ 8 + (maxL + 11) + L1 ≤ L) (hn : As.length = nP) (hst : 0 + (st.map fun v => v.category).sum ≤ 8) (hk : k.1 ≤ Ce ∧ k.2 ≤ Sl) {st0 : List Value} (hs0 : st0 = As.reverse ++ .ref (w.1 i) :: st) (hdg : decode cc pc = .ok (.invokevirtual index, 3))
    (kk : ∀ (r : Int32) (τ2 : TS), K τ2 r → Zt w g τ2 k (pc + 3) ls (.int r :: st)) : Zt w g τ k pc ls st0 := by
  subst hs0
  obtain ⟨p, e, R, s, m, args, below, meth, c, Q, nL⟩ := g
  obtain ⟨hx, hb, hml, hown, hts, hK, hj, hnL, rF, rL, rC, rS, -, hNF⟩ := C
  subst rF rL rC rS hnL
  intro H locs la hl hP hS
  refine va_calli (va_runV (As := As) (rest := st) ⟨hx, hb, hml, hown, hts⟩ (hM H.size) (cwV nP hts hG hw rfl rfl hd hR) ⟨tp_blind, va_recv hK hP hc (q0 := i) (by rw [tp_at hi.1, hE]), fun U hU hW => ⟨rfl, by rw [hU], by rw [hU]; exact hP, va_K.moved hW.alike hK, hj, tp_NF.go hW hNF⟩⟩ rfl hn hl.1 rfl (by simpa using hst) hdg ⟨by simpa using hk.1, by simpa using hk.2⟩) hS (fun q hq h => tp_old q hq h) (fun q h => tp_same hS.1 q h) (fun r τ2 t H1 locs1 ht hvm hw2 hB hz1 hk1 hS1 => ?_)
  obtain ⟨hP1, hK1⟩ := hB
  rw [ht] at hP1
  exact kk r τ2 hw2 H1 locs1 la hl hP1 hS1
theorem zs_i (C : Cok w g cc own Ts n F L Ce Sl) {K : TS → Int32 → Prop} (hM : MI w y ws F1 L1 As τ K) (nP : Nat) (hG : GoodIn Ts (va_wsS own index y ws)) (hw : ws = Cond.code y bytes maxL (rt) :: ws2) (hd : y.cls ≠ "java/lang/invoke/MethodHandle" ∧ y.cls ≠ "java/lang/invoke/VarHandle" ∧ (parseMethodDescriptor y.desc).map (fun d => d.parameters.length) = some nP) (hR : F1 + 1 ≤ F ∧ 8 + (maxL + 11) + L1 ≤ L) (hn : As.length = nP) (hst : 0 + (st.map fun v => v.category).sum ≤ 8) (hk : k.1 ≤ Ce ∧ k.2 ≤ Sl) {st0 : List Value} (hs0 : st0 = As.reverse ++ st) (hdg : decode cc pc = .ok (.invokestatic index, 3))
    (kk : ∀ (r : Int32) (τ2 : TS), K τ2 r → Zt w g τ2 k (pc + 3) ls (.int r :: st)) : Zt w g τ k pc ls st0 := by
  subst hs0
  obtain ⟨p, e, R, s, m, args, below, meth, c, Q, nL⟩ := g
  obtain ⟨hx, hb, hml, hown, hts, hK, hj, hnL, rF, rL, rC, rS, -, hNF⟩ := C
  subst rF rL rC rS hnL
  intro H locs la hl hP hS
  refine va_calli (va_runS (As := As) (rest := st) ⟨hx, hb, hml, hown, hts⟩ (hM H.size) (va_cwS nP hts hG hw rfl rfl hd hR) ⟨tp_blind, fun U hU hW => ⟨rfl, by rw [hU], by rw [hU]; exact hP, va_K.moved hW.alike hK, hj, tp_NF.go hW hNF⟩⟩ rfl hn hl.1 rfl (by simpa using hst) hdg ⟨by simpa using hk.1, by simpa using hk.2⟩) hS (fun q hq h => tp_old q hq h) (fun q h => tp_same hS.1 q h) (fun r τ2 t H1 locs1 ht hvm hw2 hB hz1 hk1 hS1 => ?_)
  obtain ⟨hP1, hK1⟩ := hB
  rw [ht] at hP1
  exact kk r τ2 hw2 H1 locs1 la hl hP1 hS1
theorem zv_l (C : Cok w g cc own Ts n F L Ce Sl) {Cn : String} {i ci N : Nat} {T : u_T} {fs : List Value} {K : TS → Int64 → Prop} (hM : ML w y ws F1 L1 (.ref (w.1 i) :: As) τ K) (hi : tp_ok w i) (hE : tp_E w i (τ i) = .inr (ci, fs)) (hc : vwCl[ci]? = some (Cn, T, N)) (nP : Nat) (hG : GoodIn Ts (wsV own index Cn y ws)) (hw : ws = Cond.code y bytes maxL (some .long) :: ws2) (hd : y.cls = Cn ∧ y.cls ≠ "java/lang/invoke/MethodHandle" ∧ y.cls ≠ "java/lang/invoke/VarHandle" ∧ (parseMethodDescriptor y.desc).map (fun d => d.parameters.length) = some nP) (hR : F1 + 1 ≤ F ∧ 8 + (maxL + 11) + L1 ≤ L) (hn : As.length = nP) (hst : 0 + (st.map fun v => v.category).sum ≤ 8) (hk : k.1 ≤ Ce ∧ k.2 ≤ Sl) {st0 : List Value} (hs0 : st0 = As.reverse ++ .ref (w.1 i) :: st) (hdg : decode cc pc = .ok (.invokevirtual index, 3))
    (kk : ∀ (r : Int64) (τ2 : TS), K τ2 r → Zt w g τ2 k (pc + 3) ls (.long r :: st)) : Zt w g τ k pc ls st0 := by
  subst hs0
  obtain ⟨p, e, R, s, m, args, below, meth, c, Q, nL⟩ := g
  obtain ⟨hx, hb, hml, hown, hts, hK, hj, hnL, rF, rL, rC, rS, -, hNF⟩ := C
  subst rF rL rC rS hnL
  intro H locs la hl hP hS
  refine va_calll (va_runV (As := As) (rest := st) ⟨hx, hb, hml, hown, hts⟩ (hM H.size) (cwV nP hts hG hw rfl rfl hd hR) ⟨tp_blind, va_recv hK hP hc (q0 := i) (by rw [tp_at hi.1, hE]), fun U hU hW => ⟨rfl, by rw [hU], by rw [hU]; exact hP, va_K.moved hW.alike hK, hj, tp_NF.go hW hNF⟩⟩ rfl hn hl.1 rfl (by simpa using hst) hdg ⟨by simpa using hk.1, by simpa using hk.2⟩) hS (fun q hq h => tp_old q hq h) (fun q h => tp_same hS.1 q h) (fun r τ2 t H1 locs1 ht hvm hw2 hB hz1 hk1 hS1 => ?_)
  obtain ⟨hP1, hK1⟩ := hB
  rw [ht] at hP1
  exact kk r τ2 hw2 H1 locs1 la hl hP1 hS1
theorem zs_l (C : Cok w g cc own Ts n F L Ce Sl) {K : TS → Int64 → Prop} (hM : ML w y ws F1 L1 As τ K) (nP : Nat) (hG : GoodIn Ts (va_wsS own index y ws)) (hw : ws = Cond.code y bytes maxL (some .long) :: ws2) (hd : y.cls ≠ "java/lang/invoke/MethodHandle" ∧ y.cls ≠ "java/lang/invoke/VarHandle" ∧ (parseMethodDescriptor y.desc).map (fun d => d.parameters.length) = some nP) (hR : F1 + 1 ≤ F ∧ 8 + (maxL + 11) + L1 ≤ L) (hn : As.length = nP) (hst : 0 + (st.map fun v => v.category).sum ≤ 8) (hk : k.1 ≤ Ce ∧ k.2 ≤ Sl) {st0 : List Value} (hs0 : st0 = As.reverse ++ st) (hdg : decode cc pc = .ok (.invokestatic index, 3))
    (kk : ∀ (r : Int64) (τ2 : TS), K τ2 r → Zt w g τ2 k (pc + 3) ls (.long r :: st)) : Zt w g τ k pc ls st0 := by
  subst hs0
  obtain ⟨p, e, R, s, m, args, below, meth, c, Q, nL⟩ := g
  obtain ⟨hx, hb, hml, hown, hts, hK, hj, hnL, rF, rL, rC, rS, -, hNF⟩ := C
  subst rF rL rC rS hnL
  intro H locs la hl hP hS
  refine va_calll (va_runS (As := As) (rest := st) ⟨hx, hb, hml, hown, hts⟩ (hM H.size) (va_cwS nP hts hG hw rfl rfl hd hR) ⟨tp_blind, fun U hU hW => ⟨rfl, by rw [hU], by rw [hU]; exact hP, va_K.moved hW.alike hK, hj, tp_NF.go hW hNF⟩⟩ rfl hn hl.1 rfl (by simpa using hst) hdg ⟨by simpa using hk.1, by simpa using hk.2⟩) hS (fun q hq h => tp_old q hq h) (fun q h => tp_same hS.1 q h) (fun r τ2 t H1 locs1 ht hvm hw2 hB hz1 hk1 hS1 => ?_)
  obtain ⟨hP1, hK1⟩ := hB
  rw [ht] at hP1
  exact kk r τ2 hw2 H1 locs1 la hl hP1 hS1
theorem zv_d (C : Cok w g cc own Ts n F L Ce Sl) {Cn : String} {i ci N : Nat} {T : u_T} {fs : List Value} {K : TS → UInt64 → Prop} (hM : MD w y ws F1 L1 (.ref (w.1 i) :: As) τ K) (hi : tp_ok w i) (hE : tp_E w i (τ i) = .inr (ci, fs)) (hc : vwCl[ci]? = some (Cn, T, N)) (nP : Nat) (hG : GoodIn Ts (wsV own index Cn y ws)) (hw : ws = Cond.code y bytes maxL (some .double) :: ws2) (hd : y.cls = Cn ∧ y.cls ≠ "java/lang/invoke/MethodHandle" ∧ y.cls ≠ "java/lang/invoke/VarHandle" ∧ (parseMethodDescriptor y.desc).map (fun d => d.parameters.length) = some nP) (hR : F1 + 1 ≤ F ∧ 8 + (maxL + 11) + L1 ≤ L) (hn : As.length = nP) (hst : 0 + (st.map fun v => v.category).sum ≤ 8) (hk : k.1 ≤ Ce ∧ k.2 ≤ Sl) {st0 : List Value} (hs0 : st0 = As.reverse ++ .ref (w.1 i) :: st) (hdg : decode cc pc = .ok (.invokevirtual index, 3))
    (kk : ∀ (r : UInt64) (τ2 : TS), K τ2 r → Zt w g τ2 k (pc + 3) ls (.double r :: st)) : Zt w g τ k pc ls st0 := by
  subst hs0
  obtain ⟨p, e, R, s, m, args, below, meth, c, Q, nL⟩ := g
  obtain ⟨hx, hb, hml, hown, hts, hK, hj, hnL, rF, rL, rC, rS, -, hNF⟩ := C
  subst rF rL rC rS hnL
  intro H locs la hl hP hS
  refine va_calld (va_runV (As := As) (rest := st) ⟨hx, hb, hml, hown, hts⟩ (hM H.size) (cwV nP hts hG hw rfl rfl hd hR) ⟨tp_blind, va_recv hK hP hc (q0 := i) (by rw [tp_at hi.1, hE]), fun U hU hW => ⟨rfl, by rw [hU], by rw [hU]; exact hP, va_K.moved hW.alike hK, hj, tp_NF.go hW hNF⟩⟩ rfl hn hl.1 rfl (by simpa using hst) hdg ⟨by simpa using hk.1, by simpa using hk.2⟩) hS (fun q hq h => tp_old q hq h) (fun q h => tp_same hS.1 q h) (fun r τ2 t H1 locs1 ht hvm hw2 hB hz1 hk1 hS1 => ?_)
  obtain ⟨hP1, hK1⟩ := hB
  rw [ht] at hP1
  exact kk r τ2 hw2 H1 locs1 la hl hP1 hS1
theorem zs_d (C : Cok w g cc own Ts n F L Ce Sl) {K : TS → UInt64 → Prop} (hM : MD w y ws F1 L1 As τ K) (nP : Nat) (hG : GoodIn Ts (va_wsS own index y ws)) (hw : ws = Cond.code y bytes maxL (some .double) :: ws2) (hd : y.cls ≠ "java/lang/invoke/MethodHandle" ∧ y.cls ≠ "java/lang/invoke/VarHandle" ∧ (parseMethodDescriptor y.desc).map (fun d => d.parameters.length) = some nP) (hR : F1 + 1 ≤ F ∧ 8 + (maxL + 11) + L1 ≤ L) (hn : As.length = nP) (hst : 0 + (st.map fun v => v.category).sum ≤ 8) (hk : k.1 ≤ Ce ∧ k.2 ≤ Sl) {st0 : List Value} (hs0 : st0 = As.reverse ++ st) (hdg : decode cc pc = .ok (.invokestatic index, 3))
    (kk : ∀ (r : UInt64) (τ2 : TS), K τ2 r → Zt w g τ2 k (pc + 3) ls (.double r :: st)) : Zt w g τ k pc ls st0 := by
  subst hs0
  obtain ⟨p, e, R, s, m, args, below, meth, c, Q, nL⟩ := g
  obtain ⟨hx, hb, hml, hown, hts, hK, hj, hnL, rF, rL, rC, rS, -, hNF⟩ := C
  subst rF rL rC rS hnL
  intro H locs la hl hP hS
  refine va_calld (va_runS (As := As) (rest := st) ⟨hx, hb, hml, hown, hts⟩ (hM H.size) (va_cwS nP hts hG hw rfl rfl hd hR) ⟨tp_blind, fun U hU hW => ⟨rfl, by rw [hU], by rw [hU]; exact hP, va_K.moved hW.alike hK, hj, tp_NF.go hW hNF⟩⟩ rfl hn hl.1 rfl (by simpa using hst) hdg ⟨by simpa using hk.1, by simpa using hk.2⟩) hS (fun q hq h => tp_old q hq h) (fun q h => tp_same hS.1 q h) (fun r τ2 t H1 locs1 ht hvm hw2 hB hz1 hk1 hS1 => ?_)
  obtain ⟨hP1, hK1⟩ := hB
  rw [ht] at hP1
  exact kk r τ2 hw2 H1 locs1 la hl hP1 hS1
theorem zv_v (C : Cok w g cc own Ts n F L Ce Sl) {Cn : String} {i ci N : Nat} {T : u_T} {fs : List Value} {K : TS → Prop} (hM : MV w y ws F1 L1 (.ref (w.1 i) :: As) τ K) (hi : tp_ok w i) (hE : tp_E w i (τ i) = .inr (ci, fs)) (hc : vwCl[ci]? = some (Cn, T, N)) (nP : Nat) (hG : GoodIn Ts (wsV own index Cn y ws)) (hw : ws = Cond.code y bytes maxL (none) :: ws2) (hd : y.cls = Cn ∧ y.cls ≠ "java/lang/invoke/MethodHandle" ∧ y.cls ≠ "java/lang/invoke/VarHandle" ∧ (parseMethodDescriptor y.desc).map (fun d => d.parameters.length) = some nP) (hR : F1 + 1 ≤ F ∧ 8 + (maxL + 11) + L1 ≤ L) (hn : As.length = nP) (hst : 0 + (st.map fun v => v.category).sum ≤ 8) (hk : k.1 ≤ Ce ∧ k.2 ≤ Sl) {st0 : List Value} (hs0 : st0 = As.reverse ++ .ref (w.1 i) :: st) (hdg : decode cc pc = .ok (.invokevirtual index, 3))
    (kk : ∀ (τ2 : TS), K τ2 → Zt w g τ2 k (pc + 3) ls st) : Zt w g τ k pc ls st0 := by
  subst hs0
  obtain ⟨p, e, R, s, m, args, below, meth, c, Q, nL⟩ := g
  obtain ⟨hx, hb, hml, hown, hts, hK, hj, hnL, rF, rL, rC, rS, -, hNF⟩ := C
  subst rF rL rC rS hnL
  intro H locs la hl hP hS
  refine va_callv (va_runV (As := As) (rest := st) ⟨hx, hb, hml, hown, hts⟩ (hM H.size) (cwV nP hts hG hw rfl rfl hd hR) ⟨tp_blind, va_recv hK hP hc (q0 := i) (by rw [tp_at hi.1, hE]), fun U hU hW => ⟨rfl, by rw [hU], by rw [hU]; exact hP, va_K.moved hW.alike hK, hj, tp_NF.go hW hNF⟩⟩ rfl hn hl.1 rfl (by simpa using hst) hdg ⟨by simpa using hk.1, by simpa using hk.2⟩) hS (fun q hq h => tp_old q hq h) (fun q h => tp_same hS.1 q h) (fun τ2 t H1 locs1 ht hvm hw2 hB hz1 hk1 hS1 => ?_)
  obtain ⟨hP1, hK1⟩ := hB
  rw [ht] at hP1
  exact kk τ2 hw2 H1 locs1 la hl hP1 hS1
theorem zs_v (C : Cok w g cc own Ts n F L Ce Sl) {K : TS → Prop} (hM : MV w y ws F1 L1 As τ K) (nP : Nat) (hG : GoodIn Ts (va_wsS own index y ws)) (hw : ws = Cond.code y bytes maxL (none) :: ws2) (hd : y.cls ≠ "java/lang/invoke/MethodHandle" ∧ y.cls ≠ "java/lang/invoke/VarHandle" ∧ (parseMethodDescriptor y.desc).map (fun d => d.parameters.length) = some nP) (hR : F1 + 1 ≤ F ∧ 8 + (maxL + 11) + L1 ≤ L) (hn : As.length = nP) (hst : 0 + (st.map fun v => v.category).sum ≤ 8) (hk : k.1 ≤ Ce ∧ k.2 ≤ Sl) {st0 : List Value} (hs0 : st0 = As.reverse ++ st) (hdg : decode cc pc = .ok (.invokestatic index, 3))
    (kk : ∀ (τ2 : TS), K τ2 → Zt w g τ2 k (pc + 3) ls st) : Zt w g τ k pc ls st0 := by
  subst hs0
  obtain ⟨p, e, R, s, m, args, below, meth, c, Q, nL⟩ := g
  obtain ⟨hx, hb, hml, hown, hts, hK, hj, hnL, rF, rL, rC, rS, -, hNF⟩ := C
  subst rF rL rC rS hnL
  intro H locs la hl hP hS
  refine va_callv (va_runS (As := As) (rest := st) ⟨hx, hb, hml, hown, hts⟩ (hM H.size) (va_cwS nP hts hG hw rfl rfl hd hR) ⟨tp_blind, fun U hU hW => ⟨rfl, by rw [hU], by rw [hU]; exact hP, va_K.moved hW.alike hK, hj, tp_NF.go hW hNF⟩⟩ rfl hn hl.1 rfl (by simpa using hst) hdg ⟨by simpa using hk.1, by simpa using hk.2⟩) hS (fun q hq h => tp_old q hq h) (fun q h => tp_same hS.1 q h) (fun τ2 t H1 locs1 ht hvm hw2 hB hz1 hk1 hS1 => ?_)
  obtain ⟨hP1, hK1⟩ := hB
  rw [ht] at hP1
  exact kk τ2 hw2 H1 locs1 la hl hP1 hS1
theorem zv_r (C : Cok w g cc own Ts n F L Ce Sl) {Cn : String} {i ci N kd : Nat} {T : u_T} {fs : List Value} {K : TS → Nat → Prop} (hM : MR w y ws F1 L1 (.ref (w.1 i) :: As) τ K kd) (hi : tp_ok w i) (hE : tp_E w i (τ i) = .inr (ci, fs)) (hc : vwCl[ci]? = some (Cn, T, N)) (nP : Nat) (hG : GoodIn Ts (wsV own index Cn y ws)) (hw : ws = Cond.code y bytes maxL rt :: ws2) (hd : y.cls = Cn ∧ y.cls ≠ "java/lang/invoke/MethodHandle" ∧ y.cls ≠ "java/lang/invoke/VarHandle" ∧ (parseMethodDescriptor y.desc).map (fun d => d.parameters.length) = some nP) (hR : F1 + 1 ≤ F ∧ 8 + (maxL + 11) + L1 ≤ L) (hn : As.length = nP) (hst : 0 + (st.map fun v => v.category).sum ≤ 8) (hk : k.1 ≤ Ce ∧ k.2 ≤ Sl) {st0 : List Value} (hs0 : st0 = As.reverse ++ .ref (w.1 i) :: st) (hdg : decode cc pc = .ok (.invokevirtual index, 3))
    (kk : ∀ (τ2 : TS) (j : Nat), K τ2 j → tp_is w j kd → Zt w g τ2 k (pc + 3) ls (.ref (w.1 j) :: st)) : Zt w g τ k pc ls st0 := by
  subst hs0
  obtain ⟨p, e, R, s, m, args, below, meth, c, Q, nL⟩ := g
  obtain ⟨hx, hb, hml, hown, hts, hK, hj, hnL, rF, rL, rC, rS, -, hNF⟩ := C
  subst rF rL rC rS hnL
  intro H locs la hl hP hS
  refine va_callr (va_runV (As := As) (rest := st) ⟨hx, hb, hml, hown, hts⟩ (hM H.size) (cwV nP hts hG hw rfl rfl hd hR) ⟨tp_blind, va_recv hK hP hc (q0 := i) (by rw [tp_at hi.1, hE]), fun U hU hW => ⟨rfl, by rw [hU], by rw [hU]; exact hP, va_K.moved hW.alike hK, hj, tp_NF.go hW hNF⟩⟩ rfl hn hl.1 rfl (by simpa using hst) hdg ⟨by simpa using hk.1, by simpa using hk.2⟩) hS (fun q hq h => tp_old q hq h) (fun q h => tp_same hS.1 q h) (fun u ra t H1 locs1 ht hvm hw2 hB hz1 hk1 hS1 => ?_)
  obtain ⟨τ2, j⟩ := u
  obtain ⟨rfl, hP1, hK1⟩ := hB
  rw [ht] at hP1
  exact kk τ2 j hw2.1 hw2.2 H1 locs1 la hl hP1 hS1
end CT
