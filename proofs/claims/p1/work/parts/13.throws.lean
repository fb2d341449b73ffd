def tp_exn (cd : Nat) : String := match cd with
  | 0 => "java/lang/IndexOutOfBoundsException"
  | 1 => "java/lang/IllegalArgumentException"
  | _ => "java/lang/IllegalStateException"
abbrev tp_sup : List String := ["java/lang/RuntimeException", "java/lang/Exception"]
abbrev tp_decl : List Cond := [Cond.declares (Bundle.initS "java/lang/RuntimeException"), Cond.declares (Bundle.initS "java/lang/Exception"), Cond.declares (Bundle.initS Bundle.tN)]
def tp_strs : List (Nat × String) := [(304, "a number out of its range"), (39, "there are 8 nodes"), (308, "no such way"), (54, "both ends are the same"), (97, "caller and callee are the same"), (299, "no such node"), (302, "no such link"), (310, "no such connection"), (306, "it is closed, broken, or was told to close"), (148, "there is none to be read"), (121, "more than 200 pieces"), (102, "there are 6 connections"), (68, "there are 12 links, or one is between these nodes")]
/-- what a throw rests on: two statics of Throwable's, three casts, the texts -/
def tp_X (w : WPar) (sz : Nat) (U : State) (H : Heap) : Prop := vx_Zq Bundle.tN "UNASSIGNED_STACK" Bundle.steD (tp_A w sz) U H ∧ vx_Zq Bundle.tN "SUPPRESSED_SENTINEL" Bundle.listD (tp_A w sz) U H ∧ (∀ cd, va_Nw (.castable (tp_exn cd) (tp_exn cd)) U) ∧ (va_Nw (Cond.declares (Bundle.initS "java/lang/RuntimeException")) U ∧ va_Nw (Cond.declares (Bundle.initS "java/lang/Exception")) U ∧ va_Nw (Cond.declares (Bundle.initS Bundle.tN)) U) ∧ ∀ x ∈ tp_strs, ∃ sa, vk_R RX8 x.1 x.2 sa U
theorem tp_X.go {w : WPar} {s U : State} {H : Heap} {locs : List Loc} (h : tp_X w s.heap.size s s.heap) (hS : va_S (tp_A w s.heap.size) s.heap H locs) (hU : U.heap = H) (hW : s.WarmedH U.vm) : tp_X w H.size U U.heap := by
  obtain ⟨h1, h2, h3, ⟨h7, h8, h9⟩, h4⟩ := h
  refine ⟨?_, ?_, fun cd => va_Nw.warmC hW (h3 cd), ⟨va_Nw.warmD hW h7, va_Nw.warmD hW h8, va_Nw.warmD hW h9⟩, fun x hx => ?_⟩
  · rw [hU]
    exact ((h1.kept (fun a ha hA => hS.2.1 a ha hA)).narrow (fun q hq => tp_same hS.1 q hq)).moved hW.alike
  · rw [hU]
    exact ((h2.kept (fun a ha hA => hS.2.1 a ha hA)).narrow (fun q hq => tp_same hS.1 q hq)).moved hW.alike
  · obtain ⟨sa, h5⟩ := h4 x hx
    exact ⟨sa, vk_R.warm hW h5⟩
def tp_PreX (w : WPar) (τ : TS) (sz : Nat) : State → Prop := fun U => tp_Pre w τ sz U ∧ tp_X w sz U U.heap
theorem tp_blindX {w : WPar} {τ : TS} {sz : Nat} {As : List Value} : FrameBlind (va_Pc As (tp_PreX w τ sz)) := fun a U g mk q => by
  obtain ⟨q0, ⟨q1, q2, q3, q4, q12⟩, q5, q6, q7, ⟨q9, q10, q11⟩, q8⟩ := q
  exact ⟨q0, ⟨q1, q2, va_K.moved (u := U) (U := U.calling g mk a) (Vm.Alike.refl U.vm) q3, q4, q12.blind⟩, vx_Zq.moved (u := U) (U := U.calling g mk a) (Vm.Alike.refl U.vm) q5, vx_Zq.moved (u := U) (U := U.calling g mk a) (Vm.Alike.refl U.vm) q6, fun cd => va_tabs rfl (rfl : U.vm = (U.calling g mk a).vm) (q7 cd), ⟨va_tabs rfl (rfl : U.vm = (U.calling g mk a).vm) q9, va_tabs rfl (rfl : U.vm = (U.calling g mk a).vm) q10, va_tabs rfl (rfl : U.vm = (U.calling g mk a).vm) q11⟩, fun x hx => by
    obtain ⟨sa, h⟩ := q8 x hx
    exact ⟨sa, vk_R.same rfl h⟩⟩
abbrev tp_XC (w : WPar) (X : TS → Nat → Prop) (sz : Nat) : String → State → State → Prop := vx_X (fun u : TS × Nat => X u.1 u.2) (fun E u t => E = tp_exn u.2 ∧ tp_B w u.1 t) (tp_A w sz)
def XI (w : WPar) (y : MethodName) (ws : List Cond) (F L mc ms : Nat) (As : List Value) (τ : TS) (K : TS → Int32 → Prop) (X : TS → Nat → Prop) : Prop := ∀ sz, vx_Met w.2.1 y ws { frames := F, cells := mc, slots := ms, locals := L } (va_Pc As (tp_PreX w τ sz)) (va_Qi (fun r τ2 => K τ2 r) (tp_B w) (tp_A w sz)) (tp_XC w X sz) mc ms (tp_A w sz)
def XV (w : WPar) (y : MethodName) (ws : List Cond) (F L mc ms : Nat) (As : List Value) (τ : TS) (K : TS → Prop) (X : TS → Nat → Prop) : Prop := ∀ sz, vx_Met w.2.1 y ws { frames := F, cells := mc, slots := ms, locals := L } (va_Pc As (tp_PreX w τ sz)) (va_Qv K (tp_B w) (tp_A w sz)) (tp_XC w X sz) mc ms (tp_A w sz)
def XR (w : WPar) (y : MethodName) (ws : List Cond) (F L mc ms : Nat) (As : List Value) (τ : TS) (K : TS → Nat → Prop) (X : TS → Nat → Prop) (kd : Nat) : Prop := ∀ sz, vx_Met w.2.1 y ws { frames := F, cells := mc, slots := ms, locals := L } (va_Pc As (tp_PreX w τ sz)) (va_Qr (fun u : TS × Nat => K u.1 u.2 ∧ tp_is w u.2 kd) (fun u a t => a = w.1 u.2 ∧ tp_B w u.1 t) (tp_A w sz)) (tp_XC w X sz) mc ms (tp_A w sz)
/-- something was thrown at pc -/
def Zx (w : WPar) (g : Cxt) (τ : TS) (k : Nat × Nat) (pc : Nat) (ls : List (Nat × Value)) (E : String) : Prop := match g with
  | (p, e, R, s, m, args, below, meth, c, Q, nL) => ∀ (H : Heap) (locs : List Loc) (la : Array Slot) (rest : List Value) (q : Addr) (ce : Cell), lv_has la nL ls → va_P (tp_D w) vwCl (tp_W w τ) H → va_S (tp_A w s.heap.size) s.heap H locs → H[q]? = some ce → ce.vm = .none → s.vm.findClass E = some ce.cls → vx_W p w.2.1 e R s m args below meth c H locs k.1 k.2 Q (F0 m pc la rest) q
def CX (w : WPar) (g : Cxt) : Prop := match g with
  | (_, _, _, s, _, _, _, _, _, _, _) => tp_X w s.heap.size s s.heap ∧ w.2.1.stackTraces = false
def RXI (w : WPar) (g : Cxt) (cc : ByteArray) (mc ms : Nat) (K : TS → Int32 → Prop) : Prop := ∀ (τ : TS) (pc : Nat) (ls : List (Nat × Value)) (v : Int32), decode cc pc = .ok (.ireturn, 1) → K τ v → Zt w g τ (mc, ms) pc ls [.int v]
def RXZ (w : WPar) (g : Cxt) (cc : ByteArray) (mc ms : Nat) (K : TS → Int32 → Prop) : Prop := ∀ (τ : TS) (pc : Nat) (ls : List (Nat × Value)) (v : Int32), decode cc pc = .ok (.ireturn, 1) → narrow .boolean (.int v) = .int v → K τ v → Zt w g τ (mc, ms) pc ls [.int v]
def RXV (w : WPar) (g : Cxt) (cc : ByteArray) (mc ms : Nat) (K : TS → Prop) : Prop := ∀ (τ : TS) (pc : Nat) (ls : List (Nat × Value)), decode cc pc = .ok (.return_, 1) → K τ → Zt w g τ (mc, ms) pc ls []
def RXR (w : WPar) (g : Cxt) (cc : ByteArray) (mc ms : Nat) (K : TS → Nat → Prop) (kd : Nat) : Prop := ∀ (τ : TS) (pc : Nat) (ls : List (Nat × Value)) (j : Nat), decode cc pc = .ok (.areturn, 1) → tp_is w j kd → K τ j → Zt w g τ (mc, ms) pc ls [.ref (w.1 j)]
/-- not caught: it goes on to the caller -/
def RXX (w : WPar) (g : Cxt) (mc ms : Nat) (X : TS → Nat → Prop) : Prop := ∀ (τ : TS) (k : Nat × Nat) (pc : Nat) (ls : List (Nat × Value)) (cd : Nat), k.1 ≤ mc → k.2 ≤ ms → X τ cd → Zx w g τ k pc ls (tp_exn cd)
def tp_tw (own : String) (ik ic cd : Nat) : List Cond := Cond.classLink own ik (tp_exn cd) :: Cond.initialized (tp_exn cd) :: vx_atS own ic (tp_exn cd) tp_sup
/-- throw new E(text) -/
def RXT (w : WPar) (g : Cxt) (cc : ByteArray) (Ts : List Cond) (F L mc ms : Nat) (X : TS → Nat → Prop) : Prop := ∀ (τ : TS) (k : Nat × Nat) (pc : Nat) (ls : List (Nat × Value)) (st : List Value) (ik is ic cd : Nat) (text : String), Cond.classLink RX8 ik (tp_exn cd) ∈ Ts → Cond.initialized (tp_exn cd) ∈ Ts → (∀ x ∈ (vx_atS RX8 ic (tp_exn cd) tp_sup).filter goodWord, x ∈ Ts) → (is, text) ∈ tp_strs → (∀ x ∈ tp_tw RX8 ik ic cd, vx_ot x = true) → (∀ x ∈ (vx_atS RX8 ic (tp_exn cd) tp_sup).filter (fun x => !goodWord x), x ∈ Cond.castable (tp_exn cd) (tp_exn cd) :: tp_decl) → Bundle.fit (tp_exn cd) = true →
  (decode cc pc = .ok (.new ik, 3) ∧ decode cc (pc + 3) = .ok (.dup, 1)) → ((decode cc (pc + 4) = .ok (.ldc_w is, 3) ∧ decode cc (pc + 7) = .ok (.invokespecial ic, 3) ∧ decode cc (pc + 10) = .ok (.athrow, 1)) ∨ (decode cc (pc + 4) = .ok (.ldc is, 2) ∧ decode cc (pc + 6) = .ok (.invokespecial ic, 3) ∧ decode cc (pc + 9) = .ok (.athrow, 1))) → 5 < F → (st.map fun v => v.category).sum + 82 ≤ L → k.1 + 1 ≤ mc → k.2 + 6 ≤ ms → X τ cd → Zt w g τ k pc ls st
theorem tp_enterXI {w : WPar} {y : MethodName} {ws ws2 : List Cond} {cc : ByteArray} {maxL F L mc ms : Nat} {As : List Value} {τ : TS} {K : TS → Int32 → Prop} {X : TS → Nat → Prop} (hl : w.2.1.stackTraces = false) (hy : plainName y.cls = true) (hcls : y.cls = RX8) (hw : ws = Cond.code y cc maxL (some .int) :: ws2) (hle : (lg_sl As).length ≤ maxL)
    (body : ∀ g : Cxt, Cok w g cc RX8 ws maxL F L mc ms → CX w g → RXI w g cc mc ms K → RXX w g mc ms X → RXT w g cc ws F L mc ms X → Zt w g τ (0, 0) 0 (lv_args 0 As) []) : XI w y ws F L mc ms As τ K X := by
  intro sz
  refine vx_ofW hy hw ?_
  intro p e s m args below meth c s₁ B hml hE hv
  obtain ⟨rfl, ⟨hsz, hP, hK, hj, hNF⟩, hXs⟩ := hv
  subst hsz
  have hts := atoms_spec (ws := ws) B.pre
  have hown : s.vm.findClass RX8 = some m.cls := by rw [← hcls]; exact findClass_of_methodNamed B.named
  have hlocks := B.notSynchronized
  generalize hQ : vx_MQ below (va_Qi (fun r τ2 => K τ2 r) (tp_B w) (tp_A w s.heap.size)) (tp_XC w X s.heap.size) As.toArray s mc ms (tp_A w s.heap.size) = Q
  generalize hg0 : ((p, e, ({ frames := F, cells := mc, slots := ms, locals := L } : Room), s, m, As.toArray, below, meth, c, Q, maxL) : Cxt) = g
  have hC : Cok w g cc RX8 ws maxL F L mc ms := by rw [← hg0]; exact ⟨B.exec, B.bytes, hml, hown, hts, hK, hj, rfl, rfl, rfl, rfl, rfl, hlocks, hNF⟩
  have hCX : CX w g := by rw [← hg0]; exact ⟨hXs, hl⟩
  have hR : RXI w g cc mc ms K := by
    rw [← hg0]
    intro τ2 pc ls v hdg hKv
    exact fun H locs la hl2 hP2 hS => by
      rw [← hQ]
      exact vx_ret (W.iret B.exec B.bytes B.returns (fun t ht hW => ⟨⟨v, τ2, rfl, hKv, by rw [ht]; exact hP2, va_K.moved hW.alike hK⟩, hS.F ht⟩) hS.2.2 hdg)
  have hRX : RXX w g mc ms X := by
    rw [← hg0]
    intro τ2 k pc ls cd hk1 hk2 hX2
    exact fun H locs la rest q ce hl2 hP2 hS hq hv hcl => by
      rw [← hQ]
      exact vx_out (fun x hx => (hE x hx).elim) hlocks hq hv hcl (fun t ht hA => ⟨(τ2, cd), hX2, ⟨rfl, by rw [ht]; exact hP2, va_K.moved hA hK⟩, hS.F ht⟩) hS.2.2 hk1 hk2
  have hRT : RXT w g cc ws F L mc ms X := by
    rw [← hg0]
    intro τ2 k pc ls st ik is ic cd text t1 t2 t3 t4 t5 t6 t7 d1 d2 hF hL hk1 hk2 hX2
    obtain ⟨sa, hsa⟩ := hXs.2.2.2.2 _ t4
    have hat : ∀ x ∈ vx_atS RX8 ic (tp_exn cd) tp_sup, x.before As.toArray s = true := vx_hat (fun x hx => hts _ (t3 x hx)) t6 (vx_c (va_tabs rfl rfl (hXs.2.2.1 cd)) (vx_c (va_tabs rfl rfl hXs.2.2.2.1.1) (vx_c (va_tabs rfl rfl hXs.2.2.2.1.2.1) (vx_c (va_tabs rfl rfl hXs.2.2.2.1.2.2) vx_n))))
    exact fun H locs la hl2 hP2 hS => by
      rw [← hQ]
      have hx : ∀ t : State, s.vm.Alike t.vm → H.size ≤ t.heap.size → (∀ q : Nat, q < H.size → t.heap[q]? = H[q]?) → tp_XC w X s.heap.size (tp_exn cd) s t := fun t hA hz hq => ⟨(τ2, cd), hX2, ⟨rfl, hP2.kept (fun k9 x hx => hq x.1 ((hP2 k9 x hx).lt)), va_K.moved hA hK⟩, Nat.le_trans hS.1 hz, fun q h1 h2 => (hq q (Nat.lt_of_lt_of_le h1 hS.1)).trans (hS.2.1 q h1 h2)⟩
      rcases d2 with ⟨d4, d7, d10⟩ | ⟨d4, d6, d9⟩
      · exact vx_throwSW (names := tp_sup) (text := text) (sa := sa) B.exec B.bytes hl hown t7 (by decide +kernel) (hts _ t1) (hts _ t2) hsa hat t5 hXs.1 hXs.2.1 hS (by rw [hml]; exact hl2.1) d1.1 d1.2 d4 d7 d10 (fun x hx2 => (hE x hx2).elim) hF hL (Nat.le_trans hk1 (Nat.le_refl _)) hk2 hlocks hx hS.2.2 hk1 hk2
      · exact vx_throwS (names := tp_sup) (text := text) (sa := sa) B.exec B.bytes hl hown t7 (by decide +kernel) (hts _ t1) (hts _ t2) hsa hat t5 hXs.1 hXs.2.1 hS (by rw [hml]; exact hl2.1) d1.1 d1.2 d4 d6 d9 (fun x hx2 => (hE x hx2).elim) hF hL (Nat.le_trans hk1 (Nat.le_refl _)) hk2 hlocks hx hS.2.2 hk1 hk2
  have hZ := body g hC hCX hR hRX hRT
  rw [← hg0] at hZ
  rw [lg_entry_eq]
  exact hZ s.heap [] _ (lv_entry As hle) hP va_S.rf
theorem tp_enterXZ {w : WPar} {y : MethodName} {ws ws2 : List Cond} {cc : ByteArray} {maxL F L mc ms : Nat} {As : List Value} {τ : TS} {K : TS → Int32 → Prop} {X : TS → Nat → Prop} (hl : w.2.1.stackTraces = false) (hy : plainName y.cls = true) (hcls : y.cls = RX8) (hw : ws = Cond.code y cc maxL (some .boolean) :: ws2) (hle : (lg_sl As).length ≤ maxL)
    (body : ∀ g : Cxt, Cok w g cc RX8 ws maxL F L mc ms → CX w g → RXZ w g cc mc ms K → RXX w g mc ms X → RXT w g cc ws F L mc ms X → Zt w g τ (0, 0) 0 (lv_args 0 As) []) : XI w y ws F L mc ms As τ K X := by
  intro sz
  refine vx_ofW hy hw ?_
  intro p e s m args below meth c s₁ B hml hE hv
  obtain ⟨rfl, ⟨hsz, hP, hK, hj, hNF⟩, hXs⟩ := hv
  subst hsz
  have hts := atoms_spec (ws := ws) B.pre
  have hown : s.vm.findClass RX8 = some m.cls := by rw [← hcls]; exact findClass_of_methodNamed B.named
  have hlocks := B.notSynchronized
  generalize hQ : vx_MQ below (va_Qi (fun r τ2 => K τ2 r) (tp_B w) (tp_A w s.heap.size)) (tp_XC w X s.heap.size) As.toArray s mc ms (tp_A w s.heap.size) = Q
  generalize hg0 : ((p, e, ({ frames := F, cells := mc, slots := ms, locals := L } : Room), s, m, As.toArray, below, meth, c, Q, maxL) : Cxt) = g
  have hC : Cok w g cc RX8 ws maxL F L mc ms := by rw [← hg0]; exact ⟨B.exec, B.bytes, hml, hown, hts, hK, hj, rfl, rfl, rfl, rfl, rfl, hlocks, hNF⟩
  have hCX : CX w g := by rw [← hg0]; exact ⟨hXs, hl⟩
  have hR : RXZ w g cc mc ms K := by
    rw [← hg0]
    intro τ2 pc ls v hdg hnar hKv
    exact fun H locs la hl2 hP2 hS => by
      rw [← hQ]
      exact vx_ret (W.zret B.exec B.bytes B.returns hnar (fun t ht hW => ⟨⟨v, τ2, rfl, hKv, by rw [ht]; exact hP2, va_K.moved hW.alike hK⟩, hS.F ht⟩) hS.2.2 hdg)
  have hRX : RXX w g mc ms X := by
    rw [← hg0]
    intro τ2 k pc ls cd hk1 hk2 hX2
    exact fun H locs la rest q ce hl2 hP2 hS hq hv hcl => by
      rw [← hQ]
      exact vx_out (fun x hx => (hE x hx).elim) hlocks hq hv hcl (fun t ht hA => ⟨(τ2, cd), hX2, ⟨rfl, by rw [ht]; exact hP2, va_K.moved hA hK⟩, hS.F ht⟩) hS.2.2 hk1 hk2
  have hRT : RXT w g cc ws F L mc ms X := by
    rw [← hg0]
    intro τ2 k pc ls st ik is ic cd text t1 t2 t3 t4 t5 t6 t7 d1 d2 hF hL hk1 hk2 hX2
    obtain ⟨sa, hsa⟩ := hXs.2.2.2.2 _ t4
    have hat : ∀ x ∈ vx_atS RX8 ic (tp_exn cd) tp_sup, x.before As.toArray s = true := vx_hat (fun x hx => hts _ (t3 x hx)) t6 (vx_c (va_tabs rfl rfl (hXs.2.2.1 cd)) (vx_c (va_tabs rfl rfl hXs.2.2.2.1.1) (vx_c (va_tabs rfl rfl hXs.2.2.2.1.2.1) (vx_c (va_tabs rfl rfl hXs.2.2.2.1.2.2) vx_n))))
    exact fun H locs la hl2 hP2 hS => by
      rw [← hQ]
      have hx : ∀ t : State, s.vm.Alike t.vm → H.size ≤ t.heap.size → (∀ q : Nat, q < H.size → t.heap[q]? = H[q]?) → tp_XC w X s.heap.size (tp_exn cd) s t := fun t hA hz hq => ⟨(τ2, cd), hX2, ⟨rfl, hP2.kept (fun k9 x hx => hq x.1 ((hP2 k9 x hx).lt)), va_K.moved hA hK⟩, Nat.le_trans hS.1 hz, fun q h1 h2 => (hq q (Nat.lt_of_lt_of_le h1 hS.1)).trans (hS.2.1 q h1 h2)⟩
      rcases d2 with ⟨d4, d7, d10⟩ | ⟨d4, d6, d9⟩
      · exact vx_throwSW (names := tp_sup) (text := text) (sa := sa) B.exec B.bytes hl hown t7 (by decide +kernel) (hts _ t1) (hts _ t2) hsa hat t5 hXs.1 hXs.2.1 hS (by rw [hml]; exact hl2.1) d1.1 d1.2 d4 d7 d10 (fun x hx2 => (hE x hx2).elim) hF hL (Nat.le_trans hk1 (Nat.le_refl _)) hk2 hlocks hx hS.2.2 hk1 hk2
      · exact vx_throwS (names := tp_sup) (text := text) (sa := sa) B.exec B.bytes hl hown t7 (by decide +kernel) (hts _ t1) (hts _ t2) hsa hat t5 hXs.1 hXs.2.1 hS (by rw [hml]; exact hl2.1) d1.1 d1.2 d4 d6 d9 (fun x hx2 => (hE x hx2).elim) hF hL (Nat.le_trans hk1 (Nat.le_refl _)) hk2 hlocks hx hS.2.2 hk1 hk2
  have hZ := body g hC hCX hR hRX hRT
  rw [← hg0] at hZ
  rw [lg_entry_eq]
  exact hZ s.heap [] _ (lv_entry As hle) hP va_S.rf
theorem tp_enterXV {w : WPar} {y : MethodName} {ws ws2 : List Cond} {cc : ByteArray} {maxL F L mc ms : Nat} {As : List Value} {τ : TS} {K : TS → Prop} {X : TS → Nat → Prop} (hl : w.2.1.stackTraces = false) (hy : plainName y.cls = true) (hcls : y.cls = RX8) (hw : ws = Cond.code y cc maxL (none) :: ws2) (hle : (lg_sl As).length ≤ maxL)
    (body : ∀ g : Cxt, Cok w g cc RX8 ws maxL F L mc ms → CX w g → RXV w g cc mc ms K → RXX w g mc ms X → RXT w g cc ws F L mc ms X → Zt w g τ (0, 0) 0 (lv_args 0 As) []) : XV w y ws F L mc ms As τ K X := by
  intro sz
  refine vx_ofW hy hw ?_
  intro p e s m args below meth c s₁ B hml hE hv
  obtain ⟨rfl, ⟨hsz, hP, hK, hj, hNF⟩, hXs⟩ := hv
  subst hsz
  have hts := atoms_spec (ws := ws) B.pre
  have hown : s.vm.findClass RX8 = some m.cls := by rw [← hcls]; exact findClass_of_methodNamed B.named
  have hlocks := B.notSynchronized
  generalize hQ : vx_MQ below (va_Qv K (tp_B w) (tp_A w s.heap.size)) (tp_XC w X s.heap.size) As.toArray s mc ms (tp_A w s.heap.size) = Q
  generalize hg0 : ((p, e, ({ frames := F, cells := mc, slots := ms, locals := L } : Room), s, m, As.toArray, below, meth, c, Q, maxL) : Cxt) = g
  have hC : Cok w g cc RX8 ws maxL F L mc ms := by rw [← hg0]; exact ⟨B.exec, B.bytes, hml, hown, hts, hK, hj, rfl, rfl, rfl, rfl, rfl, hlocks, hNF⟩
  have hCX : CX w g := by rw [← hg0]; exact ⟨hXs, hl⟩
  have hR : RXV w g cc mc ms K := by
    rw [← hg0]
    intro τ2 pc ls hdg hKv
    exact fun H locs la hl2 hP2 hS => by
      rw [← hQ]
      exact vx_ret (W.vret B.exec B.bytes B.returns (fun t ht hW => ⟨⟨τ2, rfl, hKv, by rw [ht]; exact hP2, va_K.moved hW.alike hK⟩, hS.F ht⟩) hS.2.2 hdg)
  have hRX : RXX w g mc ms X := by
    rw [← hg0]
    intro τ2 k pc ls cd hk1 hk2 hX2
    exact fun H locs la rest q ce hl2 hP2 hS hq hv hcl => by
      rw [← hQ]
      exact vx_out (fun x hx => (hE x hx).elim) hlocks hq hv hcl (fun t ht hA => ⟨(τ2, cd), hX2, ⟨rfl, by rw [ht]; exact hP2, va_K.moved hA hK⟩, hS.F ht⟩) hS.2.2 hk1 hk2
  have hRT : RXT w g cc ws F L mc ms X := by
    rw [← hg0]
    intro τ2 k pc ls st ik is ic cd text t1 t2 t3 t4 t5 t6 t7 d1 d2 hF hL hk1 hk2 hX2
    obtain ⟨sa, hsa⟩ := hXs.2.2.2.2 _ t4
    have hat : ∀ x ∈ vx_atS RX8 ic (tp_exn cd) tp_sup, x.before As.toArray s = true := vx_hat (fun x hx => hts _ (t3 x hx)) t6 (vx_c (va_tabs rfl rfl (hXs.2.2.1 cd)) (vx_c (va_tabs rfl rfl hXs.2.2.2.1.1) (vx_c (va_tabs rfl rfl hXs.2.2.2.1.2.1) (vx_c (va_tabs rfl rfl hXs.2.2.2.1.2.2) vx_n))))
    exact fun H locs la hl2 hP2 hS => by
      rw [← hQ]
      have hx : ∀ t : State, s.vm.Alike t.vm → H.size ≤ t.heap.size → (∀ q : Nat, q < H.size → t.heap[q]? = H[q]?) → tp_XC w X s.heap.size (tp_exn cd) s t := fun t hA hz hq => ⟨(τ2, cd), hX2, ⟨rfl, hP2.kept (fun k9 x hx => hq x.1 ((hP2 k9 x hx).lt)), va_K.moved hA hK⟩, Nat.le_trans hS.1 hz, fun q h1 h2 => (hq q (Nat.lt_of_lt_of_le h1 hS.1)).trans (hS.2.1 q h1 h2)⟩
      rcases d2 with ⟨d4, d7, d10⟩ | ⟨d4, d6, d9⟩
      · exact vx_throwSW (names := tp_sup) (text := text) (sa := sa) B.exec B.bytes hl hown t7 (by decide +kernel) (hts _ t1) (hts _ t2) hsa hat t5 hXs.1 hXs.2.1 hS (by rw [hml]; exact hl2.1) d1.1 d1.2 d4 d7 d10 (fun x hx2 => (hE x hx2).elim) hF hL (Nat.le_trans hk1 (Nat.le_refl _)) hk2 hlocks hx hS.2.2 hk1 hk2
      · exact vx_throwS (names := tp_sup) (text := text) (sa := sa) B.exec B.bytes hl hown t7 (by decide +kernel) (hts _ t1) (hts _ t2) hsa hat t5 hXs.1 hXs.2.1 hS (by rw [hml]; exact hl2.1) d1.1 d1.2 d4 d6 d9 (fun x hx2 => (hE x hx2).elim) hF hL (Nat.le_trans hk1 (Nat.le_refl _)) hk2 hlocks hx hS.2.2 hk1 hk2
  have hZ := body g hC hCX hR hRX hRT
  rw [← hg0] at hZ
  rw [lg_entry_eq]
  exact hZ s.heap [] _ (lv_entry As hle) hP va_S.rf
theorem tp_enterXR {w : WPar} {y : MethodName} {ws ws2 : List Cond} {cc : ByteArray} {maxL F L mc ms kd : Nat} {Cr : String} {As : List Value} {τ : TS} {K : TS → Nat → Prop} {X : TS → Nat → Prop} (hl : w.2.1.stackTraces = false) (hy : plainName y.cls = true) (hcls : y.cls = RX8) (hw : ws = Cond.code y cc maxL (some (.object Cr)) :: ws2) (hle : (lg_sl As).length ≤ maxL)
    (body : ∀ g : Cxt, Cok w g cc RX8 ws maxL F L mc ms → CX w g → RXR w g cc mc ms K kd → RXX w g mc ms X → RXT w g cc ws F L mc ms X → Zt w g τ (0, 0) 0 (lv_args 0 As) []) : XR w y ws F L mc ms As τ K X kd := by
  intro sz
  refine vx_ofW hy hw ?_
  intro p e s m args below meth c s₁ B hml hE hv
  obtain ⟨rfl, ⟨hsz, hP, hK, hj, hNF⟩, hXs⟩ := hv
  subst hsz
  have hts := atoms_spec (ws := ws) B.pre
  have hown : s.vm.findClass RX8 = some m.cls := by rw [← hcls]; exact findClass_of_methodNamed B.named
  have hlocks := B.notSynchronized
  generalize hQ : vx_MQ below (va_Qr (fun u : TS × Nat => K u.1 u.2 ∧ tp_is w u.2 kd) (fun u a t => a = w.1 u.2 ∧ tp_B w u.1 t) (tp_A w s.heap.size)) (tp_XC w X s.heap.size) As.toArray s mc ms (tp_A w s.heap.size) = Q
  generalize hg0 : ((p, e, ({ frames := F, cells := mc, slots := ms, locals := L } : Room), s, m, As.toArray, below, meth, c, Q, maxL) : Cxt) = g
  have hC : Cok w g cc RX8 ws maxL F L mc ms := by rw [← hg0]; exact ⟨B.exec, B.bytes, hml, hown, hts, hK, hj, rfl, rfl, rfl, rfl, rfl, hlocks, hNF⟩
  have hCX : CX w g := by rw [← hg0]; exact ⟨hXs, hl⟩
  have hR : RXR w g cc mc ms K kd := by
    rw [← hg0]
    intro τ2 pc ls j hdg hkd hKv
    exact fun H locs la hl2 hP2 hS => by
      rw [← hQ]
      exact vx_ret (W.aret B.exec B.bytes B.returns (Or.inl ⟨_, rfl⟩) (Or.inr ⟨_, rfl⟩) (fun t ht hW => ⟨⟨(τ2, j), _, rfl, ⟨hKv, hkd⟩, rfl, by rw [ht]; exact hP2, va_K.moved hW.alike hK⟩, hS.F ht⟩) hS.2.2 hdg)
  have hRX : RXX w g mc ms X := by
    rw [← hg0]
    intro τ2 k pc ls cd hk1 hk2 hX2
    exact fun H locs la rest q ce hl2 hP2 hS hq hv hcl => by
      rw [← hQ]
      exact vx_out (fun x hx => (hE x hx).elim) hlocks hq hv hcl (fun t ht hA => ⟨(τ2, cd), hX2, ⟨rfl, by rw [ht]; exact hP2, va_K.moved hA hK⟩, hS.F ht⟩) hS.2.2 hk1 hk2
  have hRT : RXT w g cc ws F L mc ms X := by
    rw [← hg0]
    intro τ2 k pc ls st ik is ic cd text t1 t2 t3 t4 t5 t6 t7 d1 d2 hF hL hk1 hk2 hX2
    obtain ⟨sa, hsa⟩ := hXs.2.2.2.2 _ t4
    have hat : ∀ x ∈ vx_atS RX8 ic (tp_exn cd) tp_sup, x.before As.toArray s = true := vx_hat (fun x hx => hts _ (t3 x hx)) t6 (vx_c (va_tabs rfl rfl (hXs.2.2.1 cd)) (vx_c (va_tabs rfl rfl hXs.2.2.2.1.1) (vx_c (va_tabs rfl rfl hXs.2.2.2.1.2.1) (vx_c (va_tabs rfl rfl hXs.2.2.2.1.2.2) vx_n))))
    exact fun H locs la hl2 hP2 hS => by
      rw [← hQ]
      have hx : ∀ t : State, s.vm.Alike t.vm → H.size ≤ t.heap.size → (∀ q : Nat, q < H.size → t.heap[q]? = H[q]?) → tp_XC w X s.heap.size (tp_exn cd) s t := fun t hA hz hq => ⟨(τ2, cd), hX2, ⟨rfl, hP2.kept (fun k9 x hx => hq x.1 ((hP2 k9 x hx).lt)), va_K.moved hA hK⟩, Nat.le_trans hS.1 hz, fun q h1 h2 => (hq q (Nat.lt_of_lt_of_le h1 hS.1)).trans (hS.2.1 q h1 h2)⟩
      rcases d2 with ⟨d4, d7, d10⟩ | ⟨d4, d6, d9⟩
      · exact vx_throwSW (names := tp_sup) (text := text) (sa := sa) B.exec B.bytes hl hown t7 (by decide +kernel) (hts _ t1) (hts _ t2) hsa hat t5 hXs.1 hXs.2.1 hS (by rw [hml]; exact hl2.1) d1.1 d1.2 d4 d7 d10 (fun x hx2 => (hE x hx2).elim) hF hL (Nat.le_trans hk1 (Nat.le_refl _)) hk2 hlocks hx hS.2.2 hk1 hk2
      · exact vx_throwS (names := tp_sup) (text := text) (sa := sa) B.exec B.bytes hl hown t7 (by decide +kernel) (hts _ t1) (hts _ t2) hsa hat t5 hXs.1 hXs.2.1 hS (by rw [hml]; exact hl2.1) d1.1 d1.2 d4 d6 d9 (fun x hx2 => (hE x hx2).elim) hF hL (Nat.le_trans hk1 (Nat.le_refl _)) hk2 hlocks hx hS.2.2 hk1 hk2
  have hZ := body g hC hCX hR hRX hRT
  rw [← hg0] at hZ
  rw [lg_entry_eq]
  exact hZ s.heap [] _ (lv_entry As hle) hP va_S.rf
section VXR
variable {p : Program} {l : Launch} {e : Env} {R : Room} {s : State} {m : MethodId} {args : Array Value} {below : List Frame} {meth : Method} {c : Code} {H : Heap} {locs : List Loc} {cells slots : Nat} {Q : State → Prop} {pc : Nat} {la : Array Slot} {rest st0 : List Value} {a : Array Value} {A0 A1 : Nat → Prop} {H0 : Heap} {mc ms : Nat} {free : Addr → Prop}
theorem vx_callrr {S SX : Type} {post : S → Prop} {px : SX → Prop} {B : S → Nat → State → Prop} {BX : String → SX → State → Prop} {AX : Nat → Prop} (hr : vx_Run p l e R s m args below meth c H locs cells slots mc ms (F0 m pc la st0) rest (va_Qr post B A1 a) (vx_X px BX AX) free) (hS : va_S A0 H0 H locs) (hA : ∀ q, q < H.size → A1 q → A0 q) (hf : ∀ q, free q → A0 q) (hAX : ∀ q, q < H.size → AX q → A0 q)
    (kx : ∀ (E : String) (ce : Cell) (q9 : Addr) (u : SX) (t : State) (H1 : Heap) (locs1 : List Loc), t.heap = H1 → s.vm.Alike t.vm → px u → BX E u t → H.size ≤ H1.size → (∀ q : Nat, q < H.size → ¬ AX q → H1[q]? = H[q]?) → va_S A0 H0 H1 locs1 → H1[q9]? = some ce → ce.vm = .none → s.vm.findClass E = some ce.cls → vx_W p l e R s m args below meth c H1 locs1 (cells + mc) (slots + ms) Q (F0 m pc la rest) q9)
    (kk : ∀ (u : S) (ra : Nat) (t : State) (H1 : Heap) (locs1 : List Loc), t.heap = H1 → s.vm.Alike t.vm → post u → B u ra t → H.size ≤ H1.size → (∀ q : Nat, q < H.size → ¬ A1 q → H1[q]? = H[q]?) → va_S A0 H0 H1 locs1 → W p l e R s m args below meth c H1 locs1 (cells + mc) (slots + ms) Q (F0 m (pc + 3) la (.ref ra :: rest))) : W p l e R s m args below meth c H locs cells slots Q (F0 m pc la st0) := by
  intro T hT X
  rcases hr T hT X with ⟨v, st₀, t, T', L, h0, X', hL, e1, e2, ⟨⟨u, ra, hv, hp, hb⟩, hF⟩, st⟩ | ⟨q, st₀, t, T', L, E, ce, h0, X', hL, e1, e2, ⟨u, hp, hb, hF⟩, hce, hcv, hcl, st⟩
  · cases hv
    obtain ⟨k1, k2, k3⟩ := vx_keep h0 e1 hS hA hf hL hF
    obtain ⟨t2, a1, b1⟩ := kk u ra t T'.heap (locs ++ L) e1.symm (by rw [← e2]; exact X'.warmed.alike) hp hb k1 k2 k3 T' rfl X'
    exact ⟨t2, st t2 a1, b1⟩
  · obtain ⟨k1, k2, k3⟩ := vx_keep h0 e1 hS hAX hf hL hF
    obtain ⟨t2, a1, b1⟩ := kx E ce q u t T'.heap (locs ++ L) e1.symm (by rw [← e2]; exact X'.warmed.alike) hp hb k1 k2 k3 (by rw [e1]; exact hce) hcv hcl T' rfl X'
    exact ⟨t2, st.trans a1, b1⟩
end VXR
section XT
variable {w : WPar} {g : Cxt} {τ : TS} {k : Nat × Nat} {pc : Nat} {ls : List (Nat × Value)} {st : List Value} {cc : ByteArray} {own : String} {Ts : List Cond} {n F L Ce Sl : Nat} {y : MethodName} {ws ws2 : List Cond} {bytes : ByteArray} {maxL F1 L1 mc ms index : Nat} {As : List Value} {rt : Option FieldType} {X : TS → Nat → Prop}
theorem xv_i (C : Cok w g cc own Ts n F L Ce Sl) (D : CX w g) {Cn : String} {i ci N : Nat} {T : u_T} {fs : List Value} {K : TS → Int32 → Prop} (hM : XI w y ws F1 L1 mc ms (.ref (w.1 i) :: As) τ K X) (hi : tp_ok w i) (hE : tp_E w i (τ i) = .inr (ci, fs)) (hc : vwCl[ci]? = some (Cn, T, N)) (nP : Nat) (hG : GoodIn Ts (wsV own index Cn y ws)) (hw : ws = Cond.code y bytes maxL (rt) :: ws2) (hd : y.cls = Cn ∧ y.cls ≠ "java/lang/invoke/MethodHandle" ∧ y.cls ≠ "java/lang/invoke/VarHandle" ∧ (parseMethodDescriptor y.desc).map (fun d => d.parameters.length) = some nP) (hR : F1 + 1 ≤ F ∧ 8 + (maxL + 11) + L1 ≤ L) (hn : As.length = nP) (hst : 0 + (st.map fun v => v.category).sum ≤ 8) {k2 : Nat × Nat} (hk2 : k2 = (k.1 + mc, k.2 + ms)) (hk : k.1 + mc ≤ Ce ∧ k.2 + ms ≤ Sl) {st0 : List Value} (hs0 : st0 = As.reverse ++ .ref (w.1 i) :: st) (hdg : decode cc pc = .ok (.invokevirtual index, 3))
    (kx : ∀ (τ2 : TS) (cd : Nat), X τ2 cd → Zx w g τ2 k2 pc ls (tp_exn cd)) (kk : ∀ (r : Int32) (τ2 : TS), K τ2 r → Zt w g τ2 k2 (pc + 3) ls (.int r :: st)) : Zt w g τ k pc ls st0 := by
  subst hs0
  obtain ⟨p, e, R, s, m, args, below, meth, c, Q, nL⟩ := g
  obtain ⟨hx, hb, hml, hown, hts, hK, hj, hnL, rF, rL, rC, rS, -, hNF⟩ := C
  obtain ⟨hXs, hfl⟩ := D
  subst rF rL rC rS hnL
  subst hk2
  intro H locs la hl hP hS
  refine vx_calli (vx_runV (As := As) (rest := st) ⟨hx, hb, hml, hown, hts⟩ (hM H.size) (cwV nP hts hG hw rfl rfl hd hR) ⟨tp_blindX, va_recv hK hP hc (q0 := i) (by rw [tp_at hi.1, hE]), fun U hU hW => ⟨rfl, ⟨by rw [hU], by rw [hU]; exact hP, va_K.moved hW.alike hK, hj, tp_NF.go hW hNF⟩, tp_X.go hXs hS hU hW⟩⟩ rfl hn hl.1 rfl (by simpa using hst) hdg hk) hS (fun q hq h => tp_old q hq h) (fun q h => tp_same hS.1 q h) (fun q hq h => tp_old q hq h) (fun E ce q9 u9 t H1 locs1 ht hvm hp9 hB9 hz1 hk1 hS1 hc9 hv9 hcl9 => ?_) (fun r τ2 t H1 locs1 ht hvm hw2 hB hz1 hk1 hS1 => ?_)
  · obtain ⟨rfl, hP1, hK1⟩ := hB9
    rw [ht] at hP1
    exact kx u9.1 u9.2 hp9 H1 locs1 la st q9 ce hl hP1 hS1 hc9 hv9 hcl9
  · obtain ⟨hP1, hK1⟩ := hB
    rw [ht] at hP1
    exact kk r τ2 hw2 H1 locs1 la hl hP1 hS1
theorem xs_i (C : Cok w g cc own Ts n F L Ce Sl) (D : CX w g) {K : TS → Int32 → Prop} (hM : XI w y ws F1 L1 mc ms As τ K X) (nP : Nat) (hG : GoodIn Ts (va_wsS own index y ws)) (hw : ws = Cond.code y bytes maxL (rt) :: ws2) (hd : y.cls  ≠ "java/lang/invoke/MethodHandle" ∧ y.cls ≠ "java/lang/invoke/VarHandle" ∧ (parseMethodDescriptor y.desc).map (fun d => d.parameters.length) = some nP) (hR : F1 + 1 ≤ F ∧ 8 + (maxL + 11) + L1 ≤ L) (hn : As.length = nP) (hst : 0 + (st.map fun v => v.category).sum ≤ 8) {k2 : Nat × Nat} (hk2 : k2 = (k.1 + mc, k.2 + ms)) (hk : k.1 + mc ≤ Ce ∧ k.2 + ms ≤ Sl) {st0 : List Value} (hs0 : st0 = As.reverse ++ st) (hdg : decode cc pc = .ok (.invokestatic index, 3))
    (kx : ∀ (τ2 : TS) (cd : Nat), X τ2 cd → Zx w g τ2 k2 pc ls (tp_exn cd)) (kk : ∀ (r : Int32) (τ2 : TS), K τ2 r → Zt w g τ2 k2 (pc + 3) ls (.int r :: st)) : Zt w g τ k pc ls st0 := by
  subst hs0
  obtain ⟨p, e, R, s, m, args, below, meth, c, Q, nL⟩ := g
  obtain ⟨hx, hb, hml, hown, hts, hK, hj, hnL, rF, rL, rC, rS, -, hNF⟩ := C
  obtain ⟨hXs, hfl⟩ := D
  subst rF rL rC rS hnL
  subst hk2
  intro H locs la hl hP hS
  refine vx_calli (vx_runS (As := As) (rest := st) ⟨hx, hb, hml, hown, hts⟩ (hM H.size) (va_cwS nP hts hG hw rfl rfl hd hR) ⟨tp_blindX, fun U hU hW => ⟨rfl, ⟨by rw [hU], by rw [hU]; exact hP, va_K.moved hW.alike hK, hj, tp_NF.go hW hNF⟩, tp_X.go hXs hS hU hW⟩⟩ rfl hn hl.1 rfl (by simpa using hst) hdg hk) hS (fun q hq h => tp_old q hq h) (fun q h => tp_same hS.1 q h) (fun q hq h => tp_old q hq h) (fun E ce q9 u9 t H1 locs1 ht hvm hp9 hB9 hz1 hk1 hS1 hc9 hv9 hcl9 => ?_) (fun r τ2 t H1 locs1 ht hvm hw2 hB hz1 hk1 hS1 => ?_)
  · obtain ⟨rfl, hP1, hK1⟩ := hB9
    rw [ht] at hP1
    exact kx u9.1 u9.2 hp9 H1 locs1 la st q9 ce hl hP1 hS1 hc9 hv9 hcl9
  · obtain ⟨hP1, hK1⟩ := hB
    rw [ht] at hP1
    exact kk r τ2 hw2 H1 locs1 la hl hP1 hS1
theorem xv_v (C : Cok w g cc own Ts n F L Ce Sl) (D : CX w g) {Cn : String} {i ci N : Nat} {T : u_T} {fs : List Value} {K : TS → Prop} (hM : XV w y ws F1 L1 mc ms (.ref (w.1 i) :: As) τ K X) (hi : tp_ok w i) (hE : tp_E w i (τ i) = .inr (ci, fs)) (hc : vwCl[ci]? = some (Cn, T, N)) (nP : Nat) (hG : GoodIn Ts (wsV own index Cn y ws)) (hw : ws = Cond.code y bytes maxL (rt) :: ws2) (hd : y.cls = Cn ∧ y.cls ≠ "java/lang/invoke/MethodHandle" ∧ y.cls ≠ "java/lang/invoke/VarHandle" ∧ (parseMethodDescriptor y.desc).map (fun d => d.parameters.length) = some nP) (hR : F1 + 1 ≤ F ∧ 8 + (maxL + 11) + L1 ≤ L) (hn : As.length = nP) (hst : 0 + (st.map fun v => v.category).sum ≤ 8) {k2 : Nat × Nat} (hk2 : k2 = (k.1 + mc, k.2 + ms)) (hk : k.1 + mc ≤ Ce ∧ k.2 + ms ≤ Sl) {st0 : List Value} (hs0 : st0 = As.reverse ++ .ref (w.1 i) :: st) (hdg : decode cc pc = .ok (.invokevirtual index, 3))
    (kx : ∀ (τ2 : TS) (cd : Nat), X τ2 cd → Zx w g τ2 k2 pc ls (tp_exn cd)) (kk : ∀ (τ2 : TS), K τ2 → Zt w g τ2 k2 (pc + 3) ls st) : Zt w g τ k pc ls st0 := by
  subst hs0
  obtain ⟨p, e, R, s, m, args, below, meth, c, Q, nL⟩ := g
  obtain ⟨hx, hb, hml, hown, hts, hK, hj, hnL, rF, rL, rC, rS, -, hNF⟩ := C
  obtain ⟨hXs, hfl⟩ := D
  subst rF rL rC rS hnL
  subst hk2
  intro H locs la hl hP hS
  refine vx_callv (vx_runV (As := As) (rest := st) ⟨hx, hb, hml, hown, hts⟩ (hM H.size) (cwV nP hts hG hw rfl rfl hd hR) ⟨tp_blindX, va_recv hK hP hc (q0 := i) (by rw [tp_at hi.1, hE]), fun U hU hW => ⟨rfl, ⟨by rw [hU], by rw [hU]; exact hP, va_K.moved hW.alike hK, hj, tp_NF.go hW hNF⟩, tp_X.go hXs hS hU hW⟩⟩ rfl hn hl.1 rfl (by simpa using hst) hdg hk) hS (fun q hq h => tp_old q hq h) (fun q h => tp_same hS.1 q h) (fun q hq h => tp_old q hq h) (fun E ce q9 u9 t H1 locs1 ht hvm hp9 hB9 hz1 hk1 hS1 hc9 hv9 hcl9 => ?_) (fun τ2 t H1 locs1 ht hvm hw2 hB hz1 hk1 hS1 => ?_)
  · obtain ⟨rfl, hP1, hK1⟩ := hB9
    rw [ht] at hP1
    exact kx u9.1 u9.2 hp9 H1 locs1 la st q9 ce hl hP1 hS1 hc9 hv9 hcl9
  · obtain ⟨hP1, hK1⟩ := hB
    rw [ht] at hP1
    exact kk τ2 hw2 H1 locs1 la hl hP1 hS1
theorem xs_v (C : Cok w g cc own Ts n F L Ce Sl) (D : CX w g) {K : TS → Prop} (hM : XV w y ws F1 L1 mc ms As τ K X) (nP : Nat) (hG : GoodIn Ts (va_wsS own index y ws)) (hw : ws = Cond.code y bytes maxL (rt) :: ws2) (hd : y.cls  ≠ "java/lang/invoke/MethodHandle" ∧ y.cls ≠ "java/lang/invoke/VarHandle" ∧ (parseMethodDescriptor y.desc).map (fun d => d.parameters.length) = some nP) (hR : F1 + 1 ≤ F ∧ 8 + (maxL + 11) + L1 ≤ L) (hn : As.length = nP) (hst : 0 + (st.map fun v => v.category).sum ≤ 8) {k2 : Nat × Nat} (hk2 : k2 = (k.1 + mc, k.2 + ms)) (hk : k.1 + mc ≤ Ce ∧ k.2 + ms ≤ Sl) {st0 : List Value} (hs0 : st0 = As.reverse ++ st) (hdg : decode cc pc = .ok (.invokestatic index, 3))
    (kx : ∀ (τ2 : TS) (cd : Nat), X τ2 cd → Zx w g τ2 k2 pc ls (tp_exn cd)) (kk : ∀ (τ2 : TS), K τ2 → Zt w g τ2 k2 (pc + 3) ls st) : Zt w g τ k pc ls st0 := by
  subst hs0
  obtain ⟨p, e, R, s, m, args, below, meth, c, Q, nL⟩ := g
  obtain ⟨hx, hb, hml, hown, hts, hK, hj, hnL, rF, rL, rC, rS, -, hNF⟩ := C
  obtain ⟨hXs, hfl⟩ := D
  subst rF rL rC rS hnL
  subst hk2
  intro H locs la hl hP hS
  refine vx_callv (vx_runS (As := As) (rest := st) ⟨hx, hb, hml, hown, hts⟩ (hM H.size) (va_cwS nP hts hG hw rfl rfl hd hR) ⟨tp_blindX, fun U hU hW => ⟨rfl, ⟨by rw [hU], by rw [hU]; exact hP, va_K.moved hW.alike hK, hj, tp_NF.go hW hNF⟩, tp_X.go hXs hS hU hW⟩⟩ rfl hn hl.1 rfl (by simpa using hst) hdg hk) hS (fun q hq h => tp_old q hq h) (fun q h => tp_same hS.1 q h) (fun q hq h => tp_old q hq h) (fun E ce q9 u9 t H1 locs1 ht hvm hp9 hB9 hz1 hk1 hS1 hc9 hv9 hcl9 => ?_) (fun τ2 t H1 locs1 ht hvm hw2 hB hz1 hk1 hS1 => ?_)
  · obtain ⟨rfl, hP1, hK1⟩ := hB9
    rw [ht] at hP1
    exact kx u9.1 u9.2 hp9 H1 locs1 la st q9 ce hl hP1 hS1 hc9 hv9 hcl9
  · obtain ⟨hP1, hK1⟩ := hB
    rw [ht] at hP1
    exact kk τ2 hw2 H1 locs1 la hl hP1 hS1
theorem xv_r (C : Cok w g cc own Ts n F L Ce Sl) (D : CX w g) {Cn : String} {i ci N kd : Nat} {T : u_T} {fs : List Value} {K : TS → Nat → Prop} (hM : XR w y ws F1 L1 mc ms (.ref (w.1 i) :: As) τ K X kd) (hi : tp_ok w i) (hE : tp_E w i (τ i) = .inr (ci, fs)) (hc : vwCl[ci]? = some (Cn, T, N)) (nP : Nat) (hG : GoodIn Ts (wsV own index Cn y ws)) (hw : ws = Cond.code y bytes maxL (rt) :: ws2) (hd : y.cls = Cn ∧ y.cls ≠ "java/lang/invoke/MethodHandle" ∧ y.cls ≠ "java/lang/invoke/VarHandle" ∧ (parseMethodDescriptor y.desc).map (fun d => d.parameters.length) = some nP) (hR : F1 + 1 ≤ F ∧ 8 + (maxL + 11) + L1 ≤ L) (hn : As.length = nP) (hst : 0 + (st.map fun v => v.category).sum ≤ 8) {k2 : Nat × Nat} (hk2 : k2 = (k.1 + mc, k.2 + ms)) (hk : k.1 + mc ≤ Ce ∧ k.2 + ms ≤ Sl) {st0 : List Value} (hs0 : st0 = As.reverse ++ .ref (w.1 i) :: st) (hdg : decode cc pc = .ok (.invokevirtual index, 3))
    (kx : ∀ (τ2 : TS) (cd : Nat), X τ2 cd → Zx w g τ2 k2 pc ls (tp_exn cd)) (kk : ∀ (τ2 : TS) (j : Nat), K τ2 j → tp_is w j kd → Zt w g τ2 k2 (pc + 3) ls (.ref (w.1 j) :: st)) : Zt w g τ k pc ls st0 := by
  subst hs0
  obtain ⟨p, e, R, s, m, args, below, meth, c, Q, nL⟩ := g
  obtain ⟨hx, hb, hml, hown, hts, hK, hj, hnL, rF, rL, rC, rS, -, hNF⟩ := C
  obtain ⟨hXs, hfl⟩ := D
  subst rF rL rC rS hnL
  subst hk2
  intro H locs la hl hP hS
  refine vx_callrr (vx_runV (As := As) (rest := st) ⟨hx, hb, hml, hown, hts⟩ (hM H.size) (cwV nP hts hG hw rfl rfl hd hR) ⟨tp_blindX, va_recv hK hP hc (q0 := i) (by rw [tp_at hi.1, hE]), fun U hU hW => ⟨rfl, ⟨by rw [hU], by rw [hU]; exact hP, va_K.moved hW.alike hK, hj, tp_NF.go hW hNF⟩, tp_X.go hXs hS hU hW⟩⟩ rfl hn hl.1 rfl (by simpa using hst) hdg hk) hS (fun q hq h => tp_old q hq h) (fun q h => tp_same hS.1 q h) (fun q hq h => tp_old q hq h) (fun E ce q9 u9 t H1 locs1 ht hvm hp9 hB9 hz1 hk1 hS1 hc9 hv9 hcl9 => ?_) (fun u ra t H1 locs1 ht hvm hw2 hB hz1 hk1 hS1 => ?_)
  · obtain ⟨rfl, hP1, hK1⟩ := hB9
    rw [ht] at hP1
    exact kx u9.1 u9.2 hp9 H1 locs1 la st q9 ce hl hP1 hS1 hc9 hv9 hcl9
  · obtain ⟨rfl, hP1, hK1⟩ := hB
    rw [ht] at hP1
    exact kk u.1 u.2 hw2.1 hw2.2 H1 locs1 la hl hP1 hS1
theorem xs_r (C : Cok w g cc own Ts n F L Ce Sl) (D : CX w g) {kd : Nat} {K : TS → Nat → Prop} (hM : XR w y ws F1 L1 mc ms As τ K X kd) (nP : Nat) (hG : GoodIn Ts (va_wsS own index y ws)) (hw : ws = Cond.code y bytes maxL (rt) :: ws2) (hd : y.cls  ≠ "java/lang/invoke/MethodHandle" ∧ y.cls ≠ "java/lang/invoke/VarHandle" ∧ (parseMethodDescriptor y.desc).map (fun d => d.parameters.length) = some nP) (hR : F1 + 1 ≤ F ∧ 8 + (maxL + 11) + L1 ≤ L) (hn : As.length = nP) (hst : 0 + (st.map fun v => v.category).sum ≤ 8) {k2 : Nat × Nat} (hk2 : k2 = (k.1 + mc, k.2 + ms)) (hk : k.1 + mc ≤ Ce ∧ k.2 + ms ≤ Sl) {st0 : List Value} (hs0 : st0 = As.reverse ++ st) (hdg : decode cc pc = .ok (.invokestatic index, 3))
    (kx : ∀ (τ2 : TS) (cd : Nat), X τ2 cd → Zx w g τ2 k2 pc ls (tp_exn cd)) (kk : ∀ (τ2 : TS) (j : Nat), K τ2 j → tp_is w j kd → Zt w g τ2 k2 (pc + 3) ls (.ref (w.1 j) :: st)) : Zt w g τ k pc ls st0 := by
  subst hs0
  obtain ⟨p, e, R, s, m, args, below, meth, c, Q, nL⟩ := g
  obtain ⟨hx, hb, hml, hown, hts, hK, hj, hnL, rF, rL, rC, rS, -, hNF⟩ := C
  obtain ⟨hXs, hfl⟩ := D
  subst rF rL rC rS hnL
  subst hk2
  intro H locs la hl hP hS
  refine vx_callrr (vx_runS (As := As) (rest := st) ⟨hx, hb, hml, hown, hts⟩ (hM H.size) (va_cwS nP hts hG hw rfl rfl hd hR) ⟨tp_blindX, fun U hU hW => ⟨rfl, ⟨by rw [hU], by rw [hU]; exact hP, va_K.moved hW.alike hK, hj, tp_NF.go hW hNF⟩, tp_X.go hXs hS hU hW⟩⟩ rfl hn hl.1 rfl (by simpa using hst) hdg hk) hS (fun q hq h => tp_old q hq h) (fun q h => tp_same hS.1 q h) (fun q hq h => tp_old q hq h) (fun E ce q9 u9 t H1 locs1 ht hvm hp9 hB9 hz1 hk1 hS1 hc9 hv9 hcl9 => ?_) (fun u ra t H1 locs1 ht hvm hw2 hB hz1 hk1 hS1 => ?_)
  · obtain ⟨rfl, hP1, hK1⟩ := hB9
    rw [ht] at hP1
    exact kx u9.1 u9.2 hp9 H1 locs1 la st q9 ce hl hP1 hS1 hc9 hv9 hcl9
  · obtain ⟨rfl, hP1, hK1⟩ := hB
    rw [ht] at hP1
    exact kk u.1 u.2 hw2.1 hw2.2 H1 locs1 la hl hP1 hS1
end XT
