section
-- ===== PART A: goes FIRST, ahead of the names: the tables' words, and 'selects' of the private methods out of them =====
/-- a private method of a class that the tables say can be made, by its rows of tables_1 -/
def lw_okq (q : MethodName × Nat) : Prop := (q.1.cls ≠ "java/lang/invoke/MethodHandle" ∧ q.1.cls ≠ "java/lang/invoke/VarHandle") ∧ Cond.instantiable q.1.cls q.2 ∈ tables_1 ∧ Cond.privateMethod q.1 ∈ tables_1 ∧ Cond.instanceMethod q.1 ∈ tables_1
theorem lw_p0 : lw_okq (⟨"java/lang/Throwable", "fillInStackTrace", "(I)Ljava/lang/Throwable;"⟩, 6) := ⟨⟨by decide +kernel, by decide +kernel⟩, List.mem_of_getElem? (i := 341) (by decide +kernel), List.mem_of_getElem? (i := 339) (by decide +kernel), List.mem_of_getElem? (i := 340) (by decide +kernel)⟩
theorem lw_p1 : lw_okq (⟨"TidePost$Net", "measureRoutes", "()V"⟩, 9) := ⟨⟨by decide +kernel, by decide +kernel⟩, List.mem_of_getElem? (i := 27) (by decide +kernel), List.mem_of_getElem? (i := 375) (by decide +kernel), List.mem_of_getElem? (i := 376) (by decide +kernel)⟩
theorem lw_p2 : lw_okq (⟨"TidePost$Traffic", "letArrive", "()V"⟩, 6) := ⟨⟨by decide +kernel, by decide +kernel⟩, List.mem_of_getElem? (i := 75) (by decide +kernel), List.mem_of_getElem? (i := 441) (by decide +kernel), List.mem_of_getElem? (i := 442) (by decide +kernel)⟩
theorem lw_p3 : lw_okq (⟨"TidePost$Traffic", "arrive", "(II)V"⟩, 6) := ⟨⟨by decide +kernel, by decide +kernel⟩, List.mem_of_getElem? (i := 75) (by decide +kernel), List.mem_of_getElem? (i := 452) (by decide +kernel), List.mem_of_getElem? (i := 453) (by decide +kernel)⟩
theorem lw_p4 : lw_okq (⟨"TidePost$Traffic", "send", "(III)V"⟩, 6) := ⟨⟨by decide +kernel, by decide +kernel⟩, List.mem_of_getElem? (i := 75) (by decide +kernel), List.mem_of_getElem? (i := 462) (by decide +kernel), List.mem_of_getElem? (i := 463) (by decide +kernel)⟩
theorem lw_p5 : lw_okq (⟨"TidePost$Caller", "advance", "(III)Z"⟩, 14) := ⟨⟨by decide +kernel, by decide +kernel⟩, List.mem_of_getElem? (i := 121) (by decide +kernel), List.mem_of_getElem? (i := 491) (by decide +kernel), List.mem_of_getElem? (i := 492) (by decide +kernel)⟩
theorem lw_p6 : lw_okq (⟨"TidePost$Caller", "growWindow", "()V"⟩, 14) := ⟨⟨by decide +kernel, by decide +kernel⟩, List.mem_of_getElem? (i := 121) (by decide +kernel), List.mem_of_getElem? (i := 508) (by decide +kernel), List.mem_of_getElem? (i := 509) (by decide +kernel)⟩
theorem lw_p7 : lw_okq (⟨"TidePost$Caller", "repeated", "(I)Z"⟩, 14) := ⟨⟨by decide +kernel, by decide +kernel⟩, List.mem_of_getElem? (i := 121) (by decide +kernel), List.mem_of_getElem? (i := 514) (by decide +kernel), List.mem_of_getElem? (i := 515) (by decide +kernel)⟩
theorem lw_p8 : lw_okq (⟨"TidePost$Caller", "startRecovery", "()V"⟩, 14) := ⟨⟨by decide +kernel, by decide +kernel⟩, List.mem_of_getElem? (i := 121) (by decide +kernel), List.mem_of_getElem? (i := 518) (by decide +kernel), List.mem_of_getElem? (i := 519) (by decide +kernel)⟩
theorem lw_p9 : lw_okq (⟨"TidePost$Traffic", "sendThing", "(II)V"⟩, 6) := ⟨⟨by decide +kernel, by decide +kernel⟩, List.mem_of_getElem? (i := 75) (by decide +kernel), List.mem_of_getElem? (i := 530) (by decide +kernel), List.mem_of_getElem? (i := 531) (by decide +kernel)⟩
theorem lw_p10 : lw_okq (⟨"TidePost$Traffic", "letTimersRunOut", "()V"⟩, 6) := ⟨⟨by decide +kernel, by decide +kernel⟩, List.mem_of_getElem? (i := 75) (by decide +kernel), List.mem_of_getElem? (i := 550) (by decide +kernel), List.mem_of_getElem? (i := 551) (by decide +kernel)⟩
theorem lw_p11 : lw_okq (⟨"TidePost$Traffic", "sendHello", "(I)V"⟩, 6) := ⟨⟨by decide +kernel, by decide +kernel⟩, List.mem_of_getElem? (i := 75) (by decide +kernel), List.mem_of_getElem? (i := 562) (by decide +kernel), List.mem_of_getElem? (i := 563) (by decide +kernel)⟩
theorem lw_p12 : lw_okq (⟨"TidePost$Traffic", "letCallersSend", "()V"⟩, 6) := ⟨⟨by decide +kernel, by decide +kernel⟩, List.mem_of_getElem? (i := 75) (by decide +kernel), List.mem_of_getElem? (i := 566) (by decide +kernel), List.mem_of_getElem? (i := 567) (by decide +kernel)⟩
theorem lw_p13 : lw_okq (⟨"TidePost$Traffic", "letTakeOff", "()V"⟩, 6) := ⟨⟨by decide +kernel, by decide +kernel⟩, List.mem_of_getElem? (i := 75) (by decide +kernel), List.mem_of_getElem? (i := 586) (by decide +kernel), List.mem_of_getElem? (i := 587) (by decide +kernel)⟩
theorem lw_p14 : lw_okq (⟨"TidePost", "digestOfLink", "(JI)J"⟩, 4) := ⟨⟨by decide +kernel, by decide +kernel⟩, List.mem_of_getElem? (i := 19) (by decide +kernel), List.mem_of_getElem? (i := 625) (by decide +kernel), List.mem_of_getElem? (i := 626) (by decide +kernel)⟩
theorem lw_p15 : lw_okq (⟨"TidePost", "checkNode", "(I)V"⟩, 4) := ⟨⟨by decide +kernel, by decide +kernel⟩, List.mem_of_getElem? (i := 19) (by decide +kernel), List.mem_of_getElem? (i := 661) (by decide +kernel), List.mem_of_getElem? (i := 662) (by decide +kernel)⟩
def lw_privs_1 : List (MethodName × Nat) := [(⟨"java/lang/Throwable", "fillInStackTrace", "(I)Ljava/lang/Throwable;"⟩, 6), (⟨"TidePost$Net", "measureRoutes", "()V"⟩, 9), (⟨"TidePost$Traffic", "letArrive", "()V"⟩, 6), (⟨"TidePost$Traffic", "arrive", "(II)V"⟩, 6), (⟨"TidePost$Traffic", "send", "(III)V"⟩, 6), (⟨"TidePost$Caller", "advance", "(III)Z"⟩, 14), (⟨"TidePost$Caller", "growWindow", "()V"⟩, 14), (⟨"TidePost$Caller", "repeated", "(I)Z"⟩, 14), (⟨"TidePost$Caller", "startRecovery", "()V"⟩, 14), (⟨"TidePost$Traffic", "sendThing", "(II)V"⟩, 6), (⟨"TidePost$Traffic", "letTimersRunOut", "()V"⟩, 6), (⟨"TidePost$Traffic", "sendHello", "(I)V"⟩, 6), (⟨"TidePost$Traffic", "letCallersSend", "()V"⟩, 6), (⟨"TidePost$Traffic", "letTakeOff", "()V"⟩, 6), (⟨"TidePost", "digestOfLink", "(JI)J"⟩, 4), (⟨"TidePost", "checkNode", "(I)V"⟩, 4)]
theorem lw_r1 : ∀ q ∈ lw_privs_1, lw_okq q := List.forall_mem_cons.mpr ⟨lw_p0, List.forall_mem_cons.mpr ⟨lw_p1, List.forall_mem_cons.mpr ⟨lw_p2, List.forall_mem_cons.mpr ⟨lw_p3, List.forall_mem_cons.mpr ⟨lw_p4, List.forall_mem_cons.mpr ⟨lw_p5, List.forall_mem_cons.mpr ⟨lw_p6, List.forall_mem_cons.mpr ⟨lw_p7, List.forall_mem_cons.mpr ⟨lw_p8, List.forall_mem_cons.mpr ⟨lw_p9, List.forall_mem_cons.mpr ⟨lw_p10, List.forall_mem_cons.mpr ⟨lw_p11, List.forall_mem_cons.mpr ⟨lw_p12, List.forall_mem_cons.mpr ⟨lw_p13, List.forall_mem_cons.mpr ⟨lw_p14, List.forall_mem_cons.mpr ⟨lw_p15, fun _ h => absurd h List.not_mem_nil⟩⟩⟩⟩⟩⟩⟩⟩⟩⟩⟩⟩⟩⟩⟩⟩
theorem lw_p16 : lw_okq (⟨"TidePost", "callerOf", "(I)LTidePost$Caller;"⟩, 4) := ⟨⟨by decide +kernel, by decide +kernel⟩, List.mem_of_getElem? (i := 19) (by decide +kernel), List.mem_of_getElem? (i := 713) (by decide +kernel), List.mem_of_getElem? (i := 714) (by decide +kernel)⟩
theorem lw_p17 : lw_okq (⟨"TidePost", "connectionOf", "(I)LTidePost$Connection;"⟩, 4) := ⟨⟨by decide +kernel, by decide +kernel⟩, List.mem_of_getElem? (i := 19) (by decide +kernel), List.mem_of_getElem? (i := 717) (by decide +kernel), List.mem_of_getElem? (i := 718) (by decide +kernel)⟩
theorem lw_p18 : lw_okq (⟨"TidePost", "checkLink", "(I)V"⟩, 4) := ⟨⟨by decide +kernel, by decide +kernel⟩, List.mem_of_getElem? (i := 19) (by decide +kernel), List.mem_of_getElem? (i := 758) (by decide +kernel), List.mem_of_getElem? (i := 759) (by decide +kernel)⟩
theorem lw_p19 : lw_okq (⟨"TidePost", "wayOf", "(II)LTidePost$Way;"⟩, 4) := ⟨⟨by decide +kernel, by decide +kernel⟩, List.mem_of_getElem? (i := 19) (by decide +kernel), List.mem_of_getElem? (i := 779) (by decide +kernel), List.mem_of_getElem? (i := 780) (by decide +kernel)⟩
def lw_privs_2 : List (MethodName × Nat) := [(⟨"TidePost", "callerOf", "(I)LTidePost$Caller;"⟩, 4), (⟨"TidePost", "connectionOf", "(I)LTidePost$Connection;"⟩, 4), (⟨"TidePost", "checkLink", "(I)V"⟩, 4), (⟨"TidePost", "wayOf", "(II)LTidePost$Way;"⟩, 4)]
theorem lw_r2 : ∀ q ∈ lw_privs_2, lw_okq q := List.forall_mem_cons.mpr ⟨lw_p16, List.forall_mem_cons.mpr ⟨lw_p17, List.forall_mem_cons.mpr ⟨lw_p18, List.forall_mem_cons.mpr ⟨lw_p19, fun _ h => absurd h List.not_mem_nil⟩⟩⟩⟩
def lw_privs : List (MethodName × Nat) := lw_privs_1 ++ (lw_privs_2)
def lw_tbl : List Cond := k2_sels lw_privs ++ tables_1
theorem lw_privs_ok : ∀ q ∈ lw_privs, lw_okq q := by
  show ∀ q ∈ lw_privs_1 ++ (lw_privs_2), lw_okq q
  exact List.forall_mem_append.mpr ⟨lw_r1, lw_r2⟩
end
section
/-! ===== BEGIN words of one list among another's, by their places ===== -/
theorem goodIn_r {big : List Cond} (ws : List Cond) (ps : List Nat) (hp : ws = ps.filterMap (fun i => big[i]?)) (h : ws.all goodWord = true) : GoodIn big ws := by
  intro w hw
  have h1 := List.all_eq_true.mp h w hw
  rw [hp] at hw
  obtain ⟨i, -, hi⟩ := List.mem_filterMap.mp hw
  have hm : w ∈ big := by first | exact List.mem_of_getElem? hi | exact List.getElem?_mem hi
  exact ⟨hm, good_of_word h1⟩
theorem goodIn_app {big a b : List Cond} (ha : GoodIn big a) (hb : GoodIn big b) : GoodIn big (a ++ b) := fun w h => (List.mem_append.mp h).elim (ha w) (hb w)
theorem goodIn_ca {big a b : List Cond} {c : Cond} (ha : GoodIn big (c :: a)) (hb : GoodIn big b) : GoodIn big (c :: (a ++ b)) := fun w h => (List.mem_cons.mp h).elim (fun e => ha w (List.mem_cons.mpr (Or.inl e))) (fun h => (List.mem_append.mp h).elim (fun h => ha w (List.mem_cons.mpr (Or.inr h))) (hb w))
theorem goodIn_sub {big ws : List Cond} (hm : ∀ w ∈ ws, w ∈ big) (h : ws.all goodWord = true) : GoodIn big ws := fun w hw => ⟨hm w hw, good_of_word (List.all_eq_true.mp h w hw)⟩
/-! ===== END ===== -/

/-! ===== BEGIN new T[n][m]: the outer array a place, the inner ones among the pooled ===== -/
/-- f, but v at every address of l -/
def vr_up {α : Type} (f : Nat → α) (l : List Nat) (v : α) : Nat → α := fun a => if a ∈ l then v else f a
theorem vr_up_in {α : Type} {f : Nat → α} {l : List Nat} {v : α} {a : Nat} (h : a ∈ l) : vr_up f l v a = v := if_pos h
theorem vr_up_ne {α : Type} {f : Nat → α} {l : List Nat} {v : α} {a : Nat} (h : a ∉ l) : vr_up f l v a = f a := if_neg h
theorem vr_rows {L l : List Nat} {f : Nat → va_E} {e : va_E} (h : ∀ a, a ∈ l → a ∉ L) : va_pl L f ++ l.map (fun a => (a, e)) = va_pl (L ++ l) (vr_up f l e) := by
  unfold va_pl
  rw [List.map_append]
  congr 1
  · apply List.map_congr_left
    intro a ha
    rw [vr_up_ne (fun q => h a q ha)]
  · apply List.map_congr_left
    intro a ha
    rw [vr_up_in ha]
theorem vr_lay {X rows : va_W} {x : Nat × va_E} {pl : va_W} {D : va_G} {cl : List vw_C} {H : Heap} (hP : va_P D cl (((X ++ pl) ++ [x]) ++ rows) H) : va_P D cl ((X ++ [x]) ++ (pl ++ rows)) H := by
  rw [List.append_assoc (X ++ pl)] at hP
  have h := va_P.swap hP
  rw [← List.append_assoc X] at h
  have h2 := va_P.swap h
  rw [List.append_assoc (X ++ [x])] at h2
  exact h2
theorem vr_layD {X rows : va_W} {x : Nat × va_E} {pl : va_W} {A : Nat → Prop} (hD : va_D A (((X ++ pl) ++ [x]) ++ rows)) : va_D A ((X ++ [x]) ++ (pl ++ rows)) := by
  rw [List.append_assoc (X ++ pl)] at hD
  have h := va_D.swap hD
  rw [← List.append_assoc X] at h
  have h2 := va_D.swap h
  rw [List.append_assoc (X ++ [x])] at h2
  exact h2
theorem vr_outer (c : ClassId) (N h0 : Nat) : ∀ i : Nat, Jvm.Free.Multi.outerC c N h0 i = arrV c N (fun j => va_rf (if j < i then some (h0 + 1 + j) else none))
  | 0 => by
    show ({ cls := c, slots := Array.replicate N .null, vm := .none } : Cell) = _
    rw [arrV_new]
    refine congrArg (arrV c N) (funext fun j => ?_)
    simp [va_rf]
  | i + 1 => by
    show (Jvm.Free.Multi.outerC c N h0 i).setSlot i (.ref (h0 + 1 + i)) = _
    rw [vr_outer c N h0 i, arrV_store]
    refine congrArg (arrV c N) (funext fun j => ?_)
    by_cases e : j = i
    · subst e
      simp [updV, va_rf]
    · by_cases h : j < i
      · simp [updV, e, h, Nat.lt_succ_of_lt h]
      · simp [updV, e, h, show ¬ j < i + 1 by omega]
section VGM
variable {p : Program} {l : Launch} {e : Env} {R : Room} {s : State} {m : MethodId} {args : Array Value} {below : List Frame} {meth : Method} {c : Code} {H : Heap} {locs : List Loc} {cells slots : Nat} {Q : State → Prop}
variable {cc : ByteArray} {pc : Nat} {ls : Array Slot} {rest : List Value} {D : va_G} {cl : List vw_C} {A : Nat → Prop} {a : Nat} {tys : List (ClassId × FieldType)} {ws : va_W} {H0 : Heap}
theorem va_mna {X : va_W} {L : List Nat} {f : Nat → va_E} {cc : ByteArray} (hexec : p.tables.exec = Jvm.exec) (hb : c.code = cc) {own : String} {index : Nat} {ty : FieldType} {cy : ClassId} (hown : s.vm.findClass own = some m.cls) (hclink : (Cond.classLink own index ("[" ++ (FieldType.array ty).toString)).before args s = true) (hover : (Cond.arrayOver (.array ty)).before args s = true) (harr : (Cond.arrayClass ty).before args s = true) (hcy : s.vm.findClass (FieldType.array ty).toString = some cy)
    (hK : va_K D cl tys s) (hP : va_P D cl (X ++ va_pl L f) H) (hD : va_D A (X ++ va_pl L f)) (hS : va_S A H0 H locs) (hA : ∀ q, H0.size ≤ q → A q) {n k : Int32} {N' K' : Nat} {z : vp_A} (hn : ¬ n < 0) (hk : ¬ k < 0) (hN : n.toNatClampNeg = N') (hM : k.toNatClampNeg = K')
    (hb1 : N' * 4 ≤ 536870912) (hb2 : K' * componentBytes ty ≤ 536870912) (hb3 : K' ≤ 536870912) (hdf : fits ty (defaultValue ty) = true) (hdd : (defaultValue ty).isDefault = true) (hcells : cells + (1 + N') ≤ R.cells) (hslots : slots + (N' + N' * K') ≤ R.slots) (hz : ∀ c : ClassId, Jvm.Free.Multi.innerC c K' (defaultValue ty) = vp_cell c z) (hdg : decode cc pc = .ok (.multianewarray index 2, 4))
    (kk : ∀ (q : Nat) (r : Nat → Nat) (cA : ClassId) (H1 : Heap), (∀ i j : Nat, i < N' → j < N' → r i = r j → i = j) → (∀ i : Nat, i < N' → r i ∉ L) → va_K D cl (tys ++ [(cA, .array ty)]) s →
      va_P D cl ((X ++ [(q, .inl (cA, N', .inr (.inr (.inr (.inr (fun i => if i < N' then some (r i) else none))))))]) ++ va_pl (L ++ (List.range N').map r) (vr_up f ((List.range N').map r) (.inl (cy, z)))) H1 → va_D A ((X ++ [(q, .inl (cA, N', .inr (.inr (.inr (.inr (fun i => if i < N' then some (r i) else none))))))]) ++ va_pl (L ++ (List.range N').map r) (vr_up f ((List.range N').map r) (.inl (cy, z)))) → va_S A H0 H1 locs →
      W p l e R s m args below meth c H1 locs (cells + 1 + N') (slots + N' + N' * K') Q (F0 m (pc + 4) ls (.ref q :: rest))) : W p l e R s m args below meth c H locs cells slots Q (F0 m pc ls (.int k :: .int n :: rest)) := by
  subst hN
  subst hM
  intro T hT Xs
  obtain ⟨vm₁, cA, comp, -, fA, fC, hO, -, X', step⟩ := Xs.multianewarray2F hexec hown hclink hover harr (g := F0 m pc ls (.int k :: .int n :: rest)) rfl (by rw [hb]; exact hdg) rfl hn hk hb1 hb2 hb3 hdf hdd hcells hslots
  have ec : some cy = some comp := hcy.symm.trans fC
  cases ec
  generalize hF : Jvm.Free.Multi.fill (T.setVm vm₁) cA cy n.toNatClampNeg k.toNatClampNeg (defaultValue ty) n.toNatClampNeg = F at X' step
  have hTh : (T.setVm vm₁).heap = H := hT
  obtain ⟨f1, f2, -, -⟩ := Jvm.Free.Multi.fill_facts (T.setVm vm₁) cA cy n.toNatClampNeg k.toNatClampNeg (defaultValue ty) n.toNatClampNeg
  rw [hF, hTh] at f1 f2
  have hold : ∀ x : Nat, x < H.size → F.heap[x]? = H[x]? := fun x hx => by
    have := Jvm.Free.Multi.fill_old (T.setVm vm₁) cA cy n.toNatClampNeg k.toNatClampNeg (defaultValue ty) (a := x) (by rw [hTh]; exact hx) n.toNatClampNeg
    rw [hF, hTh] at this
    exact this
  have hrow : ∀ j : Nat, j < n.toNatClampNeg → F.heap[H.size + 1 + j]? = some (vp_cell cy z) := fun j hj => by
    have := Jvm.Free.Multi.fill_inner (T.setVm vm₁) cA cy n.toNatClampNeg k.toNatClampNeg (defaultValue ty) n.toNatClampNeg j hj
    rw [hF, hTh, hz] at this
    exact this
  have hout : Jvm.Free.Multi.outerC cA n.toNatClampNeg H.size n.toNatClampNeg = vp_cell cA (n.toNatClampNeg, .inr (.inr (.inr (.inr (fun i => if i < n.toNatClampNeg then some (H.size + 1 + i) else none))))) := by
    rw [vp_cell_q]
    exact vr_outer cA n.toNatClampNeg H.size n.toNatClampNeg
  rw [hout] at f2
  have hlt : ∀ a, a ∈ L → a < H.size := fun a ha => by
    obtain ⟨k9, hk9⟩ := va_pl_get (X := X) (f := f) ha
    exact (hP k9 _ hk9).lt
  have hnl : ∀ i : Nat, i < n.toNatClampNeg → H.size + 1 + i ∉ L := fun i _ h => by
    have := hlt _ h
    omega
  have hnm : ∀ a, a ∈ (List.range n.toNatClampNeg).map (fun i => H.size + 1 + i) → a ∉ L := fun a ha h => by
    obtain ⟨i, -, rfl⟩ := List.mem_map.mp ha
    have := hlt _ h
    omega
  have hP0 : va_P D cl (X ++ va_pl L f) F.heap := hP.kept (fun k9 x hx => hold x.1 ((hP k9 x hx).lt))
  have hP1 : va_P D cl ((X ++ va_pl L f) ++ [(H.size, .inl (cA, n.toNatClampNeg, .inr (.inr (.inr (.inr (fun i => if i < n.toNatClampNeg then some (H.size + 1 + i) else none))))))]) F.heap := hP0.app (fun k9 x hx => by
    have h0 : k9 < 1 := (List.getElem?_eq_some_iff.mp hx).1
    rw [show k9 = 0 by omega] at hx
    cases hx
    exact f2)
  have hP2 : va_P D cl (((X ++ va_pl L f) ++ [(H.size, .inl (cA, n.toNatClampNeg, .inr (.inr (.inr (.inr (fun i => if i < n.toNatClampNeg then some (H.size + 1 + i) else none))))))]) ++ ((List.range n.toNatClampNeg).map (fun i => H.size + 1 + i)).map (fun a => (a, .inl (cy, z)))) F.heap := hP1.app (fun k9 x hx => by
    obtain ⟨a, ha, rfl⟩ := List.mem_map.mp (List.mem_of_getElem? hx)
    obtain ⟨i, hi, rfl⟩ := List.mem_map.mp ha
    exact hrow i (List.mem_range.mp hi))
  have hD2 : va_D A (((X ++ va_pl L f) ++ [(H.size, .inl (cA, n.toNatClampNeg, .inr (.inr (.inr (.inr (fun i => if i < n.toNatClampNeg then some (H.size + 1 + i) else none))))))]) ++ ((List.range n.toNatClampNeg).map (fun i => H.size + 1 + i)).map (fun a => (a, .inl (cy, z)))) := by
    have hD1 := hD.push (e := .inl (cA, n.toNatClampNeg, .inr (.inr (.inr (.inr (fun i => if i < n.toNatClampNeg then some (H.size + 1 + i) else none)))))) hP rfl (hA _ hS.1)
    generalize hW1 : (X ++ va_pl L f) ++ [(H.size, .inl (cA, n.toNatClampNeg, .inr (.inr (.inr (.inr (fun i => if i < n.toNatClampNeg then some (H.size + 1 + i) else none))))))] = W1 at hD1 hP1 ⊢
    have hle : ∀ (k9 : Nat) (x : Nat × va_E), W1[k9]? = some x → x.1 ≤ H.size := fun k9 x hx => by
      rw [← hW1] at hx
      by_cases hl : k9 < (X ++ va_pl L f).length
      · rw [List.getElem?_append_left hl] at hx
        exact Nat.le_of_lt ((hP k9 x hx).lt)
      · rw [List.getElem?_append_right (by omega)] at hx
        have h0 : k9 - (X ++ va_pl L f).length < 1 := (List.getElem?_eq_some_iff.mp hx).1
        rw [show k9 - (X ++ va_pl L f).length = 0 by omega] at hx
        cases hx
        exact Nat.le_refl _
    have hr : ∀ (k9 : Nat) (x : Nat × va_E), (((List.range n.toNatClampNeg).map (fun i => H.size + 1 + i)).map (fun a => ((a, .inl (cy, z)) : Nat × va_E)))[k9]? = some x → x.1 = H.size + 1 + k9 := fun k9 x hx => by
      rw [List.getElem?_map, List.getElem?_map] at hx
      by_cases h9 : k9 < n.toNatClampNeg
      · rw [List.getElem?_range h9] at hx
        cases hx
        rfl
      · have hn0 : (List.range n.toNatClampNeg)[k9]? = none := List.getElem?_eq_none (by rw [List.length_range]; omega)
        rw [hn0] at hx
        cases hx
    refine ⟨fun i j x y hi hj hxy => ?_, fun k9 x hx => ?_⟩
    · by_cases h1 : i < W1.length <;> by_cases h2 : j < W1.length
      · rw [List.getElem?_append_left h1] at hi
        rw [List.getElem?_append_left h2] at hj
        exact hD1.1 i j x y hi hj hxy
      · rw [List.getElem?_append_left h1] at hi
        rw [List.getElem?_append_right (by omega)] at hj
        have := hle _ _ hi
        have := hr _ _ hj
        omega
      · rw [List.getElem?_append_right (by omega)] at hi
        rw [List.getElem?_append_left h2] at hj
        have := hle _ _ hj
        have := hr _ _ hi
        omega
      · rw [List.getElem?_append_right (by omega)] at hi hj
        have := hr _ _ hi
        have := hr _ _ hj
        omega
    · by_cases h1 : k9 < W1.length
      · rw [List.getElem?_append_left h1] at hx
        exact hD1.2 k9 x hx
      · rw [List.getElem?_append_right (by omega)] at hx
        have := hr _ _ hx
        exact hA _ (by have := hS.1; omega)
  have hAr : ArrOfT s cA (.array ty) := fun N9 z9 => by
    obtain ⟨-, k9, hk9, cm9, hkk9⟩ := (hO 0 0 0).1
    exact ⟨(fun q hq => by cases hq), k9, hk9, cm9, hkk9⟩
  have hK2 : va_K D cl (tys ++ [(cA, .array ty)]) s := ⟨hK.1, fun k9 x hx => by
    by_cases hl : k9 < tys.length
    · rw [List.getElem?_append_left hl] at hx
      exact hK.2 k9 x hx
    · rw [List.getElem?_append_right (by omega)] at hx
      have h0 : k9 - tys.length < 1 := (List.getElem?_eq_some_iff.mp hx).1
      rw [show k9 - tys.length = 0 by omega] at hx
      cases hx
      exact ⟨hAr, fA⟩⟩
  obtain ⟨t, a1, b1⟩ := kk H.size (fun i => H.size + 1 + i) cA F.heap (fun i j _ _ h => by have h9 : H.size + 1 + i = H.size + 1 + j := h; omega) hnl hK2 (by rw [← vr_rows hnm]; exact vr_lay hP2) (by rw [← vr_rows hnm]; exact vr_layD hD2) ⟨by rw [f1]; have := hS.1; omega, fun x h1 h2 => (hold x (Nat.lt_of_lt_of_le h1 hS.1)).trans (hS.2.1 x h1 h2), hS.2.2⟩ F rfl X'
  refine ⟨t, step t ?_, b1⟩
  have e : T.heap.size = H.size := by rw [hT]
  rw [e]
  exact a1
end VGM
/-! ===== END ===== -/

/-! ===== BEGIN exceptions that leave a method, and their catching by the caller (launches without stack traces) ===== -/
section VXA
/-! The laws vx_back, vx_callV, vx_callS, vx_callSW, vx_throw0, vx_throwS follow proofs of the library, with one case more: JvmDerived/Free/Laws.lean (Back.of_free), Shelf42/LK1.lean (callV, callS), Shelf/KitTraced.lean (throwNew0V, throwNewS). -/
/-- where a method has thrown q: the class by its name, the cell, what was written, the world -/
def vx_T (XC : String → State → State → Prop) (st : State) (q : Addr) (t : State) (mc ms : Nat) (free : Addr → Prop) : Prop :=
  ∃ (E : String) (ce : Cell) (L : List Loc), XC E st t ∧ t.heap[q]? = some ce ∧ ce.vm = .none ∧ st.vm.findClass E = some ce.cls ∧ st.WarmedH t.vm ∧ st.sameButNew ({ t with vm := st.vm } : State) L mc ms ∧ ∀ z ∈ L, free z.base
def vx_Q (Qc : Array Value → State → Outcome → State → Prop) (XC : String → State → State → Prop) (mc ms : Nat) (free : Addr → Prop) : Array Value → State → Outcome → State → Prop := fun a st o t =>
  (Qc a st o t ∧ ∃ L, FrameEnd st o t L mc ms ∧ ∀ q ∈ L, free q.base) ∨ ∃ q, o = .threw q ∧ vx_T XC st q t mc ms free
/-- a callee that returns or throws -/
def vx_Met (l : Launch) (y : MethodName) (ws : List Cond) (rm : Room) (Pc : Array Value → State → Prop) (Qc : Array Value → State → Outcome → State → Prop) (XC : String → State → State → Prop) (mc ms : Nat) (free : Addr → Prop) : Prop :=
  MetFree l y (headSpec ws rm) Pc (fun _ _ _ _ _ => True) (vx_Q Qc XC mc ms free)
def vx_Post (XC : String → State → State → Prop) (mc ms : Nat) (free : Addr → Prop) : Pt → Array Value → Addr → Pt → Prop := fun A a q B =>
  ∃ (g : JFrame) (mk : MethodId) (t : State) (L : List Loc) (E : String) (ce : Cell), B.U.heap = t.heap ∧ B.U.vm = t.vm ∧ XC E (A.U.calling g mk a) t ∧ t.heap[q]? = some ce ∧ ce.vm = .none ∧ A.U.vm.findClass E = some ce.cls ∧ B.locs = A.locs ++ L ∧ (∀ z ∈ L, free z.base) ∧ B.cells = A.cells + mc ∧ B.slots = A.slots + ms
def vx_Back (l : Launch) (R : Room) (p : Program) (e : Env) (below : List Frame) (s : State) (sargs : Array Value) (y : MethodName) (len W9 : Nat)
    (Pre : Pt → Array Value → Prop) (Post : Pt → Array Value → Option Value → Pt → Prop) (PostX : Pt → Array Value → Addr → Pt → Prop) : Prop :=
  ∀ (m : MethodId) (meth : Method) (c : Code) (A : Pt) (g : JFrame) (ig : Instr) (mk : MethodId) (a : Array Value),
    Stand p l e R s m sargs below meth c A.U A.locs A.cells A.slots → g.method = m → g.locals.size = c.maxLocals → decode c.code g.pc = .ok (ig, len) →
    2 * g.monitorRoom + (g.stack.map fun v => v.category).sum ≤ W9 → A.U.methodNamed? y = some mk → Pre A a →
    (∃ (v : Option Value) (B : Pt), Stand p l e R s m sargs below meth c B.U B.locs B.cells B.slots ∧ Post A a v B ∧
      Steps p.tables e below (doInvoke e (A.U.setTop g) [] mk a).1 (B.U.setTop { g with pc := g.pc + len, stack := v.toList ++ g.stack })) ∨
    (∃ (q : Addr) (B : Pt), Stand p l e R s m sargs below meth c B.U B.locs B.cells B.slots ∧ PostX A a q B ∧
      Steps p.tables e below (doInvoke e (A.U.setTop g) [] mk a).1 ((B.U.setTop g).pushFrame (.throwing q)))
section Payer
variable {l : Launch} {R : Room} {p : Program} {e : Env} {below : List Frame} {s : State} {sargs : Array Value} {y : MethodName} {len W9 : Nat}
theorem vx_back {ws : List Cond} {rm : Room} {Pc : Array Value → State → Prop} {Qc : Array Value → State → Outcome → State → Prop} {XC : String → State → State → Prop} {mc ms : Nat} {free : Addr → Prop} {bytes : ByteArray} {maxL : Nat} {ret : Option FieldType}
    (hM : vx_Met l y ws rm Pc Qc XC mc ms free) (hblind : FrameBlind Pc) (hrc : rm.cells = mc) (hrs : rm.slots = ms)
    (hframes : rm.frames + 1 ≤ R.frames) (hlocals : W9 + (maxL + 11) + rm.locals ≤ R.locals)
    (hws : ∀ w ∈ ws, ∀ a' U, s.WarmedH U.vm → w.before a' U = true) (hcode : Cond.code y bytes maxL ret ∈ ws) (hinit : ∀ a' U, s.WarmedH U.vm → (Cond.initialized y.cls).before a' U = true) :
    vx_Back l R p e below s sargs y len W9 (PreOf R mc ms Pc) (PostOf Qc mc ms free) (vx_Post XC mc ms free) := by
  intro m meth c A g ig mk a X hg hsize hdg hW hn hp
  have h1 : (headSpec ws rm).pre.before a A.U = true := atoms_intro fun w hw => hws w hw _ _ X.warmed
  have h2 : (Cond.code y bytes maxL ret).before a A.U = true := hws _ hcode _ _ X.warmed
  have h3 : (Cond.initialized y.cls).before a A.U = true := hinit _ _ X.warmed
  have h4 : A.cells + (headSpec ws rm).room.cells ≤ R.cells := by rw [show (headSpec ws rm).room.cells = mc from hrc]; exact hp.1
  have h5 : A.slots + (headSpec ws rm).room.slots ≤ R.slots := by rw [show (headSpec ws rm).room.slots = ms from hrs]; exact hp.2.1
  have hPc : Pc a (A.U.calling g mk a) := hblind _ _ _ _ hp.2.2
  obtain ⟨U, Ls, c0, s0⟩ := A
  dsimp only [Pt.U, Pt.locs, Pt.cells, Pt.slots] at h1 h2 h3 h4 h5 X hn hPc ⊢
  obtain ⟨methY, cY, hmY, hcY, -, hlY, -, -, -, -⟩ := Cond.code_spec hn h2
  obtain ⟨kY, hkY, -⟩ := className_of_methodNamed hn
  have hinitY : kY.init = .initialized := Cond.initialized_spec (findClass_of_methodNamed hn) hkY h3
  have h : At U g.method c below := by rw [hg]; exact X.here
  have hlocals9 : W9 + (maxL + 11) + (headSpec ws rm).room.locals ≤ R.locals := hlocals
  have happ : (headSpec ws rm).appliesLoose y e.platform (U.calling g mk a) = true :=
    Spec.appliesLoose_calling (g := g) h hdg hn hkY hinitY
      (X.room_calling (g := g) (R' := (headSpec ws rm).room) hsize hmY hcY hframes (by rw [hlY]; omega) h4 h5) h1
  obtain ⟨mid, hmid⟩ := h.above
  have hfr : (U.setTop g).frames = (.java g :: mid) ++ below := by rw [State.frames_setTop' g h.top, hmid]; rfl
  obtain ⟨o, s₂, hsteps, -, hend, hq⟩ := Steps.callFree hM p X.admits X.cas X.clock (acts := []) hfr happ hPc trivial
  have hq' : vx_Q Qc XC mc ms free a (U.calling g mk a) o s₂ := hq
  rw [State.frames_setTop' g h.top] at hend
  obtain ⟨g₀, hg0⟩ := Option.isSome_iff_exists.mp h.top
  obtain ⟨r, hr⟩ := State.topJava?_eq_some.mp hg0
  have hr' : (({ U with heap := s₂.heap, slotsUsed := s₂.slotsUsed } : State).setVm s₂.vm).frames = .java g₀ :: r := hr
  rcases hq' with ⟨hqc, L, hfe, hL⟩ | ⟨q, rfl, E, ce, L, hx, hce, hcv, hcl, hW₂, hsm, hL⟩
  · obtain ⟨⟨v, rfl⟩, hW₂, e2, q2, q3, q4, q5, q6⟩ := id hfe
    have e3 : s₂ = ({ (U.calling g mk a).setFrames s₂.frames with heap := s₂.heap, slotsUsed := s₂.slotsUsed } : State).setVm s₂.vm := by
      have : s₂ = ({ s₂ with vm := (U.calling g mk a).vm } : State).setVm s₂.vm := rfl
      rw [e2] at this
      exact this
    obtain ⟨c₂, i₂, len₂, hc₂, hd₂, hf₂⟩ := hend
    have hW' : U.WarmedH s₂.vm := hW₂
    have hcc : c₂ = c := by
      have h1 : s₂.code? g.method = U.code? g.method := by
        rw [State.code?_eq, State.code?_eq, hW'.alike.method?]
      exact Option.some.inj (hc₂.symm.trans (h1.trans h.code))
    subst hcc
    have hlen : len₂ = len := by rw [hdg] at hd₂; cases hd₂; rfl
    subst hlen
    have hs₂ : s₂ = (({ U with heap := s₂.heap, slotsUsed := s₂.slotsUsed } : State).setVm s₂.vm).setTop { g with pc := g.pc + len₂, stack := v.toList ++ g.stack } := by
      refine e3.trans ?_
      rw [hf₂, State.calling_eq h.top, State.setFrames_setFrames, State.setTop_of_frames _ hr', hr]
      rfl
    have hsame : U.sameButNew ({ U with heap := s₂.heap, slotsUsed := s₂.slotsUsed } : State) L mc ms := by
      refine ⟨?_, q2, q3, q4, q5, q6⟩
      obtain ⟨t, ht, -⟩ := State.frames_cons hr
      show ({ U with heap := s₂.heap, slotsUsed := s₂.slotsUsed } : State) = { U.setFrames U.frames with heap := s₂.heap, slotsUsed := s₂.slotsUsed }
      rw [State.setFrames_self ht]
    subst hg
    refine Or.inl ⟨v, ⟨(({ U with heap := s₂.heap, slotsUsed := s₂.slotsUsed } : State).setVm s₂.vm), Ls ++ L, c0 + mc, s0 + ms⟩,
      ⟨X.admits, X.cas, X.clock, X.frames, X.room, X.hears, X.method, X.code, (X.here.setHeapUsed s₂.heap s₂.slotsUsed).setVm hW'.alike, X.tail, State.WarmedH.trans X.warmed hW', X.limits, X.bytes, X.same.trans (hsame.setVm s.vm)⟩,
      ⟨g, mk, s₂, L, rfl, rfl, hqc, rfl, hL, rfl, rfl⟩, ?_⟩
    show Steps p.tables e below _ ((({ U with heap := s₂.heap, slotsUsed := s₂.slotsUsed } : State).setVm s₂.vm).setTop { g with pc := g.pc + len₂, stack := v.toList ++ g.stack })
    rw [← hs₂]
    exact hsteps
  · obtain ⟨e2, q2, q3, q4, q5, q6⟩ := id hsm
    have e3 : s₂ = ({ (U.calling g mk a).setFrames s₂.frames with heap := s₂.heap, slotsUsed := s₂.slotsUsed } : State).setVm s₂.vm := by
      have : s₂ = ({ s₂ with vm := (U.calling g mk a).vm } : State).setVm s₂.vm := rfl
      rw [e2] at this
      exact this
    have hf₂ : s₂.frames = .throwing q :: .java g :: U.frames.tail := hend
    have hW' : U.WarmedH s₂.vm := hW₂
    have hs₂ : s₂ = ((({ U with heap := s₂.heap, slotsUsed := s₂.slotsUsed } : State).setVm s₂.vm).setTop g).pushFrame (.throwing q) := by
      refine e3.trans ?_
      rw [hf₂, State.calling_eq h.top, State.setFrames_setFrames, State.pushFrame, State.frames_setTop _ hr', State.setTop_of_frames _ hr', State.setFrames_setFrames, hr]
      rfl
    have hsame : U.sameButNew ({ U with heap := s₂.heap, slotsUsed := s₂.slotsUsed } : State) L mc ms := by
      refine ⟨?_, q2, q3, q4, q5, q6⟩
      obtain ⟨t, ht, -⟩ := State.frames_cons hr
      show ({ U with heap := s₂.heap, slotsUsed := s₂.slotsUsed } : State) = { U.setFrames U.frames with heap := s₂.heap, slotsUsed := s₂.slotsUsed }
      rw [State.setFrames_self ht]
    subst hg
    refine Or.inr ⟨q, ⟨(({ U with heap := s₂.heap, slotsUsed := s₂.slotsUsed } : State).setVm s₂.vm), Ls ++ L, c0 + mc, s0 + ms⟩,
      ⟨X.admits, X.cas, X.clock, X.frames, X.room, X.hears, X.method, X.code, (X.here.setHeapUsed s₂.heap s₂.slotsUsed).setVm hW'.alike, X.tail, State.WarmedH.trans X.warmed hW', X.limits, X.bytes, X.same.trans (hsame.setVm s.vm)⟩,
      ⟨g, mk, s₂, L, E, ce, rfl, rfl, hx, hce, hcv, hcl, rfl, hL, rfl, rfl⟩, ?_⟩
    show Steps p.tables e below _ (((({ U with heap := s₂.heap, slotsUsed := s₂.slotsUsed } : State).setVm s₂.vm).setTop g).pushFrame (.throwing q))
    rw [← hs₂]
    exact hsteps
end Payer
section Calls
variable {p : Program} {l : Launch} {e : Env} {R : Room} {s : State} {m : MethodId} {args : Array Value} {below : List Frame} {meth : Method} {c : Code} {T : State} {locs : List Loc} {cells slots : Nat}
theorem vx_callV (X : Stand p l e R s m args below meth c T locs cells slots) (hexec : p.tables.exec = Jvm.exec) {own C : String} {index : Nat} {y : MethodName} {bytes : ByteArray} {maxL : Nat} {ret : Option FieldType}
    (hown : s.vm.findClass own = some m.cls) (hlink : (Cond.methodLink own index y).before args s = true) (hinst : (Cond.instanceMethod y).before args s = true) (hsel : (Cond.selects C y y).before args s = true)
    (hcode : (Cond.code y bytes maxL ret).before args s = true) (hy : y.cls ≠ "java/lang/invoke/MethodHandle" ∧ y.cls ≠ "java/lang/invoke/VarHandle")
    {W9 : Nat} {Pre : Pt → Array Value → Prop} {Post : Pt → Array Value → Option Value → Pt → Prop} {PostX : Pt → Array Value → Addr → Pt → Prop} (hK : vx_Back l R p e below s args y 3 W9 Pre Post PostX)
    {b : Addr} {cellB : Cell} (hcell : T.heap[b]? = some cellB) (hobj : cellB.vm.isStatics = false) (hcls : s.vm.findClass C = some cellB.cls)
    {g : JFrame} (hg : g.method = m) (hsize : g.locals.size = c.maxLocals) {argsL rest : List Value} (hlen : ∀ sig, parseMethodDescriptor y.desc = some sig → argsL.length = sig.parameters.length)
    (hstack : g.stack = argsL.reverse ++ .ref b :: rest) (hW : 2 * g.monitorRoom + (rest.map fun v => v.category).sum ≤ W9) (hdg : decode c.code g.pc = .ok (.invokevirtual index, 3))
    (hpre : ∀ vm₁, s.WarmedH vm₁ → Pre ⟨T.setVm vm₁, locs, cells, slots⟩ (Value.ref b :: argsL).toArray) :
    (∃ (v : Option Value) (vm₁ : Vm) (B : Pt), s.WarmedH vm₁ ∧ Stand p l e R s m args below meth c B.U B.locs B.cells B.slots ∧ Post ⟨T.setVm vm₁, locs, cells, slots⟩ (Value.ref b :: argsL).toArray v B ∧
      ∀ target, Steps p.tables e below (B.U.setTop { g with pc := g.pc + 3, stack := v.toList ++ rest }) target → Steps p.tables e below (T.setTop g) target) ∨
    (∃ (q : Addr) (vm₁ : Vm) (B : Pt), s.WarmedH vm₁ ∧ Stand p l e R s m args below meth c B.U B.locs B.cells B.slots ∧ PostX ⟨T.setVm vm₁, locs, cells, slots⟩ (Value.ref b :: argsL).toArray q B ∧
      Steps p.tables e below (T.setTop g) ((B.U.setTop { g with stack := rest }).pushFrame (.throwing q))) := by
  obtain ⟨mk, methM, hnamed, hmethM, hstM, habM⟩ := Cond.instanceMethod_spec hinst
  obtain ⟨methM', cM, hmethM', -, -, -, -, -, -, hsigM⟩ := Cond.code_spec hnamed hcode
  cases hmethM.symm.trans hmethM'
  obtain ⟨c2, r2, m2, q1, q2, q3, q4, kP, hkP, hkPi⟩ := Cond.selects_spec hsel
  cases hcls.symm.trans q1
  cases (State.methodFound?_of_named hnamed hy).symm.trans q2
  cases hnamed.symm.trans q3
  have hselP : selectMethod e.platform s.vm cellB.cls mk = .method mk := by rw [Launch.admits_selectMethod X.admits]; exact q4
  obtain ⟨vm₁, X₁, hstep₁⟩ := X.invokevirtual hexec hown hlink hnamed hmethM hstM hkP hkPi hy (a := b) (cell := cellB) hcell
    (fun z h => by rw [h] at hobj; cases hobj) hselP hmethM habM hkP hkPi (g := g) hg (argsL := argsL) (rest := rest) (hlen _ hsigM) hstack hdg
  rcases hK m meth c ⟨T.setVm vm₁, locs, cells, slots⟩ { g with stack := rest } (.invokevirtual index) mk (Value.ref b :: argsL).toArray X₁ hg hsize hdg hW (X₁.named hnamed) (hpre vm₁ X₁.warmed) with ⟨v, B, X', hpost, hsteps⟩ | ⟨q, B, X', hpost, hsteps⟩
  · exact Or.inl ⟨v, vm₁, B, X₁.warmed, X', hpost, fun target h => hstep₁ _ fun acts => by rw [doInvoke_state]; exact hsteps.trans h⟩
  · exact Or.inr ⟨q, vm₁, B, X₁.warmed, X', hpost, hstep₁ _ fun acts => by rw [doInvoke_state]; exact hsteps⟩
theorem vx_callS (X : Stand p l e R s m args below meth c T locs cells slots) (hexec : p.tables.exec = Jvm.exec) {own : String} {index : Nat} {y : MethodName} {bytes : ByteArray} {maxL : Nat} {ret : Option FieldType}
    (hown : s.vm.findClass own = some m.cls) (hlink : (Cond.methodLink own index y).before args s = true) (hstat : (Cond.static y).before args s = true) (hinit : (Cond.initialized y.cls).before args s = true)
    (hcode : (Cond.code y bytes maxL ret).before args s = true) (hy : y.cls ≠ "java/lang/invoke/MethodHandle" ∧ y.cls ≠ "java/lang/invoke/VarHandle")
    {W9 : Nat} {Pre : Pt → Array Value → Prop} {Post : Pt → Array Value → Option Value → Pt → Prop} {PostX : Pt → Array Value → Addr → Pt → Prop} (hK : vx_Back l R p e below s args y 3 W9 Pre Post PostX)
    {g : JFrame} (hg : g.method = m) (hsize : g.locals.size = c.maxLocals) {argsL rest : List Value} (hlen : ∀ sig, parseMethodDescriptor y.desc = some sig → argsL.length = sig.parameters.length)
    (hstack : g.stack = argsL.reverse ++ rest) (hW : 2 * g.monitorRoom + (rest.map fun v => v.category).sum ≤ W9) (hdg : decode c.code g.pc = .ok (.invokestatic index, 3))
    (hpre : ∀ vm₁, s.WarmedH vm₁ → Pre ⟨T.setVm vm₁, locs, cells, slots⟩ argsL.toArray) :
    (∃ (v : Option Value) (vm₁ : Vm) (B : Pt), s.WarmedH vm₁ ∧ Stand p l e R s m args below meth c B.U B.locs B.cells B.slots ∧ Post ⟨T.setVm vm₁, locs, cells, slots⟩ argsL.toArray v B ∧
      ∀ target, Steps p.tables e below (B.U.setTop { g with pc := g.pc + 3, stack := v.toList ++ rest }) target → Steps p.tables e below (T.setTop g) target) ∨
    (∃ (q : Addr) (vm₁ : Vm) (B : Pt), s.WarmedH vm₁ ∧ Stand p l e R s m args below meth c B.U B.locs B.cells B.slots ∧ PostX ⟨T.setVm vm₁, locs, cells, slots⟩ argsL.toArray q B ∧
      Steps p.tables e below (T.setTop g) ((B.U.setTop { g with stack := rest }).pushFrame (.throwing q))) := by
  obtain ⟨mk, hnamed⟩ := Cond.code_named hcode
  obtain ⟨methM, cM, hmethM, -, -, -, -, -, -, hsigM⟩ := Cond.code_spec hnamed hcode
  have hstatic : methM.isStatic = true := Cond.static_spec hnamed hmethM hstat
  obtain ⟨kP, hkP, -⟩ := className_of_methodNamed hnamed
  have hinitP : kP.init = .initialized := Cond.initialized_spec (findClass_of_methodNamed hnamed) hkP hinit
  obtain ⟨vm₁, X₁, hstep₁⟩ := X.invokestatic hexec hown hlink hnamed hmethM hstatic hkP hinitP hy (g := g) hg (argsL := argsL) (rest := rest) (hlen _ hsigM) hstack hdg
  rcases hK m meth c ⟨T.setVm vm₁, locs, cells, slots⟩ { g with stack := rest } (.invokestatic index) mk argsL.toArray X₁ hg hsize hdg hW (X₁.named hnamed) (hpre vm₁ X₁.warmed) with ⟨v, B, X', hpost, hsteps⟩ | ⟨q, B, X', hpost, hsteps⟩
  · exact Or.inl ⟨v, vm₁, B, X₁.warmed, X', hpost, fun target h => hstep₁ _ fun acts => by rw [doInvoke_state]; exact hsteps.trans h⟩
  · exact Or.inr ⟨q, vm₁, B, X₁.warmed, X', hpost, hstep₁ _ fun acts => by rw [doInvoke_state]; exact hsteps⟩
end Calls
theorem vx_cls {s : State} {T : State} {vm₁ : Vm} {E : String} {k : ClassId} (hW : s.WarmedH vm₁) (h : (T.setVm vm₁).vm.findClass E = some k) : s.vm.findClass E = some k := by
  have h1 : vm₁.findClass E = some k := h
  rw [hW.alike.findClass] at h1
  exact h1
/-- the method's frame g, with q thrown over it -/
def vx_W (p : Program) (l : Launch) (e : Env) (R : Room) (s : State) (m : MethodId) (args : Array Value) (below : List Frame) (meth : Method) (c : Code) (H : Heap) (locs : List Loc) (cells slots : Nat) (Q : State → Prop) (g : JFrame) (q : Addr) : Prop :=
  ∀ T : State, T.heap = H → Stand p l e R s m args below meth c T locs cells slots → ∃ t, Steps p.tables e below ((T.setTop g).pushFrame (.throwing q)) t ∧ Q t
def vx_Run (p : Program) (l : Launch) (e : Env) (R : Room) (s : State) (m : MethodId) (args : Array Value) (below : List Frame) (meth : Method) (c : Code) (H : Heap) (locs : List Loc) (cells slots mc ms : Nat) (g : JFrame) (rest : List Value) (Qa : State → Outcome → State → Prop) (XC : String → State → State → Prop) (free : Addr → Prop) : Prop :=
  ∀ T : State, T.heap = H → Stand p l e R s m args below meth c T locs cells slots →
    (∃ (v : Option Value) (st₀ t T' : State) (L : List Loc), st₀.heap = H ∧ Stand p l e R s m args below meth c T' (locs ++ L) (cells + mc) (slots + ms) ∧ (∀ q ∈ L, free q.base) ∧ T'.heap = t.heap ∧ T'.vm = t.vm ∧ Qa st₀ (.returned v) t ∧
      Goes p e below T g T' { g with pc := g.pc + 3, stack := v.toList ++ rest }) ∨
    (∃ (q : Addr) (st₀ t T' : State) (L : List Loc) (E : String) (ce : Cell), st₀.heap = H ∧ Stand p l e R s m args below meth c T' (locs ++ L) (cells + mc) (slots + ms) ∧ (∀ z ∈ L, free z.base) ∧ T'.heap = t.heap ∧ T'.vm = t.vm ∧ XC E st₀ t ∧ t.heap[q]? = some ce ∧ ce.vm = .none ∧ s.vm.findClass E = some ce.cls ∧
      Steps p.tables e below (T.setTop g) ((T'.setTop { g with stack := rest }).pushFrame (.throwing q)))
def vx_X {S : Type} (px : S → Prop) (B : String → S → State → Prop) (A : Nat → Prop) : String → State → State → Prop := fun E st t => ∃ u : S, px u ∧ B E u t ∧ va_F A st t
section Runs
variable {p : Program} {l : Launch} {e : Env} {R : Room} {s : State} {m : MethodId} {args : Array Value} {below : List Frame} {meth : Method} {c : Code} {H : Heap} {locs : List Loc} {cells slots : Nat}
variable {y : MethodName} {bytes cc : ByteArray} {maxL nL mc ms n index : Nat} {ret : Option FieldType} {ws : List Cond} {rm : Room} {Pc : Array Value → State → Prop} {Qc : Array Value → State → Outcome → State → Prop} {XC : String → State → State → Prop} {free : Addr → Prop} {Ts : List Cond} {own C : String} {b : Addr} {As rest : List Value} {g : JFrame}
theorem vx_callBack (cb : CallB R s args own index y bytes maxL ret ws rm mc ms n) (hM : vx_Met l y ws rm Pc Qc XC mc ms free) (hbl : FrameBlind Pc) : vx_Back l R p e below s args y 3 8 (PreOf R mc ms Pc) (PostOf Qc mc ms free) (vx_Post XC mc ms free) := by
  obtain ⟨hrc, hrs, hfr, hlo, hws, hcw, -, hini, -⟩ := cb
  exact vx_back (bytes := bytes) (maxL := maxL) (ret := ret) hM hbl hrc hrs hfr hlo hws hcw (fun a' U hW => word_at hW (Or.inl (by first | rfl | simp [Cond.onTables, Cond.keeps, Cond.steady])) hini)
theorem vx_runV (S : CallFix p m c cc nL s args Ts own) (hM : vx_Met l y ws rm Pc Qc XC mc ms free) (cw : CallW R s args own C index y bytes maxL ret ws rm mc ms n) (hp : PreV s H C b Pc As)
    (hg : g.method = m) (hn : As.length = n) (hsize : g.locals.size = nL) (hstack : g.stack = As.reverse ++ .ref b :: rest) (hW : 2 * g.monitorRoom + (rest.map fun v => v.category).sum ≤ 8) (hdg : decode cc g.pc = .ok (.invokevirtual index, 3)) (hf : cells + mc ≤ R.cells ∧ slots + ms ≤ R.slots) :
    vx_Run p l e R s m args below meth c H locs cells slots mc ms g rest (Qc (Value.ref b :: As).toArray) XC free := by
  have hK : vx_Back l R p e below s args y 3 8 (PreOf R mc ms Pc) (PostOf Qc mc ms free) (vx_Post XC mc ms free) := vx_callBack cw.1 hM hp.1
  obtain ⟨⟨-, -, -, -, -, -, hcode, -, hy, hlen, hl⟩, hin, hse⟩ := cw
  obtain ⟨hx, hb, hml, ho, -⟩ := S
  obtain ⟨-, ⟨cellB, hcB, hoB, hclB⟩, hPc⟩ := hp
  intro T hT X
  rcases vx_callV X hx (C := C) (bytes := bytes) (maxL := maxL) (ret := ret) ho hl hin hse hcode hy hK (by rw [hT]; exact hcB) hoB hclB hg (hsize.trans hml.symm) (argsL := As) (rest := rest) (fun sig h => hn.trans (hlen sig h)) hstack hW (by rw [hb]; exact hdg)
    (fun vm₁ hW₁ => ⟨hf.1, hf.2, hPc (T.setVm vm₁) hT hW₁⟩) with ⟨v, vm₁, ⟨U', l2, c2, s2⟩, hW₁, X', ⟨g', mk, t, L, e1, e2, hq, h1, hL, h2, h3⟩, st⟩ | ⟨q, vm₁, ⟨U', l2, c2, s2⟩, hW₁, X', ⟨g', mk, t, L, E, ce, e1, e2, hq, hce, hcv, hcl, h1, hL, h2, h3⟩, st⟩
  · dsimp only [Pt.U, Pt.locs, Pt.cells, Pt.slots] at X' e1 e2 h1 h2 h3 st
    subst h1; subst h2; subst h3
    exact Or.inl ⟨v, (T.setVm vm₁).calling g' mk (Value.ref b :: As).toArray, t, U', L, hT, X', hL, e1, e2, hq, st⟩
  · dsimp only [Pt.U, Pt.locs, Pt.cells, Pt.slots] at X' e1 e2 h1 h2 h3 st hcl
    subst h1; subst h2; subst h3
    exact Or.inr ⟨q, (T.setVm vm₁).calling g' mk (Value.ref b :: As).toArray, t, U', L, E, ce, hT, X', hL, e1, e2, hq, hce, hcv, vx_cls hW₁ hcl, st⟩
theorem vx_runS (S : CallFix p m c cc nL s args Ts own) (hM : vx_Met l y ws rm Pc Qc XC mc ms free) (cw : CallB R s args own index y bytes maxL ret ws rm mc ms n ∧ (Cond.static y).before args s = true) (hp : PreS s H Pc As)
    (hg : g.method = m) (hn : As.length = n) (hsize : g.locals.size = nL) (hstack : g.stack = As.reverse ++ rest) (hW : 2 * g.monitorRoom + (rest.map fun v => v.category).sum ≤ 8) (hdg : decode cc g.pc = .ok (.invokestatic index, 3)) (hf : cells + mc ≤ R.cells ∧ slots + ms ≤ R.slots) :
    vx_Run p l e R s m args below meth c H locs cells slots mc ms g rest (Qc As.toArray) XC free := by
  have hK : vx_Back l R p e below s args y 3 8 (PreOf R mc ms Pc) (PostOf Qc mc ms free) (vx_Post XC mc ms free) := vx_callBack cw.1 hM hp.1
  obtain ⟨⟨-, -, -, -, -, -, hcode, hini, hy, hlen, hl⟩, hstt⟩ := cw
  obtain ⟨hx, hb, hml, ho, -⟩ := S
  intro T hT X
  rcases vx_callS X hx (bytes := bytes) (maxL := maxL) (ret := ret) ho hl hstt hini hcode hy hK hg (hsize.trans hml.symm) (argsL := As) (rest := rest) (fun sig h => hn.trans (hlen sig h)) hstack hW (by rw [hb]; exact hdg)
    (fun vm₁ hW₁ => ⟨hf.1, hf.2, hp.2 (T.setVm vm₁) hT hW₁⟩) with ⟨v, vm₁, ⟨U', l2, c2, s2⟩, hW₁, X', ⟨g', mk, t, L, e1, e2, hq, h1, hL, h2, h3⟩, st⟩ | ⟨q, vm₁, ⟨U', l2, c2, s2⟩, hW₁, X', ⟨g', mk, t, L, E, ce, e1, e2, hq, hce, hcv, hcl, h1, hL, h2, h3⟩, st⟩
  · dsimp only [Pt.U, Pt.locs, Pt.cells, Pt.slots] at X' e1 e2 h1 h2 h3 st
    subst h1; subst h2; subst h3
    exact Or.inl ⟨v, (T.setVm vm₁).calling g' mk As.toArray, t, U', L, hT, X', hL, e1, e2, hq, st⟩
  · dsimp only [Pt.U, Pt.locs, Pt.cells, Pt.slots] at X' e1 e2 h1 h2 h3 st hcl
    subst h1; subst h2; subst h3
    exact Or.inr ⟨q, (T.setVm vm₁).calling g' mk As.toArray, t, U', L, E, ce, hT, X', hL, e1, e2, hq, hce, hcv, vx_cls hW₁ hcl, st⟩
end Runs
section Rows
variable {p : Program} {l : Launch} {e : Env} {R : Room} {s : State} {m : MethodId} {args : Array Value} {below : List Frame} {meth : Method} {c : Code} {H : Heap} {locs : List Loc} {cells slots : Nat} {Q : State → Prop}
variable {mc ms : Nat} {free : Addr → Prop} {A0 A1 : Nat → Prop} {H0 : Heap} {a : Array Value} {pc : Nat} {ls : Array Slot} {st0 rest : List Value}
theorem vx_keep {st₀ t T' : State} {L : List Loc} (h0 : st₀.heap = H) (e1 : T'.heap = t.heap) (hS : va_S A0 H0 H locs) (hA : ∀ q, q < H.size → A1 q → A0 q) (hf : ∀ q, free q → A0 q) (hL : ∀ q ∈ L, free q.base) (hF : va_F A1 st₀ t) :
    H.size ≤ T'.heap.size ∧ (∀ q : Nat, q < H.size → ¬ A1 q → T'.heap[q]? = H[q]?) ∧ va_S A0 H0 T'.heap (locs ++ L) := by
  obtain ⟨hz, hk⟩ := hF
  rw [h0] at hz hk
  exact ⟨by rw [e1]; exact hz, fun q h1 h2 => by rw [e1]; exact hk q h1 h2,
    ⟨Nat.le_trans hS.1 (by rw [e1]; exact hz), fun q h1 h2 => by rw [e1, hk q (Nat.lt_of_lt_of_le h1 hS.1) (fun z => h2 (hA q (Nat.lt_of_lt_of_le h1 hS.1) z))]; exact hS.2.1 q h1 h2, fun q hq => by
      rcases List.mem_append.mp hq with h | h
      · exact hS.2.2 q h
      · exact hf _ (hL q h)⟩⟩
theorem vx_calli {S SX : Type} {post : Int32 → S → Prop} {px : SX → Prop} {B : S → State → Prop} {BX : String → SX → State → Prop} {AX : Nat → Prop} (hr : vx_Run p l e R s m args below meth c H locs cells slots mc ms (F0 m pc ls st0) rest (va_Qi post B A1 a) (vx_X px BX AX) free) (hS : va_S A0 H0 H locs) (hA : ∀ q, q < H.size → A1 q → A0 q) (hf : ∀ q, free q → A0 q) (hAX : ∀ q, q < H.size → AX q → A0 q)
    (kx : ∀ (E : String) (ce : Cell) (q9 : Addr) (u : SX) (t : State) (H1 : Heap) (locs1 : List Loc), t.heap = H1 → s.vm.Alike t.vm → px u → BX E u t → H.size ≤ H1.size → (∀ q : Nat, q < H.size → ¬ AX q → H1[q]? = H[q]?) → va_S A0 H0 H1 locs1 → H1[q9]? = some ce → ce.vm = .none → s.vm.findClass E = some ce.cls → vx_W p l e R s m args below meth c H1 locs1 (cells + mc) (slots + ms) Q (F0 m pc ls rest) q9)
    (kk : ∀ (r : Int32) (u : S) (t : State) (H1 : Heap) (locs1 : List Loc), t.heap = H1 → s.vm.Alike t.vm → post r u → B u t → H.size ≤ H1.size → (∀ q : Nat, q < H.size → ¬ A1 q → H1[q]? = H[q]?) → va_S A0 H0 H1 locs1 → W p l e R s m args below meth c H1 locs1 (cells + mc) (slots + ms) Q (F0 m (pc + 3) ls (.int r :: rest))) : W p l e R s m args below meth c H locs cells slots Q (F0 m pc ls st0) := by
  intro T hT X
  rcases hr T hT X with ⟨v, st₀, t, T', L, h0, X', hL, e1, e2, ⟨⟨r, u, hv, hp, hb⟩, hF⟩, st⟩ | ⟨q, st₀, t, T', L, E, ce, h0, X', hL, e1, e2, ⟨u, hp, hb, hF⟩, hce, hcv, hcl, st⟩
  · cases hv
    obtain ⟨k1, k2, k3⟩ := vx_keep h0 e1 hS hA hf hL hF
    obtain ⟨t2, a1, b1⟩ := kk r u t T'.heap (locs ++ L) e1.symm (by rw [← e2]; exact X'.warmed.alike) hp hb k1 k2 k3 T' rfl X'
    exact ⟨t2, st t2 a1, b1⟩
  · obtain ⟨k1, k2, k3⟩ := vx_keep h0 e1 hS hAX hf hL hF
    obtain ⟨t2, a1, b1⟩ := kx E ce q u t T'.heap (locs ++ L) e1.symm (by rw [← e2]; exact X'.warmed.alike) hp hb k1 k2 k3 (by rw [e1]; exact hce) hcv hcl T' rfl X'
    exact ⟨t2, st.trans a1, b1⟩
theorem vx_calll {S SX : Type} {post : Int64 → S → Prop} {px : SX → Prop} {B : S → State → Prop} {BX : String → SX → State → Prop} {AX : Nat → Prop} (hr : vx_Run p l e R s m args below meth c H locs cells slots mc ms (F0 m pc ls st0) rest (va_Ql post B A1 a) (vx_X px BX AX) free) (hS : va_S A0 H0 H locs) (hA : ∀ q, q < H.size → A1 q → A0 q) (hf : ∀ q, free q → A0 q) (hAX : ∀ q, q < H.size → AX q → A0 q)
    (kx : ∀ (E : String) (ce : Cell) (q9 : Addr) (u : SX) (t : State) (H1 : Heap) (locs1 : List Loc), t.heap = H1 → s.vm.Alike t.vm → px u → BX E u t → H.size ≤ H1.size → (∀ q : Nat, q < H.size → ¬ AX q → H1[q]? = H[q]?) → va_S A0 H0 H1 locs1 → H1[q9]? = some ce → ce.vm = .none → s.vm.findClass E = some ce.cls → vx_W p l e R s m args below meth c H1 locs1 (cells + mc) (slots + ms) Q (F0 m pc ls rest) q9)
    (kk : ∀ (r : Int64) (u : S) (t : State) (H1 : Heap) (locs1 : List Loc), t.heap = H1 → s.vm.Alike t.vm → post r u → B u t → H.size ≤ H1.size → (∀ q : Nat, q < H.size → ¬ A1 q → H1[q]? = H[q]?) → va_S A0 H0 H1 locs1 → W p l e R s m args below meth c H1 locs1 (cells + mc) (slots + ms) Q (F0 m (pc + 3) ls (.long r :: rest))) : W p l e R s m args below meth c H locs cells slots Q (F0 m pc ls st0) := by
  intro T hT X
  rcases hr T hT X with ⟨v, st₀, t, T', L, h0, X', hL, e1, e2, ⟨⟨r, u, hv, hp, hb⟩, hF⟩, st⟩ | ⟨q, st₀, t, T', L, E, ce, h0, X', hL, e1, e2, ⟨u, hp, hb, hF⟩, hce, hcv, hcl, st⟩
  · cases hv
    obtain ⟨k1, k2, k3⟩ := vx_keep h0 e1 hS hA hf hL hF
    obtain ⟨t2, a1, b1⟩ := kk r u t T'.heap (locs ++ L) e1.symm (by rw [← e2]; exact X'.warmed.alike) hp hb k1 k2 k3 T' rfl X'
    exact ⟨t2, st t2 a1, b1⟩
  · obtain ⟨k1, k2, k3⟩ := vx_keep h0 e1 hS hAX hf hL hF
    obtain ⟨t2, a1, b1⟩ := kx E ce q u t T'.heap (locs ++ L) e1.symm (by rw [← e2]; exact X'.warmed.alike) hp hb k1 k2 k3 (by rw [e1]; exact hce) hcv hcl T' rfl X'
    exact ⟨t2, st.trans a1, b1⟩
theorem vx_callf {S SX : Type} {post : UInt32 → S → Prop} {px : SX → Prop} {B : S → State → Prop} {BX : String → SX → State → Prop} {AX : Nat → Prop} (hr : vx_Run p l e R s m args below meth c H locs cells slots mc ms (F0 m pc ls st0) rest (va_Qf post B A1 a) (vx_X px BX AX) free) (hS : va_S A0 H0 H locs) (hA : ∀ q, q < H.size → A1 q → A0 q) (hf : ∀ q, free q → A0 q) (hAX : ∀ q, q < H.size → AX q → A0 q)
    (kx : ∀ (E : String) (ce : Cell) (q9 : Addr) (u : SX) (t : State) (H1 : Heap) (locs1 : List Loc), t.heap = H1 → s.vm.Alike t.vm → px u → BX E u t → H.size ≤ H1.size → (∀ q : Nat, q < H.size → ¬ AX q → H1[q]? = H[q]?) → va_S A0 H0 H1 locs1 → H1[q9]? = some ce → ce.vm = .none → s.vm.findClass E = some ce.cls → vx_W p l e R s m args below meth c H1 locs1 (cells + mc) (slots + ms) Q (F0 m pc ls rest) q9)
    (kk : ∀ (r : UInt32) (u : S) (t : State) (H1 : Heap) (locs1 : List Loc), t.heap = H1 → s.vm.Alike t.vm → post r u → B u t → H.size ≤ H1.size → (∀ q : Nat, q < H.size → ¬ A1 q → H1[q]? = H[q]?) → va_S A0 H0 H1 locs1 → W p l e R s m args below meth c H1 locs1 (cells + mc) (slots + ms) Q (F0 m (pc + 3) ls (.float r :: rest))) : W p l e R s m args below meth c H locs cells slots Q (F0 m pc ls st0) := by
  intro T hT X
  rcases hr T hT X with ⟨v, st₀, t, T', L, h0, X', hL, e1, e2, ⟨⟨r, u, hv, hp, hb⟩, hF⟩, st⟩ | ⟨q, st₀, t, T', L, E, ce, h0, X', hL, e1, e2, ⟨u, hp, hb, hF⟩, hce, hcv, hcl, st⟩
  · cases hv
    obtain ⟨k1, k2, k3⟩ := vx_keep h0 e1 hS hA hf hL hF
    obtain ⟨t2, a1, b1⟩ := kk r u t T'.heap (locs ++ L) e1.symm (by rw [← e2]; exact X'.warmed.alike) hp hb k1 k2 k3 T' rfl X'
    exact ⟨t2, st t2 a1, b1⟩
  · obtain ⟨k1, k2, k3⟩ := vx_keep h0 e1 hS hAX hf hL hF
    obtain ⟨t2, a1, b1⟩ := kx E ce q u t T'.heap (locs ++ L) e1.symm (by rw [← e2]; exact X'.warmed.alike) hp hb k1 k2 k3 (by rw [e1]; exact hce) hcv hcl T' rfl X'
    exact ⟨t2, st.trans a1, b1⟩
theorem vx_calld {S SX : Type} {post : UInt64 → S → Prop} {px : SX → Prop} {B : S → State → Prop} {BX : String → SX → State → Prop} {AX : Nat → Prop} (hr : vx_Run p l e R s m args below meth c H locs cells slots mc ms (F0 m pc ls st0) rest (va_Qd post B A1 a) (vx_X px BX AX) free) (hS : va_S A0 H0 H locs) (hA : ∀ q, q < H.size → A1 q → A0 q) (hf : ∀ q, free q → A0 q) (hAX : ∀ q, q < H.size → AX q → A0 q)
    (kx : ∀ (E : String) (ce : Cell) (q9 : Addr) (u : SX) (t : State) (H1 : Heap) (locs1 : List Loc), t.heap = H1 → s.vm.Alike t.vm → px u → BX E u t → H.size ≤ H1.size → (∀ q : Nat, q < H.size → ¬ AX q → H1[q]? = H[q]?) → va_S A0 H0 H1 locs1 → H1[q9]? = some ce → ce.vm = .none → s.vm.findClass E = some ce.cls → vx_W p l e R s m args below meth c H1 locs1 (cells + mc) (slots + ms) Q (F0 m pc ls rest) q9)
    (kk : ∀ (r : UInt64) (u : S) (t : State) (H1 : Heap) (locs1 : List Loc), t.heap = H1 → s.vm.Alike t.vm → post r u → B u t → H.size ≤ H1.size → (∀ q : Nat, q < H.size → ¬ A1 q → H1[q]? = H[q]?) → va_S A0 H0 H1 locs1 → W p l e R s m args below meth c H1 locs1 (cells + mc) (slots + ms) Q (F0 m (pc + 3) ls (.double r :: rest))) : W p l e R s m args below meth c H locs cells slots Q (F0 m pc ls st0) := by
  intro T hT X
  rcases hr T hT X with ⟨v, st₀, t, T', L, h0, X', hL, e1, e2, ⟨⟨r, u, hv, hp, hb⟩, hF⟩, st⟩ | ⟨q, st₀, t, T', L, E, ce, h0, X', hL, e1, e2, ⟨u, hp, hb, hF⟩, hce, hcv, hcl, st⟩
  · cases hv
    obtain ⟨k1, k2, k3⟩ := vx_keep h0 e1 hS hA hf hL hF
    obtain ⟨t2, a1, b1⟩ := kk r u t T'.heap (locs ++ L) e1.symm (by rw [← e2]; exact X'.warmed.alike) hp hb k1 k2 k3 T' rfl X'
    exact ⟨t2, st t2 a1, b1⟩
  · obtain ⟨k1, k2, k3⟩ := vx_keep h0 e1 hS hAX hf hL hF
    obtain ⟨t2, a1, b1⟩ := kx E ce q u t T'.heap (locs ++ L) e1.symm (by rw [← e2]; exact X'.warmed.alike) hp hb k1 k2 k3 (by rw [e1]; exact hce) hcv hcl T' rfl X'
    exact ⟨t2, st.trans a1, b1⟩
theorem vx_callv {S SX : Type} {post : S → Prop} {px : SX → Prop} {B : S → State → Prop} {BX : String → SX → State → Prop} {AX : Nat → Prop} (hr : vx_Run p l e R s m args below meth c H locs cells slots mc ms (F0 m pc ls st0) rest (va_Qv post B A1 a) (vx_X px BX AX) free) (hS : va_S A0 H0 H locs) (hA : ∀ q, q < H.size → A1 q → A0 q) (hf : ∀ q, free q → A0 q) (hAX : ∀ q, q < H.size → AX q → A0 q)
    (kx : ∀ (E : String) (ce : Cell) (q9 : Addr) (u : SX) (t : State) (H1 : Heap) (locs1 : List Loc), t.heap = H1 → s.vm.Alike t.vm → px u → BX E u t → H.size ≤ H1.size → (∀ q : Nat, q < H.size → ¬ AX q → H1[q]? = H[q]?) → va_S A0 H0 H1 locs1 → H1[q9]? = some ce → ce.vm = .none → s.vm.findClass E = some ce.cls → vx_W p l e R s m args below meth c H1 locs1 (cells + mc) (slots + ms) Q (F0 m pc ls rest) q9)
    (kk : ∀ (u : S) (t : State) (H1 : Heap) (locs1 : List Loc), t.heap = H1 → s.vm.Alike t.vm → post u → B u t → H.size ≤ H1.size → (∀ q : Nat, q < H.size → ¬ A1 q → H1[q]? = H[q]?) → va_S A0 H0 H1 locs1 → W p l e R s m args below meth c H1 locs1 (cells + mc) (slots + ms) Q (F0 m (pc + 3) ls (rest))) : W p l e R s m args below meth c H locs cells slots Q (F0 m pc ls st0) := by
  intro T hT X
  rcases hr T hT X with ⟨v, st₀, t, T', L, h0, X', hL, e1, e2, ⟨⟨u, hv, hp, hb⟩, hF⟩, st⟩ | ⟨q, st₀, t, T', L, E, ce, h0, X', hL, e1, e2, ⟨u, hp, hb, hF⟩, hce, hcv, hcl, st⟩
  · cases hv
    obtain ⟨k1, k2, k3⟩ := vx_keep h0 e1 hS hA hf hL hF
    obtain ⟨t2, a1, b1⟩ := kk u t T'.heap (locs ++ L) e1.symm (by rw [← e2]; exact X'.warmed.alike) hp hb k1 k2 k3 T' rfl X'
    exact ⟨t2, st t2 a1, b1⟩
  · obtain ⟨k1, k2, k3⟩ := vx_keep h0 e1 hS hAX hf hL hF
    obtain ⟨t2, a1, b1⟩ := kx E ce q u t T'.heap (locs ++ L) e1.symm (by rw [← e2]; exact X'.warmed.alike) hp hb k1 k2 k3 (by rw [e1]; exact hce) hcv hcl T' rfl X'
    exact ⟨t2, st.trans a1, b1⟩
/-- caught by the row x of this method's table; the rows ahead don't take it -/
theorem vx_catch {own name : String} {E : String} {ce : Cell} {q : Addr} (hown : s.vm.findClass own = some m.cls) (pre : List ExceptionTableEntry) (x : ExceptionTableEntry) (suf : List ExceptionTableEntry) (hsplit : c.exceptionTable.toList = pre ++ x :: suf)
    (hpass : ∀ z ∈ pre, covers z pc = false ∨ (z.catchType ≠ 0 ∧ ∃ nm : String, (Cond.classLink own z.catchType nm).before args s = true ∧ va_Nc E nm s)) (hx : covers x pc = true) (h0 : x.catchType ≠ 0)
    (hlink : (Cond.classLink own x.catchType name).before args s = true) (hcast : (Cond.castable E name).before args s = true) (hcell : H[q]? = some ce) (hv : ce.vm = .none) (hcl : s.vm.findClass E = some ce.cls)
    (kk : W p l e R s m args below meth c H locs cells slots Q (F0 m x.handlerPc ls [.ref q])) : vx_W p l e R s m args below meth c H locs cells slots Q (F0 m pc ls rest) q := by
  intro T hT X
  have hpl : e.platform.magicAccessors = ({} : Platform).magicAccessors := by rw [X.admits.platform]
  obtain ⟨c3, c4, hc3, hc4, hasg⟩ := Cond.castable_spec hcast
  cases Option.some.inj (hc3.symm.trans hcl)
  obtain ⟨c5, hc5, hcl5⟩ := Cond.classLink_spec hown hlink e.platform hpl
  cases Option.some.inj (hc4.symm.trans hc5)
  obtain ⟨vm', X', st⟩ := X.thenCaughtThrough q (g := F0 m pc ls rest) rfl (Steps.refl _) (by rw [hT]; exact hcell) (by rw [hv]; rfl) (by obtain ⟨k9, h9, -⟩ := Vm.findClass_spec hcl; exact ⟨k9, h9⟩) pre x suf hsplit
    (fun z hz => by
      rcases hpass z hz with h | ⟨hz0, nm, hl1, hn1⟩
      · exact Or.inl h
      · obtain ⟨c6, hc6, hcl6⟩ := Cond.classLink_spec hown hl1 e.platform hpl
        obtain ⟨a8, b8, h1, h2, h3⟩ := hn1
        cases Option.some.inj (h1.symm.trans hcl)
        cases Option.some.inj (h2.symm.trans hc6)
        exact Or.inr ⟨hz0, _, hcl6, h3⟩) hx (Or.inr ⟨h0, c4, hcl5, hasg⟩)
  obtain ⟨t, a1, b1⟩ := kk (T.setVm vm') hT X'
  exact ⟨t, st.trans a1, b1⟩
end Rows
section Ends
variable {p : Program} {l : Launch} {e : Env} {R : Room} {s : State} {m : MethodId} {args : Array Value} {below : List Frame} {meth : Method} {c : Code} {H : Heap} {locs : List Loc} {cells slots : Nat} {Q : State → Prop}
variable {mc ms : Nat} {free : Addr → Prop} {A0 A1 : Nat → Prop} {H0 : Heap} {a : Array Value} {ls : Array Slot} {st0 rest : List Value}
variable {Qc : Array Value → State → Outcome → State → Prop} {XC : String → State → State → Prop}
/-- what a body that may throw owes at its end -/
def vx_MQ (below : List Frame) (Qc : Array Value → State → Outcome → State → Prop) (XC : String → State → State → Prop) (a : Array Value) (s : State) (mc ms : Nat) (free : Addr → Prop) : State → Prop := fun t =>
  ∃ o, t.status = .running ∧ Ended t below o ∧ vx_Q Qc XC mc ms free a s o t
theorem vx_ret {g : JFrame} {mc ms : Nat} (k : W p l e R s m args below meth c H locs cells slots (MQ below Qc args s mc ms free) g) : W p l e R s m args below meth c H locs cells slots (vx_MQ below Qc XC args s mc ms free) g := by
  intro T hT X
  obtain ⟨t, a1, o, b1, b2, b3, b4⟩ := k T hT X
  exact ⟨t, a1, o, b1, b2, Or.inl ⟨b3, b4⟩⟩
/-- not caught here: it goes on to the caller -/
theorem vx_widen {g : JFrame} {q : Addr} {k n : Nat} (h1 : cells ≤ k) (h2 : slots ≤ n) (kk : vx_W p l e R s m args below meth c H locs k n Q g q) : vx_W p l e R s m args below meth c H locs cells slots Q g q := fun T hT X => kk T hT (stand_widen X h1 h2)
theorem vx_out {pc : Nat} {E : String} {ce : Cell} {q : Addr} {mc ms : Nat} (hout : ∀ x ∈ c.exceptionTable.toList, covers x pc = false) (hlocks : meth.locks = false) (hcell : H[q]? = some ce) (hv : ce.vm = .none) (hcl : s.vm.findClass E = some ce.cls)
    (hx : ∀ t : State, t.heap = H → s.vm.Alike t.vm → XC E s t) (hf : ∀ z ∈ locs, free z.base) (hc : cells ≤ mc) (hs : slots ≤ ms) :
    vx_W p l e R s m args below meth c H locs cells slots (vx_MQ below Qc XC args s mc ms free) (F0 m pc ls rest) q := by
  intro T hT X
  obtain ⟨st1, hrun, hend, hW, hsm⟩ := X.leaveThrown q (g := F0 m pc ls rest) rfl rfl rfl hout hlocks
  have hcell9 : (T.setFrames (.throwing q :: below)).heap[q]? = some ce := by
    show T.heap[q]? = some ce
    rw [hT]; exact hcell
  exact ⟨_, st1, .threw q, hrun, hend, Or.inr ⟨q, rfl, E, ce, locs, hx _ hT hW.alike, hcell9, hv, hcl, hW, hsm.mono hc hs, hf⟩⟩
theorem vx_frame {U : State} {k n : Nat} (h : s.sameButNew ({ U with vm := s.vm } : State) locs k n) : s.heap.size ≤ U.heap.size ∧ ∀ q : Nat, q < s.heap.size → (∀ z ∈ locs, z.base ≠ q) → U.heap[q]? = s.heap[q]? := by
  obtain ⟨-, h2, -, -, -, h6⟩ := h
  refine ⟨h2, fun q hq hz => ?_⟩
  obtain ⟨c9, e1, e2, e3, e4⟩ := h6 q _ (Array.getElem?_eq_getElem hq)
  have hs : c9.slots = (s.heap[q]).slots := Array.ext_getElem? fun i => e4 i fun hm => hz _ hm rfl
  have h9 : c9 = s.heap[q] := by
    rw [hs] at e2
    exact e2
  have e5 : U.heap[q]? = some c9 := e1
  rw [e5, h9, Array.getElem?_eq_getElem hq]
/-- the words of a throw but the four that speak of the heap -/
def vx_no (w : Cond) : Bool := decide (w ≠ .isRef (.static Bundle.tN "UNASSIGNED_STACK" Bundle.steD)) && decide (w ≠ .isRef (.static Bundle.tN "SUPPRESSED_SENTINEL" Bundle.listD)) && decide (w ≠ .laysStatic Bundle.tN "UNASSIGNED_STACK" Bundle.steD) && decide (w ≠ .laysStatic Bundle.tN "SUPPRESSED_SENTINEL" Bundle.listD)
def vx_at0 (own : String) (ic : Nat) (X : String) (names : List String) : List Cond := (Bundle.ownAtoms0 own ic X names).filter vx_no
def vx_atS (own : String) (ic : Nat) (X : String) (names : List String) : List Cond := (Bundle.ownAtoms own ic X names).filter vx_no
/-- a word that the tables alone decide, or a good one -/
def vx_ot (w : Cond) : Bool := w.onTables || goodWord w
theorem vx_ot_at {args a' : Array Value} {s U : State} {w : Cond} (hW : s.WarmedH U.vm) (hvm : s.vm = U.vm) (hg : vx_ot w = true) (h : w.before args s = true) : w.before a' U = true := by
  simp only [vx_ot, Bool.or_eq_true] at hg
  rcases hg with hg | hg
  · exact va_tabs hg hvm h
  · exact word_at hW (good_of_word hg) h
/-- a list's words: the good ones out of the method's own list, the others by premises of their own -/
theorem vx_hat {args : Array Value} {s : State} {L B : List Cond} (h1 : ∀ w ∈ L.filter goodWord, w.before args s = true) (h2 : ∀ w ∈ L.filter (fun w => !goodWord w), w ∈ B) (h3 : ∀ w ∈ B, w.before args s = true) : ∀ w ∈ L, w.before args s = true := by
  intro w hw
  by_cases g : goodWord w = true
  · exact h1 w (List.mem_filter.mpr ⟨hw, g⟩)
  · refine h3 w (h2 w (List.mem_filter.mpr ⟨hw, ?_⟩))
    show (!goodWord w) = true
    cases hgw : goodWord w
    · rfl
    · exact absurd hgw g
theorem vx_c {args : Array Value} {s : State} {w : Cond} {B : List Cond} (h : w.before args s = true) (t : ∀ w ∈ B, w.before args s = true) : ∀ w' ∈ w :: B, w'.before args s = true := fun w' h' => (List.mem_cons.mp h').elim (fun e => by rw [e]; exact h) (t w')
theorem vx_n {args : Array Value} {s : State} : ∀ w ∈ ([] : List Cond), w.before args s = true := fun _ h => nomatch h
theorem vx_own {args : Array Value} {s : State} {L : List Cond} (h1 : ∀ w ∈ L.filter vx_no, w.before args s = true)
    (hU : (Cond.isRef (.static Bundle.tN "UNASSIGNED_STACK" Bundle.steD)).before args s = true) (hN : (Cond.isRef (.static Bundle.tN "SUPPRESSED_SENTINEL" Bundle.listD)).before args s = true)
    (lU : (Cond.laysStatic Bundle.tN "UNASSIGNED_STACK" Bundle.steD).before args s = true) (lN : (Cond.laysStatic Bundle.tN "SUPPRESSED_SENTINEL" Bundle.listD).before args s = true) : ∀ w ∈ L, w.before args s = true := by
  intro w hw
  by_cases e1 : w = .isRef (.static Bundle.tN "UNASSIGNED_STACK" Bundle.steD)
  · rw [e1]; exact hU
  · by_cases e2 : w = .isRef (.static Bundle.tN "SUPPRESSED_SENTINEL" Bundle.listD)
    · rw [e2]; exact hN
    · by_cases e3 : w = .laysStatic Bundle.tN "UNASSIGNED_STACK" Bundle.steD
      · rw [e3]; exact lU
      · by_cases e4 : w = .laysStatic Bundle.tN "SUPPRESSED_SENTINEL" Bundle.listD
        · rw [e4]; exact lN
        · exact h1 w (List.mem_filter.mpr ⟨hw, by unfold vx_no; rw [decide_eq_true e1, decide_eq_true e2, decide_eq_true e3, decide_eq_true e4]; rfl⟩)
/-- where a static field lies, its class's statics cell in H -/
def vx_L (C n d : String) (A : Nat → Prop) (U : State) (H : Heap) : Prop := ∃ (c : ClassId) (k : Class) (i : Nat) (f : Field) (a : Nat) (cell : Cell), U.vm.findClass C = some c ∧ U.fieldFound? C n d = some (c, k, i, f) ∧ f.isStatic = true ∧ k.statics = some a ∧ H[a]? = some cell ∧ cell.vm.isStatics = true ∧ cell.cls = c ∧ f.slot < cell.slots.size ∧ k.staticTypes[f.slot]? = some f.type ∧ ¬ A a
theorem vx_L.moved {C n d : String} {A : Nat → Prop} {u U : State} {H : Heap} (hvm : u.vm.Alike U.vm) (h : vx_L C n d A u H) : vx_L C n d A U H := by
  obtain ⟨c, k, i, f, a, cell, h1, h2, h3, h4, h5, h6, h7, h8, h9, h10⟩ := h
  obtain ⟨k', hi', he⟩ := State.fieldFound?_setVm hvm h2
  exact ⟨c, k', i, f, a, cell, by rw [hvm.findClass]; exact h1, hi', h3, by rw [he]; exact h4, h5, h6, h7, h8, by rw [he]; exact h9, h10⟩
theorem vx_L.kept {C n d : String} {A : Nat → Prop} {U : State} {H H1 : Heap} (h : vx_L C n d A U H) (hq : ∀ a : Nat, a < H.size → ¬ A a → H1[a]? = H[a]?) : vx_L C n d A U H1 := by
  obtain ⟨c, k, i, f, a, cell, h1, h2, h3, h4, h5, h6, h7, h8, h9, h10⟩ := h
  exact ⟨c, k, i, f, a, cell, h1, h2, h3, h4, by rw [hq a (Array.getElem?_eq_some_iff.mp h5).1 h10]; exact h5, h6, h7, h8, h9, h10⟩
theorem vx_L.narrow {C n d : String} {A B : Nat → Prop} {U : State} {H : Heap} (h : vx_L C n d A U H) (hAB : ∀ q, B q → A q) : vx_L C n d B U H := by
  obtain ⟨c, k, i, f, a, cell, h1, h2, h3, h4, h5, h6, h7, h8, h9, h10⟩ := h
  exact ⟨c, k, i, f, a, cell, h1, h2, h3, h4, h5, h6, h7, h8, h9, fun z => h10 (hAB _ z)⟩
theorem vx_L.word {C n d : String} {A : Nat → Prop} {s : State} {args : Array Value} (h : vx_L C n d A s s.heap) : (Cond.laysStatic C n d).before args s = true := by
  obtain ⟨c, k, i, f, a, cell, h1, h2, h3, h4, h5, h6, h7, h8, h9, -⟩ := h
  show (Cond.laysStatic C n d).holds args s none s [] = true
  exact Cond.laysStatic_of h1 h2 h3 h4 h5 h6 h7 h8 h9
/-- .. and what it holds: null or some reference -/
def vx_Zq (C n d : String) (A : Nat → Prop) (U : State) (H : Heap) : Prop := va_Zq C n d A U H ∧ vx_L C n d A U H
theorem vx_Zq.moved {C n d : String} {A : Nat → Prop} {u U : State} {H : Heap} (hvm : u.vm.Alike U.vm) (h : vx_Zq C n d A u H) : vx_Zq C n d A U H := ⟨va_Zq.moved hvm h.1, vx_L.moved hvm h.2⟩
theorem vx_Zq.kept {C n d : String} {A : Nat → Prop} {U : State} {H H1 : Heap} (h : vx_Zq C n d A U H) (hq : ∀ a : Nat, a < H.size → ¬ A a → H1[a]? = H[a]?) : vx_Zq C n d A U H1 := ⟨va_Zq.kept h.1 hq, vx_L.kept h.2 hq⟩
theorem vx_Zq.narrow {C n d : String} {A B : Nat → Prop} {U : State} {H : Heap} (h : vx_Zq C n d A U H) (hAB : ∀ q, B q → A q) : vx_Zq C n d B U H := ⟨va_Zq.narrow h.1 hAB, vx_L.narrow h.2 hAB⟩
theorem vx_Zqof {args : Array Value} {s : State} {C n d : String} {A : Nat → Prop} (hl : (Cond.laysStatic C n d).before args s = true) (hini : (Cond.initialized C).before args s = true) (h : (Cond.isRef (.static C n d)).before args s = true) (hA : ∀ a : Nat, a < s.heap.size → ¬ A a) : vx_Zq C n d A s s.heap := by
  refine ⟨va_Zqof hl hini h hA, ?_⟩
  obtain ⟨c, k, i, f, a, cell, h1, h2, h3, h4, h5, h6, h7, h8, h9⟩ := Cond.laysStatic_spec hl
  exact ⟨c, k, i, f, a, cell, h1, h2, h3, h4, h5, h6, h7, h8, h9, hA a (Array.getElem?_eq_some_iff.mp h5).1⟩
theorem vx_isRef {C n d : String} {v : Value} {A : Nat → Prop} {s : State} {args : Array Value} (h : va_Z C n d v A s s.heap) (hv : v.isRef = true) : (Cond.isRef (.static C n d)).before args s = true := by
  obtain ⟨cf, kf, fi, f, a, cell, h1, h2, h3, h4, h5, h6, h7, -⟩ := h
  have he : (Term.static C n d).eval args s none [] s = some v := by
    simp [Term.eval, State.fieldNamed?, h1, h2, h4, h5, h6, h7]
  simp only [Cond.before, Cond.holds, Cond.value, he]
  cases v <;> simp_all [Value.isRef]
theorem vx_isRefq {C n d : String} {A : Nat → Prop} {s : State} {args : Array Value} (h : va_Zq C n d A s s.heap) : (Cond.isRef (.static C n d)).before args s = true := by
  rcases h with h | ⟨t, h⟩
  · exact vx_isRef h rfl
  · exact vx_isRef h rfl
/-- the same frame, seen from here: as if the method were called anew in this heap -/
theorem vx_rebase {T : State} (X : Stand p l e R s m args below meth c T locs cells slots) {R' : Room} (hf : R'.frames ≤ R.frames) (hl : R'.locals ≤ R.locals) (hc : cells + R'.cells ≤ R.cells) (hs : slots + R'.slots ≤ R.slots) :
    Stand p l e R' ((T.setVm s.vm).setFrames (.invoking m args :: below)) m args below meth c T [] 0 0 := by
  have htop : (T.setVm s.vm).topJava?.isSome := X.here.top
  have hF : ((T.setVm s.vm).setFrames (.invoking m args :: below)).frames = .invoking m args :: below := State.frames_setFrames _ (State.cur_lt_of_top htop)
  obtain ⟨g₀, hg0⟩ := Option.isSome_iff_exists.mp htop
  obtain ⟨r, hr⟩ := State.topJava?_eq_some.mp hg0
  have hl9 : e.platform.stackLimits (T.setVm s.vm).me = e.platform.stackLimits s.me := X.limits
  have hb9 : (T.setVm s.vm).me.stackBytes = s.me.stackBytes := X.bytes
  refine ⟨X.admits, X.cas, X.clock, hF, ?_, X.hears, X.method, X.code, X.here, X.tail, X.warmed, ?_, ?_, ?_⟩
  · have h := X.room
    have hU : ((T.setVm s.vm).setFrames (.invoking m args :: below)).localsInUse = s.localsInUse := by
      rw [State.localsInUse_invoking hF (meth := meth) (c := c) X.method X.code, State.localsInUse_invoking X.frames X.method X.code]
    simp only [State.hasRoom, Bool.and_eq_true, decide_eq_true_eq] at h ⊢
    obtain ⟨⟨⟨⟨h1, h2, h3, h4, h5, h6⟩, h7⟩, h8⟩, h9⟩ := h
    rw [X.frames, List.length_cons] at h2 h3
    have q1 := X.heapSize
    have q2 := X.used
    simp only [hF, hU, List.length_cons, State.stackLimits_setFrames, State.stackBytes_setFrames, hl9, hb9]
    refine ⟨⟨⟨⟨by omega, by omega, by omega, by omega, by omega, h6⟩, ?_⟩, ?_⟩, X.book⟩
    · show T.heap.size + R'.cells ≤ e.platform.maxCells
      omega
    · show T.slotsUsed + R'.slots ≤ e.platform.maxSlots
      omega
  · rw [State.stackLimits_setFrames]; rfl
  · rw [State.stackBytes_setFrames]; rfl
  · refine ⟨?_, Nat.le_refl _, Nat.le_refl _, ?_, ?_, fun a c9 h9 => ⟨c9, h9, rfl, rfl, fun _ _ => rfl⟩⟩
    · obtain ⟨t, ht, -⟩ := State.frames_cons hr
      show T.setVm s.vm = { ((T.setVm s.vm).setFrames (.invoking m args :: below)).setFrames (T.setVm s.vm).frames with heap := T.heap, slotsUsed := T.slotsUsed }
      rw [State.setFrames_setFrames, State.setFrames_self ht]
      rfl
    · show T.slotsUsed = T.slotsUsed + ((T.heap.toList.drop T.heap.size).map (·.slots.size)).sum
      rw [List.drop_eq_nil_of_le (Nat.le_of_eq Array.length_toList)]
      rfl
    · show ((T.heap.toList.drop T.heap.size).map (·.slots.size)).sum ≤ 0
      rw [List.drop_eq_nil_of_le (Nat.le_of_eq Array.length_toList)]
      exact Nat.le_refl _
/-- 'throw new E()': new; dup; invokespecial; athrow -/
theorem vx_throw0 {cc : ByteArray} {pc : Nat} (hexec : p.tables.exec = Jvm.exec) (hb : c.code = cc) (hl : l.stackTraces = false) {own cls : String} {names : List String} {ik ic mc ms : Nat} {A : Nat → Prop}
    (hown : s.vm.findClass own = some m.cls) (hcls : Bundle.fit cls = true) (hnames : ∀ n ∈ names, Bundle.fit n = true)
    (hk : (Cond.classLink own ik cls).before args s = true) (hini : (Cond.initialized cls).before args s = true) (hat : ∀ w ∈ vx_at0 own ic cls names, w.before args s = true)
    (hgood : ∀ w ∈ Cond.classLink own ik cls :: Cond.initialized cls :: vx_at0 own ic cls names, vx_ot w = true)
    (hU : vx_Zq Bundle.tN "UNASSIGNED_STACK" Bundle.steD A s s.heap) (hN : vx_Zq Bundle.tN "SUPPRESSED_SENTINEL" Bundle.listD A s s.heap) (hS : va_S A s.heap H locs) (hsize : ls.size = c.maxLocals)
    (d0 : decode cc pc = .ok (.new ik, 3)) (d3 : decode cc (pc + 3) = .ok (.dup, 1)) (d4 : decode cc (pc + 4) = .ok (.invokespecial ic, 3)) (d7 : decode cc (pc + 7) = .ok (.athrow, 1))
    (hout : ∀ x ∈ c.exceptionTable.toList, covers x (pc + 7) = false)
    (hRframes : names.length + 3 < R.frames) (hRlocals : (rest.map fun v => v.category).sum + (13 * (names.length + 1) + 42) ≤ R.locals) (hRcells : cells + 1 ≤ R.cells) (hRslots : slots + 6 ≤ R.slots) (hlocks : meth.locks = false)
    (hx : ∀ t : State, s.vm.Alike t.vm → H.size ≤ t.heap.size → (∀ q : Nat, q < H.size → t.heap[q]? = H[q]?) → XC cls s t)
    (hf : ∀ z ∈ locs, free z.base) (hc : cells + 1 ≤ mc) (hs : slots + 6 ≤ ms) :
    W p l e R s m args below meth c H locs cells slots (vx_MQ below Qc XC args s mc ms free) (F0 m pc ls rest) := by
  intro T hT X
  have htr : e.platform.stackTraces = false := (show e.platform.stackTraces = l.stackTraces by rw [X.admits.platform]).trans hl
  have Y := vx_rebase X (R' := { frames := R.frames, locals := R.locals, cells := 1, slots := 6 }) (Nat.le_refl _) (Nat.le_refl _) hRcells hRslots
  obtain ⟨s', hA⟩ : ∃ z, z = (T.setVm s.vm).setFrames (.invoking m args :: below) := ⟨_, rfl⟩
  rw [← hA] at Y
  have hvm : s'.vm = s.vm := by rw [hA]; rfl
  have hhp : s'.heap = H := by rw [hA]; exact hT
  have hW0 : s.WarmedH s'.vm := by rw [hvm]; exact State.WarmedH.refl s
  have hat' : ∀ w ∈ vx_at0 own ic cls names, w.before args s' = true := fun w hw => vx_ot_at hW0 hvm.symm (hgood w (List.mem_cons_of_mem _ (List.mem_cons_of_mem _ hw))) (hat w hw)
  have hk' : (Cond.classLink own ik cls).before args s' = true := vx_ot_at hW0 hvm.symm (hgood _ List.mem_cons_self) hk
  have hini' : (Cond.initialized cls).before args s' = true := vx_ot_at hW0 hvm.symm (hgood _ (List.mem_cons_of_mem _ List.mem_cons_self)) hini
  have hU' : vx_Zq Bundle.tN "UNASSIGNED_STACK" Bundle.steD A s' s'.heap := by rw [hhp]; exact vx_Zq.moved hW0.alike (hU.kept hS.2.1)
  have hN' : vx_Zq Bundle.tN "SUPPRESSED_SENTINEL" Bundle.listD A s' s'.heap := by rw [hhp]; exact vx_Zq.moved hW0.alike (hN.kept hS.2.1)
  have h : ∀ w ∈ Bundle.ownAtoms0 own ic cls names, w.before args s' = true := vx_own hat' (vx_isRefq hU'.1) (vx_isRefq hN'.1) hU'.2.word hN'.2.word
  have hown' : s'.vm.findClass own = some m.cls := by rw [hvm]; exact hown
  have hins : (Cond.instantiable cls 6).before args s' = true := h _ (by simp [Bundle.ownAtoms0])
  obtain ⟨vm₁, cX, kX, hfX, hkX, -, -, X₁, st1⟩ := Y.newCold hexec (own := own) (C := cls) (index := ik) (n := 6) hown' hk' hins hini'
    (g := F0 m pc ls rest) rfl (by rw [hb]; exact d0) (Nat.le_refl _) (Nat.le_refl _)
  generalize hT1 : (T.setVm vm₁).pushCell { cls := cX, slots := kX.instanceTypes.map defaultValue, vm := .none } = T1 at X₁ st1
  have hcat : (Value.ref T.heap.size).category = 1 := rfl
  have hcellA : T1.heap[T.heap.size]? = some (freshCell cX kX) := by rw [← hT1]; exact State.heap_pushCell_size _ _
  have d3' : decode c.code (pc + 3) = .ok (.dup, 1) := by rw [hb]; exact d3
  obtain ⟨U, hsteps, hrun, hend, hW, hsame, ce, hce, hO⟩ := X₁.ctorThrow0 hexec htr (own := own) (cls := cls) (names := names) (ic := ic) hown' hcls hnames h (fun x hx => nomatch hx) hfX hkX hcellA (by rw [hhp, hT]; exact Nat.le_refl _)
    (g := { method := m, pc := pc + 4, locals := ls, stack := .ref T.heap.size :: .ref T.heap.size :: rest, locked := none }) rfl hsize rfl rfl (rest := rest) rfl
    (by rw [hb]; exact d4) (by rw [hb]; exact d7) hout hRframes (by simp only [List.map_cons, List.sum_cons, hcat]; omega) hlocks
  obtain ⟨f1, f2⟩ := vx_frame hsame
  rw [hhp] at f1 f2
  have hWs : s.WarmedH U.vm := State.WarmedH.trans hW0 hW
  have hcl : s.vm.findClass cls = some ce.cls := by
    have h9 := hO.cls
    rw [hvm] at h9
    exact h9
  have hall : s.sameButNew ({ U with vm := s.vm } : State) locs mc ms := by
    subst hA
    obtain ⟨e1, e2⟩ := hsame
    rw [State.setFrames_setFrames] at e1
    have h2 : (T.setVm s.vm).sameButNew ({ U with vm := s.vm } : State) [] (0 + 1) (0 + 6) := ⟨e1, e2⟩
    have h3 := X.same.trans h2
    rw [List.append_nil] at h3
    exact h3.mono hc hs
  refine ⟨U, ?_, .threw T.heap.size, hrun, hend, Or.inr ⟨T.heap.size, rfl, cls, ce, locs, hx U hWs.alike f1 (fun q hq => f2 q hq (fun z hz => nomatch hz)), hce, hO.vm, hcl, hWs, hall, hf⟩⟩
  refine st1 _ ?_
  show Steps p.tables e below (T1.setTop { method := m, pc := pc + 3, locals := ls, stack := .ref T.heap.size :: rest, locked := none }) _
  jvm_step X₁.here [X₁.here.top, hexec, d3', Value.category]
  exact hsteps
/-- 'throw new E("text")': new; dup; ldc; invokespecial; athrow -/
theorem vx_throwS {cc : ByteArray} {pc : Nat} (hexec : p.tables.exec = Jvm.exec) (hb : c.code = cc) (hl : l.stackTraces = false) {own cls text : String} {names : List String} {ik is ic mc ms sa : Nat} {A : Nat → Prop}
    (hown : s.vm.findClass own = some m.cls) (hcls : Bundle.fit cls = true) (hnames : ∀ n ∈ names, Bundle.fit n = true)
    (hk : (Cond.classLink own ik cls).before args s = true) (hini : (Cond.initialized cls).before args s = true) (hstr : vk_R own is text sa s) (hat : ∀ w ∈ vx_atS own ic cls names, w.before args s = true)
    (hgood : ∀ w ∈ Cond.classLink own ik cls :: Cond.initialized cls :: vx_atS own ic cls names, vx_ot w = true)
    (hU : vx_Zq Bundle.tN "UNASSIGNED_STACK" Bundle.steD A s s.heap) (hN : vx_Zq Bundle.tN "SUPPRESSED_SENTINEL" Bundle.listD A s s.heap) (hS : va_S A s.heap H locs) (hsize : ls.size = c.maxLocals)
    (d0 : decode cc pc = .ok (.new ik, 3)) (d3 : decode cc (pc + 3) = .ok (.dup, 1)) (d4 : decode cc (pc + 4) = .ok (.ldc is, 2)) (d6 : decode cc (pc + 6) = .ok (.invokespecial ic, 3)) (d9 : decode cc (pc + 9) = .ok (.athrow, 1))
    (hout : ∀ x ∈ c.exceptionTable.toList, covers x (pc + 9) = false)
    (hRframes : names.length + 3 < R.frames) (hRlocals : (rest.map fun v => v.category).sum + (13 * (names.length + 1) + 43) ≤ R.locals) (hRcells : cells + 1 ≤ R.cells) (hRslots : slots + 6 ≤ R.slots) (hlocks : meth.locks = false)
    (hx : ∀ t : State, s.vm.Alike t.vm → H.size ≤ t.heap.size → (∀ q : Nat, q < H.size → t.heap[q]? = H[q]?) → XC cls s t)
    (hf : ∀ z ∈ locs, free z.base) (hc : cells + 1 ≤ mc) (hs : slots + 6 ≤ ms) :
    W p l e R s m args below meth c H locs cells slots (vx_MQ below Qc XC args s mc ms free) (F0 m pc ls rest) := by
  intro T hT X
  have htr : e.platform.stackTraces = false := (show e.platform.stackTraces = l.stackTraces by rw [X.admits.platform]).trans hl
  have Y := vx_rebase X (R' := { frames := R.frames, locals := R.locals, cells := 1, slots := 6 }) (Nat.le_refl _) (Nat.le_refl _) hRcells hRslots
  obtain ⟨s', hA⟩ : ∃ z, z = (T.setVm s.vm).setFrames (.invoking m args :: below) := ⟨_, rfl⟩
  rw [← hA] at Y
  have hvm : s'.vm = s.vm := by rw [hA]; rfl
  have hhp : s'.heap = H := by rw [hA]; exact hT
  have hW0 : s.WarmedH s'.vm := by rw [hvm]; exact State.WarmedH.refl s
  have hat' : ∀ w ∈ vx_atS own ic cls names, w.before args s' = true := fun w hw => vx_ot_at hW0 hvm.symm (hgood w (List.mem_cons_of_mem _ (List.mem_cons_of_mem _ hw))) (hat w hw)
  have hk' : (Cond.classLink own ik cls).before args s' = true := vx_ot_at hW0 hvm.symm (hgood _ List.mem_cons_self) hk
  have hini' : (Cond.initialized cls).before args s' = true := vx_ot_at hW0 hvm.symm (hgood _ (List.mem_cons_of_mem _ List.mem_cons_self)) hini
  have hU' : vx_Zq Bundle.tN "UNASSIGNED_STACK" Bundle.steD A s' s'.heap := by rw [hhp]; exact vx_Zq.moved hW0.alike (hU.kept hS.2.1)
  have hN' : vx_Zq Bundle.tN "SUPPRESSED_SENTINEL" Bundle.listD A s' s'.heap := by rw [hhp]; exact vx_Zq.moved hW0.alike (hN.kept hS.2.1)
  have h : ∀ w ∈ Bundle.ownAtoms own ic cls names, w.before args s' = true := vx_own hat' (vx_isRefq hU'.1) (vx_isRefq hN'.1) hU'.2.word hN'.2.word
  have hown' : s'.vm.findClass own = some m.cls := by rw [hvm]; exact hown
  have hins : (Cond.instantiable cls 6).before args s' = true := h _ (by simp [Bundle.ownAtoms])
  obtain ⟨vm₁, cX, kX, hfX, hkX, -, -, X₁, st1⟩ := Y.newCold hexec (own := own) (C := cls) (index := ik) (n := 6) hown' hk' hins hini'
    (g := F0 m pc ls rest) rfl (by rw [hb]; exact d0) (Nat.le_refl _) (Nat.le_refl _)
  generalize hT1 : (T.setVm vm₁).pushCell { cls := cX, slots := kX.instanceTypes.map defaultValue, vm := .none } = T1 at X₁ st1
  have hcat : (Value.ref T.heap.size).category = 1 := rfl
  have hcellA : T1.heap[T.heap.size]? = some (freshCell cX kX) := by rw [← hT1]; exact State.heap_pushCell_size _ _
  have d3' : decode c.code (pc + 3) = .ok (.dup, 1) := by rw [hb]; exact d3
  have d4' : decode c.code (pc + 4) = .ok (.ldc is, 2) := by rw [hb]; exact d4
  have hstr' : vk_R own is text sa s' := vk_R.warm hW0 hstr
  obtain ⟨U, hsteps, hrun, hend, hW, hsame, ce, hce, hO⟩ := X₁.ctorThrowS hexec htr (own := own) (cls := cls) (names := names) (ic := ic) hown' hcls hnames h (fun x hx => nomatch hx) hfX hkX hcellA (by rw [hhp, hT]; exact Nat.le_refl _) (msg := .ref sa) rfl
    (g := { method := m, pc := pc + 6, locals := ls, stack := .ref sa :: .ref T.heap.size :: .ref T.heap.size :: rest, locked := none }) rfl hsize rfl rfl (rest := rest) rfl
    (by rw [hb]; exact d6) (by rw [hb]; exact d9) hout hRframes (by simp only [List.map_cons, List.sum_cons, hcat]; omega) hlocks
  obtain ⟨f1, f2⟩ := vx_frame hsame
  rw [hhp] at f1 f2
  have hWs : s.WarmedH U.vm := State.WarmedH.trans hW0 hW
  have hcl : s.vm.findClass cls = some ce.cls := by
    have h9 := hO.cls
    rw [hvm] at h9
    exact h9
  have hall : s.sameButNew ({ U with vm := s.vm } : State) locs mc ms := by
    subst hA
    obtain ⟨e1, e2⟩ := hsame
    rw [State.setFrames_setFrames] at e1
    have h2 : (T.setVm s.vm).sameButNew ({ U with vm := s.vm } : State) [] (0 + 1) (0 + 6) := ⟨e1, e2⟩
    have h3 := X.same.trans h2
    rw [List.append_nil] at h3
    exact h3.mono hc hs
  refine ⟨U, ?_, .threw T.heap.size, hrun, hend, Or.inr ⟨T.heap.size, rfl, cls, ce, locs, hx U hWs.alike f1 (fun q hq => f2 q hq (fun z hz => nomatch hz)), hce, hO.vm, hcl, hWs, hall, hf⟩⟩
  refine st1 _ ?_
  show Steps p.tables e below (T1.setTop { method := m, pc := pc + 3, locals := ls, stack := .ref T.heap.size :: rest, locked := none }) _
  jvm_step X₁.here [X₁.here.top, hexec, d3', Value.category]
  exact X₁.ldcString hexec (own := own) (text := text) (index := is) (a := sa) hown' hstr'.1 hstr'.2
    (g := { method := m, pc := pc + 4, locals := ls, stack := .ref T.heap.size :: .ref T.heap.size :: rest, locked := none }) rfl d4' _ hsteps
/-- 'throw new E("text")', the text by a wide index -/
theorem vx_throwSW {cc : ByteArray} {pc : Nat} (hexec : p.tables.exec = Jvm.exec) (hb : c.code = cc) (hl : l.stackTraces = false) {own cls text : String} {names : List String} {ik is ic mc ms sa : Nat} {A : Nat → Prop}
    (hown : s.vm.findClass own = some m.cls) (hcls : Bundle.fit cls = true) (hnames : ∀ n ∈ names, Bundle.fit n = true)
    (hk : (Cond.classLink own ik cls).before args s = true) (hini : (Cond.initialized cls).before args s = true) (hstr : vk_R own is text sa s) (hat : ∀ w ∈ vx_atS own ic cls names, w.before args s = true)
    (hgood : ∀ w ∈ Cond.classLink own ik cls :: Cond.initialized cls :: vx_atS own ic cls names, vx_ot w = true)
    (hU : vx_Zq Bundle.tN "UNASSIGNED_STACK" Bundle.steD A s s.heap) (hN : vx_Zq Bundle.tN "SUPPRESSED_SENTINEL" Bundle.listD A s s.heap) (hS : va_S A s.heap H locs) (hsize : ls.size = c.maxLocals)
    (d0 : decode cc pc = .ok (.new ik, 3)) (d3 : decode cc (pc + 3) = .ok (.dup, 1)) (d4 : decode cc (pc + 4) = .ok (.ldc_w is, 3)) (d7 : decode cc (pc + 7) = .ok (.invokespecial ic, 3)) (d10 : decode cc (pc + 10) = .ok (.athrow, 1))
    (hout : ∀ x ∈ c.exceptionTable.toList, covers x (pc + 10) = false)
    (hRframes : names.length + 3 < R.frames) (hRlocals : (rest.map fun v => v.category).sum + (13 * (names.length + 1) + 43) ≤ R.locals) (hRcells : cells + 1 ≤ R.cells) (hRslots : slots + 6 ≤ R.slots) (hlocks : meth.locks = false)
    (hx : ∀ t : State, s.vm.Alike t.vm → H.size ≤ t.heap.size → (∀ q : Nat, q < H.size → t.heap[q]? = H[q]?) → XC cls s t)
    (hf : ∀ z ∈ locs, free z.base) (hc : cells + 1 ≤ mc) (hs : slots + 6 ≤ ms) :
    W p l e R s m args below meth c H locs cells slots (vx_MQ below Qc XC args s mc ms free) (F0 m pc ls rest) := by
  intro T hT X
  have htr : e.platform.stackTraces = false := (show e.platform.stackTraces = l.stackTraces by rw [X.admits.platform]).trans hl
  have Y := vx_rebase X (R' := { frames := R.frames, locals := R.locals, cells := 1, slots := 6 }) (Nat.le_refl _) (Nat.le_refl _) hRcells hRslots
  obtain ⟨s', hA⟩ : ∃ z, z = (T.setVm s.vm).setFrames (.invoking m args :: below) := ⟨_, rfl⟩
  rw [← hA] at Y
  have hvm : s'.vm = s.vm := by rw [hA]; rfl
  have hhp : s'.heap = H := by rw [hA]; exact hT
  have hW0 : s.WarmedH s'.vm := by rw [hvm]; exact State.WarmedH.refl s
  have hat' : ∀ w ∈ vx_atS own ic cls names, w.before args s' = true := fun w hw => vx_ot_at hW0 hvm.symm (hgood w (List.mem_cons_of_mem _ (List.mem_cons_of_mem _ hw))) (hat w hw)
  have hk' : (Cond.classLink own ik cls).before args s' = true := vx_ot_at hW0 hvm.symm (hgood _ List.mem_cons_self) hk
  have hini' : (Cond.initialized cls).before args s' = true := vx_ot_at hW0 hvm.symm (hgood _ (List.mem_cons_of_mem _ List.mem_cons_self)) hini
  have hU' : vx_Zq Bundle.tN "UNASSIGNED_STACK" Bundle.steD A s' s'.heap := by rw [hhp]; exact vx_Zq.moved hW0.alike (hU.kept hS.2.1)
  have hN' : vx_Zq Bundle.tN "SUPPRESSED_SENTINEL" Bundle.listD A s' s'.heap := by rw [hhp]; exact vx_Zq.moved hW0.alike (hN.kept hS.2.1)
  have h : ∀ w ∈ Bundle.ownAtoms own ic cls names, w.before args s' = true := vx_own hat' (vx_isRefq hU'.1) (vx_isRefq hN'.1) hU'.2.word hN'.2.word
  have hown' : s'.vm.findClass own = some m.cls := by rw [hvm]; exact hown
  have hins : (Cond.instantiable cls 6).before args s' = true := h _ (by simp [Bundle.ownAtoms])
  obtain ⟨vm₁, cX, kX, hfX, hkX, -, -, X₁, st1⟩ := Y.newCold hexec (own := own) (C := cls) (index := ik) (n := 6) hown' hk' hins hini'
    (g := F0 m pc ls rest) rfl (by rw [hb]; exact d0) (Nat.le_refl _) (Nat.le_refl _)
  generalize hT1 : (T.setVm vm₁).pushCell { cls := cX, slots := kX.instanceTypes.map defaultValue, vm := .none } = T1 at X₁ st1
  have hcat : (Value.ref T.heap.size).category = 1 := rfl
  have hcellA : T1.heap[T.heap.size]? = some (freshCell cX kX) := by rw [← hT1]; exact State.heap_pushCell_size _ _
  have d3' : decode c.code (pc + 3) = .ok (.dup, 1) := by rw [hb]; exact d3
  have d4' : decode c.code (pc + 4) = .ok (.ldc_w is, 3) := by rw [hb]; exact d4
  have hstr' : vk_R own is text sa s' := vk_R.warm hW0 hstr
  obtain ⟨U, hsteps, hrun, hend, hW, hsame, ce, hce, hO⟩ := X₁.ctorThrowS hexec htr (own := own) (cls := cls) (names := names) (ic := ic) hown' hcls hnames h (fun x hx => nomatch hx) hfX hkX hcellA (by rw [hhp, hT]; exact Nat.le_refl _) (msg := .ref sa) rfl
    (g := { method := m, pc := pc + 7, locals := ls, stack := .ref sa :: .ref T.heap.size :: .ref T.heap.size :: rest, locked := none }) rfl hsize rfl rfl (rest := rest) rfl
    (by rw [hb]; exact d7) (by rw [hb]; exact d10) hout hRframes (by simp only [List.map_cons, List.sum_cons, hcat]; omega) hlocks
  obtain ⟨f1, f2⟩ := vx_frame hsame
  rw [hhp] at f1 f2
  have hWs : s.WarmedH U.vm := State.WarmedH.trans hW0 hW
  have hcl : s.vm.findClass cls = some ce.cls := by
    have h9 := hO.cls
    rw [hvm] at h9
    exact h9
  have hall : s.sameButNew ({ U with vm := s.vm } : State) locs mc ms := by
    subst hA
    obtain ⟨e1, e2⟩ := hsame
    rw [State.setFrames_setFrames] at e1
    have h2 : (T.setVm s.vm).sameButNew ({ U with vm := s.vm } : State) [] (0 + 1) (0 + 6) := ⟨e1, e2⟩
    have h3 := X.same.trans h2
    rw [List.append_nil] at h3
    exact h3.mono hc hs
  refine ⟨U, ?_, .threw T.heap.size, hrun, hend, Or.inr ⟨T.heap.size, rfl, cls, ce, locs, hx U hWs.alike f1 (fun q hq => f2 q hq (fun z hz => nomatch hz)), hce, hO.vm, hcl, hWs, hall, hf⟩⟩
  refine st1 _ ?_
  show Steps p.tables e below (T1.setTop { method := m, pc := pc + 3, locals := ls, stack := .ref T.heap.size :: rest, locked := none }) _
  jvm_step X₁.here [X₁.here.top, hexec, d3', Value.category]
  exact X₁.ldcStringW hexec (own := own) (text := text) (index := is) (a := sa) hown' hstr'.1 hstr'.2
    (g := { method := m, pc := pc + 4, locals := ls, stack := .ref T.heap.size :: .ref T.heap.size :: rest, locked := none }) rfl d4' _ hsteps
end Ends
section Bodies
variable {l : Launch}
theorem vx_ofW {y : MethodName} {ws ws' : List Cond} {rm : Room} {Pc : Array Value → State → Prop} {Qc : Array Value → State → Outcome → State → Prop} {XC : String → State → State → Prop} {mc ms : Nat} {free : Addr → Prop} {cc : ByteArray} {maxL : Nat} {ret : Option FieldType}
    (hy : plainName y.cls = true) (hw : ws = Cond.code y cc maxL ret :: ws')
    (body : ∀ p e s m args below meth c s₁, BodyLoose p l y (headSpec ws rm) cc maxL ret e s m args below meth c s₁ → c.maxLocals = maxL → (∀ x ∈ c.exceptionTable.toList, False) → Pc args s →
      W p l e (headSpec ws rm).room s m args below meth c s.heap [] 0 0 (vx_MQ below Qc XC args s mc ms free) (entryFrame m args maxL)) : vx_Met l y ws rm Pc Qc XC mc ms free := by
  refine MetFree.of_bodyS (code := cc) (maxLocals := maxL) (ret := ret) hy ?_ ?_
  · intro args s m h hn
    obtain ⟨meth, c, h1, h2, h3, h4, h5, h6, -, -⟩ := Cond.code_spec hn (atoms_spec (ws := ws) h _ (by rw [hw]; exact List.mem_cons_self))
    exact ⟨meth, c, h1, h2, h3, h4, h5, h6⟩
  · intro p e s m args below meth c s₁ B hml hP _
    have hh0 : s₁.heap = s.heap := by rw [B.state]; rfl
    have ht : ∀ x ∈ c.exceptionTable.toList, False := by
      obtain ⟨meth9, c9, h1, h2, -, -, -, -, h7, -⟩ := Cond.code_spec B.named (atoms_spec (ws := ws) B.pre _ (by rw [hw]; exact List.mem_cons_self))
      cases Option.some.inj (h1.symm.trans B.method)
      cases Option.some.inj (h2.symm.trans (Stand.of_body B).code)
      intro x hx
      rw [Array.isEmpty_iff.mp h7] at hx
      cases hx
    obtain ⟨t, a1, o, b1, b2, b3⟩ := body p e s m args below meth c s₁ B hml ht hP s₁ hh0 (Stand.of_body B)
    exact ⟨t, o, a1, b1, b2, b3⟩
/-- the table of a body with handlers -/
theorem vx_table {p : Program} {x y : MethodName} {S : Spec} {cc bytes : ByteArray} {maxL maxL' : Nat} {ret ret' : Option FieldType} {e : Env} {s s₁ : State} {m : MethodId} {args : Array Value} {below : List Frame} {meth : Method} {c : Code} {hh : List (Nat × Nat × Nat × Nat)}
    (B : BodyLoose p l y S cc maxL ret e s m args below meth c s₁) (h : (Cond.codeWith y bytes maxL' ret' hh).before args s = true) : c.exceptionTable.toList = tableOf hh := by
  obtain ⟨m9, meth9, c9, hn9, h1, h2, -, -, h6, -⟩ := Cond.codeWith_spec h
  cases Option.some.inj (hn9.symm.trans B.named)
  cases Option.some.inj (h1.symm.trans B.method)
  cases Option.some.inj (h2.symm.trans (Stand.of_body B).code)
  rw [← h6, table_eq]
end Bodies
end VXA
/-! ===== END ===== -/
/-! ===== BEGIN a static call of a method with an exception table ===== -/
section VXS
variable {p : Program} {l : Launch} {e : Env} {R : Room} {s : State} {m : MethodId} {args : Array Value} {below : List Frame} {meth : Method} {c : Code} {T : State} {H : Heap} {locs : List Loc} {cells slots : Nat}
abbrev vx_CSW (R : Room) (s : State) (args : Array Value) (own : String) (index : Nat) (y : MethodName) (bytes : ByteArray) (maxL : Nat) (ret : Option FieldType) (hh : List (Nat × Nat × Nat × Nat)) (ws : List Cond) (rm : Room) (mc ms n : Nat) : Prop :=
  (rm.cells = mc ∧ rm.slots = ms ∧ rm.frames + 1 ≤ R.frames ∧ 8 + (maxL + 11) + rm.locals ≤ R.locals ∧ (∀ w ∈ ws, ∀ (a' : Array Value) (U : State), s.WarmedH U.vm → w.before a' U = true) ∧ Cond.codeWith y bytes maxL ret hh ∈ ws) ∧
  (Cond.codeWith y bytes maxL ret hh).before args s = true ∧ (Cond.initialized y.cls).before args s = true ∧ (y.cls ≠ "java/lang/invoke/MethodHandle" ∧ y.cls ≠ "java/lang/invoke/VarHandle") ∧
  (∀ sig, parseMethodDescriptor y.desc = some sig → n = sig.parameters.length) ∧ (Cond.methodLink own index y).before args s = true ∧ (Cond.static y).before args s = true
theorem vx_cwSW {own : String} {index maxL mc ms : Nat} {y : MethodName} {bytes : ByteArray} {ret : Option FieldType} {hh : List (Nat × Nat × Nat × Nat)} {Ts ws ws' : List Cond} {rm : Room} (n : Nat) (ht : ∀ w ∈ Ts, w.before args s = true) (hT : GoodIn Ts (va_wsS own index y ws)) (hw : ws = Cond.codeWith y bytes maxL ret hh :: ws') (hrc : rm.cells = mc) (hrs : rm.slots = ms)
    (hd : y.cls ≠ "java/lang/invoke/MethodHandle" ∧ y.cls ≠ "java/lang/invoke/VarHandle" ∧ (parseMethodDescriptor y.desc).map (fun d => d.parameters.length) = some n) (hR : rm.frames + 1 ≤ R.frames ∧ 8 + (maxL + 11) + rm.locals ≤ R.locals) :
    vx_CSW R s args own index y bytes maxL ret hh ws rm mc ms n := by
  have ok : ∀ w ∈ va_wsS own index y ws, w.before args s = true := fun w h => ht w (hT w h).1
  have hG : GoodIn Ts ws := fun w h => hT w (by unfold va_wsS; exact List.mem_append_right _ h)
  have hc : Cond.codeWith y bytes maxL ret hh ∈ ws := by rw [hw]; exact List.mem_cons_self
  refine ⟨⟨hrc, hrs, hR.1, hR.2, pay_in ht hG, hc⟩, ht _ (hG _ hc).1, ok _ (by simp [va_wsS]), ⟨hd.1, hd.2.1⟩, fun sig h => ?_, ok _ (by simp [va_wsS]), ok _ (by simp [va_wsS])⟩
  have h2 := hd.2.2
  rw [h] at h2
  exact (Option.some.inj h2).symm
theorem vx_callSW (X : Stand p l e R s m args below meth c T locs cells slots) (hexec : p.tables.exec = Jvm.exec) {own : String} {index : Nat} {y : MethodName} {bytes : ByteArray} {maxL : Nat} {ret : Option FieldType} {hh : List (Nat × Nat × Nat × Nat)}
    (hown : s.vm.findClass own = some m.cls) (hlink : (Cond.methodLink own index y).before args s = true) (hstat : (Cond.static y).before args s = true) (hinit : (Cond.initialized y.cls).before args s = true)
    (hcode : (Cond.codeWith y bytes maxL ret hh).before args s = true) (hy : y.cls ≠ "java/lang/invoke/MethodHandle" ∧ y.cls ≠ "java/lang/invoke/VarHandle")
    {W9 : Nat} {Pre : Pt → Array Value → Prop} {Post : Pt → Array Value → Option Value → Pt → Prop} (hK : Back l R p e below s args y 3 W9 Pre Post)
    {g : JFrame} (hg : g.method = m) (hsize : g.locals.size = c.maxLocals) {argsL rest : List Value} (hlen : ∀ sig, parseMethodDescriptor y.desc = some sig → argsL.length = sig.parameters.length)
    (hstack : g.stack = argsL.reverse ++ rest) (hW : 2 * g.monitorRoom + (rest.map fun v => v.category).sum ≤ W9) (hdg : decode c.code g.pc = .ok (.invokestatic index, 3))
    (hpre : ∀ vm₁, s.WarmedH vm₁ → Pre ⟨T.setVm vm₁, locs, cells, slots⟩ argsL.toArray) :
    ∃ (v : Option Value) (vm₁ : Vm) (B : Pt), s.WarmedH vm₁ ∧ Stand p l e R s m args below meth c B.U B.locs B.cells B.slots ∧ Post ⟨T.setVm vm₁, locs, cells, slots⟩ argsL.toArray v B ∧
      ∀ target, Steps p.tables e below (B.U.setTop { g with pc := g.pc + 3, stack := v.toList ++ rest }) target → Steps p.tables e below (T.setTop g) target := by
  obtain ⟨mk, methM, cM, hnamed, hmethM, -, -, -, -, -, -, hsigM⟩ := Cond.codeWith_spec hcode
  have hstatic : methM.isStatic = true := Cond.static_spec hnamed hmethM hstat
  obtain ⟨kP, hkP, -⟩ := className_of_methodNamed hnamed
  have hinitP : kP.init = .initialized := Cond.initialized_spec (findClass_of_methodNamed hnamed) hkP hinit
  obtain ⟨vm₁, X₁, hstep₁⟩ := X.invokestatic hexec hown hlink hnamed hmethM hstatic hkP hinitP hy (g := g) hg (argsL := argsL) (rest := rest) (hlen _ hsigM) hstack hdg
  obtain ⟨v, B, X', hpost, hsteps⟩ := hK m meth c ⟨T.setVm vm₁, locs, cells, slots⟩ { g with stack := rest } (.invokestatic index) mk argsL.toArray X₁ hg hsize hdg hW (X₁.named hnamed) (hpre vm₁ X₁.warmed)
  exact ⟨v, vm₁, B, X₁.warmed, X', hpost, fun target h => hstep₁ _ fun acts => by rw [doInvoke_state]; exact hsteps.trans h⟩
theorem vx_runSW {y : MethodName} {bytes cc : ByteArray} {maxL nL mc ms n index : Nat} {ret : Option FieldType} {hh : List (Nat × Nat × Nat × Nat)} {ws : List Cond} {rm : Room} {Pc : Array Value → State → Prop} {Qc : Array Value → State → Outcome → State → Prop} {free : Addr → Prop} {Ts : List Cond} {own : String} {As rest : List Value} {g : JFrame}
    (S : CallFix p m c cc nL s args Ts own) (hM : Met l y ws rm Pc Qc mc ms free) (cw : vx_CSW R s args own index y bytes maxL ret hh ws rm mc ms n) (hp : PreS s H Pc As)
    (hg : g.method = m) (hn : As.length = n) (hsize : g.locals.size = nL) (hstack : g.stack = As.reverse ++ rest) (hW : 2 * g.monitorRoom + (rest.map fun v => v.category).sum ≤ 8) (hdg : decode cc g.pc = .ok (.invokestatic index, 3)) (hf : cells + mc ≤ R.cells ∧ slots + ms ≤ R.slots) :
    va_Run p l e R s m args below meth c H locs cells slots mc ms g rest (Qc As.toArray) (free) := by
  obtain ⟨⟨hrc, hrs, hfr, hlo, hws, hcw⟩, hcode, hini, hy, hlen, hl, hstt⟩ := cw
  have hK : Back l R p e below s args y 3 8 (PreOf R mc ms Pc) (PostOf Qc mc ms free) := va_backW (hh := hh) (bytes := bytes) (maxL := maxL) (ret := ret) hM hp.1 hrc hrs hfr hlo hws hcw (fun a' U hW => word_at hW (Or.inl (by first | rfl | simp [Cond.onTables, Cond.keeps, Cond.steady])) hini)
  obtain ⟨hx, hb, hml, ho, -⟩ := S
  intro T hT X
  obtain ⟨v, vm₁, ⟨U', l2, c2, s2⟩, hW₁, X', ⟨g', mk, t, L, e1, e2, hq, h1, hL, h2, h3⟩, st⟩ := vx_callSW X hx (hh := hh) (bytes := bytes) (maxL := maxL) (ret := ret) ho hl hstt hini hcode hy hK hg (hsize.trans hml.symm) (argsL := As) (rest := rest) (fun sig h => hn.trans (hlen sig h)) hstack hW (by rw [hb]; exact hdg)
    (fun vm₁ hW₁ => ⟨hf.1, hf.2, hp.2 (T.setVm vm₁) hT hW₁⟩)
  dsimp only [Pt.U, Pt.locs, Pt.cells, Pt.slots] at X' e1 e2 h1 h2 h3 st
  subst h1; subst h2; subst h3
  exact ⟨v, (T.setVm vm₁).calling g' mk As.toArray, t, U', L, hT, X', hL, e1, e2, hq, st⟩
/-- not caught here, past rows that name other classes: it goes on to the caller -/
theorem vx_outP {p : Program} {l : Launch} {e : Env} {R : Room} {s : State} {m : MethodId} {args : Array Value} {below : List Frame} {meth : Method} {c : Code} {H : Heap} {locs : List Loc} {cells slots : Nat} {free : Addr → Prop} {ls : Array Slot} {rest : List Value} {Qc : Array Value → State → Outcome → State → Prop} {XC : String → State → State → Prop}
    {pc : Nat} {own E : String} {ce : Cell} {q : Addr} {mc ms : Nat} (hown : s.vm.findClass own = some m.cls) (hlocks : meth.locks = false)
    (hpass : ∀ z ∈ c.exceptionTable.toList, covers z pc = false ∨ (z.catchType ≠ 0 ∧ ∃ nm : String, (Cond.classLink own z.catchType nm).before args s = true ∧ va_Nc E nm s)) (hcell : H[q]? = some ce) (hv : ce.vm = .none) (hcl : s.vm.findClass E = some ce.cls)
    (hx : ∀ t : State, t.heap = H → s.vm.Alike t.vm → XC E s t) (hf : ∀ z ∈ locs, free z.base) (hc : cells ≤ mc) (hs : slots ≤ ms) :
    vx_W p l e R s m args below meth c H locs cells slots (vx_MQ below Qc XC args s mc ms free) (F0 m pc ls rest) q := by
  intro T hT X
  have hpl : e.platform.magicAccessors = ({} : Platform).magicAccessors := by rw [X.admits.platform]
  obtain ⟨vm', hW', X', st⟩ := X.outThrough hlocks q (g := F0 m pc ls rest) rfl rfl rfl (cell := ce) (by rw [hT]; exact hcell) (by rw [hv]; rfl)
    (by obtain ⟨k9, h9, -⟩ := Vm.findClass_spec hcl; exact ⟨k9, h9⟩) (fun z hz => by
      rcases hpass z hz with h | ⟨hz0, nm, hl1, hn1⟩
      · exact Or.inl h
      · obtain ⟨c6, hc6, hcl6⟩ := Cond.classLink_spec hown hl1 e.platform hpl
        obtain ⟨a8, b8, h1, h2, h3⟩ := hn1
        cases Option.some.inj (h1.symm.trans hcl)
        cases Option.some.inj (h2.symm.trans hc6)
        exact Or.inr ⟨hz0, _, hcl6, h3⟩)
  obtain ⟨g₀, hfr⟩ := X'.frames_eq
  have hcell9 : ((T.setVm vm').setFrames (.throwing q :: below)).heap[q]? = some ce := by
    show T.heap[q]? = some ce
    rw [hT]; exact hcell
  have hend : Ended ((T.setVm vm').setFrames (.throwing q :: below)) below (.threw q) := State.frames_setFrames _ (State.cur_lt_of_frames hfr)
  refine ⟨(T.setVm vm').setFrames (.throwing q :: below), ?_, .threw q, X'.here.running, hend, Or.inr ⟨q, rfl, E, ce, locs, hx _ hT (X'.ends _).1.alike, hcell9, hv, hcl, (X'.ends _).1, (X'.ends _).2.mono hc hs, hf⟩⟩
  rw [X.pushThrowing_eq]
  exact st
/-- a thing of a world lies in the heap -/
theorem vx_lt {D : va_G} {cl : List vw_C} {ws : va_W} {H1 : Heap} (h : va_P D cl ws H1) {k : Nat} {q : Nat × va_E} (hk : ws[k]? = some q) : q.1 < H1.size := (h k q hk).lt
end VXS
/-! ===== END ===== -/
/-! ===== BEGIN methods with a table of their own: called by a name, returning or throwing ===== -/
section VXH
/-! vx_backW, vx_callVX, vx_callSX, vx_callVW, vx_runVW, vx_runVX, vx_runSX, vx_ofWH follow the same proofs as their sisters above (Free/Laws.lean, Shelf42/LK1.lean); vx_outP calls Shelf42/NT130.lean (outThrough). -/
section
variable {l : Launch} {R : Room} {p : Program} {e : Env} {below : List Frame} {s : State} {sargs : Array Value} {y : MethodName} {len W9 : Nat}
theorem vx_backW {ws : List Cond} {rm : Room} {Pc : Array Value → State → Prop} {Qc : Array Value → State → Outcome → State → Prop} {XC : String → State → State → Prop} {mc ms : Nat} {free : Addr → Prop} {bytes : ByteArray} {maxL : Nat} {ret : Option FieldType} {hh : List (Nat × Nat × Nat × Nat)}
    (hM : vx_Met l y ws rm Pc Qc XC mc ms free) (hblind : FrameBlind Pc) (hrc : rm.cells = mc) (hrs : rm.slots = ms)
    (hframes : rm.frames + 1 ≤ R.frames) (hlocals : W9 + (maxL + 11) + rm.locals ≤ R.locals)
    (hws : ∀ w ∈ ws, ∀ a' U, s.WarmedH U.vm → w.before a' U = true) (hcode : Cond.codeWith y bytes maxL ret hh ∈ ws) (hinit : ∀ a' U, s.WarmedH U.vm → (Cond.initialized y.cls).before a' U = true) :
    vx_Back l R p e below s sargs y len W9 (PreOf R mc ms Pc) (PostOf Qc mc ms free) (vx_Post XC mc ms free) := by
  intro m meth c A g ig mk a X hg hsize hdg hW hn hp
  have h1 : (headSpec ws rm).pre.before a A.U = true := atoms_intro fun w hw => hws w hw _ _ X.warmed
  have h2 : (Cond.codeWith y bytes maxL ret hh).before a A.U = true := hws _ hcode _ _ X.warmed
  have h3 : (Cond.initialized y.cls).before a A.U = true := hinit _ _ X.warmed
  have h4 : A.cells + (headSpec ws rm).room.cells ≤ R.cells := by rw [show (headSpec ws rm).room.cells = mc from hrc]; exact hp.1
  have h5 : A.slots + (headSpec ws rm).room.slots ≤ R.slots := by rw [show (headSpec ws rm).room.slots = ms from hrs]; exact hp.2.1
  have hPc : Pc a (A.U.calling g mk a) := hblind _ _ _ _ hp.2.2
  obtain ⟨U, Ls, c0, s0⟩ := A
  dsimp only [Pt.U, Pt.locs, Pt.cells, Pt.slots] at h1 h2 h3 h4 h5 X hn hPc ⊢
  obtain ⟨m9, methY, cY, hn9, hmY, hcY, -, hlY, -⟩ := Cond.codeWith_spec h2
  cases Option.some.inj (hn9.symm.trans hn)
  obtain ⟨kY, hkY, -⟩ := className_of_methodNamed hn
  have hinitY : kY.init = .initialized := Cond.initialized_spec (findClass_of_methodNamed hn) hkY h3
  have h : At U g.method c below := by rw [hg]; exact X.here
  have hlocals9 : W9 + (maxL + 11) + (headSpec ws rm).room.locals ≤ R.locals := hlocals
  have happ : (headSpec ws rm).appliesLoose y e.platform (U.calling g mk a) = true :=
    Spec.appliesLoose_calling (g := g) h hdg hn hkY hinitY
      (X.room_calling (g := g) (R' := (headSpec ws rm).room) hsize hmY hcY hframes (by rw [hlY]; omega) h4 h5) h1
  obtain ⟨mid, hmid⟩ := h.above
  have hfr : (U.setTop g).frames = (.java g :: mid) ++ below := by rw [State.frames_setTop' g h.top, hmid]; rfl
  obtain ⟨o, s₂, hsteps, -, hend, hq⟩ := Steps.callFree hM p X.admits X.cas X.clock (acts := []) hfr happ hPc trivial
  have hq' : vx_Q Qc XC mc ms free a (U.calling g mk a) o s₂ := hq
  rw [State.frames_setTop' g h.top] at hend
  obtain ⟨g₀, hg0⟩ := Option.isSome_iff_exists.mp h.top
  obtain ⟨r, hr⟩ := State.topJava?_eq_some.mp hg0
  have hr' : (({ U with heap := s₂.heap, slotsUsed := s₂.slotsUsed } : State).setVm s₂.vm).frames = .java g₀ :: r := hr
  rcases hq' with ⟨hqc, L, hfe, hL⟩ | ⟨q, rfl, E, ce, L, hx, hce, hcv, hcl, hW₂, hsm, hL⟩
  · obtain ⟨⟨v, rfl⟩, hW₂, e2, q2, q3, q4, q5, q6⟩ := id hfe
    have e3 : s₂ = ({ (U.calling g mk a).setFrames s₂.frames with heap := s₂.heap, slotsUsed := s₂.slotsUsed } : State).setVm s₂.vm := by
      have : s₂ = ({ s₂ with vm := (U.calling g mk a).vm } : State).setVm s₂.vm := rfl
      rw [e2] at this
      exact this
    obtain ⟨c₂, i₂, len₂, hc₂, hd₂, hf₂⟩ := hend
    have hW' : U.WarmedH s₂.vm := hW₂
    have hcc : c₂ = c := by
      have h1 : s₂.code? g.method = U.code? g.method := by
        rw [State.code?_eq, State.code?_eq, hW'.alike.method?]
      exact Option.some.inj (hc₂.symm.trans (h1.trans h.code))
    subst hcc
    have hlen : len₂ = len := by rw [hdg] at hd₂; cases hd₂; rfl
    subst hlen
    have hs₂ : s₂ = (({ U with heap := s₂.heap, slotsUsed := s₂.slotsUsed } : State).setVm s₂.vm).setTop { g with pc := g.pc + len₂, stack := v.toList ++ g.stack } := by
      refine e3.trans ?_
      rw [hf₂, State.calling_eq h.top, State.setFrames_setFrames, State.setTop_of_frames _ hr', hr]
      rfl
    have hsame : U.sameButNew ({ U with heap := s₂.heap, slotsUsed := s₂.slotsUsed } : State) L mc ms := by
      refine ⟨?_, q2, q3, q4, q5, q6⟩
      obtain ⟨t, ht, -⟩ := State.frames_cons hr
      show ({ U with heap := s₂.heap, slotsUsed := s₂.slotsUsed } : State) = { U.setFrames U.frames with heap := s₂.heap, slotsUsed := s₂.slotsUsed }
      rw [State.setFrames_self ht]
    subst hg
    refine Or.inl ⟨v, ⟨(({ U with heap := s₂.heap, slotsUsed := s₂.slotsUsed } : State).setVm s₂.vm), Ls ++ L, c0 + mc, s0 + ms⟩,
      ⟨X.admits, X.cas, X.clock, X.frames, X.room, X.hears, X.method, X.code, (X.here.setHeapUsed s₂.heap s₂.slotsUsed).setVm hW'.alike, X.tail, State.WarmedH.trans X.warmed hW', X.limits, X.bytes, X.same.trans (hsame.setVm s.vm)⟩,
      ⟨g, mk, s₂, L, rfl, rfl, hqc, rfl, hL, rfl, rfl⟩, ?_⟩
    show Steps p.tables e below _ ((({ U with heap := s₂.heap, slotsUsed := s₂.slotsUsed } : State).setVm s₂.vm).setTop { g with pc := g.pc + len₂, stack := v.toList ++ g.stack })
    rw [← hs₂]
    exact hsteps
  · obtain ⟨e2, q2, q3, q4, q5, q6⟩ := id hsm
    have e3 : s₂ = ({ (U.calling g mk a).setFrames s₂.frames with heap := s₂.heap, slotsUsed := s₂.slotsUsed } : State).setVm s₂.vm := by
      have : s₂ = ({ s₂ with vm := (U.calling g mk a).vm } : State).setVm s₂.vm := rfl
      rw [e2] at this
      exact this
    have hf₂ : s₂.frames = .throwing q :: .java g :: U.frames.tail := hend
    have hW' : U.WarmedH s₂.vm := hW₂
    have hs₂ : s₂ = ((({ U with heap := s₂.heap, slotsUsed := s₂.slotsUsed } : State).setVm s₂.vm).setTop g).pushFrame (.throwing q) := by
      refine e3.trans ?_
      rw [hf₂, State.calling_eq h.top, State.setFrames_setFrames, State.pushFrame, State.frames_setTop _ hr', State.setTop_of_frames _ hr', State.setFrames_setFrames, hr]
      rfl
    have hsame : U.sameButNew ({ U with heap := s₂.heap, slotsUsed := s₂.slotsUsed } : State) L mc ms := by
      refine ⟨?_, q2, q3, q4, q5, q6⟩
      obtain ⟨t, ht, -⟩ := State.frames_cons hr
      show ({ U with heap := s₂.heap, slotsUsed := s₂.slotsUsed } : State) = { U.setFrames U.frames with heap := s₂.heap, slotsUsed := s₂.slotsUsed }
      rw [State.setFrames_self ht]
    subst hg
    refine Or.inr ⟨q, ⟨(({ U with heap := s₂.heap, slotsUsed := s₂.slotsUsed } : State).setVm s₂.vm), Ls ++ L, c0 + mc, s0 + ms⟩,
      ⟨X.admits, X.cas, X.clock, X.frames, X.room, X.hears, X.method, X.code, (X.here.setHeapUsed s₂.heap s₂.slotsUsed).setVm hW'.alike, X.tail, State.WarmedH.trans X.warmed hW', X.limits, X.bytes, X.same.trans (hsame.setVm s.vm)⟩,
      ⟨g, mk, s₂, L, E, ce, rfl, rfl, hx, hce, hcv, hcl, rfl, hL, rfl, rfl⟩, ?_⟩
    show Steps p.tables e below _ (((({ U with heap := s₂.heap, slotsUsed := s₂.slotsUsed } : State).setVm s₂.vm).setTop g).pushFrame (.throwing q))
    rw [← hs₂]
    exact hsteps
end
variable {p : Program} {l : Launch} {e : Env} {R : Room} {s : State} {m : MethodId} {args : Array Value} {below : List Frame} {meth : Method} {c : Code} {T : State} {H : Heap} {locs : List Loc} {cells slots : Nat}
theorem vx_callVX (X : Stand p l e R s m args below meth c T locs cells slots) (hexec : p.tables.exec = Jvm.exec) {own C : String} {index : Nat} {y : MethodName} {bytes : ByteArray} {maxL : Nat} {ret : Option FieldType} {hh : List (Nat × Nat × Nat × Nat)}
    (hown : s.vm.findClass own = some m.cls) (hlink : (Cond.methodLink own index y).before args s = true) (hinst : (Cond.instanceMethod y).before args s = true) (hsel : (Cond.selects C y y).before args s = true)
    (hcode : (Cond.codeWith y bytes maxL ret hh).before args s = true) (hy : y.cls ≠ "java/lang/invoke/MethodHandle" ∧ y.cls ≠ "java/lang/invoke/VarHandle")
    {W9 : Nat} {Pre : Pt → Array Value → Prop} {Post : Pt → Array Value → Option Value → Pt → Prop} {PostX : Pt → Array Value → Addr → Pt → Prop} (hK : vx_Back l R p e below s args y 3 W9 Pre Post PostX)
    {b : Addr} {cellB : Cell} (hcell : T.heap[b]? = some cellB) (hobj : cellB.vm.isStatics = false) (hcls : s.vm.findClass C = some cellB.cls)
    {g : JFrame} (hg : g.method = m) (hsize : g.locals.size = c.maxLocals) {argsL rest : List Value} (hlen : ∀ sig, parseMethodDescriptor y.desc = some sig → argsL.length = sig.parameters.length)
    (hstack : g.stack = argsL.reverse ++ .ref b :: rest) (hW : 2 * g.monitorRoom + (rest.map fun v => v.category).sum ≤ W9) (hdg : decode c.code g.pc = .ok (.invokevirtual index, 3))
    (hpre : ∀ vm₁, s.WarmedH vm₁ → Pre ⟨T.setVm vm₁, locs, cells, slots⟩ (Value.ref b :: argsL).toArray) :
    (∃ (v : Option Value) (vm₁ : Vm) (B : Pt), s.WarmedH vm₁ ∧ Stand p l e R s m args below meth c B.U B.locs B.cells B.slots ∧ Post ⟨T.setVm vm₁, locs, cells, slots⟩ (Value.ref b :: argsL).toArray v B ∧
      ∀ target, Steps p.tables e below (B.U.setTop { g with pc := g.pc + 3, stack := v.toList ++ rest }) target → Steps p.tables e below (T.setTop g) target) ∨
    (∃ (q : Addr) (vm₁ : Vm) (B : Pt), s.WarmedH vm₁ ∧ Stand p l e R s m args below meth c B.U B.locs B.cells B.slots ∧ PostX ⟨T.setVm vm₁, locs, cells, slots⟩ (Value.ref b :: argsL).toArray q B ∧
      Steps p.tables e below (T.setTop g) ((B.U.setTop { g with stack := rest }).pushFrame (.throwing q))) := by
  obtain ⟨mk, methM, hnamed, hmethM, hstM, habM⟩ := Cond.instanceMethod_spec hinst
  obtain ⟨m8, methM', cM, hn8, hmethM', -, -, -, -, -, -, hsigM⟩ := Cond.codeWith_spec hcode
  cases Option.some.inj (hn8.symm.trans hnamed)
  cases hmethM.symm.trans hmethM'
  obtain ⟨c2, r2, m2, q1, q2, q3, q4, kP, hkP, hkPi⟩ := Cond.selects_spec hsel
  cases hcls.symm.trans q1
  cases (State.methodFound?_of_named hnamed hy).symm.trans q2
  cases hnamed.symm.trans q3
  have hselP : selectMethod e.platform s.vm cellB.cls mk = .method mk := by rw [Launch.admits_selectMethod X.admits]; exact q4
  obtain ⟨vm₁, X₁, hstep₁⟩ := X.invokevirtual hexec hown hlink hnamed hmethM hstM hkP hkPi hy (a := b) (cell := cellB) hcell
    (fun z h => by rw [h] at hobj; cases hobj) hselP hmethM habM hkP hkPi (g := g) hg (argsL := argsL) (rest := rest) (hlen _ hsigM) hstack hdg
  rcases hK m meth c ⟨T.setVm vm₁, locs, cells, slots⟩ { g with stack := rest } (.invokevirtual index) mk (Value.ref b :: argsL).toArray X₁ hg hsize hdg hW (X₁.named hnamed) (hpre vm₁ X₁.warmed) with ⟨v, B, X', hpost, hsteps⟩ | ⟨q, B, X', hpost, hsteps⟩
  · exact Or.inl ⟨v, vm₁, B, X₁.warmed, X', hpost, fun target h => hstep₁ _ fun acts => by rw [doInvoke_state]; exact hsteps.trans h⟩
  · exact Or.inr ⟨q, vm₁, B, X₁.warmed, X', hpost, hstep₁ _ fun acts => by rw [doInvoke_state]; exact hsteps⟩
theorem vx_callSX (X : Stand p l e R s m args below meth c T locs cells slots) (hexec : p.tables.exec = Jvm.exec) {own : String} {index : Nat} {y : MethodName} {bytes : ByteArray} {maxL : Nat} {ret : Option FieldType} {hh : List (Nat × Nat × Nat × Nat)}
    (hown : s.vm.findClass own = some m.cls) (hlink : (Cond.methodLink own index y).before args s = true) (hstat : (Cond.static y).before args s = true) (hinit : (Cond.initialized y.cls).before args s = true)
    (hcode : (Cond.codeWith y bytes maxL ret hh).before args s = true) (hy : y.cls ≠ "java/lang/invoke/MethodHandle" ∧ y.cls ≠ "java/lang/invoke/VarHandle")
    {W9 : Nat} {Pre : Pt → Array Value → Prop} {Post : Pt → Array Value → Option Value → Pt → Prop} {PostX : Pt → Array Value → Addr → Pt → Prop} (hK : vx_Back l R p e below s args y 3 W9 Pre Post PostX)
    {g : JFrame} (hg : g.method = m) (hsize : g.locals.size = c.maxLocals) {argsL rest : List Value} (hlen : ∀ sig, parseMethodDescriptor y.desc = some sig → argsL.length = sig.parameters.length)
    (hstack : g.stack = argsL.reverse ++ rest) (hW : 2 * g.monitorRoom + (rest.map fun v => v.category).sum ≤ W9) (hdg : decode c.code g.pc = .ok (.invokestatic index, 3))
    (hpre : ∀ vm₁, s.WarmedH vm₁ → Pre ⟨T.setVm vm₁, locs, cells, slots⟩ argsL.toArray) :
    (∃ (v : Option Value) (vm₁ : Vm) (B : Pt), s.WarmedH vm₁ ∧ Stand p l e R s m args below meth c B.U B.locs B.cells B.slots ∧ Post ⟨T.setVm vm₁, locs, cells, slots⟩ argsL.toArray v B ∧
      ∀ target, Steps p.tables e below (B.U.setTop { g with pc := g.pc + 3, stack := v.toList ++ rest }) target → Steps p.tables e below (T.setTop g) target) ∨
    (∃ (q : Addr) (vm₁ : Vm) (B : Pt), s.WarmedH vm₁ ∧ Stand p l e R s m args below meth c B.U B.locs B.cells B.slots ∧ PostX ⟨T.setVm vm₁, locs, cells, slots⟩ argsL.toArray q B ∧
      Steps p.tables e below (T.setTop g) ((B.U.setTop { g with stack := rest }).pushFrame (.throwing q))) := by
  obtain ⟨mk, methM, cM, hnamed, hmethM, -, -, -, -, -, -, hsigM⟩ := Cond.codeWith_spec hcode
  have hstatic : methM.isStatic = true := Cond.static_spec hnamed hmethM hstat
  obtain ⟨kP, hkP, -⟩ := className_of_methodNamed hnamed
  have hinitP : kP.init = .initialized := Cond.initialized_spec (findClass_of_methodNamed hnamed) hkP hinit
  obtain ⟨vm₁, X₁, hstep₁⟩ := X.invokestatic hexec hown hlink hnamed hmethM hstatic hkP hinitP hy (g := g) hg (argsL := argsL) (rest := rest) (hlen _ hsigM) hstack hdg
  rcases hK m meth c ⟨T.setVm vm₁, locs, cells, slots⟩ { g with stack := rest } (.invokestatic index) mk argsL.toArray X₁ hg hsize hdg hW (X₁.named hnamed) (hpre vm₁ X₁.warmed) with ⟨v, B, X', hpost, hsteps⟩ | ⟨q, B, X', hpost, hsteps⟩
  · exact Or.inl ⟨v, vm₁, B, X₁.warmed, X', hpost, fun target h => hstep₁ _ fun acts => by rw [doInvoke_state]; exact hsteps.trans h⟩
  · exact Or.inr ⟨q, vm₁, B, X₁.warmed, X', hpost, hstep₁ _ fun acts => by rw [doInvoke_state]; exact hsteps⟩
theorem vx_callVW (X : Stand p l e R s m args below meth c T locs cells slots) (hexec : p.tables.exec = Jvm.exec) {own C : String} {index : Nat} {y : MethodName} {bytes : ByteArray} {maxL : Nat} {ret : Option FieldType} {hh : List (Nat × Nat × Nat × Nat)}
    (hown : s.vm.findClass own = some m.cls) (hlink : (Cond.methodLink own index y).before args s = true) (hinst : (Cond.instanceMethod y).before args s = true) (hsel : (Cond.selects C y y).before args s = true)
    (hcode : (Cond.codeWith y bytes maxL ret hh).before args s = true) (hy : y.cls ≠ "java/lang/invoke/MethodHandle" ∧ y.cls ≠ "java/lang/invoke/VarHandle")
    {W9 : Nat} {Pre : Pt → Array Value → Prop} {Post : Pt → Array Value → Option Value → Pt → Prop} (hK : Back l R p e below s args y 3 W9 Pre Post)
    {b : Addr} {cellB : Cell} (hcell : T.heap[b]? = some cellB) (hobj : cellB.vm.isStatics = false) (hcls : s.vm.findClass C = some cellB.cls)
    {g : JFrame} (hg : g.method = m) (hsize : g.locals.size = c.maxLocals) {argsL rest : List Value} (hlen : ∀ sig, parseMethodDescriptor y.desc = some sig → argsL.length = sig.parameters.length)
    (hstack : g.stack = argsL.reverse ++ .ref b :: rest) (hW : 2 * g.monitorRoom + (rest.map fun v => v.category).sum ≤ W9) (hdg : decode c.code g.pc = .ok (.invokevirtual index, 3))
    (hpre : ∀ vm₁, s.WarmedH vm₁ → Pre ⟨T.setVm vm₁, locs, cells, slots⟩ (Value.ref b :: argsL).toArray) :
    ∃ (v : Option Value) (vm₁ : Vm) (B : Pt), s.WarmedH vm₁ ∧ Stand p l e R s m args below meth c B.U B.locs B.cells B.slots ∧ Post ⟨T.setVm vm₁, locs, cells, slots⟩ (Value.ref b :: argsL).toArray v B ∧
      ∀ target, Steps p.tables e below (B.U.setTop { g with pc := g.pc + 3, stack := v.toList ++ rest }) target → Steps p.tables e below (T.setTop g) target := by
  obtain ⟨mk, methM, hnamed, hmethM, hstM, habM⟩ := Cond.instanceMethod_spec hinst
  obtain ⟨m8, methM', cM, hn8, hmethM', -, -, -, -, -, -, hsigM⟩ := Cond.codeWith_spec hcode
  cases Option.some.inj (hn8.symm.trans hnamed)
  cases hmethM.symm.trans hmethM'
  obtain ⟨c2, r2, m2, q1, q2, q3, q4, kP, hkP, hkPi⟩ := Cond.selects_spec hsel
  cases hcls.symm.trans q1
  cases (State.methodFound?_of_named hnamed hy).symm.trans q2
  cases hnamed.symm.trans q3
  have hselP : selectMethod e.platform s.vm cellB.cls mk = .method mk := by rw [Launch.admits_selectMethod X.admits]; exact q4
  obtain ⟨vm₁, X₁, hstep₁⟩ := X.invokevirtual hexec hown hlink hnamed hmethM hstM hkP hkPi hy (a := b) (cell := cellB) hcell
    (fun z h => by rw [h] at hobj; cases hobj) hselP hmethM habM hkP hkPi (g := g) hg (argsL := argsL) (rest := rest) (hlen _ hsigM) hstack hdg
  obtain ⟨v, B, X', hpost, hsteps⟩ := hK m meth c ⟨T.setVm vm₁, locs, cells, slots⟩ { g with stack := rest } (.invokevirtual index) mk (Value.ref b :: argsL).toArray X₁ hg hsize hdg hW (X₁.named hnamed) (hpre vm₁ X₁.warmed)
  exact ⟨v, vm₁, B, X₁.warmed, X', hpost, fun target h => hstep₁ _ fun acts => by rw [doInvoke_state]; exact hsteps.trans h⟩
abbrev vx_CVW (R : Room) (s : State) (args : Array Value) (own C : String) (index : Nat) (y : MethodName) (bytes : ByteArray) (maxL : Nat) (ret : Option FieldType) (hh : List (Nat × Nat × Nat × Nat)) (ws : List Cond) (rm : Room) (mc ms n : Nat) : Prop :=
  (rm.cells = mc ∧ rm.slots = ms ∧ rm.frames + 1 ≤ R.frames ∧ 8 + (maxL + 11) + rm.locals ≤ R.locals ∧ (∀ w ∈ ws, ∀ (a' : Array Value) (U : State), s.WarmedH U.vm → w.before a' U = true) ∧ Cond.codeWith y bytes maxL ret hh ∈ ws) ∧
  (Cond.codeWith y bytes maxL ret hh).before args s = true ∧ (Cond.initialized y.cls).before args s = true ∧ (y.cls ≠ "java/lang/invoke/MethodHandle" ∧ y.cls ≠ "java/lang/invoke/VarHandle") ∧
  (∀ sig, parseMethodDescriptor y.desc = some sig → n = sig.parameters.length) ∧ (Cond.methodLink own index y).before args s = true ∧ (Cond.instanceMethod y).before args s = true ∧ (Cond.selects C y y).before args s = true
theorem vx_cwVW {own C : String} {index maxL mc ms : Nat} {y : MethodName} {bytes : ByteArray} {ret : Option FieldType} {hh : List (Nat × Nat × Nat × Nat)} {Ts ws ws' : List Cond} {rm : Room} (n : Nat) (ht : ∀ w ∈ Ts, w.before args s = true) (hT : GoodIn Ts (wsV own index C y ws)) (hw : ws = Cond.codeWith y bytes maxL ret hh :: ws') (hrc : rm.cells = mc) (hrs : rm.slots = ms)
    (hd : y.cls = C ∧ y.cls ≠ "java/lang/invoke/MethodHandle" ∧ y.cls ≠ "java/lang/invoke/VarHandle" ∧ (parseMethodDescriptor y.desc).map (fun d => d.parameters.length) = some n) (hR : rm.frames + 1 ≤ R.frames ∧ 8 + (maxL + 11) + rm.locals ≤ R.locals) :
    vx_CVW R s args own C index y bytes maxL ret hh ws rm mc ms n := by
  obtain ⟨hC, hd⟩ := hd
  subst hC
  have ok : ∀ w ∈ wsV own index y.cls y ws, w.before args s = true := fun w h => ht w (hT w h).1
  have hG : GoodIn Ts ws := fun w h => hT w (by unfold wsV; exact List.mem_append_right _ h)
  have hc : Cond.codeWith y bytes maxL ret hh ∈ ws := by rw [hw]; exact List.mem_cons_self
  refine ⟨⟨hrc, hrs, hR.1, hR.2, pay_in ht hG, hc⟩, ht _ (hG _ hc).1, ok _ (by simp [wsV]), ⟨hd.1, hd.2.1⟩, fun sig h => ?_, ok _ (by simp [wsV]), ok _ (by simp [wsV]), ok _ (by simp [wsV])⟩
  have h2 := hd.2.2
  rw [h] at h2
  exact (Option.some.inj h2).symm
theorem vx_runVW {y : MethodName} {bytes cc : ByteArray} {maxL nL mc ms n index : Nat} {ret : Option FieldType} {hh : List (Nat × Nat × Nat × Nat)} {ws : List Cond} {rm : Room} {Pc : Array Value → State → Prop} {Qc : Array Value → State → Outcome → State → Prop} {free : Addr → Prop} {Ts : List Cond} {own C : String} {b : Addr} {As rest : List Value} {g : JFrame}
    (S : CallFix p m c cc nL s args Ts own) (hM : Met l y ws rm Pc Qc mc ms free) (cw : vx_CVW R s args own C index y bytes maxL ret hh ws rm mc ms n) (hp : PreV s H C b Pc As)
    (hg : g.method = m) (hn : As.length = n) (hsize : g.locals.size = nL) (hstack : g.stack = As.reverse ++ .ref b :: rest) (hW : 2 * g.monitorRoom + (rest.map fun v => v.category).sum ≤ 8) (hdg : decode cc g.pc = .ok (.invokevirtual index, 3)) (hf : cells + mc ≤ R.cells ∧ slots + ms ≤ R.slots) :
    va_Run p l e R s m args below meth c H locs cells slots mc ms g rest (Qc (Value.ref b :: As).toArray) free := by
  obtain ⟨⟨hrc, hrs, hfr, hlo, hws, hcw⟩, hcode, hini, hy, hlen, hl, hin, hse⟩ := cw
  have hK : Back l R p e below s args y 3 8 (PreOf R mc ms Pc) (PostOf Qc mc ms free) := va_backW (hh := hh) (bytes := bytes) (maxL := maxL) (ret := ret) hM hp.1 hrc hrs hfr hlo hws hcw (fun a' U hW => word_at hW (Or.inl (by first | rfl | simp [Cond.onTables, Cond.keeps, Cond.steady])) hini)
  obtain ⟨hx, hb, hml, ho, -⟩ := S
  obtain ⟨-, ⟨cellB, hcB, hoB, hclB⟩, hPc⟩ := hp
  intro T hT X
  obtain ⟨v, vm₁, ⟨U', l2, c2, s2⟩, hW₁, X', ⟨g', mk, t, L, e1, e2, hq, h1, hL, h2, h3⟩, st⟩ := vx_callVW X hx (C := C) (hh := hh) (bytes := bytes) (maxL := maxL) (ret := ret) ho hl hin hse hcode hy hK (by rw [hT]; exact hcB) hoB hclB hg (hsize.trans hml.symm) (argsL := As) (rest := rest) (fun sig h => hn.trans (hlen sig h)) hstack hW (by rw [hb]; exact hdg)
    (fun vm₁ hW₁ => ⟨hf.1, hf.2, hPc (T.setVm vm₁) hT hW₁⟩)
  dsimp only [Pt.U, Pt.locs, Pt.cells, Pt.slots] at X' e1 e2 h1 h2 h3 st
  subst h1; subst h2; subst h3
  exact ⟨v, (T.setVm vm₁).calling g' mk (Value.ref b :: As).toArray, t, U', L, hT, X', hL, e1, e2, hq, st⟩
section
variable {y : MethodName} {bytes cc : ByteArray} {maxL nL mc ms n index : Nat} {ret : Option FieldType} {ws : List Cond} {rm : Room} {Pc : Array Value → State → Prop} {Qc : Array Value → State → Outcome → State → Prop} {XC : String → State → State → Prop} {free : Addr → Prop} {Ts : List Cond} {own C : String} {b : Addr} {As rest : List Value} {g : JFrame}
theorem vx_runVX {hh : List (Nat × Nat × Nat × Nat)} (S : CallFix p m c cc nL s args Ts own) (hM : vx_Met l y ws rm Pc Qc XC mc ms free) (cw : vx_CVW R s args own C index y bytes maxL ret hh ws rm mc ms n) (hp : PreV s H C b Pc As)
    (hg : g.method = m) (hn : As.length = n) (hsize : g.locals.size = nL) (hstack : g.stack = As.reverse ++ .ref b :: rest) (hW : 2 * g.monitorRoom + (rest.map fun v => v.category).sum ≤ 8) (hdg : decode cc g.pc = .ok (.invokevirtual index, 3)) (hf : cells + mc ≤ R.cells ∧ slots + ms ≤ R.slots) :
    vx_Run p l e R s m args below meth c H locs cells slots mc ms g rest (Qc (Value.ref b :: As).toArray) XC free := by
  obtain ⟨⟨hrc, hrs, hfr, hlo, hws, hcw⟩, hcode, hini, hy, hlen, hl, hin, hse⟩ := cw
  have hK : vx_Back l R p e below s args y 3 8 (PreOf R mc ms Pc) (PostOf Qc mc ms free) (vx_Post XC mc ms free) := vx_backW (hh := hh) (bytes := bytes) (maxL := maxL) (ret := ret) hM hp.1 hrc hrs hfr hlo hws hcw (fun a' U hW => word_at hW (Or.inl (by first | rfl | simp [Cond.onTables, Cond.keeps, Cond.steady])) hini)
  obtain ⟨hx, hb, hml, ho, -⟩ := S
  obtain ⟨-, ⟨cellB, hcB, hoB, hclB⟩, hPc⟩ := hp
  intro T hT X
  rcases vx_callVX X hx (C := C) (hh := hh) (bytes := bytes) (maxL := maxL) (ret := ret) ho hl hin hse hcode hy hK (by rw [hT]; exact hcB) hoB hclB hg (hsize.trans hml.symm) (argsL := As) (rest := rest) (fun sig h => hn.trans (hlen sig h)) hstack hW (by rw [hb]; exact hdg)
    (fun vm₁ hW₁ => ⟨hf.1, hf.2, hPc (T.setVm vm₁) hT hW₁⟩) with ⟨v, vm₁, ⟨U', l2, c2, s2⟩, hW₁, X', ⟨g', mk, t, L, e1, e2, hq, h1, hL, h2, h3⟩, st⟩ | ⟨q, vm₁, ⟨U', l2, c2, s2⟩, hW₁, X', ⟨g', mk, t, L, E, ce, e1, e2, hq, hce, hcv, hcl, h1, hL, h2, h3⟩, st⟩
  · dsimp only [Pt.U, Pt.locs, Pt.cells, Pt.slots] at X' e1 e2 h1 h2 h3 st
    subst h1; subst h2; subst h3
    exact Or.inl ⟨v, (T.setVm vm₁).calling g' mk (Value.ref b :: As).toArray, t, U', L, hT, X', hL, e1, e2, hq, st⟩
  · dsimp only [Pt.U, Pt.locs, Pt.cells, Pt.slots] at X' e1 e2 h1 h2 h3 st hcl
    subst h1; subst h2; subst h3
    exact Or.inr ⟨q, (T.setVm vm₁).calling g' mk (Value.ref b :: As).toArray, t, U', L, E, ce, hT, X', hL, e1, e2, hq, hce, hcv, vx_cls hW₁ hcl, st⟩
theorem vx_runSX {hh : List (Nat × Nat × Nat × Nat)} (S : CallFix p m c cc nL s args Ts own) (hM : vx_Met l y ws rm Pc Qc XC mc ms free) (cw : vx_CSW R s args own index y bytes maxL ret hh ws rm mc ms n) (hp : PreS s H Pc As)
    (hg : g.method = m) (hn : As.length = n) (hsize : g.locals.size = nL) (hstack : g.stack = As.reverse ++ rest) (hW : 2 * g.monitorRoom + (rest.map fun v => v.category).sum ≤ 8) (hdg : decode cc g.pc = .ok (.invokestatic index, 3)) (hf : cells + mc ≤ R.cells ∧ slots + ms ≤ R.slots) :
    vx_Run p l e R s m args below meth c H locs cells slots mc ms g rest (Qc As.toArray) XC free := by
  obtain ⟨⟨hrc, hrs, hfr, hlo, hws, hcw⟩, hcode, hini, hy, hlen, hl, hstt⟩ := cw
  have hK : vx_Back l R p e below s args y 3 8 (PreOf R mc ms Pc) (PostOf Qc mc ms free) (vx_Post XC mc ms free) := vx_backW (hh := hh) (bytes := bytes) (maxL := maxL) (ret := ret) hM hp.1 hrc hrs hfr hlo hws hcw (fun a' U hW => word_at hW (Or.inl (by first | rfl | simp [Cond.onTables, Cond.keeps, Cond.steady])) hini)
  obtain ⟨hx, hb, hml, ho, -⟩ := S
  intro T hT X
  rcases vx_callSX X hx (hh := hh) (bytes := bytes) (maxL := maxL) (ret := ret) ho hl hstt hini hcode hy hK hg (hsize.trans hml.symm) (argsL := As) (rest := rest) (fun sig h => hn.trans (hlen sig h)) hstack hW (by rw [hb]; exact hdg)
    (fun vm₁ hW₁ => ⟨hf.1, hf.2, hp.2 (T.setVm vm₁) hT hW₁⟩) with ⟨v, vm₁, ⟨U', l2, c2, s2⟩, hW₁, X', ⟨g', mk, t, L, e1, e2, hq, h1, hL, h2, h3⟩, st⟩ | ⟨q, vm₁, ⟨U', l2, c2, s2⟩, hW₁, X', ⟨g', mk, t, L, E, ce, e1, e2, hq, hce, hcv, hcl, h1, hL, h2, h3⟩, st⟩
  · dsimp only [Pt.U, Pt.locs, Pt.cells, Pt.slots] at X' e1 e2 h1 h2 h3 st
    subst h1; subst h2; subst h3
    exact Or.inl ⟨v, (T.setVm vm₁).calling g' mk As.toArray, t, U', L, hT, X', hL, e1, e2, hq, st⟩
  · dsimp only [Pt.U, Pt.locs, Pt.cells, Pt.slots] at X' e1 e2 h1 h2 h3 st hcl
    subst h1; subst h2; subst h3
    exact Or.inr ⟨q, (T.setVm vm₁).calling g' mk As.toArray, t, U', L, E, ce, hT, X', hL, e1, e2, hq, hce, hcv, vx_cls hW₁ hcl, st⟩
end
end VXH
theorem vx_ofWH {l : Launch} {y : MethodName} {ws ws' : List Cond} {rm : Room} {Pc : Array Value → State → Prop} {Qc : Array Value → State → Outcome → State → Prop} {XC : String → State → State → Prop} {mc ms : Nat} {free : Addr → Prop} {cc : ByteArray} {maxL : Nat} {ret : Option FieldType} {hh : List (Nat × Nat × Nat × Nat)}
    (hy : plainName y.cls = true) (hw : ws = Cond.codeWith y cc maxL ret hh :: ws')
    (body : ∀ p e s m args below meth c s₁, BodyLoose p l y (headSpec ws rm) cc maxL ret e s m args below meth c s₁ → c.maxLocals = maxL → Pc args s →
      W p l e (headSpec ws rm).room s m args below meth c s.heap [] 0 0 (vx_MQ below Qc XC args s mc ms free) (entryFrame m args maxL)) : vx_Met l y ws rm Pc Qc XC mc ms free := by
  refine MetFree.of_bodyS (code := cc) (maxLocals := maxL) (ret := ret) hy ?_ ?_
  · intro args s m h hn
    obtain ⟨m9, meth, c, hn9, h1, h2, h3, h4, -, h5, h6, -⟩ := Cond.codeWith_spec (atoms_spec (ws := ws) h _ (by rw [hw]; exact List.mem_cons_self))
    cases hn.symm.trans hn9
    exact ⟨meth, c, h1, h2, h3, h4, h5, h6⟩
  · intro p e s m args below meth c s₁ B hml hP _
    have hh0 : s₁.heap = s.heap := by rw [B.state]; rfl
    obtain ⟨t, a1, o, b1, b2, b3⟩ := body p e s m args below meth c s₁ B hml hP s₁ hh0 (Stand.of_body B)
    exact ⟨t, o, a1, b1, b2, b3⟩
/-! ===== END ===== -/
end
section
/-! ===== BEGIN printed: names, fields, word lists, decode rows ===== -/
def RX0 : String := "TidePost$Callee"
def TX0 : u_T := fun k => match k with
  | 0 => ("TidePost$Callee", "buffer", "I", false)
  | 1 => ("TidePost$Callee", "wanted", "I", false)
  | 2 => ("TidePost$Callee", "read", "I", false)
  | _ => ("TidePost$Callee", "held", "[Z", true)
def tyX0 : Nat → FieldType := fun k => match k with
  | 0 => .int
  | 1 => .int
  | 2 => .int
  | _ => .array .boolean
abbrev wsX00 : List Cond := u_ws RX0 TX0 4
theorem nmX0 : ∀ a, a < 4 → ∀ b, b < 4 → a ≠ b → (TX0 a).2.1 ≠ (TX0 b).2.1 := by decide +kernel
theorem tyX0_ok : ∀ k, k < 4 → parseFieldDescriptor (TX0 k).2.2.1 = some (tyX0 k) := by decide +kernel
abbrev cX0_init : ByteArray := prog_2_method_1_code
def yX0_init : MethodName := ⟨RX0, "<init>", "()V"⟩
abbrev cX0_spare : ByteArray := prog_2_method_2_code
def yX0_spare : MethodName := ⟨RX0, "spare", "()I"⟩
abbrev cX0_take : ByteArray := prog_2_method_3_code
def yX0_take : MethodName := ⟨RX0, "take", "(IZ)Z"⟩
abbrev cX0_copyFrom : ByteArray := prog_2_method_4_code
def yX0_copyFrom : MethodName := ⟨RX0, "copyFrom", "(LTidePost$Callee;)V"⟩
def RX1 : String := "TidePost$Caller"
def TX1 : u_T := fun k => match k with
  | 0 => ("TidePost$Caller", "state", "I", false)
  | 1 => ("TidePost$Caller", "given", "I", false)
  | 2 => ("TidePost$Caller", "toldToClose", "Z", false)
  | 3 => ("TidePost$Caller", "base", "I", false)
  | 4 => ("TidePost$Caller", "next", "I", false)
  | 5 => ("TidePost$Caller", "window", "I", false)
  | 6 => ("TidePost$Caller", "threshold", "I", false)
  | 7 => ("TidePost$Caller", "room", "I", false)
  | 8 => ("TidePost$Caller", "like", "I", false)
  | 9 => ("TidePost$Caller", "recover", "I", false)
  | 10 => ("TidePost$Caller", "timer", "I", false)
  | 11 => ("TidePost$Caller", "tries", "I", false)
  | 12 => ("TidePost$Caller", "sentAgain", "I", false)
  | _ => ("TidePost$Caller", "timing", "LTidePost$Timing;", true)
def tyX1 : Nat → FieldType := fun k => match k with
  | 0 => .int
  | 1 => .int
  | 2 => .boolean
  | 3 => .int
  | 4 => .int
  | 5 => .int
  | 6 => .int
  | 7 => .int
  | 8 => .int
  | 9 => .int
  | 10 => .int
  | 11 => .int
  | 12 => .int
  | _ => .object "TidePost$Timing"
abbrev wsX10 : List Cond := u_ws RX1 TX1 14
theorem nmX1 : ∀ a, a < 14 → ∀ b, b < 14 → a ≠ b → (TX1 a).2.1 ≠ (TX1 b).2.1 := by decide +kernel
theorem tyX1_ok : ∀ k, k < 14 → parseFieldDescriptor (TX1 k).2.2.1 = some (tyX1 k) := by decide +kernel
abbrev cX1_init : ByteArray := prog_3_method_1_code
def yX1_init : MethodName := ⟨RX1, "<init>", "()V"⟩
abbrev cX1_begin : ByteArray := prog_3_method_2_code
def yX1_begin : MethodName := ⟨RX1, "begin", "(II)V"⟩
abbrev cX1_things : ByteArray := prog_3_method_3_code
def yX1_things : MethodName := ⟨RX1, "things", "()I"⟩
abbrev cX1_maySend : ByteArray := prog_3_method_4_code
def yX1_maySend : MethodName := ⟨RX1, "maySend", "()Z"⟩
abbrev cX1_sent : ByteArray := prog_3_method_5_code
def yX1_sent : MethodName := ⟨RX1, "sent", "(I)V"⟩
abbrev cX1_takeAnswer : ByteArray := prog_3_method_6_code
def yX1_takeAnswer : MethodName := ⟨RX1, "takeAnswer", "(III)Z"⟩
abbrev cX1_advance : ByteArray := prog_3_method_7_code
def yX1_advance : MethodName := ⟨RX1, "advance", "(III)Z"⟩
abbrev cX1_growWindow : ByteArray := prog_3_method_8_code
def yX1_growWindow : MethodName := ⟨RX1, "growWindow", "()V"⟩
abbrev cX1_repeated : ByteArray := prog_3_method_9_code
def yX1_repeated : MethodName := ⟨RX1, "repeated", "(I)Z"⟩
abbrev cX1_runOut : ByteArray := prog_3_method_10_code
def yX1_runOut : MethodName := ⟨RX1, "runOut", "(I)Z"⟩
abbrev cX1_startRecovery : ByteArray := prog_3_method_11_code
def yX1_startRecovery : MethodName := ⟨RX1, "startRecovery", "()V"⟩
abbrev cX1_baseAgain : ByteArray := prog_3_method_12_code
def yX1_baseAgain : MethodName := ⟨RX1, "baseAgain", "()I"⟩
abbrev cX1_copyFrom : ByteArray := prog_3_method_13_code
def yX1_copyFrom : MethodName := ⟨RX1, "copyFrom", "(LTidePost$Caller;)V"⟩
def RX2 : String := "TidePost$Connection"
def TX2 : u_T := fun k => match k with
  | 0 => ("TidePost$Connection", "callerNode", "I", false)
  | 1 => ("TidePost$Connection", "calleeNode", "I", false)
  | 2 => ("TidePost$Connection", "caller", "LTidePost$Caller;", true)
  | _ => ("TidePost$Connection", "callee", "LTidePost$Callee;", true)
def tyX2 : Nat → FieldType := fun k => match k with
  | 0 => .int
  | 1 => .int
  | 2 => .object "TidePost$Caller"
  | _ => .object "TidePost$Callee"
abbrev wsX20 : List Cond := u_ws RX2 TX2 4
theorem nmX2 : ∀ a, a < 4 → ∀ b, b < 4 → a ≠ b → (TX2 a).2.1 ≠ (TX2 b).2.1 := by decide +kernel
theorem tyX2_ok : ∀ k, k < 4 → parseFieldDescriptor (TX2 k).2.2.1 = some (tyX2 k) := by decide +kernel
abbrev cX2_init : ByteArray := prog_4_method_1_code
def yX2_init : MethodName := ⟨RX2, "<init>", "()V"⟩
abbrev cX2_unread : ByteArray := prog_4_method_2_code
def yX2_unread : MethodName := ⟨RX2, "unread", "()I"⟩
abbrev cX2_copyFrom : ByteArray := prog_4_method_3_code
def yX2_copyFrom : MethodName := ⟨RX2, "copyFrom", "(LTidePost$Connection;)V"⟩
def RX3 : String := "TidePost$Net"
def TX3 : u_T := fun k => match k with
  | 0 => ("TidePost$Net", "nodes", "I", false)
  | 1 => ("TidePost$Net", "links", "I", false)
  | 2 => ("TidePost$Net", "firsts", "[I", true)
  | 3 => ("TidePost$Net", "seconds", "[I", true)
  | 4 => ("TidePost$Net", "delays", "[I", true)
  | 5 => ("TidePost$Net", "rooms", "[I", true)
  | 6 => ("TidePost$Net", "up", "[Z", true)
  | 7 => ("TidePost$Net", "distances", "[[I", true)
  | _ => ("TidePost$Net", "trial", "[I", true)
def tyX3 : Nat → FieldType := fun k => match k with
  | 0 => .int
  | 1 => .int
  | 2 => .array .int
  | 3 => .array .int
  | 4 => .array .int
  | 5 => .array .int
  | 6 => .array .boolean
  | 7 => .array (.array .int)
  | _ => .array .int
abbrev wsX30 : List Cond := u_ws RX3 TX3 9
theorem nmX3 : ∀ a, a < 9 → ∀ b, b < 9 → a ≠ b → (TX3 a).2.1 ≠ (TX3 b).2.1 := by decide +kernel
theorem tyX3_ok : ∀ k, k < 9 → parseFieldDescriptor (TX3 k).2.2.1 = some (tyX3 k) := by decide +kernel
abbrev cX3_init : ByteArray := prog_5_method_1_code
def yX3_init : MethodName := ⟨RX3, "<init>", "()V"⟩
abbrev cX3_layNode : ByteArray := prog_5_method_2_code
def yX3_layNode : MethodName := ⟨RX3, "layNode", "()I"⟩
abbrev cX3_layLink : ByteArray := prog_5_method_3_code
def yX3_layLink : MethodName := ⟨RX3, "layLink", "(IIII)I"⟩
abbrev cX3_flip : ByteArray := prog_5_method_4_code
def yX3_flip : MethodName := ⟨RX3, "flip", "(I)V"⟩
abbrev cX3_joins : ByteArray := prog_5_method_5_code
def yX3_joins : MethodName := ⟨RX3, "joins", "(II)Z"⟩
abbrev cX3_farEnd : ByteArray := prog_5_method_6_code
def yX3_farEnd : MethodName := ⟨RX3, "farEnd", "(II)I"⟩
abbrev cX3_linkTowards : ByteArray := prog_5_method_7_code
def yX3_linkTowards : MethodName := ⟨RX3, "linkTowards", "(II)I"⟩
abbrev cX3_measureRoutes : ByteArray := prog_5_method_8_code
def yX3_measureRoutes : MethodName := ⟨RX3, "measureRoutes", "()V"⟩
abbrev cX3_spread : ByteArray := prog_5_method_9_code
def yX3_spread : MethodName := ⟨RX3, "spread", "(II[I)V"⟩
abbrev cX3_shorten : ByteArray := prog_5_method_10_code
def yX3_shorten : MethodName := ⟨RX3, "shorten", "([IIII)Z"⟩
def RX4 : String := "TidePost$Packet"
def TX4 : u_T := fun k => match k with
  | _ => ("", "", "", false)
def tyX4 : Nat → FieldType := fun k => match k with
  | _ => .int
abbrev wsX40 : List Cond := u_ws RX4 TX4 0
theorem nmX4 : ∀ a, a < 0 → ∀ b, b < 0 → a ≠ b → (TX4 a).2.1 ≠ (TX4 b).2.1 := by decide +kernel
theorem tyX4_ok : ∀ k, k < 0 → parseFieldDescriptor (TX4 k).2.2.1 = some (tyX4 k) := by decide +kernel
abbrev cX4_of : ByteArray := prog_6_method_2_code
def yX4_of : MethodName := ⟨RX4, "of", "(IIII)I"⟩
abbrev cX4_hopsOf : ByteArray := prog_6_method_3_code
def yX4_hopsOf : MethodName := ⟨RX4, "hopsOf", "(I)I"⟩
abbrev cX4_connectionOf : ByteArray := prog_6_method_4_code
def yX4_connectionOf : MethodName := ⟨RX4, "connectionOf", "(I)I"⟩
abbrev cX4_kindOf : ByteArray := prog_6_method_5_code
def yX4_kindOf : MethodName := ⟨RX4, "kindOf", "(I)I"⟩
abbrev cX4_numberOf : ByteArray := prog_6_method_6_code
def yX4_numberOf : MethodName := ⟨RX4, "numberOf", "(I)I"⟩
abbrev cX4_roomOf : ByteArray := prog_6_method_7_code
def yX4_roomOf : MethodName := ⟨RX4, "roomOf", "(I)I"⟩
def RX5 : String := "TidePost$Timing"
def TX5 : u_T := fun k => match k with
  | 0 => ("TidePost$Timing", "round", "I", false)
  | 1 => ("TidePost$Timing", "swing", "I", false)
  | 2 => ("TidePost$Timing", "timeout", "I", false)
  | 3 => ("TidePost$Timing", "measured", "I", false)
  | _ => ("TidePost$Timing", "measuredAt", "I", false)
def tyX5 : Nat → FieldType := fun k => match k with
  | 0 => .int
  | 1 => .int
  | 2 => .int
  | 3 => .int
  | _ => .int
abbrev wsX50 : List Cond := u_ws RX5 TX5 5
theorem nmX5 : ∀ a, a < 5 → ∀ b, b < 5 → a ≠ b → (TX5 a).2.1 ≠ (TX5 b).2.1 := by decide +kernel
theorem tyX5_ok : ∀ k, k < 5 → parseFieldDescriptor (TX5 k).2.2.1 = some (tyX5 k) := by decide +kernel
abbrev cX5_init : ByteArray := prog_7_method_1_code
def yX5_init : MethodName := ⟨RX5, "<init>", "()V"⟩
abbrev cX5_begin : ByteArray := prog_7_method_2_code
def yX5_begin : MethodName := ⟨RX5, "begin", "()V"⟩
abbrev cX5_sent : ByteArray := prog_7_method_3_code
def yX5_sent : MethodName := ⟨RX5, "sent", "(II)V"⟩
abbrev cX5_sentTwice : ByteArray := prog_7_method_4_code
def yX5_sentTwice : MethodName := ⟨RX5, "sentTwice", "(I)V"⟩
abbrev cX5_answered : ByteArray := prog_7_method_5_code
def yX5_answered : MethodName := ⟨RX5, "answered", "(II)V"⟩
abbrev cX5_backOff : ByteArray := prog_7_method_6_code
def yX5_backOff : MethodName := ⟨RX5, "backOff", "()V"⟩
abbrev cX5_copyFrom : ByteArray := prog_7_method_7_code
def yX5_copyFrom : MethodName := ⟨RX5, "copyFrom", "(LTidePost$Timing;)V"⟩
def RX6 : String := "TidePost$Traffic"
def TX6 : u_T := fun k => match k with
  | 0 => ("TidePost$Traffic", "net", "LTidePost$Net;", true)
  | 1 => ("TidePost$Traffic", "ways", "[LTidePost$Way;", true)
  | 2 => ("TidePost$Traffic", "all", "[LTidePost$Connection;", true)
  | 3 => ("TidePost$Traffic", "made", "I", false)
  | 4 => ("TidePost$Traffic", "clock", "I", false)
  | _ => ("TidePost$Traffic", "lost", "I", false)
def tyX6 : Nat → FieldType := fun k => match k with
  | 0 => .object "TidePost$Net"
  | 1 => .array (.object "TidePost$Way")
  | 2 => .array (.object "TidePost$Connection")
  | 3 => .int
  | 4 => .int
  | _ => .int
abbrev wsX60 : List Cond := u_ws RX6 TX6 6
theorem nmX6 : ∀ a, a < 6 → ∀ b, b < 6 → a ≠ b → (TX6 a).2.1 ≠ (TX6 b).2.1 := by decide +kernel
theorem tyX6_ok : ∀ k, k < 6 → parseFieldDescriptor (TX6 k).2.2.1 = some (tyX6 k) := by decide +kernel
abbrev cX6_init : ByteArray := prog_8_method_1_code
def yX6_init : MethodName := ⟨RX6, "<init>", "(LTidePost$Net;)V"⟩
abbrev cX6_connect : ByteArray := prog_8_method_2_code
def yX6_connect : MethodName := ⟨RX6, "connect", "(III)I"⟩
abbrev cX6_dropAll : ByteArray := prog_8_method_3_code
def yX6_dropAll : MethodName := ⟨RX6, "dropAll", "(I)I"⟩
abbrev cX6_tick : ByteArray := prog_8_method_4_code
def yX6_tick : MethodName := ⟨RX6, "tick", "()V"⟩
abbrev cX6_letArrive : ByteArray := prog_8_method_5_code
def yX6_letArrive : MethodName := ⟨RX6, "letArrive", "()V"⟩
abbrev cX6_arrive : ByteArray := prog_8_method_6_code
def yX6_arrive : MethodName := ⟨RX6, "arrive", "(II)V"⟩
abbrev cX6_letTimersRunOut : ByteArray := prog_8_method_7_code
def yX6_letTimersRunOut : MethodName := ⟨RX6, "letTimersRunOut", "()V"⟩
abbrev cX6_letCallersSend : ByteArray := prog_8_method_8_code
def yX6_letCallersSend : MethodName := ⟨RX6, "letCallersSend", "()V"⟩
abbrev cX6_letTakeOff : ByteArray := prog_8_method_9_code
def yX6_letTakeOff : MethodName := ⟨RX6, "letTakeOff", "()V"⟩
abbrev cX6_sendHello : ByteArray := prog_8_method_10_code
def yX6_sendHello : MethodName := ⟨RX6, "sendHello", "(I)V"⟩
abbrev cX6_sendThing : ByteArray := prog_8_method_11_code
def yX6_sendThing : MethodName := ⟨RX6, "sendThing", "(II)V"⟩
abbrev cX6_sendAnswer : ByteArray := prog_8_method_12_code
def yX6_sendAnswer : MethodName := ⟨RX6, "sendAnswer", "(I)V"⟩
abbrev cX6_send : ByteArray := prog_8_method_13_code
def yX6_send : MethodName := ⟨RX6, "send", "(III)V"⟩
abbrev cX6_copyFrom : ByteArray := prog_8_method_14_code
def yX6_copyFrom : MethodName := ⟨RX6, "copyFrom", "(LTidePost$Traffic;)V"⟩
def RX7 : String := "TidePost$Way"
def TX7 : u_T := fun k => match k with
  | 0 => ("TidePost$Way", "queue", "[I", true)
  | 1 => ("TidePost$Way", "head", "I", false)
  | 2 => ("TidePost$Way", "queued", "I", false)
  | 3 => ("TidePost$Way", "flight", "[I", true)
  | 4 => ("TidePost$Way", "flying", "I", false)
  | 5 => ("TidePost$Way", "flown", "I", false)
  | _ => ("TidePost$Way", "toLose", "I", false)
def tyX7 : Nat → FieldType := fun k => match k with
  | 0 => .array .int
  | 1 => .int
  | 2 => .int
  | 3 => .array .int
  | 4 => .int
  | 5 => .int
  | _ => .int
abbrev wsX70 : List Cond := u_ws RX7 TX7 7
theorem nmX7 : ∀ a, a < 7 → ∀ b, b < 7 → a ≠ b → (TX7 a).2.1 ≠ (TX7 b).2.1 := by decide +kernel
theorem tyX7_ok : ∀ k, k < 7 → parseFieldDescriptor (TX7 k).2.2.1 = some (tyX7 k) := by decide +kernel
abbrev cX7_init : ByteArray := prog_9_method_1_code
def yX7_init : MethodName := ⟨RX7, "<init>", "()V"⟩
abbrev cX7_join : ByteArray := prog_9_method_2_code
def yX7_join : MethodName := ⟨RX7, "join", "(II)Z"⟩
abbrev cX7_takeOff : ByteArray := prog_9_method_3_code
def yX7_takeOff : MethodName := ⟨RX7, "takeOff", "(I)Z"⟩
abbrev cX7_land : ByteArray := prog_9_method_4_code
def yX7_land : MethodName := ⟨RX7, "land", "(I)I"⟩
abbrev cX7_drop : ByteArray := prog_9_method_5_code
def yX7_drop : MethodName := ⟨RX7, "drop", "()I"⟩
abbrev cX7_copyFrom : ByteArray := prog_9_method_6_code
def yX7_copyFrom : MethodName := ⟨RX7, "copyFrom", "(LTidePost$Way;)V"⟩
def RX8 : String := "TidePost"
def TX8 : u_T := fun k => match k with
  | 0 => ("TidePost", "net", "LTidePost$Net;", true)
  | 1 => ("TidePost", "traffic", "LTidePost$Traffic;", true)
  | 2 => ("TidePost", "ahead", "LTidePost$Traffic;", true)
  | _ => ("TidePost", "values", "[[I", true)
def tyX8 : Nat → FieldType := fun k => match k with
  | 0 => .object "TidePost$Net"
  | 1 => .object "TidePost$Traffic"
  | 2 => .object "TidePost$Traffic"
  | _ => .array (.array .int)
abbrev wsX80 : List Cond := u_ws RX8 TX8 4
theorem nmX8 : ∀ a, a < 4 → ∀ b, b < 4 → a ≠ b → (TX8 a).2.1 ≠ (TX8 b).2.1 := by decide +kernel
theorem tyX8_ok : ∀ k, k < 4 → parseFieldDescriptor (TX8 k).2.2.1 = some (tyX8 k) := by decide +kernel
abbrev cX8_init : ByteArray := prog_1_method_1_code
def yX8_init : MethodName := ⟨RX8, "<init>", "()V"⟩
abbrev cX8_addNode : ByteArray := prog_1_method_2_code
def yX8_addNode : MethodName := ⟨RX8, "addNode", "()I"⟩
abbrev cX8_addLink : ByteArray := prog_1_method_3_code
def yX8_addLink : MethodName := ⟨RX8, "addLink", "(IIII)I"⟩
abbrev cX8_turn : ByteArray := prog_1_method_4_code
def yX8_turn : MethodName := ⟨RX8, "turn", "(I)I"⟩
abbrev cX8_lose : ByteArray := prog_1_method_5_code
def yX8_lose : MethodName := ⟨RX8, "lose", "(III)I"⟩
abbrev cX8_call : ByteArray := prog_1_method_6_code
def yX8_call : MethodName := ⟨RX8, "call", "(III)I"⟩
abbrev cX8_give : ByteArray := prog_1_method_7_code
def yX8_give : MethodName := ⟨RX8, "give", "(III)I"⟩
abbrev cX8_close : ByteArray := prog_1_method_8_code
def yX8_close : MethodName := ⟨RX8, "close", "(I)I"⟩
abbrev cX8_read : ByteArray := prog_1_method_9_code
def yX8_read : MethodName := ⟨RX8, "read", "(II)I"⟩
abbrev cX8_pass : ByteArray := prog_1_method_10_code
def yX8_pass : MethodName := ⟨RX8, "pass", "(I)I"⟩
abbrev cX8_clock : ByteArray := prog_1_method_11_code
def yX8_clock : MethodName := ⟨RX8, "clock", "()I"⟩
abbrev cX8_nodes : ByteArray := prog_1_method_12_code
def yX8_nodes : MethodName := ⟨RX8, "nodes", "()I"⟩
abbrev cX8_links : ByteArray := prog_1_method_13_code
def yX8_links : MethodName := ⟨RX8, "links", "()I"⟩
abbrev cX8_isUp : ByteArray := prog_1_method_14_code
def yX8_isUp : MethodName := ⟨RX8, "isUp", "(I)Z"⟩
abbrev cX8_distance : ByteArray := prog_1_method_15_code
def yX8_distance : MethodName := ⟨RX8, "distance", "(II)I"⟩
abbrev cX8_nextLink : ByteArray := prog_1_method_16_code
def yX8_nextLink : MethodName := ⟨RX8, "nextLink", "(II)I"⟩
abbrev cX8_queued : ByteArray := prog_1_method_17_code
def yX8_queued : MethodName := ⟨RX8, "queued", "(II)I"⟩
abbrev cX8_flying : ByteArray := prog_1_method_18_code
def yX8_flying : MethodName := ⟨RX8, "flying", "(II)I"⟩
abbrev cX8_lost : ByteArray := prog_1_method_20_code
def yX8_lost : MethodName := ⟨RX8, "lost", "()I"⟩
abbrev cX8_underWay : ByteArray := prog_1_method_21_code
def yX8_underWay : MethodName := ⟨RX8, "underWay", "()I"⟩
abbrev cX8_connections : ByteArray := prog_1_method_22_code
def yX8_connections : MethodName := ⟨RX8, "connections", "()I"⟩
abbrev cX8_stateOf : ByteArray := prog_1_method_23_code
def yX8_stateOf : MethodName := ⟨RX8, "stateOf", "(I)I"⟩
abbrev cX8_given : ByteArray := prog_1_method_24_code
def yX8_given : MethodName := ⟨RX8, "given", "(I)I"⟩
abbrev cX8_base : ByteArray := prog_1_method_25_code
def yX8_base : MethodName := ⟨RX8, "base", "(I)I"⟩
abbrev cX8_next : ByteArray := prog_1_method_26_code
def yX8_next : MethodName := ⟨RX8, "next", "(I)I"⟩
abbrev cX8_window : ByteArray := prog_1_method_27_code
def yX8_window : MethodName := ⟨RX8, "window", "(I)I"⟩
abbrev cX8_recover : ByteArray := prog_1_method_31_code
def yX8_recover : MethodName := ⟨RX8, "recover", "(I)I"⟩
abbrev cX8_timeout : ByteArray := prog_1_method_34_code
def yX8_timeout : MethodName := ⟨RX8, "timeout", "(I)I"⟩
abbrev cX8_timer : ByteArray := prog_1_method_35_code
def yX8_timer : MethodName := ⟨RX8, "timer", "(I)I"⟩
abbrev cX8_measured : ByteArray := prog_1_method_36_code
def yX8_measured : MethodName := ⟨RX8, "measured", "(I)I"⟩
abbrev cX8_tries : ByteArray := prog_1_method_37_code
def yX8_tries : MethodName := ⟨RX8, "tries", "(I)I"⟩
abbrev cX8_wanted : ByteArray := prog_1_method_39_code
def yX8_wanted : MethodName := ⟨RX8, "wanted", "(I)I"⟩
abbrev cX8_holds : ByteArray := prog_1_method_40_code
def yX8_holds : MethodName := ⟨RX8, "holds", "(II)Z"⟩
abbrev cX8_readable : ByteArray := prog_1_method_41_code
def yX8_readable : MethodName := ⟨RX8, "readable", "(I)I"⟩
abbrev cX8_hasRead : ByteArray := prog_1_method_42_code
def yX8_hasRead : MethodName := ⟨RX8, "hasRead", "(I)I"⟩
abbrev cX8_lostIn : ByteArray := prog_1_method_45_code
def yX8_lostIn : MethodName := ⟨RX8, "lostIn", "(I)I"⟩
abbrev cX8_digest : ByteArray := prog_1_method_47_code
def yX8_digest : MethodName := ⟨RX8, "digest", "()J"⟩
abbrev cX8_digestOfLink : ByteArray := prog_1_method_48_code
def yX8_digestOfLink : MethodName := ⟨RX8, "digestOfLink", "(JI)J"⟩
abbrev cX8_digestOfCaller : ByteArray := prog_1_method_49_code
def yX8_digestOfCaller : MethodName := ⟨RX8, "digestOfCaller", "(JLTidePost$Caller;)J"⟩
abbrev cX8_digestOfCallee : ByteArray := prog_1_method_50_code
def yX8_digestOfCallee : MethodName := ⟨RX8, "digestOfCallee", "(JLTidePost$Connection;)J"⟩
abbrev cX8_checkNode : ByteArray := prog_1_method_51_code
def yX8_checkNode : MethodName := ⟨RX8, "checkNode", "(I)V"⟩
abbrev cX8_checkLink : ByteArray := prog_1_method_52_code
def yX8_checkLink : MethodName := ⟨RX8, "checkLink", "(I)V"⟩
abbrev cX8_checkRange : ByteArray := prog_1_method_53_code
def yX8_checkRange : MethodName := ⟨RX8, "checkRange", "(III)V"⟩
abbrev cX8_checkTakesThings : ByteArray := prog_1_method_54_code
def yX8_checkTakesThings : MethodName := ⟨RX8, "checkTakesThings", "(LTidePost$Caller;)V"⟩
abbrev cX8_wayOf : ByteArray := prog_1_method_55_code
def yX8_wayOf : MethodName := ⟨RX8, "wayOf", "(II)LTidePost$Way;"⟩
abbrev cX8_connectionOf : ByteArray := prog_1_method_56_code
def yX8_connectionOf : MethodName := ⟨RX8, "connectionOf", "(I)LTidePost$Connection;"⟩
abbrev cX8_callerOf : ByteArray := prog_1_method_57_code
def yX8_callerOf : MethodName := ⟨RX8, "callerOf", "(I)LTidePost$Caller;"⟩
def RX9 : String := "TidePostModel$Row"
def TX9 : u_T := fun k => match k with
  | _ => ("", "", "", false)
def tyX9 : Nat → FieldType := fun k => match k with
  | _ => .int
abbrev wsX90 : List Cond := u_ws RX9 TX9 0
theorem nmX9 : ∀ a, a < 0 → ∀ b, b < 0 → a ≠ b → (TX9 a).2.1 ≠ (TX9 b).2.1 := by decide +kernel
theorem tyX9_ok : ∀ k, k < 0 → parseFieldDescriptor (TX9 k).2.2.1 = some (tyX9 k) := by decide +kernel
def RX10 : String := "TidePostModel$State"
def TX10 : u_T := fun k => match k with
  | _ => ("", "", "", false)
def tyX10 : Nat → FieldType := fun k => match k with
  | _ => .int
abbrev wsX100 : List Cond := u_ws RX10 TX10 0
theorem nmX10 : ∀ a, a < 0 → ∀ b, b < 0 → a ≠ b → (TX10 a).2.1 ≠ (TX10 b).2.1 := by decide +kernel
theorem tyX10_ok : ∀ k, k < 0 → parseFieldDescriptor (TX10 k).2.2.1 = some (tyX10 k) := by decide +kernel
def RX11 : String := "TidePostModel"
def TX11 : u_T := fun k => match k with
  | _ => ("", "", "", false)
def tyX11 : Nat → FieldType := fun k => match k with
  | _ => .int
abbrev wsX110 : List Cond := u_ws RX11 TX11 0
theorem nmX11 : ∀ a, a < 0 → ∀ b, b < 0 → a ≠ b → (TX11 a).2.1 ≠ (TX11 b).2.1 := by decide +kernel
theorem tyX11_ok : ∀ k, k < 0 → parseFieldDescriptor (TX11 k).2.2.1 = some (tyX11 k) := by decide +kernel
def RJx145de : String := "java/io/Serializable"
def TJx145de : u_T := fun k => match k with
  | _ => ("", "", "", false)
def tyJx145de : Nat → FieldType := fun k => match k with
  | _ => .int
abbrev wsJx145de0 : List Cond := u_ws RJx145de TJx145de 0
theorem nmJx145de : ∀ a, a < 0 → ∀ b, b < 0 → a ≠ b → (TJx145de a).2.1 ≠ (TJx145de b).2.1 := by decide +kernel
theorem tyJx145de_ok : ∀ k, k < 0 → parseFieldDescriptor (TJx145de k).2.2.1 = some (tyJx145de k) := by decide +kernel
def RJ9 : String := "java/lang/Math"
def TJ9 : u_T := fun k => match k with
  | _ => ("", "", "", false)
def tyJ9 : Nat → FieldType := fun k => match k with
  | _ => .int
abbrev wsJ90 : List Cond := u_ws RJ9 TJ9 0
theorem nmJ9 : ∀ a, a < 0 → ∀ b, b < 0 → a ≠ b → (TJ9 a).2.1 ≠ (TJ9 b).2.1 := by decide +kernel
theorem tyJ9_ok : ∀ k, k < 0 → parseFieldDescriptor (TJ9 k).2.2.1 = some (tyJ9 k) := by decide +kernel
abbrev cJ9_floorMod_7cf53 : ByteArray := prog_18_method_50_code
def yJ9_floorMod_7cf53 : MethodName := ⟨RJ9, "floorMod", "(II)I"⟩
abbrev cJ9_abs_0f7a4 : ByteArray := prog_18_method_59_code
def yJ9_abs_0f7a4 : MethodName := ⟨RJ9, "abs", "(I)I"⟩
abbrev cJ9_max_7cf53 : ByteArray := prog_18_method_65_code
def yJ9_max_7cf53 : MethodName := ⟨RJ9, "max", "(II)I"⟩
abbrev cJ9_min_7cf53 : ByteArray := prog_18_method_69_code
def yJ9_min_7cf53 : MethodName := ⟨RJ9, "min", "(II)I"⟩
def RJ0 : String := "java/lang/String"
def TJ0 : u_T := fun k => match k with
  | _ => ("", "", "", false)
def tyJ0 : Nat → FieldType := fun k => match k with
  | _ => .int
abbrev wsJ00 : List Cond := u_ws RJ0 TJ0 0
theorem nmJ0 : ∀ a, a < 0 → ∀ b, b < 0 → a ≠ b → (TJ0 a).2.1 ≠ (TJ0 b).2.1 := by decide +kernel
theorem tyJ0_ok : ∀ k, k < 0 → parseFieldDescriptor (TJ0 k).2.2.1 = some (tyJ0 k) := by decide +kernel
def RJ10 : String := "java/lang/System"
def TJ10 : u_T := fun k => match k with
  | _ => ("", "", "", false)
def tyJ10 : Nat → FieldType := fun k => match k with
  | _ => .int
abbrev wsJ100 : List Cond := u_ws RJ10 TJ10 0
theorem nmJ10 : ∀ a, a < 0 → ∀ b, b < 0 → a ≠ b → (TJ10 a).2.1 ≠ (TJ10 b).2.1 := by decide +kernel
theorem tyJ10_ok : ∀ k, k < 0 → parseFieldDescriptor (TJ10 k).2.2.1 = some (tyJ10 k) := by decide +kernel
def RL : String := "TidePostLaw"
abbrev cL_below : ByteArray := method_2_code
def yL_below : MethodName := ⟨RL, "below", "(II)I"⟩
abbrev cL_cell : ByteArray := method_3_code
def yL_cell : MethodName := ⟨RL, "cell", "([II)I"⟩
abbrev cL_law : ByteArray := code
def yL_law : MethodName := ⟨RL, "law", "([I)Z"⟩
abbrev cL_act : ByteArray := method_5_code
def yL_act : MethodName := ⟨RL, "act", "(LTidePost;II[I[I)Z"⟩
abbrev cL_isSound : ByteArray := method_6_code
def yL_isSound : MethodName := ⟨RL, "isSound", "(LTidePost;I)Z"⟩
def wsX0_init : List Cond := .code yX0_init cX0_init 1 none :: ([.methodLink RX0 3 objectInit, .instanceMethod objectInit, .code objectInit ⟨#[0xb1]⟩ 1 none, .arrayClass .boolean, .fieldLink RX0 9 "TidePost$Callee" "held" "[Z"] ++ wsX00)
def wsX0_spare : List Cond := .code yX0_spare cX0_spare 1 (some .int) :: ([.fieldLink RX0 15 "TidePost$Callee" "read" "I", .fieldLink RX0 19 "TidePost$Callee" "buffer" "I", .fieldLink RX0 22 "TidePost$Callee" "wanted" "I", .methodLink RX0 25 Lib.Math.max.name, .static Lib.Math.max.name, .initialized "java/lang/Math", .code Lib.Math.max.name Lib.Math.max.code 2 (some .int)] ++ wsX00)
def wsX0_take : List Cond := .code yX0_take cX0_take 3 (some .boolean) :: ([.fieldLink RX0 22 "TidePost$Callee" "wanted" "I", .fieldLink RX0 9 "TidePost$Callee" "held" "[Z", .fieldLink RX0 15 "TidePost$Callee" "read" "I", .fieldLink RX0 19 "TidePost$Callee" "buffer" "I"] ++ wsX00)
def wsX0_copyFrom : List Cond := .code yX0_copyFrom cX0_copyFrom 2 none :: ([.fieldLink RX0 19 "TidePost$Callee" "buffer" "I", .fieldLink RX0 22 "TidePost$Callee" "wanted" "I", .fieldLink RX0 15 "TidePost$Callee" "read" "I", .fieldLink RX0 9 "TidePost$Callee" "held" "[Z", .methodLink RX0 31 arraycopyName, .native arraycopyName, .static arraycopyName, .initialized "java/lang/System"] ++ wsX00)
def wsX5_init : List Cond := .code yX5_init cX5_init 1 none :: ([.methodLink RX5 3 objectInit, .instanceMethod objectInit, .code objectInit ⟨#[0xb1]⟩ 1 none])
def wsX1_init : List Cond := .code yX1_init cX1_init 1 none :: ([.methodLink RX1 3 objectInit, .instanceMethod objectInit, .code objectInit ⟨#[0xb1]⟩ 1 none, .classLink RX1 9 RX5, .instantiable RX5 5, .initialized RX5, .fieldLink RX1 12 "TidePost$Caller" "timing" "LTidePost$Timing;", .instanceMethod yX5_init, .code yX5_init cX5_init 1 none, .methodLink RX5 3 objectInit] ++ wsX50 ++ wsX10)
def wsX5_begin : List Cond := .code yX5_begin cX5_begin 1 none :: ([.fieldLink RX5 9 "TidePost$Timing" "round" "I", .fieldLink RX5 15 "TidePost$Timing" "swing" "I", .fieldLink RX5 18 "TidePost$Timing" "timeout" "I", .fieldLink RX5 21 "TidePost$Timing" "measured" "I", .fieldLink RX5 24 "TidePost$Timing" "measuredAt" "I"] ++ wsX50)
def wsX1_begin : List Cond := .code yX1_begin cX1_begin 3 none :: ([.fieldLink RX1 18 "TidePost$Caller" "state" "I", .fieldLink RX1 22 "TidePost$Caller" "window" "I", .fieldLink RX1 25 "TidePost$Caller" "threshold" "I", .fieldLink RX1 28 "TidePost$Caller" "room" "I", .fieldLink RX1 31 "TidePost$Caller" "recover" "I", .fieldLink RX1 12 "TidePost$Caller" "timing" "LTidePost$Timing;", .fieldLink RX1 37 "TidePost$Timing" "timeout" "I", .fieldLink RX1 40 "TidePost$Caller" "timer" "I", .methodLink RX1 34 yX5_begin, .instanceMethod yX5_begin, .selects RX5 yX5_begin yX5_begin, .initialized RX5, .code yX5_begin cX5_begin 1 none, .fieldLink RX5 9 "TidePost$Timing" "round" "I", .fieldLink RX5 15 "TidePost$Timing" "swing" "I", .fieldLink RX5 18 "TidePost$Timing" "timeout" "I", .fieldLink RX5 21 "TidePost$Timing" "measured" "I", .fieldLink RX5 24 "TidePost$Timing" "measuredAt" "I"] ++ wsX10 ++ wsX50)
def wsX1_things : List Cond := .code yX1_things cX1_things 1 (some .int) :: ([.fieldLink RX1 43 "TidePost$Caller" "toldToClose" "Z", .fieldLink RX1 47 "TidePost$Caller" "given" "I"] ++ wsX10)
def wsX1_maySend : List Cond := .code yX1_maySend cX1_maySend 3 (some .boolean) :: ([.fieldLink RX1 50 "TidePost$Caller" "next" "I", .fieldLink RX1 53 "TidePost$Caller" "base" "I", .fieldLink RX1 18 "TidePost$Caller" "state" "I", .fieldLink RX1 22 "TidePost$Caller" "window" "I", .fieldLink RX1 47 "TidePost$Caller" "given" "I", .fieldLink RX1 28 "TidePost$Caller" "room" "I", .methodLink RX1 56 yX1_things, .instanceMethod yX1_things, .selects RX1 yX1_things yX1_things, .initialized RX1, .code yX1_things cX1_things 1 (some .int), .fieldLink RX1 43 "TidePost$Caller" "toldToClose" "Z"] ++ wsX10)
def wsX5_sent : List Cond := .code yX5_sent cX5_sent 3 none :: ([.fieldLink RX5 21 "TidePost$Timing" "measured" "I", .fieldLink RX5 24 "TidePost$Timing" "measuredAt" "I"] ++ wsX50)
def wsX1_sent : List Cond := .code yX1_sent cX1_sent 2 none :: ([.fieldLink RX1 12 "TidePost$Caller" "timing" "LTidePost$Timing;", .fieldLink RX1 50 "TidePost$Caller" "next" "I", .fieldLink RX1 40 "TidePost$Caller" "timer" "I", .fieldLink RX1 37 "TidePost$Timing" "timeout" "I", .methodLink RX1 60 yX5_sent, .instanceMethod yX5_sent, .selects RX5 yX5_sent yX5_sent, .initialized RX5, .code yX5_sent cX5_sent 3 none, .fieldLink RX5 21 "TidePost$Timing" "measured" "I", .fieldLink RX5 24 "TidePost$Timing" "measuredAt" "I"] ++ wsX10 ++ wsX50)
def wsX5_answered : List Cond := .code yX5_answered cX5_answered 5 none :: ([.fieldLink RX5 21 "TidePost$Timing" "measured" "I", .fieldLink RX5 24 "TidePost$Timing" "measuredAt" "I", .fieldLink RX5 9 "TidePost$Timing" "round" "I", .fieldLink RX5 15 "TidePost$Timing" "swing" "I", .methodLink RX5 27 Lib.Math.abs.name, .static Lib.Math.abs.name, .initialized "java/lang/Math", .code Lib.Math.abs.name Lib.Math.abs.code 1 (some .int), .methodLink RX5 33 Lib.Math.max.name, .static Lib.Math.max.name, .code Lib.Math.max.name Lib.Math.max.code 2 (some .int), .methodLink RX5 37 Lib.Math.min.name, .static Lib.Math.min.name, .code Lib.Math.min.name Lib.Math.min.code 2 (some .int), .fieldLink RX5 18 "TidePost$Timing" "timeout" "I"] ++ wsX50)
def wsX1_growWindow : List Cond := .code yX1_growWindow cX1_growWindow 2 none :: ([.fieldLink RX1 22 "TidePost$Caller" "window" "I", .fieldLink RX1 25 "TidePost$Caller" "threshold" "I", .methodLink RX1 84 Lib.Math.max.name, .static Lib.Math.max.name, .initialized "java/lang/Math", .code Lib.Math.max.name Lib.Math.max.code 2 (some .int), .methodLink RX1 90 Lib.Math.min.name, .static Lib.Math.min.name, .code Lib.Math.min.name Lib.Math.min.code 2 (some .int)] ++ wsX10)
def wsX1_advance_r1 : List Cond := [Cond.fieldLink RX1 12 "TidePost$Caller" "timing" "LTidePost$Timing;", Cond.fieldLink RX1 53 "TidePost$Caller" "base" "I", Cond.fieldLink RX1 28 "TidePost$Caller" "room" "I", Cond.fieldLink RX1 78 "TidePost$Caller" "like" "I", Cond.fieldLink RX1 31 "TidePost$Caller" "recover" "I", Cond.fieldLink RX1 50 "TidePost$Caller" "next" "I", Cond.fieldLink RX1 37 "TidePost$Timing" "timeout" "I", Cond.fieldLink RX1 40 "TidePost$Caller" "timer" "I", Cond.fieldLink RX1 47 "TidePost$Caller" "given" "I", Cond.fieldLink RX1 18 "TidePost$Caller" "state" "I", Cond.methodLink RX1 75 yX5_answered, Cond.instanceMethod yX5_answered, Cond.selects RX5 yX5_answered yX5_answered, Cond.initialized RX5, Cond.code yX5_answered cX5_answered 5 none, Cond.fieldLink RX5 21 "TidePost$Timing" "measured" "I", Cond.fieldLink RX5 24 "TidePost$Timing" "measuredAt" "I", Cond.fieldLink RX5 9 "TidePost$Timing" "round" "I", Cond.fieldLink RX5 15 "TidePost$Timing" "swing" "I", Cond.methodLink RX5 27 Lib.Math.abs.name, Cond.static Lib.Math.abs.name, Cond.initialized "java/lang/Math", Cond.code Lib.Math.abs.name Lib.Math.abs.code 1 (some .int), Cond.methodLink RX5 33 Lib.Math.max.name]
def wsX1_advance_r2 : List Cond := [Cond.static Lib.Math.max.name, Cond.code Lib.Math.max.name Lib.Math.max.code 2 (some .int), Cond.methodLink RX5 37 Lib.Math.min.name, Cond.static Lib.Math.min.name, Cond.code Lib.Math.min.name Lib.Math.min.code 2 (some .int), Cond.fieldLink RX5 18 "TidePost$Timing" "timeout" "I", Cond.methodLink RX1 81 yX1_growWindow, Cond.instanceMethod yX1_growWindow, Cond.selects RX1 yX1_growWindow yX1_growWindow, Cond.initialized RX1, Cond.code yX1_growWindow cX1_growWindow 2 none, Cond.fieldLink RX1 22 "TidePost$Caller" "window" "I", Cond.fieldLink RX1 25 "TidePost$Caller" "threshold" "I", Cond.methodLink RX1 84 Lib.Math.max.name, Cond.methodLink RX1 90 Lib.Math.min.name]
def wsX1_advance : List Cond := .code yX1_advance cX1_advance 5 (some .boolean) :: ((wsX1_advance_r1 ++ wsX1_advance_r2) ++ wsX10 ++ wsX50)
def wsX1_startRecovery : List Cond := .code yX1_startRecovery cX1_startRecovery 1 none :: ([.fieldLink RX1 50 "TidePost$Caller" "next" "I", .fieldLink RX1 31 "TidePost$Caller" "recover" "I", .fieldLink RX1 53 "TidePost$Caller" "base" "I", .methodLink RX1 84 Lib.Math.max.name, .static Lib.Math.max.name, .initialized "java/lang/Math", .code Lib.Math.max.name Lib.Math.max.code 2 (some .int), .fieldLink RX1 25 "TidePost$Caller" "threshold" "I"] ++ wsX10)
def wsX1_repeated : List Cond := .code yX1_repeated cX1_repeated 2 (some .boolean) :: ([.fieldLink RX1 28 "TidePost$Caller" "room" "I", .fieldLink RX1 78 "TidePost$Caller" "like" "I", .fieldLink RX1 31 "TidePost$Caller" "recover" "I", .fieldLink RX1 25 "TidePost$Caller" "threshold" "I", .fieldLink RX1 22 "TidePost$Caller" "window" "I", .methodLink RX1 93 yX1_startRecovery, .instanceMethod yX1_startRecovery, .selects RX1 yX1_startRecovery yX1_startRecovery, .initialized RX1, .code yX1_startRecovery cX1_startRecovery 1 none, .fieldLink RX1 50 "TidePost$Caller" "next" "I", .fieldLink RX1 53 "TidePost$Caller" "base" "I", .methodLink RX1 84 Lib.Math.max.name, .static Lib.Math.max.name, .initialized "java/lang/Math", .code Lib.Math.max.name Lib.Math.max.code 2 (some .int)] ++ wsX10)
def wsX1_takeAnswer_r1 : List Cond := [Cond.fieldLink RX1 18 "TidePost$Caller" "state" "I", Cond.fieldLink RX1 64 "TidePost$Caller" "tries" "I", Cond.fieldLink RX1 40 "TidePost$Caller" "timer" "I", Cond.fieldLink RX1 53 "TidePost$Caller" "base" "I", Cond.fieldLink RX1 50 "TidePost$Caller" "next" "I", Cond.fieldLink RX1 28 "TidePost$Caller" "room" "I", Cond.methodLink RX1 67 yX1_advance, Cond.instanceMethod yX1_advance, Cond.selects RX1 yX1_advance yX1_advance, Cond.initialized RX1, Cond.code yX1_advance cX1_advance 5 (some .boolean), Cond.fieldLink RX1 12 "TidePost$Caller" "timing" "LTidePost$Timing;", Cond.fieldLink RX1 78 "TidePost$Caller" "like" "I", Cond.fieldLink RX1 31 "TidePost$Caller" "recover" "I", Cond.fieldLink RX1 37 "TidePost$Timing" "timeout" "I", Cond.fieldLink RX1 47 "TidePost$Caller" "given" "I", Cond.methodLink RX1 75 yX5_answered, Cond.instanceMethod yX5_answered, Cond.selects RX5 yX5_answered yX5_answered, Cond.initialized RX5, Cond.code yX5_answered cX5_answered 5 none, Cond.fieldLink RX5 21 "TidePost$Timing" "measured" "I", Cond.fieldLink RX5 24 "TidePost$Timing" "measuredAt" "I", Cond.fieldLink RX5 9 "TidePost$Timing" "round" "I"]
def wsX1_takeAnswer_r2 : List Cond := [Cond.fieldLink RX5 15 "TidePost$Timing" "swing" "I", Cond.methodLink RX5 27 Lib.Math.abs.name, Cond.static Lib.Math.abs.name, Cond.initialized "java/lang/Math", Cond.code Lib.Math.abs.name Lib.Math.abs.code 1 (some .int), Cond.methodLink RX5 33 Lib.Math.max.name, Cond.static Lib.Math.max.name, Cond.code Lib.Math.max.name Lib.Math.max.code 2 (some .int), Cond.methodLink RX5 37 Lib.Math.min.name, Cond.static Lib.Math.min.name, Cond.code Lib.Math.min.name Lib.Math.min.code 2 (some .int), Cond.fieldLink RX5 18 "TidePost$Timing" "timeout" "I", Cond.methodLink RX1 81 yX1_growWindow, Cond.instanceMethod yX1_growWindow, Cond.selects RX1 yX1_growWindow yX1_growWindow, Cond.code yX1_growWindow cX1_growWindow 2 none, Cond.fieldLink RX1 22 "TidePost$Caller" "window" "I", Cond.fieldLink RX1 25 "TidePost$Caller" "threshold" "I", Cond.methodLink RX1 84 Lib.Math.max.name, Cond.methodLink RX1 90 Lib.Math.min.name, Cond.methodLink RX1 71 yX1_repeated, Cond.instanceMethod yX1_repeated, Cond.selects RX1 yX1_repeated yX1_repeated, Cond.code yX1_repeated cX1_repeated 2 (some .boolean)]
def wsX1_takeAnswer_r3 : List Cond := [Cond.methodLink RX1 93 yX1_startRecovery, Cond.instanceMethod yX1_startRecovery, Cond.selects RX1 yX1_startRecovery yX1_startRecovery, Cond.code yX1_startRecovery cX1_startRecovery 1 none]
def wsX1_takeAnswer : List Cond := .code yX1_takeAnswer cX1_takeAnswer 4 (some .boolean) :: ((wsX1_takeAnswer_r1 ++ (wsX1_takeAnswer_r2 ++ wsX1_takeAnswer_r3)) ++ wsX10 ++ wsX50)
def wsX5_backOff : List Cond := .code yX5_backOff cX5_backOff 1 none :: ([.fieldLink RX5 18 "TidePost$Timing" "timeout" "I", .methodLink RX5 37 Lib.Math.min.name, .static Lib.Math.min.name, .initialized "java/lang/Math", .code Lib.Math.min.name Lib.Math.min.code 2 (some .int), .fieldLink RX5 21 "TidePost$Timing" "measured" "I"] ++ wsX50)
def wsX1_runOut_r1 : List Cond := [Cond.fieldLink RX1 40 "TidePost$Caller" "timer" "I", Cond.fieldLink RX1 64 "TidePost$Caller" "tries" "I", Cond.fieldLink RX1 18 "TidePost$Caller" "state" "I", Cond.fieldLink RX1 12 "TidePost$Caller" "timing" "LTidePost$Timing;", Cond.fieldLink RX1 22 "TidePost$Caller" "window" "I", Cond.fieldLink RX1 78 "TidePost$Caller" "like" "I", Cond.fieldLink RX1 37 "TidePost$Timing" "timeout" "I", Cond.methodLink RX1 96 yX5_backOff, Cond.instanceMethod yX5_backOff, Cond.selects RX5 yX5_backOff yX5_backOff, Cond.initialized RX5, Cond.code yX5_backOff cX5_backOff 1 none, Cond.fieldLink RX5 18 "TidePost$Timing" "timeout" "I", Cond.methodLink RX5 37 Lib.Math.min.name, Cond.static Lib.Math.min.name, Cond.initialized "java/lang/Math", Cond.code Lib.Math.min.name Lib.Math.min.code 2 (some .int), Cond.fieldLink RX5 21 "TidePost$Timing" "measured" "I", Cond.methodLink RX1 93 yX1_startRecovery, Cond.instanceMethod yX1_startRecovery, Cond.selects RX1 yX1_startRecovery yX1_startRecovery, Cond.initialized RX1, Cond.code yX1_startRecovery cX1_startRecovery 1 none, Cond.fieldLink RX1 50 "TidePost$Caller" "next" "I"]
def wsX1_runOut_r2 : List Cond := [Cond.fieldLink RX1 31 "TidePost$Caller" "recover" "I", Cond.fieldLink RX1 53 "TidePost$Caller" "base" "I", Cond.methodLink RX1 84 Lib.Math.max.name, Cond.static Lib.Math.max.name, Cond.code Lib.Math.max.name Lib.Math.max.code 2 (some .int), Cond.fieldLink RX1 25 "TidePost$Caller" "threshold" "I"]
def wsX1_runOut : List Cond := .code yX1_runOut cX1_runOut 2 (some .boolean) :: ((wsX1_runOut_r1 ++ wsX1_runOut_r2) ++ wsX10 ++ wsX50)
def wsX5_sentTwice : List Cond := .code yX5_sentTwice cX5_sentTwice 2 none :: ([.fieldLink RX5 21 "TidePost$Timing" "measured" "I"] ++ wsX50)
def wsX1_baseAgain : List Cond := .code yX1_baseAgain cX1_baseAgain 1 (some .int) :: ([.fieldLink RX1 99 "TidePost$Caller" "sentAgain" "I", .fieldLink RX1 12 "TidePost$Caller" "timing" "LTidePost$Timing;", .fieldLink RX1 53 "TidePost$Caller" "base" "I", .methodLink RX1 102 yX5_sentTwice, .instanceMethod yX5_sentTwice, .selects RX5 yX5_sentTwice yX5_sentTwice, .initialized RX5, .code yX5_sentTwice cX5_sentTwice 2 none, .fieldLink RX5 21 "TidePost$Timing" "measured" "I"] ++ wsX10 ++ wsX50)
def wsX5_copyFrom : List Cond := .code yX5_copyFrom cX5_copyFrom 2 none :: ([.fieldLink RX5 9 "TidePost$Timing" "round" "I", .fieldLink RX5 15 "TidePost$Timing" "swing" "I", .fieldLink RX5 18 "TidePost$Timing" "timeout" "I", .fieldLink RX5 21 "TidePost$Timing" "measured" "I", .fieldLink RX5 24 "TidePost$Timing" "measuredAt" "I"] ++ wsX50)
def wsX1_copyFrom : List Cond := .code yX1_copyFrom cX1_copyFrom 2 none :: ([.fieldLink RX1 18 "TidePost$Caller" "state" "I", .fieldLink RX1 47 "TidePost$Caller" "given" "I", .fieldLink RX1 43 "TidePost$Caller" "toldToClose" "Z", .fieldLink RX1 53 "TidePost$Caller" "base" "I", .fieldLink RX1 50 "TidePost$Caller" "next" "I", .fieldLink RX1 22 "TidePost$Caller" "window" "I", .fieldLink RX1 25 "TidePost$Caller" "threshold" "I", .fieldLink RX1 28 "TidePost$Caller" "room" "I", .fieldLink RX1 78 "TidePost$Caller" "like" "I", .fieldLink RX1 31 "TidePost$Caller" "recover" "I", .fieldLink RX1 40 "TidePost$Caller" "timer" "I", .fieldLink RX1 64 "TidePost$Caller" "tries" "I", .fieldLink RX1 99 "TidePost$Caller" "sentAgain" "I", .fieldLink RX1 12 "TidePost$Caller" "timing" "LTidePost$Timing;", .methodLink RX1 106 yX5_copyFrom, .instanceMethod yX5_copyFrom, .selects RX5 yX5_copyFrom yX5_copyFrom, .initialized RX5, .code yX5_copyFrom cX5_copyFrom 2 none, .fieldLink RX5 9 "TidePost$Timing" "round" "I", .fieldLink RX5 15 "TidePost$Timing" "swing" "I", .fieldLink RX5 18 "TidePost$Timing" "timeout" "I", .fieldLink RX5 21 "TidePost$Timing" "measured" "I", .fieldLink RX5 24 "TidePost$Timing" "measuredAt" "I"] ++ wsX10 ++ wsX50)
def wsX2_init_r1 : List Cond := [Cond.methodLink RX2 1 objectInit, Cond.instanceMethod objectInit, Cond.code objectInit ⟨#[0xb1]⟩ 1 none, Cond.classLink RX2 7 RX1, Cond.instantiable RX1 14, Cond.initialized RX1, Cond.fieldLink RX2 10 "TidePost$Connection" "caller" "LTidePost$Caller;", Cond.classLink RX2 16 RX0, Cond.instantiable RX0 4, Cond.initialized RX0, Cond.fieldLink RX2 19 "TidePost$Connection" "callee" "LTidePost$Callee;", Cond.instanceMethod yX1_init, Cond.code yX1_init cX1_init 1 none, Cond.methodLink RX1 3 objectInit, Cond.classLink RX1 9 RX5, Cond.instantiable RX5 5, Cond.initialized RX5, Cond.fieldLink RX1 12 "TidePost$Caller" "timing" "LTidePost$Timing;", Cond.instanceMethod yX5_init, Cond.code yX5_init cX5_init 1 none, Cond.methodLink RX5 3 objectInit, Cond.instanceMethod yX0_init, Cond.code yX0_init cX0_init 1 none, Cond.methodLink RX0 3 objectInit]
def wsX2_init_r2 : List Cond := [Cond.arrayClass .boolean, Cond.fieldLink RX0 9 "TidePost$Callee" "held" "[Z"]
def wsX2_init : List Cond := .code yX2_init cX2_init 1 none :: ((wsX2_init_r1 ++ wsX2_init_r2) ++ wsX10 ++ wsX20 ++ wsX00 ++ wsX50)
def wsX2_unread : List Cond := .code yX2_unread cX2_unread 1 (some .int) :: ([.fieldLink RX2 19 "TidePost$Connection" "callee" "LTidePost$Callee;", .fieldLink RX2 23 "TidePost$Callee" "wanted" "I", .fieldLink RX2 10 "TidePost$Connection" "caller" "LTidePost$Caller;", .fieldLink RX2 27 "TidePost$Caller" "given" "I", .methodLink RX2 30 Lib.Math.min.name, .static Lib.Math.min.name, .initialized "java/lang/Math", .code Lib.Math.min.name Lib.Math.min.code 2 (some .int), .fieldLink RX2 36 "TidePost$Callee" "read" "I"] ++ wsX20 ++ wsX00 ++ wsX10)
def wsX2_copyFrom_r1 : List Cond := [Cond.fieldLink RX2 39 "TidePost$Connection" "callerNode" "I", Cond.fieldLink RX2 42 "TidePost$Connection" "calleeNode" "I", Cond.fieldLink RX2 10 "TidePost$Connection" "caller" "LTidePost$Caller;", Cond.fieldLink RX2 19 "TidePost$Connection" "callee" "LTidePost$Callee;", Cond.methodLink RX2 45 yX1_copyFrom, Cond.instanceMethod yX1_copyFrom, Cond.selects RX1 yX1_copyFrom yX1_copyFrom, Cond.initialized RX1, Cond.code yX1_copyFrom cX1_copyFrom 2 none, Cond.fieldLink RX1 18 "TidePost$Caller" "state" "I", Cond.fieldLink RX1 47 "TidePost$Caller" "given" "I", Cond.fieldLink RX1 43 "TidePost$Caller" "toldToClose" "Z", Cond.fieldLink RX1 53 "TidePost$Caller" "base" "I", Cond.fieldLink RX1 50 "TidePost$Caller" "next" "I", Cond.fieldLink RX1 22 "TidePost$Caller" "window" "I", Cond.fieldLink RX1 25 "TidePost$Caller" "threshold" "I", Cond.fieldLink RX1 28 "TidePost$Caller" "room" "I", Cond.fieldLink RX1 78 "TidePost$Caller" "like" "I", Cond.fieldLink RX1 31 "TidePost$Caller" "recover" "I", Cond.fieldLink RX1 40 "TidePost$Caller" "timer" "I", Cond.fieldLink RX1 64 "TidePost$Caller" "tries" "I", Cond.fieldLink RX1 99 "TidePost$Caller" "sentAgain" "I", Cond.fieldLink RX1 12 "TidePost$Caller" "timing" "LTidePost$Timing;", Cond.methodLink RX1 106 yX5_copyFrom]
def wsX2_copyFrom_r2 : List Cond := [Cond.instanceMethod yX5_copyFrom, Cond.selects RX5 yX5_copyFrom yX5_copyFrom, Cond.initialized RX5, Cond.code yX5_copyFrom cX5_copyFrom 2 none, Cond.fieldLink RX5 9 "TidePost$Timing" "round" "I", Cond.fieldLink RX5 15 "TidePost$Timing" "swing" "I", Cond.fieldLink RX5 18 "TidePost$Timing" "timeout" "I", Cond.fieldLink RX5 21 "TidePost$Timing" "measured" "I", Cond.fieldLink RX5 24 "TidePost$Timing" "measuredAt" "I", Cond.methodLink RX2 49 yX0_copyFrom, Cond.instanceMethod yX0_copyFrom, Cond.selects RX0 yX0_copyFrom yX0_copyFrom, Cond.initialized RX0, Cond.code yX0_copyFrom cX0_copyFrom 2 none, Cond.fieldLink RX0 19 "TidePost$Callee" "buffer" "I", Cond.fieldLink RX0 22 "TidePost$Callee" "wanted" "I", Cond.fieldLink RX0 15 "TidePost$Callee" "read" "I", Cond.fieldLink RX0 9 "TidePost$Callee" "held" "[Z", Cond.methodLink RX0 31 arraycopyName, Cond.native arraycopyName, Cond.static arraycopyName, Cond.initialized "java/lang/System"]
def wsX2_copyFrom : List Cond := .code yX2_copyFrom cX2_copyFrom 2 none :: ((wsX2_copyFrom_r1 ++ wsX2_copyFrom_r2) ++ wsX20 ++ wsX10 ++ wsX50 ++ wsX00)
def wsX3_init : List Cond := .code yX3_init cX3_init 1 none :: ([.methodLink RX3 3 objectInit, .instanceMethod objectInit, .code objectInit ⟨#[0xb1]⟩ 1 none, .arrayClass .int, .fieldLink RX3 9 "TidePost$Net" "firsts" "[I", .fieldLink RX3 15 "TidePost$Net" "seconds" "[I", .fieldLink RX3 18 "TidePost$Net" "delays" "[I", .fieldLink RX3 21 "TidePost$Net" "rooms" "[I", .arrayClass .boolean, .fieldLink RX3 24 "TidePost$Net" "up" "[Z", .classLink RX3 28 "[[I", .fieldLink RX3 30 "TidePost$Net" "distances" "[[I", .fieldLink RX3 33 "TidePost$Net" "trial" "[I"] ++ wsX30)
def wsX3_shorten : List Cond := .code yX3_shorten cX3_shorten 4 (some .boolean) :: ([])
def wsX3_spread : List Cond := .code yX3_spread cX3_spread 9 none :: ([.fieldLink RX3 36 "TidePost$Net" "nodes" "I", .fieldLink RX3 43 "TidePost$Net" "links" "I", .fieldLink RX3 24 "TidePost$Net" "up" "[Z", .fieldLink RX3 9 "TidePost$Net" "firsts" "[I", .fieldLink RX3 15 "TidePost$Net" "seconds" "[I", .fieldLink RX3 18 "TidePost$Net" "delays" "[I", .methodLink RX3 54 yX3_shorten, .static yX3_shorten, .initialized RX3, .code yX3_shorten cX3_shorten 4 (some .boolean)] ++ wsX30)
def wsX3_measureRoutes : List Cond := .code yX3_measureRoutes cX3_measureRoutes 2 none :: ([.fieldLink RX3 36 "TidePost$Net" "nodes" "I", .fieldLink RX3 30 "TidePost$Net" "distances" "[[I", .methodLink RX3 50 yX3_spread, .instanceMethod yX3_spread, .selects RX3 yX3_spread yX3_spread, .initialized RX3, .code yX3_spread cX3_spread 9 none, .fieldLink RX3 43 "TidePost$Net" "links" "I", .fieldLink RX3 24 "TidePost$Net" "up" "[Z", .fieldLink RX3 9 "TidePost$Net" "firsts" "[I", .fieldLink RX3 15 "TidePost$Net" "seconds" "[I", .fieldLink RX3 18 "TidePost$Net" "delays" "[I", .methodLink RX3 54 yX3_shorten, .static yX3_shorten, .code yX3_shorten cX3_shorten 4 (some .boolean)] ++ wsX30)
def wsX3_layNode : List Cond := .code yX3_layNode cX3_layNode 1 (some .int) :: ([.fieldLink RX3 36 "TidePost$Net" "nodes" "I", .methodLink RX3 40 yX3_measureRoutes, .instanceMethod yX3_measureRoutes, .selects RX3 yX3_measureRoutes yX3_measureRoutes, .initialized RX3, .code yX3_measureRoutes cX3_measureRoutes 2 none, .fieldLink RX3 30 "TidePost$Net" "distances" "[[I", .methodLink RX3 50 yX3_spread, .instanceMethod yX3_spread, .selects RX3 yX3_spread yX3_spread, .code yX3_spread cX3_spread 9 none, .fieldLink RX3 43 "TidePost$Net" "links" "I", .fieldLink RX3 24 "TidePost$Net" "up" "[Z", .fieldLink RX3 9 "TidePost$Net" "firsts" "[I", .fieldLink RX3 15 "TidePost$Net" "seconds" "[I", .fieldLink RX3 18 "TidePost$Net" "delays" "[I", .methodLink RX3 54 yX3_shorten, .static yX3_shorten, .code yX3_shorten cX3_shorten 4 (some .boolean)] ++ wsX30)
def wsX3_layLink : List Cond := .code yX3_layLink cX3_layLink 6 (some .int) :: ([.fieldLink RX3 43 "TidePost$Net" "links" "I", .fieldLink RX3 9 "TidePost$Net" "firsts" "[I", .fieldLink RX3 15 "TidePost$Net" "seconds" "[I", .fieldLink RX3 18 "TidePost$Net" "delays" "[I", .fieldLink RX3 21 "TidePost$Net" "rooms" "[I", .fieldLink RX3 24 "TidePost$Net" "up" "[Z", .methodLink RX3 40 yX3_measureRoutes, .instanceMethod yX3_measureRoutes, .selects RX3 yX3_measureRoutes yX3_measureRoutes, .initialized RX3, .code yX3_measureRoutes cX3_measureRoutes 2 none, .fieldLink RX3 36 "TidePost$Net" "nodes" "I", .fieldLink RX3 30 "TidePost$Net" "distances" "[[I", .methodLink RX3 50 yX3_spread, .instanceMethod yX3_spread, .selects RX3 yX3_spread yX3_spread, .code yX3_spread cX3_spread 9 none, .methodLink RX3 54 yX3_shorten, .static yX3_shorten, .code yX3_shorten cX3_shorten 4 (some .boolean)] ++ wsX30)
def wsX3_flip : List Cond := .code yX3_flip cX3_flip 2 none :: ([.fieldLink RX3 24 "TidePost$Net" "up" "[Z", .methodLink RX3 40 yX3_measureRoutes, .instanceMethod yX3_measureRoutes, .selects RX3 yX3_measureRoutes yX3_measureRoutes, .initialized RX3, .code yX3_measureRoutes cX3_measureRoutes 2 none, .fieldLink RX3 36 "TidePost$Net" "nodes" "I", .fieldLink RX3 30 "TidePost$Net" "distances" "[[I", .methodLink RX3 50 yX3_spread, .instanceMethod yX3_spread, .selects RX3 yX3_spread yX3_spread, .code yX3_spread cX3_spread 9 none, .fieldLink RX3 43 "TidePost$Net" "links" "I", .fieldLink RX3 9 "TidePost$Net" "firsts" "[I", .fieldLink RX3 15 "TidePost$Net" "seconds" "[I", .fieldLink RX3 18 "TidePost$Net" "delays" "[I", .methodLink RX3 54 yX3_shorten, .static yX3_shorten, .code yX3_shorten cX3_shorten 4 (some .boolean)] ++ wsX30)
def wsX3_farEnd : List Cond := .code yX3_farEnd cX3_farEnd 3 (some .int) :: ([.fieldLink RX3 9 "TidePost$Net" "firsts" "[I", .fieldLink RX3 15 "TidePost$Net" "seconds" "[I"] ++ wsX30)
def wsX3_joins : List Cond := .code yX3_joins cX3_joins 4 (some .boolean) :: ([.fieldLink RX3 43 "TidePost$Net" "links" "I", .methodLink RX3 46 yX3_farEnd, .instanceMethod yX3_farEnd, .selects RX3 yX3_farEnd yX3_farEnd, .initialized RX3, .code yX3_farEnd cX3_farEnd 3 (some .int), .fieldLink RX3 9 "TidePost$Net" "firsts" "[I", .fieldLink RX3 15 "TidePost$Net" "seconds" "[I"] ++ wsX30)
def wsX3_linkTowards : List Cond := .code yX3_linkTowards cX3_linkTowards 6 (some .int) :: ([.fieldLink RX3 30 "TidePost$Net" "distances" "[[I", .fieldLink RX3 43 "TidePost$Net" "links" "I", .fieldLink RX3 24 "TidePost$Net" "up" "[Z", .fieldLink RX3 18 "TidePost$Net" "delays" "[I", .methodLink RX3 46 yX3_farEnd, .instanceMethod yX3_farEnd, .selects RX3 yX3_farEnd yX3_farEnd, .initialized RX3, .code yX3_farEnd cX3_farEnd 3 (some .int), .fieldLink RX3 9 "TidePost$Net" "firsts" "[I", .fieldLink RX3 15 "TidePost$Net" "seconds" "[I"] ++ wsX30)
def wsX4_of : List Cond := .code yX4_of cX4_of 4 (some .int) :: ([])
def wsX4_hopsOf : List Cond := .code yX4_hopsOf cX4_hopsOf 1 (some .int) :: ([])
def wsX4_connectionOf : List Cond := .code yX4_connectionOf cX4_connectionOf 1 (some .int) :: ([])
def wsX4_kindOf : List Cond := .code yX4_kindOf cX4_kindOf 1 (some .int) :: ([])
def wsX4_numberOf : List Cond := .code yX4_numberOf cX4_numberOf 1 (some .int) :: ([])
def wsX4_roomOf : List Cond := .code yX4_roomOf cX4_roomOf 1 (some .int) :: ([])
def wsX7_init : List Cond := .code yX7_init cX7_init 2 none :: ([.methodLink RX7 3 objectInit, .instanceMethod objectInit, .code objectInit ⟨#[0xb1]⟩ 1 none, .arrayClass .int, .fieldLink RX7 9 "TidePost$Way" "queue" "[I", .fieldLink RX7 15 "TidePost$Way" "flight" "[I"] ++ wsX70)
def wsX6_init_r1 : List Cond := [Cond.methodLink RX6 3 objectInit, Cond.instanceMethod objectInit, Cond.code objectInit ⟨#[0xb1]⟩ 1 none, Cond.classLink RX6 9 RX7, Cond.fieldLink RX6 11 "TidePost$Traffic" "ways" "[LTidePost$Way;", Cond.classLink RX6 17 RX2, Cond.fieldLink RX6 19 "TidePost$Traffic" "all" "[LTidePost$Connection;", Cond.fieldLink RX6 23 "TidePost$Traffic" "net" "LTidePost$Net;", Cond.instantiable RX7 7, Cond.initialized RX7, Cond.instantiable RX2 4, Cond.initialized RX2, Cond.methodLink RX6 27 yX7_init, Cond.instanceMethod yX7_init, Cond.code yX7_init cX7_init 2 none, Cond.methodLink RX7 3 objectInit, Cond.arrayClass .int, Cond.fieldLink RX7 9 "TidePost$Way" "queue" "[I", Cond.fieldLink RX7 15 "TidePost$Way" "flight" "[I", Cond.instanceMethod yX2_init, Cond.code yX2_init cX2_init 1 none, Cond.methodLink RX2 1 objectInit, Cond.classLink RX2 7 RX1, Cond.instantiable RX1 14]
def wsX6_init_r2 : List Cond := [Cond.initialized RX1, Cond.fieldLink RX2 10 "TidePost$Connection" "caller" "LTidePost$Caller;", Cond.classLink RX2 16 RX0, Cond.instantiable RX0 4, Cond.initialized RX0, Cond.fieldLink RX2 19 "TidePost$Connection" "callee" "LTidePost$Callee;", Cond.instanceMethod yX1_init, Cond.code yX1_init cX1_init 1 none, Cond.methodLink RX1 3 objectInit, Cond.classLink RX1 9 RX5, Cond.instantiable RX5 5, Cond.initialized RX5, Cond.fieldLink RX1 12 "TidePost$Caller" "timing" "LTidePost$Timing;", Cond.instanceMethod yX5_init, Cond.code yX5_init cX5_init 1 none, Cond.methodLink RX5 3 objectInit, Cond.instanceMethod yX0_init, Cond.code yX0_init cX0_init 1 none, Cond.methodLink RX0 3 objectInit, Cond.arrayClass .boolean, Cond.fieldLink RX0 9 "TidePost$Callee" "held" "[Z"]
def wsX6_init : List Cond := .code yX6_init cX6_init 3 none :: ((wsX6_init_r1 ++ wsX6_init_r2) ++ wsX60 ++ wsX70 ++ wsX20 ++ wsX10 ++ wsX00 ++ wsX50)
def wsX7_join : List Cond := .code yX7_join cX7_join 3 (some .boolean) :: ([.fieldLink RX7 18 "TidePost$Way" "queued" "I", .fieldLink RX7 9 "TidePost$Way" "queue" "[I", .fieldLink RX7 22 "TidePost$Way" "head" "I"] ++ wsX70)
def wsX6_send_r1 : List Cond := [Cond.fieldLink RX6 23 "TidePost$Traffic" "net" "LTidePost$Net;", Cond.fieldLink RX6 69 "TidePost$Traffic" "lost" "I", Cond.fieldLink RX6 97 "TidePost$Net" "firsts" "[I", Cond.fieldLink RX6 11 "TidePost$Traffic" "ways" "[LTidePost$Way;", Cond.fieldLink RX6 188 "TidePost$Net" "rooms" "[I", Cond.methodLink RX6 181 yX3_linkTowards, Cond.instanceMethod yX3_linkTowards, Cond.selects RX3 yX3_linkTowards yX3_linkTowards, Cond.initialized RX3, Cond.code yX3_linkTowards cX3_linkTowards 6 (some .int), Cond.fieldLink RX3 30 "TidePost$Net" "distances" "[[I", Cond.fieldLink RX3 43 "TidePost$Net" "links" "I", Cond.fieldLink RX3 24 "TidePost$Net" "up" "[Z", Cond.fieldLink RX3 18 "TidePost$Net" "delays" "[I", Cond.methodLink RX3 46 yX3_farEnd, Cond.instanceMethod yX3_farEnd, Cond.selects RX3 yX3_farEnd yX3_farEnd, Cond.code yX3_farEnd cX3_farEnd 3 (some .int), Cond.fieldLink RX3 9 "TidePost$Net" "firsts" "[I", Cond.fieldLink RX3 15 "TidePost$Net" "seconds" "[I", Cond.methodLink RX6 185 yX4_hopsOf, Cond.static yX4_hopsOf, Cond.initialized RX4, Cond.code yX4_hopsOf cX4_hopsOf 1 (some .int)]
def wsX6_send_r2 : List Cond := [Cond.methodLink RX6 191 yX7_join, Cond.instanceMethod yX7_join, Cond.selects RX7 yX7_join yX7_join, Cond.initialized RX7, Cond.code yX7_join cX7_join 3 (some .boolean), Cond.fieldLink RX7 18 "TidePost$Way" "queued" "I", Cond.fieldLink RX7 9 "TidePost$Way" "queue" "[I", Cond.fieldLink RX7 22 "TidePost$Way" "head" "I"]
def wsX6_send : List Cond := .code yX6_send cX6_send 6 none :: ((wsX6_send_r1 ++ wsX6_send_r2) ++ wsX60 ++ wsX30 ++ wsX70)
def wsX6_sendHello_r1 : List Cond := [Cond.fieldLink RX6 19 "TidePost$Traffic" "all" "[LTidePost$Connection;", Cond.fieldLink RX6 33 "TidePost$Connection" "callerNode" "I", Cond.fieldLink RX6 36 "TidePost$Connection" "calleeNode" "I", Cond.methodLink RX6 168 yX4_of, Cond.static yX4_of, Cond.initialized RX4, Cond.code yX4_of cX4_of 4 (some .int), Cond.methodLink RX6 111 yX6_send, Cond.instanceMethod yX6_send, Cond.selects RX6 yX6_send yX6_send, Cond.initialized RX6, Cond.code yX6_send cX6_send 6 none, Cond.fieldLink RX6 23 "TidePost$Traffic" "net" "LTidePost$Net;", Cond.fieldLink RX6 69 "TidePost$Traffic" "lost" "I", Cond.fieldLink RX6 97 "TidePost$Net" "firsts" "[I", Cond.fieldLink RX6 11 "TidePost$Traffic" "ways" "[LTidePost$Way;", Cond.fieldLink RX6 188 "TidePost$Net" "rooms" "[I", Cond.methodLink RX6 181 yX3_linkTowards, Cond.instanceMethod yX3_linkTowards, Cond.selects RX3 yX3_linkTowards yX3_linkTowards, Cond.initialized RX3, Cond.code yX3_linkTowards cX3_linkTowards 6 (some .int), Cond.fieldLink RX3 30 "TidePost$Net" "distances" "[[I", Cond.fieldLink RX3 43 "TidePost$Net" "links" "I"]
def wsX6_sendHello_r2 : List Cond := [Cond.fieldLink RX3 24 "TidePost$Net" "up" "[Z", Cond.fieldLink RX3 18 "TidePost$Net" "delays" "[I", Cond.methodLink RX3 46 yX3_farEnd, Cond.instanceMethod yX3_farEnd, Cond.selects RX3 yX3_farEnd yX3_farEnd, Cond.code yX3_farEnd cX3_farEnd 3 (some .int), Cond.fieldLink RX3 9 "TidePost$Net" "firsts" "[I", Cond.fieldLink RX3 15 "TidePost$Net" "seconds" "[I", Cond.methodLink RX6 185 yX4_hopsOf, Cond.static yX4_hopsOf, Cond.code yX4_hopsOf cX4_hopsOf 1 (some .int), Cond.methodLink RX6 191 yX7_join, Cond.instanceMethod yX7_join, Cond.selects RX7 yX7_join yX7_join, Cond.initialized RX7, Cond.code yX7_join cX7_join 3 (some .boolean), Cond.fieldLink RX7 18 "TidePost$Way" "queued" "I", Cond.fieldLink RX7 9 "TidePost$Way" "queue" "[I", Cond.fieldLink RX7 22 "TidePost$Way" "head" "I"]
def wsX6_sendHello : List Cond := .code yX6_sendHello cX6_sendHello 4 none :: ((wsX6_sendHello_r1 ++ wsX6_sendHello_r2) ++ wsX60 ++ wsX20 ++ wsX30 ++ wsX70)
def wsX6_connect_r1 : List Cond := [Cond.fieldLink RX6 29 "TidePost$Traffic" "made" "I", Cond.fieldLink RX6 19 "TidePost$Traffic" "all" "[LTidePost$Connection;", Cond.fieldLink RX6 33 "TidePost$Connection" "callerNode" "I", Cond.fieldLink RX6 36 "TidePost$Connection" "calleeNode" "I", Cond.fieldLink RX6 39 "TidePost$Connection" "callee" "LTidePost$Callee;", Cond.fieldLink RX6 43 "TidePost$Callee" "buffer" "I", Cond.fieldLink RX6 48 "TidePost$Connection" "caller" "LTidePost$Caller;", Cond.fieldLink RX6 52 "TidePost$Traffic" "clock" "I", Cond.methodLink RX6 55 yX1_begin, Cond.instanceMethod yX1_begin, Cond.selects RX1 yX1_begin yX1_begin, Cond.initialized RX1, Cond.code yX1_begin cX1_begin 3 none, Cond.fieldLink RX1 18 "TidePost$Caller" "state" "I", Cond.fieldLink RX1 22 "TidePost$Caller" "window" "I", Cond.fieldLink RX1 25 "TidePost$Caller" "threshold" "I", Cond.fieldLink RX1 28 "TidePost$Caller" "room" "I", Cond.fieldLink RX1 31 "TidePost$Caller" "recover" "I", Cond.fieldLink RX1 12 "TidePost$Caller" "timing" "LTidePost$Timing;", Cond.fieldLink RX1 37 "TidePost$Timing" "timeout" "I", Cond.fieldLink RX1 40 "TidePost$Caller" "timer" "I", Cond.methodLink RX1 34 yX5_begin, Cond.instanceMethod yX5_begin, Cond.selects RX5 yX5_begin yX5_begin]
def wsX6_connect_r2 : List Cond := [Cond.initialized RX5, Cond.code yX5_begin cX5_begin 1 none, Cond.fieldLink RX5 9 "TidePost$Timing" "round" "I", Cond.fieldLink RX5 15 "TidePost$Timing" "swing" "I", Cond.fieldLink RX5 18 "TidePost$Timing" "timeout" "I", Cond.fieldLink RX5 21 "TidePost$Timing" "measured" "I", Cond.fieldLink RX5 24 "TidePost$Timing" "measuredAt" "I", Cond.methodLink RX6 61 yX6_sendHello, Cond.instanceMethod yX6_sendHello, Cond.selects RX6 yX6_sendHello yX6_sendHello, Cond.initialized RX6, Cond.code yX6_sendHello cX6_sendHello 4 none, Cond.methodLink RX6 168 yX4_of, Cond.static yX4_of, Cond.initialized RX4, Cond.code yX4_of cX4_of 4 (some .int), Cond.methodLink RX6 111 yX6_send, Cond.instanceMethod yX6_send, Cond.selects RX6 yX6_send yX6_send, Cond.code yX6_send cX6_send 6 none, Cond.fieldLink RX6 23 "TidePost$Traffic" "net" "LTidePost$Net;", Cond.fieldLink RX6 69 "TidePost$Traffic" "lost" "I", Cond.fieldLink RX6 97 "TidePost$Net" "firsts" "[I", Cond.fieldLink RX6 11 "TidePost$Traffic" "ways" "[LTidePost$Way;"]
def wsX6_connect_r3 : List Cond := [Cond.fieldLink RX6 188 "TidePost$Net" "rooms" "[I", Cond.methodLink RX6 181 yX3_linkTowards, Cond.instanceMethod yX3_linkTowards, Cond.selects RX3 yX3_linkTowards yX3_linkTowards, Cond.initialized RX3, Cond.code yX3_linkTowards cX3_linkTowards 6 (some .int), Cond.fieldLink RX3 30 "TidePost$Net" "distances" "[[I", Cond.fieldLink RX3 43 "TidePost$Net" "links" "I", Cond.fieldLink RX3 24 "TidePost$Net" "up" "[Z", Cond.fieldLink RX3 18 "TidePost$Net" "delays" "[I", Cond.methodLink RX3 46 yX3_farEnd, Cond.instanceMethod yX3_farEnd, Cond.selects RX3 yX3_farEnd yX3_farEnd, Cond.code yX3_farEnd cX3_farEnd 3 (some .int), Cond.fieldLink RX3 9 "TidePost$Net" "firsts" "[I", Cond.fieldLink RX3 15 "TidePost$Net" "seconds" "[I", Cond.methodLink RX6 185 yX4_hopsOf, Cond.static yX4_hopsOf, Cond.code yX4_hopsOf cX4_hopsOf 1 (some .int), Cond.methodLink RX6 191 yX7_join, Cond.instanceMethod yX7_join, Cond.selects RX7 yX7_join yX7_join, Cond.initialized RX7, Cond.code yX7_join cX7_join 3 (some .boolean)]
def wsX6_connect_r4 : List Cond := [Cond.fieldLink RX7 18 "TidePost$Way" "queued" "I", Cond.fieldLink RX7 9 "TidePost$Way" "queue" "[I", Cond.fieldLink RX7 22 "TidePost$Way" "head" "I"]
def wsX6_connect : List Cond := .code yX6_connect cX6_connect 6 (some .int) :: ((wsX6_connect_r1 ++ (wsX6_connect_r2 ++ (wsX6_connect_r3 ++ wsX6_connect_r4))) ++ wsX60 ++ wsX20 ++ wsX00 ++ wsX10 ++ wsX50 ++ wsX30 ++ wsX70)
def wsX7_drop : List Cond := .code yX7_drop cX7_drop 3 (some .int) :: ([.fieldLink RX7 18 "TidePost$Way" "queued" "I", .fieldLink RX7 37 "TidePost$Way" "flying" "I", .fieldLink RX7 15 "TidePost$Way" "flight" "[I"] ++ wsX70)
def wsX6_dropAll : List Cond := .code yX6_dropAll cX6_dropAll 3 (some .int) :: ([.fieldLink RX6 11 "TidePost$Traffic" "ways" "[LTidePost$Way;", .fieldLink RX6 69 "TidePost$Traffic" "lost" "I", .methodLink RX6 65 yX7_drop, .instanceMethod yX7_drop, .selects RX7 yX7_drop yX7_drop, .initialized RX7, .code yX7_drop cX7_drop 3 (some .int), .fieldLink RX7 18 "TidePost$Way" "queued" "I", .fieldLink RX7 37 "TidePost$Way" "flying" "I", .fieldLink RX7 15 "TidePost$Way" "flight" "[I"] ++ wsX60 ++ wsX70)
def wsJ9_floorMod_7cf53 : List Cond := .code yJ9_floorMod_7cf53 cJ9_floorMod_7cf53 3 (some .int) :: ([])
def wsX7_land : List Cond := .code yX7_land cX7_land 4 (some .int) :: ([.fieldLink RX7 15 "TidePost$Way" "flight" "[I", .fieldLink RX7 37 "TidePost$Way" "flying" "I", .methodLink RX7 28 yJ9_floorMod_7cf53, .static yJ9_floorMod_7cf53, .initialized RJ9, .code yJ9_floorMod_7cf53 cJ9_floorMod_7cf53 3 (some .int)] ++ wsX70)
def wsX6_sendThing_r1 : List Cond := [Cond.fieldLink RX6 19 "TidePost$Traffic" "all" "[LTidePost$Connection;", Cond.fieldLink RX6 48 "TidePost$Connection" "caller" "LTidePost$Caller;", Cond.fieldLink RX6 172 "TidePost$Caller" "given" "I", Cond.fieldLink RX6 33 "TidePost$Connection" "callerNode" "I", Cond.fieldLink RX6 36 "TidePost$Connection" "calleeNode" "I", Cond.methodLink RX6 168 yX4_of, Cond.static yX4_of, Cond.initialized RX4, Cond.code yX4_of cX4_of 4 (some .int), Cond.methodLink RX6 111 yX6_send, Cond.instanceMethod yX6_send, Cond.selects RX6 yX6_send yX6_send, Cond.initialized RX6, Cond.code yX6_send cX6_send 6 none, Cond.fieldLink RX6 23 "TidePost$Traffic" "net" "LTidePost$Net;", Cond.fieldLink RX6 69 "TidePost$Traffic" "lost" "I", Cond.fieldLink RX6 97 "TidePost$Net" "firsts" "[I", Cond.fieldLink RX6 11 "TidePost$Traffic" "ways" "[LTidePost$Way;", Cond.fieldLink RX6 188 "TidePost$Net" "rooms" "[I", Cond.methodLink RX6 181 yX3_linkTowards, Cond.instanceMethod yX3_linkTowards, Cond.selects RX3 yX3_linkTowards yX3_linkTowards, Cond.initialized RX3, Cond.code yX3_linkTowards cX3_linkTowards 6 (some .int)]
def wsX6_sendThing_r2 : List Cond := [Cond.fieldLink RX3 30 "TidePost$Net" "distances" "[[I", Cond.fieldLink RX3 43 "TidePost$Net" "links" "I", Cond.fieldLink RX3 24 "TidePost$Net" "up" "[Z", Cond.fieldLink RX3 18 "TidePost$Net" "delays" "[I", Cond.methodLink RX3 46 yX3_farEnd, Cond.instanceMethod yX3_farEnd, Cond.selects RX3 yX3_farEnd yX3_farEnd, Cond.code yX3_farEnd cX3_farEnd 3 (some .int), Cond.fieldLink RX3 9 "TidePost$Net" "firsts" "[I", Cond.fieldLink RX3 15 "TidePost$Net" "seconds" "[I", Cond.methodLink RX6 185 yX4_hopsOf, Cond.static yX4_hopsOf, Cond.code yX4_hopsOf cX4_hopsOf 1 (some .int), Cond.methodLink RX6 191 yX7_join, Cond.instanceMethod yX7_join, Cond.selects RX7 yX7_join yX7_join, Cond.initialized RX7, Cond.code yX7_join cX7_join 3 (some .boolean), Cond.fieldLink RX7 18 "TidePost$Way" "queued" "I", Cond.fieldLink RX7 9 "TidePost$Way" "queue" "[I", Cond.fieldLink RX7 22 "TidePost$Way" "head" "I"]
def wsX6_sendThing : List Cond := .code yX6_sendThing cX6_sendThing 6 none :: ((wsX6_sendThing_r1 ++ wsX6_sendThing_r2) ++ wsX60 ++ wsX20 ++ wsX10 ++ wsX30 ++ wsX70)
def wsX6_sendAnswer_r1 : List Cond := [Cond.fieldLink RX6 19 "TidePost$Traffic" "all" "[LTidePost$Connection;", Cond.fieldLink RX6 39 "TidePost$Connection" "callee" "LTidePost$Callee;", Cond.fieldLink RX6 175 "TidePost$Callee" "wanted" "I", Cond.fieldLink RX6 36 "TidePost$Connection" "calleeNode" "I", Cond.fieldLink RX6 33 "TidePost$Connection" "callerNode" "I", Cond.methodLink RX6 178 yX0_spare, Cond.instanceMethod yX0_spare, Cond.selects RX0 yX0_spare yX0_spare, Cond.initialized RX0, Cond.code yX0_spare cX0_spare 1 (some .int), Cond.fieldLink RX0 15 "TidePost$Callee" "read" "I", Cond.fieldLink RX0 19 "TidePost$Callee" "buffer" "I", Cond.fieldLink RX0 22 "TidePost$Callee" "wanted" "I", Cond.methodLink RX0 25 Lib.Math.max.name, Cond.static Lib.Math.max.name, Cond.initialized "java/lang/Math", Cond.code Lib.Math.max.name Lib.Math.max.code 2 (some .int), Cond.methodLink RX6 168 yX4_of, Cond.static yX4_of, Cond.initialized RX4, Cond.code yX4_of cX4_of 4 (some .int), Cond.methodLink RX6 111 yX6_send, Cond.instanceMethod yX6_send, Cond.selects RX6 yX6_send yX6_send]
def wsX6_sendAnswer_r2 : List Cond := [Cond.initialized RX6, Cond.code yX6_send cX6_send 6 none, Cond.fieldLink RX6 23 "TidePost$Traffic" "net" "LTidePost$Net;", Cond.fieldLink RX6 69 "TidePost$Traffic" "lost" "I", Cond.fieldLink RX6 97 "TidePost$Net" "firsts" "[I", Cond.fieldLink RX6 11 "TidePost$Traffic" "ways" "[LTidePost$Way;", Cond.fieldLink RX6 188 "TidePost$Net" "rooms" "[I", Cond.methodLink RX6 181 yX3_linkTowards, Cond.instanceMethod yX3_linkTowards, Cond.selects RX3 yX3_linkTowards yX3_linkTowards, Cond.initialized RX3, Cond.code yX3_linkTowards cX3_linkTowards 6 (some .int), Cond.fieldLink RX3 30 "TidePost$Net" "distances" "[[I", Cond.fieldLink RX3 43 "TidePost$Net" "links" "I", Cond.fieldLink RX3 24 "TidePost$Net" "up" "[Z", Cond.fieldLink RX3 18 "TidePost$Net" "delays" "[I", Cond.methodLink RX3 46 yX3_farEnd, Cond.instanceMethod yX3_farEnd, Cond.selects RX3 yX3_farEnd yX3_farEnd, Cond.code yX3_farEnd cX3_farEnd 3 (some .int), Cond.fieldLink RX3 9 "TidePost$Net" "firsts" "[I", Cond.fieldLink RX3 15 "TidePost$Net" "seconds" "[I", Cond.methodLink RX6 185 yX4_hopsOf, Cond.static yX4_hopsOf]
def wsX6_sendAnswer_r3 : List Cond := [Cond.code yX4_hopsOf cX4_hopsOf 1 (some .int), Cond.methodLink RX6 191 yX7_join, Cond.instanceMethod yX7_join, Cond.selects RX7 yX7_join yX7_join, Cond.initialized RX7, Cond.code yX7_join cX7_join 3 (some .boolean), Cond.fieldLink RX7 18 "TidePost$Way" "queued" "I", Cond.fieldLink RX7 9 "TidePost$Way" "queue" "[I", Cond.fieldLink RX7 22 "TidePost$Way" "head" "I"]
def wsX6_sendAnswer : List Cond := .code yX6_sendAnswer cX6_sendAnswer 5 none :: ((wsX6_sendAnswer_r1 ++ (wsX6_sendAnswer_r2 ++ wsX6_sendAnswer_r3)) ++ wsX60 ++ wsX20 ++ wsX00 ++ wsX30 ++ wsX70)
def wsX6_arrive_r1 : List Cond := [Cond.fieldLink RX6 29 "TidePost$Traffic" "made" "I", Cond.fieldLink RX6 19 "TidePost$Traffic" "all" "[LTidePost$Connection;", Cond.fieldLink RX6 33 "TidePost$Connection" "callerNode" "I", Cond.fieldLink RX6 36 "TidePost$Connection" "calleeNode" "I", Cond.fieldLink RX6 48 "TidePost$Connection" "caller" "LTidePost$Caller;", Cond.fieldLink RX6 52 "TidePost$Traffic" "clock" "I", Cond.fieldLink RX6 69 "TidePost$Traffic" "lost" "I", Cond.fieldLink RX6 39 "TidePost$Connection" "callee" "LTidePost$Callee;", Cond.methodLink RX6 103 yX4_connectionOf, Cond.static yX4_connectionOf, Cond.initialized RX4, Cond.code yX4_connectionOf cX4_connectionOf 1 (some .int), Cond.methodLink RX6 108 yX4_kindOf, Cond.static yX4_kindOf, Cond.code yX4_kindOf cX4_kindOf 1 (some .int), Cond.methodLink RX6 111 yX6_send, Cond.instanceMethod yX6_send, Cond.selects RX6 yX6_send yX6_send, Cond.initialized RX6, Cond.code yX6_send cX6_send 6 none, Cond.fieldLink RX6 23 "TidePost$Traffic" "net" "LTidePost$Net;", Cond.fieldLink RX6 97 "TidePost$Net" "firsts" "[I", Cond.fieldLink RX6 11 "TidePost$Traffic" "ways" "[LTidePost$Way;", Cond.fieldLink RX6 188 "TidePost$Net" "rooms" "[I"]
def wsX6_arrive_r2 : List Cond := [Cond.methodLink RX6 181 yX3_linkTowards, Cond.instanceMethod yX3_linkTowards, Cond.selects RX3 yX3_linkTowards yX3_linkTowards, Cond.initialized RX3, Cond.code yX3_linkTowards cX3_linkTowards 6 (some .int), Cond.fieldLink RX3 30 "TidePost$Net" "distances" "[[I", Cond.fieldLink RX3 43 "TidePost$Net" "links" "I", Cond.fieldLink RX3 24 "TidePost$Net" "up" "[Z", Cond.fieldLink RX3 18 "TidePost$Net" "delays" "[I", Cond.methodLink RX3 46 yX3_farEnd, Cond.instanceMethod yX3_farEnd, Cond.selects RX3 yX3_farEnd yX3_farEnd, Cond.code yX3_farEnd cX3_farEnd 3 (some .int), Cond.fieldLink RX3 9 "TidePost$Net" "firsts" "[I", Cond.fieldLink RX3 15 "TidePost$Net" "seconds" "[I", Cond.methodLink RX6 185 yX4_hopsOf, Cond.static yX4_hopsOf, Cond.code yX4_hopsOf cX4_hopsOf 1 (some .int), Cond.methodLink RX6 191 yX7_join, Cond.instanceMethod yX7_join, Cond.selects RX7 yX7_join yX7_join, Cond.initialized RX7, Cond.code yX7_join cX7_join 3 (some .boolean), Cond.fieldLink RX7 18 "TidePost$Way" "queued" "I"]
def wsX6_arrive_r3 : List Cond := [Cond.fieldLink RX7 9 "TidePost$Way" "queue" "[I", Cond.fieldLink RX7 22 "TidePost$Way" "head" "I", Cond.methodLink RX6 115 yX4_numberOf, Cond.static yX4_numberOf, Cond.code yX4_numberOf cX4_numberOf 1 (some .int), Cond.methodLink RX6 118 yX4_roomOf, Cond.static yX4_roomOf, Cond.code yX4_roomOf cX4_roomOf 1 (some .int), Cond.methodLink RX6 121 yX1_takeAnswer, Cond.instanceMethod yX1_takeAnswer, Cond.selects RX1 yX1_takeAnswer yX1_takeAnswer, Cond.initialized RX1, Cond.code yX1_takeAnswer cX1_takeAnswer 4 (some .boolean), Cond.fieldLink RX1 18 "TidePost$Caller" "state" "I", Cond.fieldLink RX1 64 "TidePost$Caller" "tries" "I", Cond.fieldLink RX1 40 "TidePost$Caller" "timer" "I", Cond.fieldLink RX1 53 "TidePost$Caller" "base" "I", Cond.fieldLink RX1 50 "TidePost$Caller" "next" "I", Cond.fieldLink RX1 28 "TidePost$Caller" "room" "I", Cond.methodLink RX1 67 yX1_advance, Cond.instanceMethod yX1_advance, Cond.selects RX1 yX1_advance yX1_advance, Cond.code yX1_advance cX1_advance 5 (some .boolean), Cond.fieldLink RX1 12 "TidePost$Caller" "timing" "LTidePost$Timing;"]
def wsX6_arrive_r4 : List Cond := [Cond.fieldLink RX1 78 "TidePost$Caller" "like" "I", Cond.fieldLink RX1 31 "TidePost$Caller" "recover" "I", Cond.fieldLink RX1 37 "TidePost$Timing" "timeout" "I", Cond.fieldLink RX1 47 "TidePost$Caller" "given" "I", Cond.methodLink RX1 75 yX5_answered, Cond.instanceMethod yX5_answered, Cond.selects RX5 yX5_answered yX5_answered, Cond.initialized RX5, Cond.code yX5_answered cX5_answered 5 none, Cond.fieldLink RX5 21 "TidePost$Timing" "measured" "I", Cond.fieldLink RX5 24 "TidePost$Timing" "measuredAt" "I", Cond.fieldLink RX5 9 "TidePost$Timing" "round" "I", Cond.fieldLink RX5 15 "TidePost$Timing" "swing" "I", Cond.methodLink RX5 27 Lib.Math.abs.name, Cond.static Lib.Math.abs.name, Cond.initialized "java/lang/Math", Cond.code Lib.Math.abs.name Lib.Math.abs.code 1 (some .int), Cond.methodLink RX5 33 Lib.Math.max.name, Cond.static Lib.Math.max.name, Cond.code Lib.Math.max.name Lib.Math.max.code 2 (some .int), Cond.methodLink RX5 37 Lib.Math.min.name, Cond.static Lib.Math.min.name, Cond.code Lib.Math.min.name Lib.Math.min.code 2 (some .int), Cond.fieldLink RX5 18 "TidePost$Timing" "timeout" "I"]
def wsX6_arrive_r5 : List Cond := [Cond.methodLink RX1 81 yX1_growWindow, Cond.instanceMethod yX1_growWindow, Cond.selects RX1 yX1_growWindow yX1_growWindow, Cond.code yX1_growWindow cX1_growWindow 2 none, Cond.fieldLink RX1 22 "TidePost$Caller" "window" "I", Cond.fieldLink RX1 25 "TidePost$Caller" "threshold" "I", Cond.methodLink RX1 84 Lib.Math.max.name, Cond.methodLink RX1 90 Lib.Math.min.name, Cond.methodLink RX1 71 yX1_repeated, Cond.instanceMethod yX1_repeated, Cond.selects RX1 yX1_repeated yX1_repeated, Cond.code yX1_repeated cX1_repeated 2 (some .boolean), Cond.methodLink RX1 93 yX1_startRecovery, Cond.instanceMethod yX1_startRecovery, Cond.selects RX1 yX1_startRecovery yX1_startRecovery, Cond.code yX1_startRecovery cX1_startRecovery 1 none, Cond.methodLink RX6 125 yX1_baseAgain, Cond.instanceMethod yX1_baseAgain, Cond.selects RX1 yX1_baseAgain yX1_baseAgain, Cond.code yX1_baseAgain cX1_baseAgain 1 (some .int), Cond.fieldLink RX1 99 "TidePost$Caller" "sentAgain" "I", Cond.methodLink RX1 102 yX5_sentTwice, Cond.instanceMethod yX5_sentTwice, Cond.selects RX5 yX5_sentTwice yX5_sentTwice]
def wsX6_arrive_r6 : List Cond := [Cond.code yX5_sentTwice cX5_sentTwice 2 none, Cond.methodLink RX6 128 yX6_sendThing, Cond.instanceMethod yX6_sendThing, Cond.selects RX6 yX6_sendThing yX6_sendThing, Cond.code yX6_sendThing cX6_sendThing 6 none, Cond.fieldLink RX6 172 "TidePost$Caller" "given" "I", Cond.methodLink RX6 168 yX4_of, Cond.static yX4_of, Cond.code yX4_of cX4_of 4 (some .int), Cond.methodLink RX6 131 yX0_take, Cond.instanceMethod yX0_take, Cond.selects RX0 yX0_take yX0_take, Cond.initialized RX0, Cond.code yX0_take cX0_take 3 (some .boolean), Cond.fieldLink RX0 22 "TidePost$Callee" "wanted" "I", Cond.fieldLink RX0 9 "TidePost$Callee" "held" "[Z", Cond.fieldLink RX0 15 "TidePost$Callee" "read" "I", Cond.fieldLink RX0 19 "TidePost$Callee" "buffer" "I", Cond.methodLink RX6 135 yX6_sendAnswer, Cond.instanceMethod yX6_sendAnswer, Cond.selects RX6 yX6_sendAnswer yX6_sendAnswer, Cond.code yX6_sendAnswer cX6_sendAnswer 5 none, Cond.fieldLink RX6 175 "TidePost$Callee" "wanted" "I", Cond.methodLink RX6 178 yX0_spare]
def wsX6_arrive_r7 : List Cond := [Cond.instanceMethod yX0_spare, Cond.selects RX0 yX0_spare yX0_spare, Cond.code yX0_spare cX0_spare 1 (some .int), Cond.methodLink RX0 25 Lib.Math.max.name]
def wsX6_arrive : List Cond := .code yX6_arrive cX6_arrive 8 none :: ((wsX6_arrive_r1 ++ (wsX6_arrive_r2 ++ (wsX6_arrive_r3 ++ (wsX6_arrive_r4 ++ (wsX6_arrive_r5 ++ (wsX6_arrive_r6 ++ wsX6_arrive_r7)))))) ++ wsX60 ++ wsX20 ++ wsX30 ++ wsX70 ++ wsX10 ++ wsX50 ++ wsX00)
def wsX6_letArrive_r1 : List Cond := [Cond.fieldLink RX6 23 "TidePost$Traffic" "net" "LTidePost$Net;", Cond.fieldLink RX6 84 "TidePost$Net" "links" "I", Cond.fieldLink RX6 11 "TidePost$Traffic" "ways" "[LTidePost$Way;", Cond.fieldLink RX6 52 "TidePost$Traffic" "clock" "I", Cond.fieldLink RX6 93 "TidePost$Net" "seconds" "[I", Cond.fieldLink RX6 97 "TidePost$Net" "firsts" "[I", Cond.methodLink RX6 89 yX7_land, Cond.instanceMethod yX7_land, Cond.selects RX7 yX7_land yX7_land, Cond.initialized RX7, Cond.code yX7_land cX7_land 4 (some .int), Cond.fieldLink RX7 15 "TidePost$Way" "flight" "[I", Cond.fieldLink RX7 37 "TidePost$Way" "flying" "I", Cond.methodLink RX7 28 yJ9_floorMod_7cf53, Cond.static yJ9_floorMod_7cf53, Cond.initialized RJ9, Cond.code yJ9_floorMod_7cf53 cJ9_floorMod_7cf53 3 (some .int), Cond.methodLink RX6 100 yX6_arrive, Cond.instanceMethod yX6_arrive, Cond.selects RX6 yX6_arrive yX6_arrive, Cond.initialized RX6, Cond.code yX6_arrive cX6_arrive 8 none, Cond.fieldLink RX6 29 "TidePost$Traffic" "made" "I", Cond.fieldLink RX6 19 "TidePost$Traffic" "all" "[LTidePost$Connection;"]
def wsX6_letArrive_r2 : List Cond := [Cond.fieldLink RX6 33 "TidePost$Connection" "callerNode" "I", Cond.fieldLink RX6 36 "TidePost$Connection" "calleeNode" "I", Cond.fieldLink RX6 48 "TidePost$Connection" "caller" "LTidePost$Caller;", Cond.fieldLink RX6 69 "TidePost$Traffic" "lost" "I", Cond.fieldLink RX6 39 "TidePost$Connection" "callee" "LTidePost$Callee;", Cond.methodLink RX6 103 yX4_connectionOf, Cond.static yX4_connectionOf, Cond.initialized RX4, Cond.code yX4_connectionOf cX4_connectionOf 1 (some .int), Cond.methodLink RX6 108 yX4_kindOf, Cond.static yX4_kindOf, Cond.code yX4_kindOf cX4_kindOf 1 (some .int), Cond.methodLink RX6 111 yX6_send, Cond.instanceMethod yX6_send, Cond.selects RX6 yX6_send yX6_send, Cond.code yX6_send cX6_send 6 none, Cond.fieldLink RX6 188 "TidePost$Net" "rooms" "[I", Cond.methodLink RX6 181 yX3_linkTowards, Cond.instanceMethod yX3_linkTowards, Cond.selects RX3 yX3_linkTowards yX3_linkTowards, Cond.initialized RX3, Cond.code yX3_linkTowards cX3_linkTowards 6 (some .int), Cond.fieldLink RX3 30 "TidePost$Net" "distances" "[[I", Cond.fieldLink RX3 43 "TidePost$Net" "links" "I"]
def wsX6_letArrive_r3 : List Cond := [Cond.fieldLink RX3 24 "TidePost$Net" "up" "[Z", Cond.fieldLink RX3 18 "TidePost$Net" "delays" "[I", Cond.methodLink RX3 46 yX3_farEnd, Cond.instanceMethod yX3_farEnd, Cond.selects RX3 yX3_farEnd yX3_farEnd, Cond.code yX3_farEnd cX3_farEnd 3 (some .int), Cond.fieldLink RX3 9 "TidePost$Net" "firsts" "[I", Cond.fieldLink RX3 15 "TidePost$Net" "seconds" "[I", Cond.methodLink RX6 185 yX4_hopsOf, Cond.static yX4_hopsOf, Cond.code yX4_hopsOf cX4_hopsOf 1 (some .int), Cond.methodLink RX6 191 yX7_join, Cond.instanceMethod yX7_join, Cond.selects RX7 yX7_join yX7_join, Cond.code yX7_join cX7_join 3 (some .boolean), Cond.fieldLink RX7 18 "TidePost$Way" "queued" "I", Cond.fieldLink RX7 9 "TidePost$Way" "queue" "[I", Cond.fieldLink RX7 22 "TidePost$Way" "head" "I", Cond.methodLink RX6 115 yX4_numberOf, Cond.static yX4_numberOf, Cond.code yX4_numberOf cX4_numberOf 1 (some .int), Cond.methodLink RX6 118 yX4_roomOf, Cond.static yX4_roomOf, Cond.code yX4_roomOf cX4_roomOf 1 (some .int)]
def wsX6_letArrive_r4 : List Cond := [Cond.methodLink RX6 121 yX1_takeAnswer, Cond.instanceMethod yX1_takeAnswer, Cond.selects RX1 yX1_takeAnswer yX1_takeAnswer, Cond.initialized RX1, Cond.code yX1_takeAnswer cX1_takeAnswer 4 (some .boolean), Cond.fieldLink RX1 18 "TidePost$Caller" "state" "I", Cond.fieldLink RX1 64 "TidePost$Caller" "tries" "I", Cond.fieldLink RX1 40 "TidePost$Caller" "timer" "I", Cond.fieldLink RX1 53 "TidePost$Caller" "base" "I", Cond.fieldLink RX1 50 "TidePost$Caller" "next" "I", Cond.fieldLink RX1 28 "TidePost$Caller" "room" "I", Cond.methodLink RX1 67 yX1_advance, Cond.instanceMethod yX1_advance, Cond.selects RX1 yX1_advance yX1_advance, Cond.code yX1_advance cX1_advance 5 (some .boolean), Cond.fieldLink RX1 12 "TidePost$Caller" "timing" "LTidePost$Timing;", Cond.fieldLink RX1 78 "TidePost$Caller" "like" "I", Cond.fieldLink RX1 31 "TidePost$Caller" "recover" "I", Cond.fieldLink RX1 37 "TidePost$Timing" "timeout" "I", Cond.fieldLink RX1 47 "TidePost$Caller" "given" "I", Cond.methodLink RX1 75 yX5_answered, Cond.instanceMethod yX5_answered, Cond.selects RX5 yX5_answered yX5_answered, Cond.initialized RX5]
def wsX6_letArrive_r5 : List Cond := [Cond.code yX5_answered cX5_answered 5 none, Cond.fieldLink RX5 21 "TidePost$Timing" "measured" "I", Cond.fieldLink RX5 24 "TidePost$Timing" "measuredAt" "I", Cond.fieldLink RX5 9 "TidePost$Timing" "round" "I", Cond.fieldLink RX5 15 "TidePost$Timing" "swing" "I", Cond.methodLink RX5 27 Lib.Math.abs.name, Cond.static Lib.Math.abs.name, Cond.initialized "java/lang/Math", Cond.code Lib.Math.abs.name Lib.Math.abs.code 1 (some .int), Cond.methodLink RX5 33 Lib.Math.max.name, Cond.static Lib.Math.max.name, Cond.code Lib.Math.max.name Lib.Math.max.code 2 (some .int), Cond.methodLink RX5 37 Lib.Math.min.name, Cond.static Lib.Math.min.name, Cond.code Lib.Math.min.name Lib.Math.min.code 2 (some .int), Cond.fieldLink RX5 18 "TidePost$Timing" "timeout" "I", Cond.methodLink RX1 81 yX1_growWindow, Cond.instanceMethod yX1_growWindow, Cond.selects RX1 yX1_growWindow yX1_growWindow, Cond.code yX1_growWindow cX1_growWindow 2 none, Cond.fieldLink RX1 22 "TidePost$Caller" "window" "I", Cond.fieldLink RX1 25 "TidePost$Caller" "threshold" "I", Cond.methodLink RX1 84 Lib.Math.max.name, Cond.methodLink RX1 90 Lib.Math.min.name]
def wsX6_letArrive_r6 : List Cond := [Cond.methodLink RX1 71 yX1_repeated, Cond.instanceMethod yX1_repeated, Cond.selects RX1 yX1_repeated yX1_repeated, Cond.code yX1_repeated cX1_repeated 2 (some .boolean), Cond.methodLink RX1 93 yX1_startRecovery, Cond.instanceMethod yX1_startRecovery, Cond.selects RX1 yX1_startRecovery yX1_startRecovery, Cond.code yX1_startRecovery cX1_startRecovery 1 none, Cond.methodLink RX6 125 yX1_baseAgain, Cond.instanceMethod yX1_baseAgain, Cond.selects RX1 yX1_baseAgain yX1_baseAgain, Cond.code yX1_baseAgain cX1_baseAgain 1 (some .int), Cond.fieldLink RX1 99 "TidePost$Caller" "sentAgain" "I", Cond.methodLink RX1 102 yX5_sentTwice, Cond.instanceMethod yX5_sentTwice, Cond.selects RX5 yX5_sentTwice yX5_sentTwice, Cond.code yX5_sentTwice cX5_sentTwice 2 none, Cond.methodLink RX6 128 yX6_sendThing, Cond.instanceMethod yX6_sendThing, Cond.selects RX6 yX6_sendThing yX6_sendThing, Cond.code yX6_sendThing cX6_sendThing 6 none, Cond.fieldLink RX6 172 "TidePost$Caller" "given" "I", Cond.methodLink RX6 168 yX4_of, Cond.static yX4_of]
def wsX6_letArrive_r7 : List Cond := [Cond.code yX4_of cX4_of 4 (some .int), Cond.methodLink RX6 131 yX0_take, Cond.instanceMethod yX0_take, Cond.selects RX0 yX0_take yX0_take, Cond.initialized RX0, Cond.code yX0_take cX0_take 3 (some .boolean), Cond.fieldLink RX0 22 "TidePost$Callee" "wanted" "I", Cond.fieldLink RX0 9 "TidePost$Callee" "held" "[Z", Cond.fieldLink RX0 15 "TidePost$Callee" "read" "I", Cond.fieldLink RX0 19 "TidePost$Callee" "buffer" "I", Cond.methodLink RX6 135 yX6_sendAnswer, Cond.instanceMethod yX6_sendAnswer, Cond.selects RX6 yX6_sendAnswer yX6_sendAnswer, Cond.code yX6_sendAnswer cX6_sendAnswer 5 none, Cond.fieldLink RX6 175 "TidePost$Callee" "wanted" "I", Cond.methodLink RX6 178 yX0_spare, Cond.instanceMethod yX0_spare, Cond.selects RX0 yX0_spare yX0_spare, Cond.code yX0_spare cX0_spare 1 (some .int), Cond.methodLink RX0 25 Lib.Math.max.name]
def wsX6_letArrive : List Cond := .code yX6_letArrive cX6_letArrive 4 none :: ((wsX6_letArrive_r1 ++ (wsX6_letArrive_r2 ++ (wsX6_letArrive_r3 ++ (wsX6_letArrive_r4 ++ (wsX6_letArrive_r5 ++ (wsX6_letArrive_r6 ++ wsX6_letArrive_r7)))))) ++ wsX60 ++ wsX30 ++ wsX70 ++ wsX20 ++ wsX10 ++ wsX50 ++ wsX00)
def wsX6_letTimersRunOut_r1 : List Cond := [Cond.fieldLink RX6 29 "TidePost$Traffic" "made" "I", Cond.fieldLink RX6 19 "TidePost$Traffic" "all" "[LTidePost$Connection;", Cond.fieldLink RX6 48 "TidePost$Connection" "caller" "LTidePost$Caller;", Cond.fieldLink RX6 138 "TidePost$Caller" "timer" "I", Cond.fieldLink RX6 52 "TidePost$Traffic" "clock" "I", Cond.fieldLink RX6 145 "TidePost$Caller" "state" "I", Cond.methodLink RX6 141 yX1_runOut, Cond.instanceMethod yX1_runOut, Cond.selects RX1 yX1_runOut yX1_runOut, Cond.initialized RX1, Cond.code yX1_runOut cX1_runOut 2 (some .boolean), Cond.fieldLink RX1 40 "TidePost$Caller" "timer" "I", Cond.fieldLink RX1 64 "TidePost$Caller" "tries" "I", Cond.fieldLink RX1 18 "TidePost$Caller" "state" "I", Cond.fieldLink RX1 12 "TidePost$Caller" "timing" "LTidePost$Timing;", Cond.fieldLink RX1 22 "TidePost$Caller" "window" "I", Cond.fieldLink RX1 78 "TidePost$Caller" "like" "I", Cond.fieldLink RX1 37 "TidePost$Timing" "timeout" "I", Cond.methodLink RX1 96 yX5_backOff, Cond.instanceMethod yX5_backOff, Cond.selects RX5 yX5_backOff yX5_backOff, Cond.initialized RX5, Cond.code yX5_backOff cX5_backOff 1 none, Cond.fieldLink RX5 18 "TidePost$Timing" "timeout" "I"]
def wsX6_letTimersRunOut_r2 : List Cond := [Cond.methodLink RX5 37 Lib.Math.min.name, Cond.static Lib.Math.min.name, Cond.initialized "java/lang/Math", Cond.code Lib.Math.min.name Lib.Math.min.code 2 (some .int), Cond.fieldLink RX5 21 "TidePost$Timing" "measured" "I", Cond.methodLink RX1 93 yX1_startRecovery, Cond.instanceMethod yX1_startRecovery, Cond.selects RX1 yX1_startRecovery yX1_startRecovery, Cond.code yX1_startRecovery cX1_startRecovery 1 none, Cond.fieldLink RX1 50 "TidePost$Caller" "next" "I", Cond.fieldLink RX1 31 "TidePost$Caller" "recover" "I", Cond.fieldLink RX1 53 "TidePost$Caller" "base" "I", Cond.methodLink RX1 84 Lib.Math.max.name, Cond.static Lib.Math.max.name, Cond.code Lib.Math.max.name Lib.Math.max.code 2 (some .int), Cond.fieldLink RX1 25 "TidePost$Caller" "threshold" "I", Cond.methodLink RX6 61 yX6_sendHello, Cond.instanceMethod yX6_sendHello, Cond.selects RX6 yX6_sendHello yX6_sendHello, Cond.initialized RX6, Cond.code yX6_sendHello cX6_sendHello 4 none, Cond.fieldLink RX6 33 "TidePost$Connection" "callerNode" "I", Cond.fieldLink RX6 36 "TidePost$Connection" "calleeNode" "I", Cond.methodLink RX6 168 yX4_of]
def wsX6_letTimersRunOut_r3 : List Cond := [Cond.static yX4_of, Cond.initialized RX4, Cond.code yX4_of cX4_of 4 (some .int), Cond.methodLink RX6 111 yX6_send, Cond.instanceMethod yX6_send, Cond.selects RX6 yX6_send yX6_send, Cond.code yX6_send cX6_send 6 none, Cond.fieldLink RX6 23 "TidePost$Traffic" "net" "LTidePost$Net;", Cond.fieldLink RX6 69 "TidePost$Traffic" "lost" "I", Cond.fieldLink RX6 97 "TidePost$Net" "firsts" "[I", Cond.fieldLink RX6 11 "TidePost$Traffic" "ways" "[LTidePost$Way;", Cond.fieldLink RX6 188 "TidePost$Net" "rooms" "[I", Cond.methodLink RX6 181 yX3_linkTowards, Cond.instanceMethod yX3_linkTowards, Cond.selects RX3 yX3_linkTowards yX3_linkTowards, Cond.initialized RX3, Cond.code yX3_linkTowards cX3_linkTowards 6 (some .int), Cond.fieldLink RX3 30 "TidePost$Net" "distances" "[[I", Cond.fieldLink RX3 43 "TidePost$Net" "links" "I", Cond.fieldLink RX3 24 "TidePost$Net" "up" "[Z", Cond.fieldLink RX3 18 "TidePost$Net" "delays" "[I", Cond.methodLink RX3 46 yX3_farEnd, Cond.instanceMethod yX3_farEnd, Cond.selects RX3 yX3_farEnd yX3_farEnd]
def wsX6_letTimersRunOut_r4 : List Cond := [Cond.code yX3_farEnd cX3_farEnd 3 (some .int), Cond.fieldLink RX3 9 "TidePost$Net" "firsts" "[I", Cond.fieldLink RX3 15 "TidePost$Net" "seconds" "[I", Cond.methodLink RX6 185 yX4_hopsOf, Cond.static yX4_hopsOf, Cond.code yX4_hopsOf cX4_hopsOf 1 (some .int), Cond.methodLink RX6 191 yX7_join, Cond.instanceMethod yX7_join, Cond.selects RX7 yX7_join yX7_join, Cond.initialized RX7, Cond.code yX7_join cX7_join 3 (some .boolean), Cond.fieldLink RX7 18 "TidePost$Way" "queued" "I", Cond.fieldLink RX7 9 "TidePost$Way" "queue" "[I", Cond.fieldLink RX7 22 "TidePost$Way" "head" "I", Cond.methodLink RX6 125 yX1_baseAgain, Cond.instanceMethod yX1_baseAgain, Cond.selects RX1 yX1_baseAgain yX1_baseAgain, Cond.code yX1_baseAgain cX1_baseAgain 1 (some .int), Cond.fieldLink RX1 99 "TidePost$Caller" "sentAgain" "I", Cond.methodLink RX1 102 yX5_sentTwice, Cond.instanceMethod yX5_sentTwice, Cond.selects RX5 yX5_sentTwice yX5_sentTwice, Cond.code yX5_sentTwice cX5_sentTwice 2 none, Cond.methodLink RX6 128 yX6_sendThing]
def wsX6_letTimersRunOut_r5 : List Cond := [Cond.instanceMethod yX6_sendThing, Cond.selects RX6 yX6_sendThing yX6_sendThing, Cond.code yX6_sendThing cX6_sendThing 6 none, Cond.fieldLink RX6 172 "TidePost$Caller" "given" "I"]
def wsX6_letTimersRunOut : List Cond := .code yX6_letTimersRunOut cX6_letTimersRunOut 3 none :: ((wsX6_letTimersRunOut_r1 ++ (wsX6_letTimersRunOut_r2 ++ (wsX6_letTimersRunOut_r3 ++ (wsX6_letTimersRunOut_r4 ++ wsX6_letTimersRunOut_r5)))) ++ wsX60 ++ wsX20 ++ wsX10 ++ wsX50 ++ wsX30 ++ wsX70)
def wsX6_letCallersSend_r1 : List Cond := [Cond.fieldLink RX6 29 "TidePost$Traffic" "made" "I", Cond.fieldLink RX6 19 "TidePost$Traffic" "all" "[LTidePost$Connection;", Cond.fieldLink RX6 48 "TidePost$Connection" "caller" "LTidePost$Caller;", Cond.fieldLink RX6 152 "TidePost$Caller" "next" "I", Cond.fieldLink RX6 52 "TidePost$Traffic" "clock" "I", Cond.methodLink RX6 148 yX1_maySend, Cond.instanceMethod yX1_maySend, Cond.selects RX1 yX1_maySend yX1_maySend, Cond.initialized RX1, Cond.code yX1_maySend cX1_maySend 3 (some .boolean), Cond.fieldLink RX1 50 "TidePost$Caller" "next" "I", Cond.fieldLink RX1 53 "TidePost$Caller" "base" "I", Cond.fieldLink RX1 18 "TidePost$Caller" "state" "I", Cond.fieldLink RX1 22 "TidePost$Caller" "window" "I", Cond.fieldLink RX1 47 "TidePost$Caller" "given" "I", Cond.fieldLink RX1 28 "TidePost$Caller" "room" "I", Cond.methodLink RX1 56 yX1_things, Cond.instanceMethod yX1_things, Cond.selects RX1 yX1_things yX1_things, Cond.code yX1_things cX1_things 1 (some .int), Cond.fieldLink RX1 43 "TidePost$Caller" "toldToClose" "Z", Cond.methodLink RX6 128 yX6_sendThing, Cond.instanceMethod yX6_sendThing, Cond.selects RX6 yX6_sendThing yX6_sendThing]
def wsX6_letCallersSend_r2 : List Cond := [Cond.initialized RX6, Cond.code yX6_sendThing cX6_sendThing 6 none, Cond.fieldLink RX6 172 "TidePost$Caller" "given" "I", Cond.fieldLink RX6 33 "TidePost$Connection" "callerNode" "I", Cond.fieldLink RX6 36 "TidePost$Connection" "calleeNode" "I", Cond.methodLink RX6 168 yX4_of, Cond.static yX4_of, Cond.initialized RX4, Cond.code yX4_of cX4_of 4 (some .int), Cond.methodLink RX6 111 yX6_send, Cond.instanceMethod yX6_send, Cond.selects RX6 yX6_send yX6_send, Cond.code yX6_send cX6_send 6 none, Cond.fieldLink RX6 23 "TidePost$Traffic" "net" "LTidePost$Net;", Cond.fieldLink RX6 69 "TidePost$Traffic" "lost" "I", Cond.fieldLink RX6 97 "TidePost$Net" "firsts" "[I", Cond.fieldLink RX6 11 "TidePost$Traffic" "ways" "[LTidePost$Way;", Cond.fieldLink RX6 188 "TidePost$Net" "rooms" "[I", Cond.methodLink RX6 181 yX3_linkTowards, Cond.instanceMethod yX3_linkTowards, Cond.selects RX3 yX3_linkTowards yX3_linkTowards, Cond.initialized RX3, Cond.code yX3_linkTowards cX3_linkTowards 6 (some .int), Cond.fieldLink RX3 30 "TidePost$Net" "distances" "[[I"]
def wsX6_letCallersSend_r3 : List Cond := [Cond.fieldLink RX3 43 "TidePost$Net" "links" "I", Cond.fieldLink RX3 24 "TidePost$Net" "up" "[Z", Cond.fieldLink RX3 18 "TidePost$Net" "delays" "[I", Cond.methodLink RX3 46 yX3_farEnd, Cond.instanceMethod yX3_farEnd, Cond.selects RX3 yX3_farEnd yX3_farEnd, Cond.code yX3_farEnd cX3_farEnd 3 (some .int), Cond.fieldLink RX3 9 "TidePost$Net" "firsts" "[I", Cond.fieldLink RX3 15 "TidePost$Net" "seconds" "[I", Cond.methodLink RX6 185 yX4_hopsOf, Cond.static yX4_hopsOf, Cond.code yX4_hopsOf cX4_hopsOf 1 (some .int), Cond.methodLink RX6 191 yX7_join, Cond.instanceMethod yX7_join, Cond.selects RX7 yX7_join yX7_join, Cond.initialized RX7, Cond.code yX7_join cX7_join 3 (some .boolean), Cond.fieldLink RX7 18 "TidePost$Way" "queued" "I", Cond.fieldLink RX7 9 "TidePost$Way" "queue" "[I", Cond.fieldLink RX7 22 "TidePost$Way" "head" "I", Cond.methodLink RX6 155 yX1_sent, Cond.instanceMethod yX1_sent, Cond.selects RX1 yX1_sent yX1_sent, Cond.code yX1_sent cX1_sent 2 none]
def wsX6_letCallersSend_r4 : List Cond := [Cond.fieldLink RX1 12 "TidePost$Caller" "timing" "LTidePost$Timing;", Cond.fieldLink RX1 40 "TidePost$Caller" "timer" "I", Cond.fieldLink RX1 37 "TidePost$Timing" "timeout" "I", Cond.methodLink RX1 60 yX5_sent, Cond.instanceMethod yX5_sent, Cond.selects RX5 yX5_sent yX5_sent, Cond.initialized RX5, Cond.code yX5_sent cX5_sent 3 none, Cond.fieldLink RX5 21 "TidePost$Timing" "measured" "I", Cond.fieldLink RX5 24 "TidePost$Timing" "measuredAt" "I"]
def wsX6_letCallersSend : List Cond := .code yX6_letCallersSend cX6_letCallersSend 4 none :: ((wsX6_letCallersSend_r1 ++ (wsX6_letCallersSend_r2 ++ (wsX6_letCallersSend_r3 ++ wsX6_letCallersSend_r4))) ++ wsX60 ++ wsX20 ++ wsX10 ++ wsX30 ++ wsX70 ++ wsX50)
def wsX7_takeOff : List Cond := .code yX7_takeOff cX7_takeOff 3 (some .boolean) :: ([.fieldLink RX7 18 "TidePost$Way" "queued" "I", .fieldLink RX7 9 "TidePost$Way" "queue" "[I", .fieldLink RX7 22 "TidePost$Way" "head" "I", .fieldLink RX7 25 "TidePost$Way" "toLose" "I", .fieldLink RX7 15 "TidePost$Way" "flight" "[I", .constant RX7 36 (262144), .fieldLink RX7 37 "TidePost$Way" "flying" "I", .fieldLink RX7 40 "TidePost$Way" "flown" "I", .methodLink RX7 28 yJ9_floorMod_7cf53, .static yJ9_floorMod_7cf53, .initialized RJ9, .code yJ9_floorMod_7cf53 cJ9_floorMod_7cf53 3 (some .int)] ++ wsX70)
def wsX6_letTakeOff : List Cond := .code yX6_letTakeOff cX6_letTakeOff 3 none :: ([.fieldLink RX6 23 "TidePost$Traffic" "net" "LTidePost$Net;", .fieldLink RX6 84 "TidePost$Net" "links" "I", .fieldLink RX6 158 "TidePost$Net" "up" "[Z", .fieldLink RX6 52 "TidePost$Traffic" "clock" "I", .fieldLink RX6 162 "TidePost$Net" "delays" "[I", .fieldLink RX6 69 "TidePost$Traffic" "lost" "I", .fieldLink RX6 11 "TidePost$Traffic" "ways" "[LTidePost$Way;", .methodLink RX6 165 yX7_takeOff, .instanceMethod yX7_takeOff, .selects RX7 yX7_takeOff yX7_takeOff, .initialized RX7, .code yX7_takeOff cX7_takeOff 3 (some .boolean), .fieldLink RX7 18 "TidePost$Way" "queued" "I", .fieldLink RX7 9 "TidePost$Way" "queue" "[I", .fieldLink RX7 22 "TidePost$Way" "head" "I", .fieldLink RX7 25 "TidePost$Way" "toLose" "I", .fieldLink RX7 15 "TidePost$Way" "flight" "[I", .constant RX7 36 (262144), .fieldLink RX7 37 "TidePost$Way" "flying" "I", .fieldLink RX7 40 "TidePost$Way" "flown" "I", .methodLink RX7 28 yJ9_floorMod_7cf53, .static yJ9_floorMod_7cf53, .initialized RJ9, .code yJ9_floorMod_7cf53 cJ9_floorMod_7cf53 3 (some .int)] ++ wsX60 ++ wsX30 ++ wsX70)
def wsX6_tick_r1 : List Cond := [Cond.fieldLink RX6 52 "TidePost$Traffic" "clock" "I", Cond.methodLink RX6 72 yX6_letArrive, Cond.instanceMethod yX6_letArrive, Cond.selects RX6 yX6_letArrive yX6_letArrive, Cond.initialized RX6, Cond.code yX6_letArrive cX6_letArrive 4 none, Cond.fieldLink RX6 23 "TidePost$Traffic" "net" "LTidePost$Net;", Cond.fieldLink RX6 84 "TidePost$Net" "links" "I", Cond.fieldLink RX6 11 "TidePost$Traffic" "ways" "[LTidePost$Way;", Cond.fieldLink RX6 93 "TidePost$Net" "seconds" "[I", Cond.fieldLink RX6 97 "TidePost$Net" "firsts" "[I", Cond.methodLink RX6 89 yX7_land, Cond.instanceMethod yX7_land, Cond.selects RX7 yX7_land yX7_land, Cond.initialized RX7, Cond.code yX7_land cX7_land 4 (some .int), Cond.fieldLink RX7 15 "TidePost$Way" "flight" "[I", Cond.fieldLink RX7 37 "TidePost$Way" "flying" "I", Cond.methodLink RX7 28 yJ9_floorMod_7cf53, Cond.static yJ9_floorMod_7cf53, Cond.initialized RJ9, Cond.code yJ9_floorMod_7cf53 cJ9_floorMod_7cf53 3 (some .int), Cond.methodLink RX6 100 yX6_arrive, Cond.instanceMethod yX6_arrive]
def wsX6_tick_r2 : List Cond := [Cond.selects RX6 yX6_arrive yX6_arrive, Cond.code yX6_arrive cX6_arrive 8 none, Cond.fieldLink RX6 29 "TidePost$Traffic" "made" "I", Cond.fieldLink RX6 19 "TidePost$Traffic" "all" "[LTidePost$Connection;", Cond.fieldLink RX6 33 "TidePost$Connection" "callerNode" "I", Cond.fieldLink RX6 36 "TidePost$Connection" "calleeNode" "I", Cond.fieldLink RX6 48 "TidePost$Connection" "caller" "LTidePost$Caller;", Cond.fieldLink RX6 69 "TidePost$Traffic" "lost" "I", Cond.fieldLink RX6 39 "TidePost$Connection" "callee" "LTidePost$Callee;", Cond.methodLink RX6 103 yX4_connectionOf, Cond.static yX4_connectionOf, Cond.initialized RX4, Cond.code yX4_connectionOf cX4_connectionOf 1 (some .int), Cond.methodLink RX6 108 yX4_kindOf, Cond.static yX4_kindOf, Cond.code yX4_kindOf cX4_kindOf 1 (some .int), Cond.methodLink RX6 111 yX6_send, Cond.instanceMethod yX6_send, Cond.selects RX6 yX6_send yX6_send, Cond.code yX6_send cX6_send 6 none, Cond.fieldLink RX6 188 "TidePost$Net" "rooms" "[I", Cond.methodLink RX6 181 yX3_linkTowards, Cond.instanceMethod yX3_linkTowards, Cond.selects RX3 yX3_linkTowards yX3_linkTowards]
def wsX6_tick_r3 : List Cond := [Cond.initialized RX3, Cond.code yX3_linkTowards cX3_linkTowards 6 (some .int), Cond.fieldLink RX3 30 "TidePost$Net" "distances" "[[I", Cond.fieldLink RX3 43 "TidePost$Net" "links" "I", Cond.fieldLink RX3 24 "TidePost$Net" "up" "[Z", Cond.fieldLink RX3 18 "TidePost$Net" "delays" "[I", Cond.methodLink RX3 46 yX3_farEnd, Cond.instanceMethod yX3_farEnd, Cond.selects RX3 yX3_farEnd yX3_farEnd, Cond.code yX3_farEnd cX3_farEnd 3 (some .int), Cond.fieldLink RX3 9 "TidePost$Net" "firsts" "[I", Cond.fieldLink RX3 15 "TidePost$Net" "seconds" "[I", Cond.methodLink RX6 185 yX4_hopsOf, Cond.static yX4_hopsOf, Cond.code yX4_hopsOf cX4_hopsOf 1 (some .int), Cond.methodLink RX6 191 yX7_join, Cond.instanceMethod yX7_join, Cond.selects RX7 yX7_join yX7_join, Cond.code yX7_join cX7_join 3 (some .boolean), Cond.fieldLink RX7 18 "TidePost$Way" "queued" "I", Cond.fieldLink RX7 9 "TidePost$Way" "queue" "[I", Cond.fieldLink RX7 22 "TidePost$Way" "head" "I", Cond.methodLink RX6 115 yX4_numberOf, Cond.static yX4_numberOf]
def wsX6_tick_r4 : List Cond := [Cond.code yX4_numberOf cX4_numberOf 1 (some .int), Cond.methodLink RX6 118 yX4_roomOf, Cond.static yX4_roomOf, Cond.code yX4_roomOf cX4_roomOf 1 (some .int), Cond.methodLink RX6 121 yX1_takeAnswer, Cond.instanceMethod yX1_takeAnswer, Cond.selects RX1 yX1_takeAnswer yX1_takeAnswer, Cond.initialized RX1, Cond.code yX1_takeAnswer cX1_takeAnswer 4 (some .boolean), Cond.fieldLink RX1 18 "TidePost$Caller" "state" "I", Cond.fieldLink RX1 64 "TidePost$Caller" "tries" "I", Cond.fieldLink RX1 40 "TidePost$Caller" "timer" "I", Cond.fieldLink RX1 53 "TidePost$Caller" "base" "I", Cond.fieldLink RX1 50 "TidePost$Caller" "next" "I", Cond.fieldLink RX1 28 "TidePost$Caller" "room" "I", Cond.methodLink RX1 67 yX1_advance, Cond.instanceMethod yX1_advance, Cond.selects RX1 yX1_advance yX1_advance, Cond.code yX1_advance cX1_advance 5 (some .boolean), Cond.fieldLink RX1 12 "TidePost$Caller" "timing" "LTidePost$Timing;", Cond.fieldLink RX1 78 "TidePost$Caller" "like" "I", Cond.fieldLink RX1 31 "TidePost$Caller" "recover" "I", Cond.fieldLink RX1 37 "TidePost$Timing" "timeout" "I", Cond.fieldLink RX1 47 "TidePost$Caller" "given" "I"]
def wsX6_tick_r5 : List Cond := [Cond.methodLink RX1 75 yX5_answered, Cond.instanceMethod yX5_answered, Cond.selects RX5 yX5_answered yX5_answered, Cond.initialized RX5, Cond.code yX5_answered cX5_answered 5 none, Cond.fieldLink RX5 21 "TidePost$Timing" "measured" "I", Cond.fieldLink RX5 24 "TidePost$Timing" "measuredAt" "I", Cond.fieldLink RX5 9 "TidePost$Timing" "round" "I", Cond.fieldLink RX5 15 "TidePost$Timing" "swing" "I", Cond.methodLink RX5 27 Lib.Math.abs.name, Cond.static Lib.Math.abs.name, Cond.initialized "java/lang/Math", Cond.code Lib.Math.abs.name Lib.Math.abs.code 1 (some .int), Cond.methodLink RX5 33 Lib.Math.max.name, Cond.static Lib.Math.max.name, Cond.code Lib.Math.max.name Lib.Math.max.code 2 (some .int), Cond.methodLink RX5 37 Lib.Math.min.name, Cond.static Lib.Math.min.name, Cond.code Lib.Math.min.name Lib.Math.min.code 2 (some .int), Cond.fieldLink RX5 18 "TidePost$Timing" "timeout" "I", Cond.methodLink RX1 81 yX1_growWindow, Cond.instanceMethod yX1_growWindow, Cond.selects RX1 yX1_growWindow yX1_growWindow, Cond.code yX1_growWindow cX1_growWindow 2 none]
def wsX6_tick_r6 : List Cond := [Cond.fieldLink RX1 22 "TidePost$Caller" "window" "I", Cond.fieldLink RX1 25 "TidePost$Caller" "threshold" "I", Cond.methodLink RX1 84 Lib.Math.max.name, Cond.methodLink RX1 90 Lib.Math.min.name, Cond.methodLink RX1 71 yX1_repeated, Cond.instanceMethod yX1_repeated, Cond.selects RX1 yX1_repeated yX1_repeated, Cond.code yX1_repeated cX1_repeated 2 (some .boolean), Cond.methodLink RX1 93 yX1_startRecovery, Cond.instanceMethod yX1_startRecovery, Cond.selects RX1 yX1_startRecovery yX1_startRecovery, Cond.code yX1_startRecovery cX1_startRecovery 1 none, Cond.methodLink RX6 125 yX1_baseAgain, Cond.instanceMethod yX1_baseAgain, Cond.selects RX1 yX1_baseAgain yX1_baseAgain, Cond.code yX1_baseAgain cX1_baseAgain 1 (some .int), Cond.fieldLink RX1 99 "TidePost$Caller" "sentAgain" "I", Cond.methodLink RX1 102 yX5_sentTwice, Cond.instanceMethod yX5_sentTwice, Cond.selects RX5 yX5_sentTwice yX5_sentTwice, Cond.code yX5_sentTwice cX5_sentTwice 2 none, Cond.methodLink RX6 128 yX6_sendThing, Cond.instanceMethod yX6_sendThing, Cond.selects RX6 yX6_sendThing yX6_sendThing]
def wsX6_tick_r7 : List Cond := [Cond.code yX6_sendThing cX6_sendThing 6 none, Cond.fieldLink RX6 172 "TidePost$Caller" "given" "I", Cond.methodLink RX6 168 yX4_of, Cond.static yX4_of, Cond.code yX4_of cX4_of 4 (some .int), Cond.methodLink RX6 131 yX0_take, Cond.instanceMethod yX0_take, Cond.selects RX0 yX0_take yX0_take, Cond.initialized RX0, Cond.code yX0_take cX0_take 3 (some .boolean), Cond.fieldLink RX0 22 "TidePost$Callee" "wanted" "I", Cond.fieldLink RX0 9 "TidePost$Callee" "held" "[Z", Cond.fieldLink RX0 15 "TidePost$Callee" "read" "I", Cond.fieldLink RX0 19 "TidePost$Callee" "buffer" "I", Cond.methodLink RX6 135 yX6_sendAnswer, Cond.instanceMethod yX6_sendAnswer, Cond.selects RX6 yX6_sendAnswer yX6_sendAnswer, Cond.code yX6_sendAnswer cX6_sendAnswer 5 none, Cond.fieldLink RX6 175 "TidePost$Callee" "wanted" "I", Cond.methodLink RX6 178 yX0_spare, Cond.instanceMethod yX0_spare, Cond.selects RX0 yX0_spare yX0_spare, Cond.code yX0_spare cX0_spare 1 (some .int), Cond.methodLink RX0 25 Lib.Math.max.name]
def wsX6_tick_r8 : List Cond := [Cond.methodLink RX6 75 yX6_letTimersRunOut, Cond.instanceMethod yX6_letTimersRunOut, Cond.selects RX6 yX6_letTimersRunOut yX6_letTimersRunOut, Cond.code yX6_letTimersRunOut cX6_letTimersRunOut 3 none, Cond.fieldLink RX6 138 "TidePost$Caller" "timer" "I", Cond.fieldLink RX6 145 "TidePost$Caller" "state" "I", Cond.methodLink RX6 141 yX1_runOut, Cond.instanceMethod yX1_runOut, Cond.selects RX1 yX1_runOut yX1_runOut, Cond.code yX1_runOut cX1_runOut 2 (some .boolean), Cond.methodLink RX1 96 yX5_backOff, Cond.instanceMethod yX5_backOff, Cond.selects RX5 yX5_backOff yX5_backOff, Cond.code yX5_backOff cX5_backOff 1 none, Cond.methodLink RX6 61 yX6_sendHello, Cond.instanceMethod yX6_sendHello, Cond.selects RX6 yX6_sendHello yX6_sendHello, Cond.code yX6_sendHello cX6_sendHello 4 none, Cond.methodLink RX6 78 yX6_letCallersSend, Cond.instanceMethod yX6_letCallersSend, Cond.selects RX6 yX6_letCallersSend yX6_letCallersSend, Cond.code yX6_letCallersSend cX6_letCallersSend 4 none, Cond.fieldLink RX6 152 "TidePost$Caller" "next" "I", Cond.methodLink RX6 148 yX1_maySend]
def wsX6_tick_r9 : List Cond := [Cond.instanceMethod yX1_maySend, Cond.selects RX1 yX1_maySend yX1_maySend, Cond.code yX1_maySend cX1_maySend 3 (some .boolean), Cond.methodLink RX1 56 yX1_things, Cond.instanceMethod yX1_things, Cond.selects RX1 yX1_things yX1_things, Cond.code yX1_things cX1_things 1 (some .int), Cond.fieldLink RX1 43 "TidePost$Caller" "toldToClose" "Z", Cond.methodLink RX6 155 yX1_sent, Cond.instanceMethod yX1_sent, Cond.selects RX1 yX1_sent yX1_sent, Cond.code yX1_sent cX1_sent 2 none, Cond.methodLink RX1 60 yX5_sent, Cond.instanceMethod yX5_sent, Cond.selects RX5 yX5_sent yX5_sent, Cond.code yX5_sent cX5_sent 3 none, Cond.methodLink RX6 81 yX6_letTakeOff, Cond.instanceMethod yX6_letTakeOff, Cond.selects RX6 yX6_letTakeOff yX6_letTakeOff, Cond.code yX6_letTakeOff cX6_letTakeOff 3 none, Cond.fieldLink RX6 158 "TidePost$Net" "up" "[Z", Cond.fieldLink RX6 162 "TidePost$Net" "delays" "[I", Cond.methodLink RX6 165 yX7_takeOff, Cond.instanceMethod yX7_takeOff]
def wsX6_tick_r10 : List Cond := [Cond.selects RX7 yX7_takeOff yX7_takeOff, Cond.code yX7_takeOff cX7_takeOff 3 (some .boolean), Cond.fieldLink RX7 25 "TidePost$Way" "toLose" "I", Cond.constant RX7 36 (262144), Cond.fieldLink RX7 40 "TidePost$Way" "flown" "I"]
def wsX6_tick : List Cond := .code yX6_tick cX6_tick 1 none :: ((wsX6_tick_r1 ++ (wsX6_tick_r2 ++ (wsX6_tick_r3 ++ (wsX6_tick_r4 ++ (wsX6_tick_r5 ++ (wsX6_tick_r6 ++ (wsX6_tick_r7 ++ (wsX6_tick_r8 ++ (wsX6_tick_r9 ++ wsX6_tick_r10))))))))) ++ wsX60 ++ wsX30 ++ wsX70 ++ wsX20 ++ wsX10 ++ wsX50 ++ wsX00)
def wsX7_copyFrom : List Cond := .code yX7_copyFrom cX7_copyFrom 2 none :: ([.fieldLink RX7 9 "TidePost$Way" "queue" "[I", .methodLink RX7 43 arraycopyName, .native arraycopyName, .static arraycopyName, .initialized "java/lang/System", .fieldLink RX7 22 "TidePost$Way" "head" "I", .fieldLink RX7 18 "TidePost$Way" "queued" "I", .fieldLink RX7 15 "TidePost$Way" "flight" "[I", .fieldLink RX7 37 "TidePost$Way" "flying" "I", .fieldLink RX7 40 "TidePost$Way" "flown" "I", .fieldLink RX7 25 "TidePost$Way" "toLose" "I"] ++ wsX70)
def wsX6_copyFrom_r1 : List Cond := [Cond.fieldLink RX6 23 "TidePost$Traffic" "net" "LTidePost$Net;", Cond.fieldLink RX6 84 "TidePost$Net" "links" "I", Cond.fieldLink RX6 11 "TidePost$Traffic" "ways" "[LTidePost$Way;", Cond.fieldLink RX6 29 "TidePost$Traffic" "made" "I", Cond.fieldLink RX6 19 "TidePost$Traffic" "all" "[LTidePost$Connection;", Cond.fieldLink RX6 52 "TidePost$Traffic" "clock" "I", Cond.fieldLink RX6 69 "TidePost$Traffic" "lost" "I", Cond.methodLink RX6 195 yX7_copyFrom, Cond.instanceMethod yX7_copyFrom, Cond.selects RX7 yX7_copyFrom yX7_copyFrom, Cond.initialized RX7, Cond.code yX7_copyFrom cX7_copyFrom 2 none, Cond.fieldLink RX7 9 "TidePost$Way" "queue" "[I", Cond.methodLink RX7 43 arraycopyName, Cond.native arraycopyName, Cond.static arraycopyName, Cond.initialized "java/lang/System", Cond.fieldLink RX7 22 "TidePost$Way" "head" "I", Cond.fieldLink RX7 18 "TidePost$Way" "queued" "I", Cond.fieldLink RX7 15 "TidePost$Way" "flight" "[I", Cond.fieldLink RX7 37 "TidePost$Way" "flying" "I", Cond.fieldLink RX7 40 "TidePost$Way" "flown" "I", Cond.fieldLink RX7 25 "TidePost$Way" "toLose" "I", Cond.methodLink RX6 199 yX2_copyFrom]
def wsX6_copyFrom_r2 : List Cond := [Cond.instanceMethod yX2_copyFrom, Cond.selects RX2 yX2_copyFrom yX2_copyFrom, Cond.initialized RX2, Cond.code yX2_copyFrom cX2_copyFrom 2 none, Cond.fieldLink RX2 39 "TidePost$Connection" "callerNode" "I", Cond.fieldLink RX2 42 "TidePost$Connection" "calleeNode" "I", Cond.fieldLink RX2 10 "TidePost$Connection" "caller" "LTidePost$Caller;", Cond.fieldLink RX2 19 "TidePost$Connection" "callee" "LTidePost$Callee;", Cond.methodLink RX2 45 yX1_copyFrom, Cond.instanceMethod yX1_copyFrom, Cond.selects RX1 yX1_copyFrom yX1_copyFrom, Cond.initialized RX1, Cond.code yX1_copyFrom cX1_copyFrom 2 none, Cond.fieldLink RX1 18 "TidePost$Caller" "state" "I", Cond.fieldLink RX1 47 "TidePost$Caller" "given" "I", Cond.fieldLink RX1 43 "TidePost$Caller" "toldToClose" "Z", Cond.fieldLink RX1 53 "TidePost$Caller" "base" "I", Cond.fieldLink RX1 50 "TidePost$Caller" "next" "I", Cond.fieldLink RX1 22 "TidePost$Caller" "window" "I", Cond.fieldLink RX1 25 "TidePost$Caller" "threshold" "I", Cond.fieldLink RX1 28 "TidePost$Caller" "room" "I", Cond.fieldLink RX1 78 "TidePost$Caller" "like" "I", Cond.fieldLink RX1 31 "TidePost$Caller" "recover" "I", Cond.fieldLink RX1 40 "TidePost$Caller" "timer" "I"]
def wsX6_copyFrom_r3 : List Cond := [Cond.fieldLink RX1 64 "TidePost$Caller" "tries" "I", Cond.fieldLink RX1 99 "TidePost$Caller" "sentAgain" "I", Cond.fieldLink RX1 12 "TidePost$Caller" "timing" "LTidePost$Timing;", Cond.methodLink RX1 106 yX5_copyFrom, Cond.instanceMethod yX5_copyFrom, Cond.selects RX5 yX5_copyFrom yX5_copyFrom, Cond.initialized RX5, Cond.code yX5_copyFrom cX5_copyFrom 2 none, Cond.fieldLink RX5 9 "TidePost$Timing" "round" "I", Cond.fieldLink RX5 15 "TidePost$Timing" "swing" "I", Cond.fieldLink RX5 18 "TidePost$Timing" "timeout" "I", Cond.fieldLink RX5 21 "TidePost$Timing" "measured" "I", Cond.fieldLink RX5 24 "TidePost$Timing" "measuredAt" "I", Cond.methodLink RX2 49 yX0_copyFrom, Cond.instanceMethod yX0_copyFrom, Cond.selects RX0 yX0_copyFrom yX0_copyFrom, Cond.initialized RX0, Cond.code yX0_copyFrom cX0_copyFrom 2 none, Cond.fieldLink RX0 19 "TidePost$Callee" "buffer" "I", Cond.fieldLink RX0 22 "TidePost$Callee" "wanted" "I", Cond.fieldLink RX0 15 "TidePost$Callee" "read" "I", Cond.fieldLink RX0 9 "TidePost$Callee" "held" "[Z", Cond.methodLink RX0 31 arraycopyName]
def wsX6_copyFrom : List Cond := .code yX6_copyFrom cX6_copyFrom 3 none :: ((wsX6_copyFrom_r1 ++ (wsX6_copyFrom_r2 ++ wsX6_copyFrom_r3)) ++ wsX60 ++ wsX30 ++ wsX70 ++ wsX20 ++ wsX10 ++ wsX50 ++ wsX00)
def wsX8_init_r1 : List Cond := [Cond.methodLink RX8 3 objectInit, Cond.instanceMethod objectInit, Cond.code objectInit ⟨#[0xb1]⟩ 1 none, Cond.classLink RX8 9 RX3, Cond.instantiable RX3 9, Cond.initialized RX3, Cond.fieldLink RX8 12 "TidePost" "net" "LTidePost$Net;", Cond.classLink RX8 16 RX6, Cond.instantiable RX6 6, Cond.initialized RX6, Cond.fieldLink RX8 21 "TidePost" "traffic" "LTidePost$Traffic;", Cond.fieldLink RX8 25 "TidePost" "ahead" "LTidePost$Traffic;", Cond.classLink RX8 28 "[[I", Cond.arrayClass .int, Cond.fieldLink RX8 30 "TidePost" "values" "[[I", Cond.instanceMethod yX3_init, Cond.code yX3_init cX3_init 1 none, Cond.methodLink RX3 3 objectInit, Cond.fieldLink RX3 9 "TidePost$Net" "firsts" "[I", Cond.fieldLink RX3 15 "TidePost$Net" "seconds" "[I", Cond.fieldLink RX3 18 "TidePost$Net" "delays" "[I", Cond.fieldLink RX3 21 "TidePost$Net" "rooms" "[I", Cond.arrayClass .boolean, Cond.fieldLink RX3 24 "TidePost$Net" "up" "[Z"]
def wsX8_init_r2 : List Cond := [Cond.classLink RX3 28 "[[I", Cond.fieldLink RX3 30 "TidePost$Net" "distances" "[[I", Cond.fieldLink RX3 33 "TidePost$Net" "trial" "[I", Cond.methodLink RX8 18 yX6_init, Cond.instanceMethod yX6_init, Cond.code yX6_init cX6_init 3 none, Cond.methodLink RX6 3 objectInit, Cond.classLink RX6 9 RX7, Cond.fieldLink RX6 11 "TidePost$Traffic" "ways" "[LTidePost$Way;", Cond.classLink RX6 17 RX2, Cond.fieldLink RX6 19 "TidePost$Traffic" "all" "[LTidePost$Connection;", Cond.fieldLink RX6 23 "TidePost$Traffic" "net" "LTidePost$Net;", Cond.instantiable RX7 7, Cond.initialized RX7, Cond.instantiable RX2 4, Cond.initialized RX2, Cond.methodLink RX6 27 yX7_init, Cond.instanceMethod yX7_init, Cond.code yX7_init cX7_init 2 none, Cond.methodLink RX7 3 objectInit, Cond.fieldLink RX7 9 "TidePost$Way" "queue" "[I", Cond.fieldLink RX7 15 "TidePost$Way" "flight" "[I", Cond.instanceMethod yX2_init, Cond.code yX2_init cX2_init 1 none]
def wsX8_init_r3 : List Cond := [Cond.methodLink RX2 1 objectInit, Cond.classLink RX2 7 RX1, Cond.instantiable RX1 14, Cond.initialized RX1, Cond.fieldLink RX2 10 "TidePost$Connection" "caller" "LTidePost$Caller;", Cond.classLink RX2 16 RX0, Cond.instantiable RX0 4, Cond.initialized RX0, Cond.fieldLink RX2 19 "TidePost$Connection" "callee" "LTidePost$Callee;", Cond.instanceMethod yX1_init, Cond.code yX1_init cX1_init 1 none, Cond.methodLink RX1 3 objectInit, Cond.classLink RX1 9 RX5, Cond.instantiable RX5 5, Cond.initialized RX5, Cond.fieldLink RX1 12 "TidePost$Caller" "timing" "LTidePost$Timing;", Cond.instanceMethod yX5_init, Cond.code yX5_init cX5_init 1 none, Cond.methodLink RX5 3 objectInit, Cond.instanceMethod yX0_init, Cond.code yX0_init cX0_init 1 none, Cond.methodLink RX0 3 objectInit, Cond.fieldLink RX0 9 "TidePost$Callee" "held" "[Z"]
def wsX8_init : List Cond := .code yX8_init cX8_init 1 none :: ((wsX8_init_r1 ++ (wsX8_init_r2 ++ wsX8_init_r3)) ++ wsX30 ++ wsX80 ++ wsX60 ++ wsX70 ++ wsX20 ++ wsX10 ++ wsX00 ++ wsX50)
def wsX8_addNode_r1 : List Cond := [Cond.classLink RX8 37 "java/lang/IllegalStateException", Cond.initialized "java/lang/IllegalStateException", Cond.fieldLink RX8 12 "TidePost" "net" "LTidePost$Net;", Cond.fieldLink RX8 33 "TidePost$Net" "nodes" "I", Cond.methodLink RX8 44 yX3_layNode, Cond.instanceMethod yX3_layNode, Cond.selects RX3 yX3_layNode yX3_layNode, Cond.initialized RX3, Cond.code yX3_layNode cX3_layNode 1 (some .int), Cond.fieldLink RX3 36 "TidePost$Net" "nodes" "I", Cond.methodLink RX3 40 yX3_measureRoutes, Cond.instanceMethod yX3_measureRoutes, Cond.selects RX3 yX3_measureRoutes yX3_measureRoutes, Cond.code yX3_measureRoutes cX3_measureRoutes 2 none, Cond.fieldLink RX3 30 "TidePost$Net" "distances" "[[I", Cond.methodLink RX3 50 yX3_spread, Cond.instanceMethod yX3_spread, Cond.selects RX3 yX3_spread yX3_spread, Cond.code yX3_spread cX3_spread 9 none, Cond.fieldLink RX3 43 "TidePost$Net" "links" "I", Cond.fieldLink RX3 24 "TidePost$Net" "up" "[Z", Cond.fieldLink RX3 9 "TidePost$Net" "firsts" "[I", Cond.fieldLink RX3 15 "TidePost$Net" "seconds" "[I", Cond.fieldLink RX3 18 "TidePost$Net" "delays" "[I"]
def wsX8_addNode_r2 : List Cond := [Cond.methodLink RX3 54 yX3_shorten, Cond.static yX3_shorten, Cond.code yX3_shorten cX3_shorten 4 (some .boolean)]
def wsX8_addNode : List Cond := .code yX8_addNode cX8_addNode 1 (some .int) :: ((wsX8_addNode_r1 ++ wsX8_addNode_r2) ++ wsX80 ++ wsX30 ++ (vx_atS RX8 41 "java/lang/IllegalStateException" ["java/lang/RuntimeException", "java/lang/Exception"]).filter goodWord)
def wsX8_checkNode : List Cond := .code yX8_checkNode cX8_checkNode 2 none :: ([.classLink RX8 297 "java/lang/IndexOutOfBoundsException", .initialized "java/lang/IndexOutOfBoundsException", .fieldLink RX8 12 "TidePost" "net" "LTidePost$Net;", .fieldLink RX8 33 "TidePost$Net" "nodes" "I"] ++ wsX80 ++ wsX30 ++ (vx_atS RX8 301 "java/lang/IndexOutOfBoundsException" ["java/lang/RuntimeException", "java/lang/Exception"]).filter goodWord)
def wsX8_checkRange : List Cond := .code yX8_checkRange cX8_checkRange 3 none :: ([.classLink RX8 52 "java/lang/IllegalArgumentException", .initialized "java/lang/IllegalArgumentException"] ++ (vx_atS RX8 56 "java/lang/IllegalArgumentException" ["java/lang/RuntimeException", "java/lang/Exception"]).filter goodWord)
def wsX8_addLink_r1 : List Cond := [Cond.classLink RX8 52 "java/lang/IllegalArgumentException", Cond.initialized "java/lang/IllegalArgumentException", Cond.classLink RX8 37 "java/lang/IllegalStateException", Cond.initialized "java/lang/IllegalStateException", Cond.fieldLink RX8 12 "TidePost" "net" "LTidePost$Net;", Cond.fieldLink RX8 61 "TidePost$Net" "links" "I", Cond.methodLink RX8 48 yX8_checkNode, Cond.instanceMethod yX8_checkNode, Cond.selects RX8 yX8_checkNode yX8_checkNode, Cond.initialized RX8, Cond.code yX8_checkNode cX8_checkNode 2 none, Cond.classLink RX8 297 "java/lang/IndexOutOfBoundsException", Cond.initialized "java/lang/IndexOutOfBoundsException", Cond.fieldLink RX8 33 "TidePost$Net" "nodes" "I", Cond.methodLink RX8 57 yX8_checkRange, Cond.static yX8_checkRange, Cond.code yX8_checkRange cX8_checkRange 3 none, Cond.methodLink RX8 64 yX3_joins, Cond.instanceMethod yX3_joins, Cond.selects RX3 yX3_joins yX3_joins, Cond.initialized RX3, Cond.code yX3_joins cX3_joins 4 (some .boolean), Cond.fieldLink RX3 43 "TidePost$Net" "links" "I", Cond.methodLink RX3 46 yX3_farEnd]
def wsX8_addLink_r2 : List Cond := [Cond.instanceMethod yX3_farEnd, Cond.selects RX3 yX3_farEnd yX3_farEnd, Cond.code yX3_farEnd cX3_farEnd 3 (some .int), Cond.fieldLink RX3 9 "TidePost$Net" "firsts" "[I", Cond.fieldLink RX3 15 "TidePost$Net" "seconds" "[I", Cond.methodLink RX8 70 yX3_layLink, Cond.instanceMethod yX3_layLink, Cond.selects RX3 yX3_layLink yX3_layLink, Cond.code yX3_layLink cX3_layLink 6 (some .int), Cond.fieldLink RX3 18 "TidePost$Net" "delays" "[I", Cond.fieldLink RX3 21 "TidePost$Net" "rooms" "[I", Cond.fieldLink RX3 24 "TidePost$Net" "up" "[Z", Cond.methodLink RX3 40 yX3_measureRoutes, Cond.instanceMethod yX3_measureRoutes, Cond.selects RX3 yX3_measureRoutes yX3_measureRoutes, Cond.code yX3_measureRoutes cX3_measureRoutes 2 none, Cond.fieldLink RX3 36 "TidePost$Net" "nodes" "I", Cond.fieldLink RX3 30 "TidePost$Net" "distances" "[[I", Cond.methodLink RX3 50 yX3_spread, Cond.instanceMethod yX3_spread, Cond.selects RX3 yX3_spread yX3_spread, Cond.code yX3_spread cX3_spread 9 none, Cond.methodLink RX3 54 yX3_shorten, Cond.static yX3_shorten]
def wsX8_addLink_r3 : List Cond := [Cond.code yX3_shorten cX3_shorten 4 (some .boolean)]
def wsX8_addLink : List Cond := .code yX8_addLink cX8_addLink 5 (some .int) :: ((wsX8_addLink_r1 ++ (wsX8_addLink_r2 ++ wsX8_addLink_r3)) ++ wsX80 ++ wsX30 ++ (vx_atS RX8 56 "java/lang/IllegalArgumentException" ["java/lang/RuntimeException", "java/lang/Exception"]).filter goodWord ++ (vx_atS RX8 41 "java/lang/IllegalStateException" ["java/lang/RuntimeException", "java/lang/Exception"]).filter goodWord ++ (vx_atS RX8 301 "java/lang/IndexOutOfBoundsException" ["java/lang/RuntimeException", "java/lang/Exception"]).filter goodWord)
def wsX8_checkLink : List Cond := .code yX8_checkLink cX8_checkLink 2 none :: ([.classLink RX8 297 "java/lang/IndexOutOfBoundsException", .initialized "java/lang/IndexOutOfBoundsException", .fieldLink RX8 12 "TidePost" "net" "LTidePost$Net;", .fieldLink RX8 61 "TidePost$Net" "links" "I"] ++ wsX80 ++ wsX30 ++ (vx_atS RX8 301 "java/lang/IndexOutOfBoundsException" ["java/lang/RuntimeException", "java/lang/Exception"]).filter goodWord)
def wsX8_turn_r1 : List Cond := [Cond.fieldLink RX8 12 "TidePost" "net" "LTidePost$Net;", Cond.fieldLink RX8 80 "TidePost$Net" "up" "[Z", Cond.fieldLink RX8 21 "TidePost" "traffic" "LTidePost$Traffic;", Cond.methodLink RX8 74 yX8_checkLink, Cond.instanceMethod yX8_checkLink, Cond.selects RX8 yX8_checkLink yX8_checkLink, Cond.initialized RX8, Cond.code yX8_checkLink cX8_checkLink 2 none, Cond.classLink RX8 297 "java/lang/IndexOutOfBoundsException", Cond.initialized "java/lang/IndexOutOfBoundsException", Cond.fieldLink RX8 61 "TidePost$Net" "links" "I", Cond.methodLink RX8 77 yX3_flip, Cond.instanceMethod yX3_flip, Cond.selects RX3 yX3_flip yX3_flip, Cond.initialized RX3, Cond.code yX3_flip cX3_flip 2 none, Cond.fieldLink RX3 24 "TidePost$Net" "up" "[Z", Cond.methodLink RX3 40 yX3_measureRoutes, Cond.instanceMethod yX3_measureRoutes, Cond.selects RX3 yX3_measureRoutes yX3_measureRoutes, Cond.code yX3_measureRoutes cX3_measureRoutes 2 none, Cond.fieldLink RX3 36 "TidePost$Net" "nodes" "I", Cond.fieldLink RX3 30 "TidePost$Net" "distances" "[[I", Cond.methodLink RX3 50 yX3_spread]
def wsX8_turn_r2 : List Cond := [Cond.instanceMethod yX3_spread, Cond.selects RX3 yX3_spread yX3_spread, Cond.code yX3_spread cX3_spread 9 none, Cond.fieldLink RX3 43 "TidePost$Net" "links" "I", Cond.fieldLink RX3 9 "TidePost$Net" "firsts" "[I", Cond.fieldLink RX3 15 "TidePost$Net" "seconds" "[I", Cond.fieldLink RX3 18 "TidePost$Net" "delays" "[I", Cond.methodLink RX3 54 yX3_shorten, Cond.static yX3_shorten, Cond.code yX3_shorten cX3_shorten 4 (some .boolean), Cond.methodLink RX8 84 yX6_dropAll, Cond.instanceMethod yX6_dropAll, Cond.selects RX6 yX6_dropAll yX6_dropAll, Cond.initialized RX6, Cond.code yX6_dropAll cX6_dropAll 3 (some .int), Cond.fieldLink RX6 11 "TidePost$Traffic" "ways" "[LTidePost$Way;", Cond.fieldLink RX6 69 "TidePost$Traffic" "lost" "I", Cond.methodLink RX6 65 yX7_drop, Cond.instanceMethod yX7_drop, Cond.selects RX7 yX7_drop yX7_drop, Cond.initialized RX7, Cond.code yX7_drop cX7_drop 3 (some .int), Cond.fieldLink RX7 18 "TidePost$Way" "queued" "I", Cond.fieldLink RX7 37 "TidePost$Way" "flying" "I"]
def wsX8_turn_r3 : List Cond := [Cond.fieldLink RX7 15 "TidePost$Way" "flight" "[I"]
def wsX8_turn : List Cond := .code yX8_turn cX8_turn 2 (some .int) :: ((wsX8_turn_r1 ++ (wsX8_turn_r2 ++ wsX8_turn_r3)) ++ wsX80 ++ wsX30 ++ wsX60 ++ wsX70 ++ (vx_atS RX8 301 "java/lang/IndexOutOfBoundsException" ["java/lang/RuntimeException", "java/lang/Exception"]).filter goodWord)
def wsX8_wayOf : List Cond := .code yX8_wayOf cX8_wayOf 3 (some (.object "TidePost$Way")) :: ([.classLink RX8 297 "java/lang/IndexOutOfBoundsException", .initialized "java/lang/IndexOutOfBoundsException", .fieldLink RX8 21 "TidePost" "traffic" "LTidePost$Traffic;", .fieldLink RX8 189 "TidePost$Traffic" "ways" "[LTidePost$Way;", .methodLink RX8 74 yX8_checkLink, .instanceMethod yX8_checkLink, .selects RX8 yX8_checkLink yX8_checkLink, .initialized RX8, .code yX8_checkLink cX8_checkLink 2 none, .fieldLink RX8 12 "TidePost" "net" "LTidePost$Net;", .fieldLink RX8 61 "TidePost$Net" "links" "I"] ++ wsX80 ++ wsX60 ++ wsX30 ++ (vx_atS RX8 301 "java/lang/IndexOutOfBoundsException" ["java/lang/RuntimeException", "java/lang/Exception"]).filter goodWord)
def wsX8_lose : List Cond := .code yX8_lose cX8_lose 6 (some .int) :: ([.fieldLink RX8 92 "TidePost$Way" "toLose" "I", .methodLink RX8 88 yX8_wayOf, .instanceMethod yX8_wayOf, .selects RX8 yX8_wayOf yX8_wayOf, .initialized RX8, .code yX8_wayOf cX8_wayOf 3 (some (.object "TidePost$Way")), .classLink RX8 297 "java/lang/IndexOutOfBoundsException", .initialized "java/lang/IndexOutOfBoundsException", .fieldLink RX8 21 "TidePost" "traffic" "LTidePost$Traffic;", .fieldLink RX8 189 "TidePost$Traffic" "ways" "[LTidePost$Way;", .methodLink RX8 74 yX8_checkLink, .instanceMethod yX8_checkLink, .selects RX8 yX8_checkLink yX8_checkLink, .code yX8_checkLink cX8_checkLink 2 none, .fieldLink RX8 12 "TidePost" "net" "LTidePost$Net;", .fieldLink RX8 61 "TidePost$Net" "links" "I", .methodLink RX8 57 yX8_checkRange, .static yX8_checkRange, .code yX8_checkRange cX8_checkRange 3 none, .classLink RX8 52 "java/lang/IllegalArgumentException", .initialized "java/lang/IllegalArgumentException"] ++ wsX70 ++ wsX80 ++ wsX60 ++ wsX30 ++ (vx_atS RX8 301 "java/lang/IndexOutOfBoundsException" ["java/lang/RuntimeException", "java/lang/Exception"]).filter goodWord ++ (vx_atS RX8 56 "java/lang/IllegalArgumentException" ["java/lang/RuntimeException", "java/lang/Exception"]).filter goodWord)
def wsX8_call_r1 : List Cond := [Cond.classLink RX8 52 "java/lang/IllegalArgumentException", Cond.initialized "java/lang/IllegalArgumentException", Cond.classLink RX8 37 "java/lang/IllegalStateException", Cond.initialized "java/lang/IllegalStateException", Cond.fieldLink RX8 21 "TidePost" "traffic" "LTidePost$Traffic;", Cond.fieldLink RX8 99 "TidePost$Traffic" "made" "I", Cond.methodLink RX8 48 yX8_checkNode, Cond.instanceMethod yX8_checkNode, Cond.selects RX8 yX8_checkNode yX8_checkNode, Cond.initialized RX8, Cond.code yX8_checkNode cX8_checkNode 2 none, Cond.classLink RX8 297 "java/lang/IndexOutOfBoundsException", Cond.initialized "java/lang/IndexOutOfBoundsException", Cond.fieldLink RX8 12 "TidePost" "net" "LTidePost$Net;", Cond.fieldLink RX8 33 "TidePost$Net" "nodes" "I", Cond.methodLink RX8 57 yX8_checkRange, Cond.static yX8_checkRange, Cond.code yX8_checkRange cX8_checkRange 3 none, Cond.methodLink RX8 104 yX6_connect, Cond.instanceMethod yX6_connect, Cond.selects RX6 yX6_connect yX6_connect, Cond.initialized RX6, Cond.code yX6_connect cX6_connect 6 (some .int), Cond.fieldLink RX6 29 "TidePost$Traffic" "made" "I"]
def wsX8_call_r2 : List Cond := [Cond.fieldLink RX6 19 "TidePost$Traffic" "all" "[LTidePost$Connection;", Cond.fieldLink RX6 33 "TidePost$Connection" "callerNode" "I", Cond.fieldLink RX6 36 "TidePost$Connection" "calleeNode" "I", Cond.fieldLink RX6 39 "TidePost$Connection" "callee" "LTidePost$Callee;", Cond.fieldLink RX6 43 "TidePost$Callee" "buffer" "I", Cond.fieldLink RX6 48 "TidePost$Connection" "caller" "LTidePost$Caller;", Cond.fieldLink RX6 52 "TidePost$Traffic" "clock" "I", Cond.methodLink RX6 55 yX1_begin, Cond.instanceMethod yX1_begin, Cond.selects RX1 yX1_begin yX1_begin, Cond.initialized RX1, Cond.code yX1_begin cX1_begin 3 none, Cond.fieldLink RX1 18 "TidePost$Caller" "state" "I", Cond.fieldLink RX1 22 "TidePost$Caller" "window" "I", Cond.fieldLink RX1 25 "TidePost$Caller" "threshold" "I", Cond.fieldLink RX1 28 "TidePost$Caller" "room" "I", Cond.fieldLink RX1 31 "TidePost$Caller" "recover" "I", Cond.fieldLink RX1 12 "TidePost$Caller" "timing" "LTidePost$Timing;", Cond.fieldLink RX1 37 "TidePost$Timing" "timeout" "I", Cond.fieldLink RX1 40 "TidePost$Caller" "timer" "I", Cond.methodLink RX1 34 yX5_begin, Cond.instanceMethod yX5_begin, Cond.selects RX5 yX5_begin yX5_begin, Cond.initialized RX5]
def wsX8_call_r3 : List Cond := [Cond.code yX5_begin cX5_begin 1 none, Cond.fieldLink RX5 9 "TidePost$Timing" "round" "I", Cond.fieldLink RX5 15 "TidePost$Timing" "swing" "I", Cond.fieldLink RX5 18 "TidePost$Timing" "timeout" "I", Cond.fieldLink RX5 21 "TidePost$Timing" "measured" "I", Cond.fieldLink RX5 24 "TidePost$Timing" "measuredAt" "I", Cond.methodLink RX6 61 yX6_sendHello, Cond.instanceMethod yX6_sendHello, Cond.selects RX6 yX6_sendHello yX6_sendHello, Cond.code yX6_sendHello cX6_sendHello 4 none, Cond.methodLink RX6 168 yX4_of, Cond.static yX4_of, Cond.initialized RX4, Cond.code yX4_of cX4_of 4 (some .int), Cond.methodLink RX6 111 yX6_send, Cond.instanceMethod yX6_send, Cond.selects RX6 yX6_send yX6_send, Cond.code yX6_send cX6_send 6 none, Cond.fieldLink RX6 23 "TidePost$Traffic" "net" "LTidePost$Net;", Cond.fieldLink RX6 69 "TidePost$Traffic" "lost" "I", Cond.fieldLink RX6 97 "TidePost$Net" "firsts" "[I", Cond.fieldLink RX6 11 "TidePost$Traffic" "ways" "[LTidePost$Way;", Cond.fieldLink RX6 188 "TidePost$Net" "rooms" "[I", Cond.methodLink RX6 181 yX3_linkTowards]
def wsX8_call_r4 : List Cond := [Cond.instanceMethod yX3_linkTowards, Cond.selects RX3 yX3_linkTowards yX3_linkTowards, Cond.initialized RX3, Cond.code yX3_linkTowards cX3_linkTowards 6 (some .int), Cond.fieldLink RX3 30 "TidePost$Net" "distances" "[[I", Cond.fieldLink RX3 43 "TidePost$Net" "links" "I", Cond.fieldLink RX3 24 "TidePost$Net" "up" "[Z", Cond.fieldLink RX3 18 "TidePost$Net" "delays" "[I", Cond.methodLink RX3 46 yX3_farEnd, Cond.instanceMethod yX3_farEnd, Cond.selects RX3 yX3_farEnd yX3_farEnd, Cond.code yX3_farEnd cX3_farEnd 3 (some .int), Cond.fieldLink RX3 9 "TidePost$Net" "firsts" "[I", Cond.fieldLink RX3 15 "TidePost$Net" "seconds" "[I", Cond.methodLink RX6 185 yX4_hopsOf, Cond.static yX4_hopsOf, Cond.code yX4_hopsOf cX4_hopsOf 1 (some .int), Cond.methodLink RX6 191 yX7_join, Cond.instanceMethod yX7_join, Cond.selects RX7 yX7_join yX7_join, Cond.initialized RX7, Cond.code yX7_join cX7_join 3 (some .boolean), Cond.fieldLink RX7 18 "TidePost$Way" "queued" "I", Cond.fieldLink RX7 9 "TidePost$Way" "queue" "[I"]
def wsX8_call_r5 : List Cond := [Cond.fieldLink RX7 22 "TidePost$Way" "head" "I"]
def wsX8_call : List Cond := .code yX8_call cX8_call 4 (some .int) :: ((wsX8_call_r1 ++ (wsX8_call_r2 ++ (wsX8_call_r3 ++ (wsX8_call_r4 ++ wsX8_call_r5)))) ++ wsX80 ++ wsX60 ++ wsX30 ++ wsX20 ++ wsX00 ++ wsX10 ++ wsX50 ++ wsX70 ++ (vx_atS RX8 56 "java/lang/IllegalArgumentException" ["java/lang/RuntimeException", "java/lang/Exception"]).filter goodWord ++ (vx_atS RX8 41 "java/lang/IllegalStateException" ["java/lang/RuntimeException", "java/lang/Exception"]).filter goodWord ++ (vx_atS RX8 301 "java/lang/IndexOutOfBoundsException" ["java/lang/RuntimeException", "java/lang/Exception"]).filter goodWord)
def wsX8_connectionOf : List Cond := .code yX8_connectionOf cX8_connectionOf 2 (some (.object "TidePost$Connection")) :: ([.classLink RX8 297 "java/lang/IndexOutOfBoundsException", .initialized "java/lang/IndexOutOfBoundsException", .fieldLink RX8 21 "TidePost" "traffic" "LTidePost$Traffic;", .fieldLink RX8 99 "TidePost$Traffic" "made" "I", .fieldLink RX8 247 "TidePost$Traffic" "all" "[LTidePost$Connection;"] ++ wsX80 ++ wsX60 ++ (vx_atS RX8 301 "java/lang/IndexOutOfBoundsException" ["java/lang/RuntimeException", "java/lang/Exception"]).filter goodWord)
def wsX8_callerOf : List Cond := .code yX8_callerOf cX8_callerOf 2 (some (.object "TidePost$Caller")) :: ([.fieldLink RX8 251 "TidePost$Connection" "caller" "LTidePost$Caller;", .methodLink RX8 133 yX8_connectionOf, .instanceMethod yX8_connectionOf, .selects RX8 yX8_connectionOf yX8_connectionOf, .initialized RX8, .code yX8_connectionOf cX8_connectionOf 2 (some (.object "TidePost$Connection")), .classLink RX8 297 "java/lang/IndexOutOfBoundsException", .initialized "java/lang/IndexOutOfBoundsException", .fieldLink RX8 21 "TidePost" "traffic" "LTidePost$Traffic;", .fieldLink RX8 99 "TidePost$Traffic" "made" "I", .fieldLink RX8 247 "TidePost$Traffic" "all" "[LTidePost$Connection;"] ++ wsX20 ++ wsX80 ++ wsX60 ++ (vx_atS RX8 301 "java/lang/IndexOutOfBoundsException" ["java/lang/RuntimeException", "java/lang/Exception"]).filter goodWord)
def wsX8_checkTakesThings : List Cond := .code yX8_checkTakesThings cX8_checkTakesThings 1 none :: ([.classLink RX8 37 "java/lang/IllegalStateException", .initialized "java/lang/IllegalStateException", .fieldLink RX8 193 "TidePost$Caller" "state" "I", .fieldLink RX8 123 "TidePost$Caller" "toldToClose" "Z"] ++ wsX10 ++ (vx_atS RX8 41 "java/lang/IllegalStateException" ["java/lang/RuntimeException", "java/lang/Exception"]).filter goodWord)
def wsX8_give_r1 : List Cond := [Cond.classLink RX8 37 "java/lang/IllegalStateException", Cond.initialized "java/lang/IllegalStateException", Cond.fieldLink RX8 116 "TidePost$Caller" "given" "I", Cond.fieldLink RX8 30 "TidePost" "values" "[[I", Cond.methodLink RX8 108 yX8_callerOf, Cond.instanceMethod yX8_callerOf, Cond.selects RX8 yX8_callerOf yX8_callerOf, Cond.initialized RX8, Cond.code yX8_callerOf cX8_callerOf 2 (some (.object "TidePost$Caller")), Cond.fieldLink RX8 251 "TidePost$Connection" "caller" "LTidePost$Caller;", Cond.methodLink RX8 133 yX8_connectionOf, Cond.instanceMethod yX8_connectionOf, Cond.selects RX8 yX8_connectionOf yX8_connectionOf, Cond.code yX8_connectionOf cX8_connectionOf 2 (some (.object "TidePost$Connection")), Cond.classLink RX8 297 "java/lang/IndexOutOfBoundsException", Cond.initialized "java/lang/IndexOutOfBoundsException", Cond.fieldLink RX8 21 "TidePost" "traffic" "LTidePost$Traffic;", Cond.fieldLink RX8 99 "TidePost$Traffic" "made" "I", Cond.fieldLink RX8 247 "TidePost$Traffic" "all" "[LTidePost$Connection;", Cond.methodLink RX8 57 yX8_checkRange, Cond.static yX8_checkRange, Cond.code yX8_checkRange cX8_checkRange 3 none, Cond.classLink RX8 52 "java/lang/IllegalArgumentException", Cond.initialized "java/lang/IllegalArgumentException"]
def wsX8_give_r2 : List Cond := [Cond.methodLink RX8 112 yX8_checkTakesThings, Cond.static yX8_checkTakesThings, Cond.code yX8_checkTakesThings cX8_checkTakesThings 1 none, Cond.fieldLink RX8 193 "TidePost$Caller" "state" "I", Cond.fieldLink RX8 123 "TidePost$Caller" "toldToClose" "Z"]
def wsX8_give : List Cond := .code yX8_give cX8_give 6 (some .int) :: ((wsX8_give_r1 ++ wsX8_give_r2) ++ wsX10 ++ wsX80 ++ wsX20 ++ wsX60 ++ (vx_atS RX8 41 "java/lang/IllegalStateException" ["java/lang/RuntimeException", "java/lang/Exception"]).filter goodWord ++ (vx_atS RX8 301 "java/lang/IndexOutOfBoundsException" ["java/lang/RuntimeException", "java/lang/Exception"]).filter goodWord ++ (vx_atS RX8 56 "java/lang/IllegalArgumentException" ["java/lang/RuntimeException", "java/lang/Exception"]).filter goodWord)
def wsX8_close_r1 : List Cond := [Cond.fieldLink RX8 123 "TidePost$Caller" "toldToClose" "Z", Cond.fieldLink RX8 130 "TidePost$Caller" "base" "I", Cond.methodLink RX8 108 yX8_callerOf, Cond.instanceMethod yX8_callerOf, Cond.selects RX8 yX8_callerOf yX8_callerOf, Cond.initialized RX8, Cond.code yX8_callerOf cX8_callerOf 2 (some (.object "TidePost$Caller")), Cond.fieldLink RX8 251 "TidePost$Connection" "caller" "LTidePost$Caller;", Cond.methodLink RX8 133 yX8_connectionOf, Cond.instanceMethod yX8_connectionOf, Cond.selects RX8 yX8_connectionOf yX8_connectionOf, Cond.code yX8_connectionOf cX8_connectionOf 2 (some (.object "TidePost$Connection")), Cond.classLink RX8 297 "java/lang/IndexOutOfBoundsException", Cond.initialized "java/lang/IndexOutOfBoundsException", Cond.fieldLink RX8 21 "TidePost" "traffic" "LTidePost$Traffic;", Cond.fieldLink RX8 99 "TidePost$Traffic" "made" "I", Cond.fieldLink RX8 247 "TidePost$Traffic" "all" "[LTidePost$Connection;", Cond.methodLink RX8 112 yX8_checkTakesThings, Cond.static yX8_checkTakesThings, Cond.code yX8_checkTakesThings cX8_checkTakesThings 1 none, Cond.classLink RX8 37 "java/lang/IllegalStateException", Cond.initialized "java/lang/IllegalStateException", Cond.fieldLink RX8 193 "TidePost$Caller" "state" "I", Cond.methodLink RX8 127 yX1_things]
def wsX8_close_r2 : List Cond := [Cond.instanceMethod yX1_things, Cond.selects RX1 yX1_things yX1_things, Cond.initialized RX1, Cond.code yX1_things cX1_things 1 (some .int), Cond.fieldLink RX1 43 "TidePost$Caller" "toldToClose" "Z", Cond.fieldLink RX1 47 "TidePost$Caller" "given" "I"]
def wsX8_close : List Cond := .code yX8_close cX8_close 3 (some .int) :: ((wsX8_close_r1 ++ wsX8_close_r2) ++ wsX10 ++ wsX20 ++ wsX80 ++ wsX60 ++ (vx_atS RX8 301 "java/lang/IndexOutOfBoundsException" ["java/lang/RuntimeException", "java/lang/Exception"]).filter goodWord ++ (vx_atS RX8 41 "java/lang/IllegalStateException" ["java/lang/RuntimeException", "java/lang/Exception"]).filter goodWord)
def wsX8_read_r1 : List Cond := [Cond.classLink RX8 37 "java/lang/IllegalStateException", Cond.initialized "java/lang/IllegalStateException", Cond.methodLink RX8 142 Lib.Math.min.name, Cond.static Lib.Math.min.name, Cond.initialized "java/lang/Math", Cond.code Lib.Math.min.name Lib.Math.min.code 2 (some .int), Cond.fieldLink RX8 150 "TidePost$Connection" "callee" "LTidePost$Callee;", Cond.fieldLink RX8 159 "TidePost$Callee" "read" "I", Cond.fieldLink RX8 30 "TidePost" "values" "[[I", Cond.fieldLink RX8 21 "TidePost" "traffic" "LTidePost$Traffic;", Cond.methodLink RX8 133 yX8_connectionOf, Cond.instanceMethod yX8_connectionOf, Cond.selects RX8 yX8_connectionOf yX8_connectionOf, Cond.initialized RX8, Cond.code yX8_connectionOf cX8_connectionOf 2 (some (.object "TidePost$Connection")), Cond.classLink RX8 297 "java/lang/IndexOutOfBoundsException", Cond.initialized "java/lang/IndexOutOfBoundsException", Cond.fieldLink RX8 99 "TidePost$Traffic" "made" "I", Cond.fieldLink RX8 247 "TidePost$Traffic" "all" "[LTidePost$Connection;", Cond.methodLink RX8 57 yX8_checkRange, Cond.static yX8_checkRange, Cond.code yX8_checkRange cX8_checkRange 3 none, Cond.classLink RX8 52 "java/lang/IllegalArgumentException", Cond.initialized "java/lang/IllegalArgumentException"]
def wsX8_read_r2 : List Cond := [Cond.methodLink RX8 137 yX2_unread, Cond.instanceMethod yX2_unread, Cond.selects RX2 yX2_unread yX2_unread, Cond.initialized RX2, Cond.code yX2_unread cX2_unread 1 (some .int), Cond.fieldLink RX2 19 "TidePost$Connection" "callee" "LTidePost$Callee;", Cond.fieldLink RX2 23 "TidePost$Callee" "wanted" "I", Cond.fieldLink RX2 10 "TidePost$Connection" "caller" "LTidePost$Caller;", Cond.fieldLink RX2 27 "TidePost$Caller" "given" "I", Cond.methodLink RX2 30 Lib.Math.min.name, Cond.fieldLink RX2 36 "TidePost$Callee" "read" "I", Cond.methodLink RX8 154 yX0_spare, Cond.instanceMethod yX0_spare, Cond.selects RX0 yX0_spare yX0_spare, Cond.initialized RX0, Cond.code yX0_spare cX0_spare 1 (some .int), Cond.fieldLink RX0 15 "TidePost$Callee" "read" "I", Cond.fieldLink RX0 19 "TidePost$Callee" "buffer" "I", Cond.fieldLink RX0 22 "TidePost$Callee" "wanted" "I", Cond.methodLink RX0 25 Lib.Math.max.name, Cond.static Lib.Math.max.name, Cond.code Lib.Math.max.name Lib.Math.max.code 2 (some .int), Cond.methodLink RX8 162 yX6_sendAnswer, Cond.instanceMethod yX6_sendAnswer]
def wsX8_read_r3 : List Cond := [Cond.selects RX6 yX6_sendAnswer yX6_sendAnswer, Cond.initialized RX6, Cond.code yX6_sendAnswer cX6_sendAnswer 5 none, Cond.fieldLink RX6 19 "TidePost$Traffic" "all" "[LTidePost$Connection;", Cond.fieldLink RX6 39 "TidePost$Connection" "callee" "LTidePost$Callee;", Cond.fieldLink RX6 175 "TidePost$Callee" "wanted" "I", Cond.fieldLink RX6 36 "TidePost$Connection" "calleeNode" "I", Cond.fieldLink RX6 33 "TidePost$Connection" "callerNode" "I", Cond.methodLink RX6 178 yX0_spare, Cond.methodLink RX6 168 yX4_of, Cond.static yX4_of, Cond.initialized RX4, Cond.code yX4_of cX4_of 4 (some .int), Cond.methodLink RX6 111 yX6_send, Cond.instanceMethod yX6_send, Cond.selects RX6 yX6_send yX6_send, Cond.code yX6_send cX6_send 6 none, Cond.fieldLink RX6 23 "TidePost$Traffic" "net" "LTidePost$Net;", Cond.fieldLink RX6 69 "TidePost$Traffic" "lost" "I", Cond.fieldLink RX6 97 "TidePost$Net" "firsts" "[I", Cond.fieldLink RX6 11 "TidePost$Traffic" "ways" "[LTidePost$Way;", Cond.fieldLink RX6 188 "TidePost$Net" "rooms" "[I", Cond.methodLink RX6 181 yX3_linkTowards, Cond.instanceMethod yX3_linkTowards]
def wsX8_read_r4 : List Cond := [Cond.selects RX3 yX3_linkTowards yX3_linkTowards, Cond.initialized RX3, Cond.code yX3_linkTowards cX3_linkTowards 6 (some .int), Cond.fieldLink RX3 30 "TidePost$Net" "distances" "[[I", Cond.fieldLink RX3 43 "TidePost$Net" "links" "I", Cond.fieldLink RX3 24 "TidePost$Net" "up" "[Z", Cond.fieldLink RX3 18 "TidePost$Net" "delays" "[I", Cond.methodLink RX3 46 yX3_farEnd, Cond.instanceMethod yX3_farEnd, Cond.selects RX3 yX3_farEnd yX3_farEnd, Cond.code yX3_farEnd cX3_farEnd 3 (some .int), Cond.fieldLink RX3 9 "TidePost$Net" "firsts" "[I", Cond.fieldLink RX3 15 "TidePost$Net" "seconds" "[I", Cond.methodLink RX6 185 yX4_hopsOf, Cond.static yX4_hopsOf, Cond.code yX4_hopsOf cX4_hopsOf 1 (some .int), Cond.methodLink RX6 191 yX7_join, Cond.instanceMethod yX7_join, Cond.selects RX7 yX7_join yX7_join, Cond.initialized RX7, Cond.code yX7_join cX7_join 3 (some .boolean), Cond.fieldLink RX7 18 "TidePost$Way" "queued" "I", Cond.fieldLink RX7 9 "TidePost$Way" "queue" "[I", Cond.fieldLink RX7 22 "TidePost$Way" "head" "I"]
def wsX8_read : List Cond := .code yX8_read cX8_read 9 (some .int) :: ((wsX8_read_r1 ++ (wsX8_read_r2 ++ (wsX8_read_r3 ++ wsX8_read_r4))) ++ wsX20 ++ wsX00 ++ wsX80 ++ wsX60 ++ wsX10 ++ wsX30 ++ wsX70 ++ (vx_atS RX8 41 "java/lang/IllegalStateException" ["java/lang/RuntimeException", "java/lang/Exception"]).filter goodWord ++ (vx_atS RX8 301 "java/lang/IndexOutOfBoundsException" ["java/lang/RuntimeException", "java/lang/Exception"]).filter goodWord ++ (vx_atS RX8 56 "java/lang/IllegalArgumentException" ["java/lang/RuntimeException", "java/lang/Exception"]).filter goodWord)
def wsX8_pass_r1 : List Cond := [Cond.fieldLink RX8 21 "TidePost" "traffic" "LTidePost$Traffic;", Cond.fieldLink RX8 168 "TidePost$Traffic" "clock" "I", Cond.methodLink RX8 57 yX8_checkRange, Cond.static yX8_checkRange, Cond.initialized RX8, Cond.code yX8_checkRange cX8_checkRange 3 none, Cond.classLink RX8 52 "java/lang/IllegalArgumentException", Cond.initialized "java/lang/IllegalArgumentException", Cond.methodLink RX8 165 yX6_tick, Cond.instanceMethod yX6_tick, Cond.selects RX6 yX6_tick yX6_tick, Cond.initialized RX6, Cond.code yX6_tick cX6_tick 1 none, Cond.fieldLink RX6 52 "TidePost$Traffic" "clock" "I", Cond.methodLink RX6 72 yX6_letArrive, Cond.instanceMethod yX6_letArrive, Cond.selects RX6 yX6_letArrive yX6_letArrive, Cond.code yX6_letArrive cX6_letArrive 4 none, Cond.fieldLink RX6 23 "TidePost$Traffic" "net" "LTidePost$Net;", Cond.fieldLink RX6 84 "TidePost$Net" "links" "I", Cond.fieldLink RX6 11 "TidePost$Traffic" "ways" "[LTidePost$Way;", Cond.fieldLink RX6 93 "TidePost$Net" "seconds" "[I", Cond.fieldLink RX6 97 "TidePost$Net" "firsts" "[I", Cond.methodLink RX6 89 yX7_land]
def wsX8_pass_r2 : List Cond := [Cond.instanceMethod yX7_land, Cond.selects RX7 yX7_land yX7_land, Cond.initialized RX7, Cond.code yX7_land cX7_land 4 (some .int), Cond.fieldLink RX7 15 "TidePost$Way" "flight" "[I", Cond.fieldLink RX7 37 "TidePost$Way" "flying" "I", Cond.methodLink RX7 28 yJ9_floorMod_7cf53, Cond.static yJ9_floorMod_7cf53, Cond.initialized RJ9, Cond.code yJ9_floorMod_7cf53 cJ9_floorMod_7cf53 3 (some .int), Cond.methodLink RX6 100 yX6_arrive, Cond.instanceMethod yX6_arrive, Cond.selects RX6 yX6_arrive yX6_arrive, Cond.code yX6_arrive cX6_arrive 8 none, Cond.fieldLink RX6 29 "TidePost$Traffic" "made" "I", Cond.fieldLink RX6 19 "TidePost$Traffic" "all" "[LTidePost$Connection;", Cond.fieldLink RX6 33 "TidePost$Connection" "callerNode" "I", Cond.fieldLink RX6 36 "TidePost$Connection" "calleeNode" "I", Cond.fieldLink RX6 48 "TidePost$Connection" "caller" "LTidePost$Caller;", Cond.fieldLink RX6 69 "TidePost$Traffic" "lost" "I", Cond.fieldLink RX6 39 "TidePost$Connection" "callee" "LTidePost$Callee;", Cond.methodLink RX6 103 yX4_connectionOf, Cond.static yX4_connectionOf, Cond.initialized RX4]
def wsX8_pass_r3 : List Cond := [Cond.code yX4_connectionOf cX4_connectionOf 1 (some .int), Cond.methodLink RX6 108 yX4_kindOf, Cond.static yX4_kindOf, Cond.code yX4_kindOf cX4_kindOf 1 (some .int), Cond.methodLink RX6 111 yX6_send, Cond.instanceMethod yX6_send, Cond.selects RX6 yX6_send yX6_send, Cond.code yX6_send cX6_send 6 none, Cond.fieldLink RX6 188 "TidePost$Net" "rooms" "[I", Cond.methodLink RX6 181 yX3_linkTowards, Cond.instanceMethod yX3_linkTowards, Cond.selects RX3 yX3_linkTowards yX3_linkTowards, Cond.initialized RX3, Cond.code yX3_linkTowards cX3_linkTowards 6 (some .int), Cond.fieldLink RX3 30 "TidePost$Net" "distances" "[[I", Cond.fieldLink RX3 43 "TidePost$Net" "links" "I", Cond.fieldLink RX3 24 "TidePost$Net" "up" "[Z", Cond.fieldLink RX3 18 "TidePost$Net" "delays" "[I", Cond.methodLink RX3 46 yX3_farEnd, Cond.instanceMethod yX3_farEnd, Cond.selects RX3 yX3_farEnd yX3_farEnd, Cond.code yX3_farEnd cX3_farEnd 3 (some .int), Cond.fieldLink RX3 9 "TidePost$Net" "firsts" "[I", Cond.fieldLink RX3 15 "TidePost$Net" "seconds" "[I"]
def wsX8_pass_r4 : List Cond := [Cond.methodLink RX6 185 yX4_hopsOf, Cond.static yX4_hopsOf, Cond.code yX4_hopsOf cX4_hopsOf 1 (some .int), Cond.methodLink RX6 191 yX7_join, Cond.instanceMethod yX7_join, Cond.selects RX7 yX7_join yX7_join, Cond.code yX7_join cX7_join 3 (some .boolean), Cond.fieldLink RX7 18 "TidePost$Way" "queued" "I", Cond.fieldLink RX7 9 "TidePost$Way" "queue" "[I", Cond.fieldLink RX7 22 "TidePost$Way" "head" "I", Cond.methodLink RX6 115 yX4_numberOf, Cond.static yX4_numberOf, Cond.code yX4_numberOf cX4_numberOf 1 (some .int), Cond.methodLink RX6 118 yX4_roomOf, Cond.static yX4_roomOf, Cond.code yX4_roomOf cX4_roomOf 1 (some .int), Cond.methodLink RX6 121 yX1_takeAnswer, Cond.instanceMethod yX1_takeAnswer, Cond.selects RX1 yX1_takeAnswer yX1_takeAnswer, Cond.initialized RX1, Cond.code yX1_takeAnswer cX1_takeAnswer 4 (some .boolean), Cond.fieldLink RX1 18 "TidePost$Caller" "state" "I", Cond.fieldLink RX1 64 "TidePost$Caller" "tries" "I", Cond.fieldLink RX1 40 "TidePost$Caller" "timer" "I"]
def wsX8_pass_r5 : List Cond := [Cond.fieldLink RX1 53 "TidePost$Caller" "base" "I", Cond.fieldLink RX1 50 "TidePost$Caller" "next" "I", Cond.fieldLink RX1 28 "TidePost$Caller" "room" "I", Cond.methodLink RX1 67 yX1_advance, Cond.instanceMethod yX1_advance, Cond.selects RX1 yX1_advance yX1_advance, Cond.code yX1_advance cX1_advance 5 (some .boolean), Cond.fieldLink RX1 12 "TidePost$Caller" "timing" "LTidePost$Timing;", Cond.fieldLink RX1 78 "TidePost$Caller" "like" "I", Cond.fieldLink RX1 31 "TidePost$Caller" "recover" "I", Cond.fieldLink RX1 37 "TidePost$Timing" "timeout" "I", Cond.fieldLink RX1 47 "TidePost$Caller" "given" "I", Cond.methodLink RX1 75 yX5_answered, Cond.instanceMethod yX5_answered, Cond.selects RX5 yX5_answered yX5_answered, Cond.initialized RX5, Cond.code yX5_answered cX5_answered 5 none, Cond.fieldLink RX5 21 "TidePost$Timing" "measured" "I", Cond.fieldLink RX5 24 "TidePost$Timing" "measuredAt" "I", Cond.fieldLink RX5 9 "TidePost$Timing" "round" "I", Cond.fieldLink RX5 15 "TidePost$Timing" "swing" "I", Cond.methodLink RX5 27 Lib.Math.abs.name, Cond.static Lib.Math.abs.name, Cond.initialized "java/lang/Math"]
def wsX8_pass_r6 : List Cond := [Cond.code Lib.Math.abs.name Lib.Math.abs.code 1 (some .int), Cond.methodLink RX5 33 Lib.Math.max.name, Cond.static Lib.Math.max.name, Cond.code Lib.Math.max.name Lib.Math.max.code 2 (some .int), Cond.methodLink RX5 37 Lib.Math.min.name, Cond.static Lib.Math.min.name, Cond.code Lib.Math.min.name Lib.Math.min.code 2 (some .int), Cond.fieldLink RX5 18 "TidePost$Timing" "timeout" "I", Cond.methodLink RX1 81 yX1_growWindow, Cond.instanceMethod yX1_growWindow, Cond.selects RX1 yX1_growWindow yX1_growWindow, Cond.code yX1_growWindow cX1_growWindow 2 none, Cond.fieldLink RX1 22 "TidePost$Caller" "window" "I", Cond.fieldLink RX1 25 "TidePost$Caller" "threshold" "I", Cond.methodLink RX1 84 Lib.Math.max.name, Cond.methodLink RX1 90 Lib.Math.min.name, Cond.methodLink RX1 71 yX1_repeated, Cond.instanceMethod yX1_repeated, Cond.selects RX1 yX1_repeated yX1_repeated, Cond.code yX1_repeated cX1_repeated 2 (some .boolean), Cond.methodLink RX1 93 yX1_startRecovery, Cond.instanceMethod yX1_startRecovery, Cond.selects RX1 yX1_startRecovery yX1_startRecovery, Cond.code yX1_startRecovery cX1_startRecovery 1 none]
def wsX8_pass_r7 : List Cond := [Cond.methodLink RX6 125 yX1_baseAgain, Cond.instanceMethod yX1_baseAgain, Cond.selects RX1 yX1_baseAgain yX1_baseAgain, Cond.code yX1_baseAgain cX1_baseAgain 1 (some .int), Cond.fieldLink RX1 99 "TidePost$Caller" "sentAgain" "I", Cond.methodLink RX1 102 yX5_sentTwice, Cond.instanceMethod yX5_sentTwice, Cond.selects RX5 yX5_sentTwice yX5_sentTwice, Cond.code yX5_sentTwice cX5_sentTwice 2 none, Cond.methodLink RX6 128 yX6_sendThing, Cond.instanceMethod yX6_sendThing, Cond.selects RX6 yX6_sendThing yX6_sendThing, Cond.code yX6_sendThing cX6_sendThing 6 none, Cond.fieldLink RX6 172 "TidePost$Caller" "given" "I", Cond.methodLink RX6 168 yX4_of, Cond.static yX4_of, Cond.code yX4_of cX4_of 4 (some .int), Cond.methodLink RX6 131 yX0_take, Cond.instanceMethod yX0_take, Cond.selects RX0 yX0_take yX0_take, Cond.initialized RX0, Cond.code yX0_take cX0_take 3 (some .boolean), Cond.fieldLink RX0 22 "TidePost$Callee" "wanted" "I", Cond.fieldLink RX0 9 "TidePost$Callee" "held" "[Z"]
def wsX8_pass_r8 : List Cond := [Cond.fieldLink RX0 15 "TidePost$Callee" "read" "I", Cond.fieldLink RX0 19 "TidePost$Callee" "buffer" "I", Cond.methodLink RX6 135 yX6_sendAnswer, Cond.instanceMethod yX6_sendAnswer, Cond.selects RX6 yX6_sendAnswer yX6_sendAnswer, Cond.code yX6_sendAnswer cX6_sendAnswer 5 none, Cond.fieldLink RX6 175 "TidePost$Callee" "wanted" "I", Cond.methodLink RX6 178 yX0_spare, Cond.instanceMethod yX0_spare, Cond.selects RX0 yX0_spare yX0_spare, Cond.code yX0_spare cX0_spare 1 (some .int), Cond.methodLink RX0 25 Lib.Math.max.name, Cond.methodLink RX6 75 yX6_letTimersRunOut, Cond.instanceMethod yX6_letTimersRunOut, Cond.selects RX6 yX6_letTimersRunOut yX6_letTimersRunOut, Cond.code yX6_letTimersRunOut cX6_letTimersRunOut 3 none, Cond.fieldLink RX6 138 "TidePost$Caller" "timer" "I", Cond.fieldLink RX6 145 "TidePost$Caller" "state" "I", Cond.methodLink RX6 141 yX1_runOut, Cond.instanceMethod yX1_runOut, Cond.selects RX1 yX1_runOut yX1_runOut, Cond.code yX1_runOut cX1_runOut 2 (some .boolean), Cond.methodLink RX1 96 yX5_backOff, Cond.instanceMethod yX5_backOff]
def wsX8_pass_r9 : List Cond := [Cond.selects RX5 yX5_backOff yX5_backOff, Cond.code yX5_backOff cX5_backOff 1 none, Cond.methodLink RX6 61 yX6_sendHello, Cond.instanceMethod yX6_sendHello, Cond.selects RX6 yX6_sendHello yX6_sendHello, Cond.code yX6_sendHello cX6_sendHello 4 none, Cond.methodLink RX6 78 yX6_letCallersSend, Cond.instanceMethod yX6_letCallersSend, Cond.selects RX6 yX6_letCallersSend yX6_letCallersSend, Cond.code yX6_letCallersSend cX6_letCallersSend 4 none, Cond.fieldLink RX6 152 "TidePost$Caller" "next" "I", Cond.methodLink RX6 148 yX1_maySend, Cond.instanceMethod yX1_maySend, Cond.selects RX1 yX1_maySend yX1_maySend, Cond.code yX1_maySend cX1_maySend 3 (some .boolean), Cond.methodLink RX1 56 yX1_things, Cond.instanceMethod yX1_things, Cond.selects RX1 yX1_things yX1_things, Cond.code yX1_things cX1_things 1 (some .int), Cond.fieldLink RX1 43 "TidePost$Caller" "toldToClose" "Z", Cond.methodLink RX6 155 yX1_sent, Cond.instanceMethod yX1_sent, Cond.selects RX1 yX1_sent yX1_sent, Cond.code yX1_sent cX1_sent 2 none]
def wsX8_pass_r10 : List Cond := [Cond.methodLink RX1 60 yX5_sent, Cond.instanceMethod yX5_sent, Cond.selects RX5 yX5_sent yX5_sent, Cond.code yX5_sent cX5_sent 3 none, Cond.methodLink RX6 81 yX6_letTakeOff, Cond.instanceMethod yX6_letTakeOff, Cond.selects RX6 yX6_letTakeOff yX6_letTakeOff, Cond.code yX6_letTakeOff cX6_letTakeOff 3 none, Cond.fieldLink RX6 158 "TidePost$Net" "up" "[Z", Cond.fieldLink RX6 162 "TidePost$Net" "delays" "[I", Cond.methodLink RX6 165 yX7_takeOff, Cond.instanceMethod yX7_takeOff, Cond.selects RX7 yX7_takeOff yX7_takeOff, Cond.code yX7_takeOff cX7_takeOff 3 (some .boolean), Cond.fieldLink RX7 25 "TidePost$Way" "toLose" "I", Cond.constant RX7 36 (262144), Cond.fieldLink RX7 40 "TidePost$Way" "flown" "I"]
def wsX8_pass : List Cond := .code yX8_pass cX8_pass 3 (some .int) :: ((wsX8_pass_r1 ++ (wsX8_pass_r2 ++ (wsX8_pass_r3 ++ (wsX8_pass_r4 ++ (wsX8_pass_r5 ++ (wsX8_pass_r6 ++ (wsX8_pass_r7 ++ (wsX8_pass_r8 ++ (wsX8_pass_r9 ++ wsX8_pass_r10))))))))) ++ wsX80 ++ wsX60 ++ wsX30 ++ wsX70 ++ wsX20 ++ wsX10 ++ wsX50 ++ wsX00 ++ (vx_atS RX8 56 "java/lang/IllegalArgumentException" ["java/lang/RuntimeException", "java/lang/Exception"]).filter goodWord)
def wsX8_clock : List Cond := .code yX8_clock cX8_clock 1 (some .int) :: ([.fieldLink RX8 21 "TidePost" "traffic" "LTidePost$Traffic;", .fieldLink RX8 168 "TidePost$Traffic" "clock" "I"] ++ wsX80 ++ wsX60)
def wsX8_nodes : List Cond := .code yX8_nodes cX8_nodes 1 (some .int) :: ([.fieldLink RX8 12 "TidePost" "net" "LTidePost$Net;", .fieldLink RX8 33 "TidePost$Net" "nodes" "I"] ++ wsX80 ++ wsX30)
def wsX8_links : List Cond := .code yX8_links cX8_links 1 (some .int) :: ([.fieldLink RX8 12 "TidePost" "net" "LTidePost$Net;", .fieldLink RX8 61 "TidePost$Net" "links" "I"] ++ wsX80 ++ wsX30)
def wsX8_isUp : List Cond := .code yX8_isUp cX8_isUp 2 (some .boolean) :: ([.fieldLink RX8 12 "TidePost" "net" "LTidePost$Net;", .fieldLink RX8 80 "TidePost$Net" "up" "[Z", .methodLink RX8 74 yX8_checkLink, .instanceMethod yX8_checkLink, .selects RX8 yX8_checkLink yX8_checkLink, .initialized RX8, .code yX8_checkLink cX8_checkLink 2 none, .classLink RX8 297 "java/lang/IndexOutOfBoundsException", .initialized "java/lang/IndexOutOfBoundsException", .fieldLink RX8 61 "TidePost$Net" "links" "I"] ++ wsX80 ++ wsX30 ++ (vx_atS RX8 301 "java/lang/IndexOutOfBoundsException" ["java/lang/RuntimeException", "java/lang/Exception"]).filter goodWord)
def wsX8_distance : List Cond := .code yX8_distance cX8_distance 3 (some .int) :: ([.fieldLink RX8 12 "TidePost" "net" "LTidePost$Net;", .fieldLink RX8 171 "TidePost$Net" "distances" "[[I", .methodLink RX8 48 yX8_checkNode, .instanceMethod yX8_checkNode, .selects RX8 yX8_checkNode yX8_checkNode, .initialized RX8, .code yX8_checkNode cX8_checkNode 2 none, .classLink RX8 297 "java/lang/IndexOutOfBoundsException", .initialized "java/lang/IndexOutOfBoundsException", .fieldLink RX8 33 "TidePost$Net" "nodes" "I"] ++ wsX80 ++ wsX30 ++ (vx_atS RX8 301 "java/lang/IndexOutOfBoundsException" ["java/lang/RuntimeException", "java/lang/Exception"]).filter goodWord)
def wsX8_nextLink : List Cond := .code yX8_nextLink cX8_nextLink 3 (some .int) :: ([.fieldLink RX8 12 "TidePost" "net" "LTidePost$Net;", .methodLink RX8 48 yX8_checkNode, .instanceMethod yX8_checkNode, .selects RX8 yX8_checkNode yX8_checkNode, .initialized RX8, .code yX8_checkNode cX8_checkNode 2 none, .classLink RX8 297 "java/lang/IndexOutOfBoundsException", .initialized "java/lang/IndexOutOfBoundsException", .fieldLink RX8 33 "TidePost$Net" "nodes" "I", .methodLink RX8 174 yX3_linkTowards, .instanceMethod yX3_linkTowards, .selects RX3 yX3_linkTowards yX3_linkTowards, .initialized RX3, .code yX3_linkTowards cX3_linkTowards 6 (some .int), .fieldLink RX3 30 "TidePost$Net" "distances" "[[I", .fieldLink RX3 43 "TidePost$Net" "links" "I", .fieldLink RX3 24 "TidePost$Net" "up" "[Z", .fieldLink RX3 18 "TidePost$Net" "delays" "[I", .methodLink RX3 46 yX3_farEnd, .instanceMethod yX3_farEnd, .selects RX3 yX3_farEnd yX3_farEnd, .code yX3_farEnd cX3_farEnd 3 (some .int), .fieldLink RX3 9 "TidePost$Net" "firsts" "[I", .fieldLink RX3 15 "TidePost$Net" "seconds" "[I"] ++ wsX80 ++ wsX30 ++ (vx_atS RX8 301 "java/lang/IndexOutOfBoundsException" ["java/lang/RuntimeException", "java/lang/Exception"]).filter goodWord)
def wsX8_queued : List Cond := .code yX8_queued cX8_queued 3 (some .int) :: ([.fieldLink RX8 177 "TidePost$Way" "queued" "I", .methodLink RX8 88 yX8_wayOf, .instanceMethod yX8_wayOf, .selects RX8 yX8_wayOf yX8_wayOf, .initialized RX8, .code yX8_wayOf cX8_wayOf 3 (some (.object "TidePost$Way")), .classLink RX8 297 "java/lang/IndexOutOfBoundsException", .initialized "java/lang/IndexOutOfBoundsException", .fieldLink RX8 21 "TidePost" "traffic" "LTidePost$Traffic;", .fieldLink RX8 189 "TidePost$Traffic" "ways" "[LTidePost$Way;", .methodLink RX8 74 yX8_checkLink, .instanceMethod yX8_checkLink, .selects RX8 yX8_checkLink yX8_checkLink, .code yX8_checkLink cX8_checkLink 2 none, .fieldLink RX8 12 "TidePost" "net" "LTidePost$Net;", .fieldLink RX8 61 "TidePost$Net" "links" "I"] ++ wsX70 ++ wsX80 ++ wsX60 ++ wsX30 ++ (vx_atS RX8 301 "java/lang/IndexOutOfBoundsException" ["java/lang/RuntimeException", "java/lang/Exception"]).filter goodWord)
def wsX8_flying : List Cond := .code yX8_flying cX8_flying 3 (some .int) :: ([.fieldLink RX8 180 "TidePost$Way" "flying" "I", .methodLink RX8 88 yX8_wayOf, .instanceMethod yX8_wayOf, .selects RX8 yX8_wayOf yX8_wayOf, .initialized RX8, .code yX8_wayOf cX8_wayOf 3 (some (.object "TidePost$Way")), .classLink RX8 297 "java/lang/IndexOutOfBoundsException", .initialized "java/lang/IndexOutOfBoundsException", .fieldLink RX8 21 "TidePost" "traffic" "LTidePost$Traffic;", .fieldLink RX8 189 "TidePost$Traffic" "ways" "[LTidePost$Way;", .methodLink RX8 74 yX8_checkLink, .instanceMethod yX8_checkLink, .selects RX8 yX8_checkLink yX8_checkLink, .code yX8_checkLink cX8_checkLink 2 none, .fieldLink RX8 12 "TidePost" "net" "LTidePost$Net;", .fieldLink RX8 61 "TidePost$Net" "links" "I"] ++ wsX70 ++ wsX80 ++ wsX60 ++ wsX30 ++ (vx_atS RX8 301 "java/lang/IndexOutOfBoundsException" ["java/lang/RuntimeException", "java/lang/Exception"]).filter goodWord)
def wsX8_lost : List Cond := .code yX8_lost cX8_lost 1 (some .int) :: ([.fieldLink RX8 21 "TidePost" "traffic" "LTidePost$Traffic;", .fieldLink RX8 186 "TidePost$Traffic" "lost" "I"] ++ wsX80 ++ wsX60)
def wsX8_underWay : List Cond := .code yX8_underWay cX8_underWay 3 (some .int) :: ([.fieldLink RX8 12 "TidePost" "net" "LTidePost$Net;", .fieldLink RX8 61 "TidePost$Net" "links" "I", .fieldLink RX8 21 "TidePost" "traffic" "LTidePost$Traffic;", .fieldLink RX8 189 "TidePost$Traffic" "ways" "[LTidePost$Way;", .fieldLink RX8 177 "TidePost$Way" "queued" "I", .fieldLink RX8 180 "TidePost$Way" "flying" "I"] ++ wsX80 ++ wsX30 ++ wsX60 ++ wsX70)
def wsX8_connections : List Cond := .code yX8_connections cX8_connections 1 (some .int) :: ([.fieldLink RX8 21 "TidePost" "traffic" "LTidePost$Traffic;", .fieldLink RX8 99 "TidePost$Traffic" "made" "I"] ++ wsX80 ++ wsX60)
def wsX8_stateOf : List Cond := .code yX8_stateOf cX8_stateOf 2 (some .int) :: ([.fieldLink RX8 193 "TidePost$Caller" "state" "I", .methodLink RX8 108 yX8_callerOf, .instanceMethod yX8_callerOf, .selects RX8 yX8_callerOf yX8_callerOf, .initialized RX8, .code yX8_callerOf cX8_callerOf 2 (some (.object "TidePost$Caller")), .fieldLink RX8 251 "TidePost$Connection" "caller" "LTidePost$Caller;", .methodLink RX8 133 yX8_connectionOf, .instanceMethod yX8_connectionOf, .selects RX8 yX8_connectionOf yX8_connectionOf, .code yX8_connectionOf cX8_connectionOf 2 (some (.object "TidePost$Connection")), .classLink RX8 297 "java/lang/IndexOutOfBoundsException", .initialized "java/lang/IndexOutOfBoundsException", .fieldLink RX8 21 "TidePost" "traffic" "LTidePost$Traffic;", .fieldLink RX8 99 "TidePost$Traffic" "made" "I", .fieldLink RX8 247 "TidePost$Traffic" "all" "[LTidePost$Connection;"] ++ wsX10 ++ wsX20 ++ wsX80 ++ wsX60 ++ (vx_atS RX8 301 "java/lang/IndexOutOfBoundsException" ["java/lang/RuntimeException", "java/lang/Exception"]).filter goodWord)
def wsX8_given : List Cond := .code yX8_given cX8_given 2 (some .int) :: ([.fieldLink RX8 116 "TidePost$Caller" "given" "I", .methodLink RX8 108 yX8_callerOf, .instanceMethod yX8_callerOf, .selects RX8 yX8_callerOf yX8_callerOf, .initialized RX8, .code yX8_callerOf cX8_callerOf 2 (some (.object "TidePost$Caller")), .fieldLink RX8 251 "TidePost$Connection" "caller" "LTidePost$Caller;", .methodLink RX8 133 yX8_connectionOf, .instanceMethod yX8_connectionOf, .selects RX8 yX8_connectionOf yX8_connectionOf, .code yX8_connectionOf cX8_connectionOf 2 (some (.object "TidePost$Connection")), .classLink RX8 297 "java/lang/IndexOutOfBoundsException", .initialized "java/lang/IndexOutOfBoundsException", .fieldLink RX8 21 "TidePost" "traffic" "LTidePost$Traffic;", .fieldLink RX8 99 "TidePost$Traffic" "made" "I", .fieldLink RX8 247 "TidePost$Traffic" "all" "[LTidePost$Connection;"] ++ wsX10 ++ wsX20 ++ wsX80 ++ wsX60 ++ (vx_atS RX8 301 "java/lang/IndexOutOfBoundsException" ["java/lang/RuntimeException", "java/lang/Exception"]).filter goodWord)
def wsX8_base : List Cond := .code yX8_base cX8_base 2 (some .int) :: ([.fieldLink RX8 130 "TidePost$Caller" "base" "I", .methodLink RX8 108 yX8_callerOf, .instanceMethod yX8_callerOf, .selects RX8 yX8_callerOf yX8_callerOf, .initialized RX8, .code yX8_callerOf cX8_callerOf 2 (some (.object "TidePost$Caller")), .fieldLink RX8 251 "TidePost$Connection" "caller" "LTidePost$Caller;", .methodLink RX8 133 yX8_connectionOf, .instanceMethod yX8_connectionOf, .selects RX8 yX8_connectionOf yX8_connectionOf, .code yX8_connectionOf cX8_connectionOf 2 (some (.object "TidePost$Connection")), .classLink RX8 297 "java/lang/IndexOutOfBoundsException", .initialized "java/lang/IndexOutOfBoundsException", .fieldLink RX8 21 "TidePost" "traffic" "LTidePost$Traffic;", .fieldLink RX8 99 "TidePost$Traffic" "made" "I", .fieldLink RX8 247 "TidePost$Traffic" "all" "[LTidePost$Connection;"] ++ wsX10 ++ wsX20 ++ wsX80 ++ wsX60 ++ (vx_atS RX8 301 "java/lang/IndexOutOfBoundsException" ["java/lang/RuntimeException", "java/lang/Exception"]).filter goodWord)
def wsX8_next : List Cond := .code yX8_next cX8_next 2 (some .int) :: ([.fieldLink RX8 196 "TidePost$Caller" "next" "I", .methodLink RX8 108 yX8_callerOf, .instanceMethod yX8_callerOf, .selects RX8 yX8_callerOf yX8_callerOf, .initialized RX8, .code yX8_callerOf cX8_callerOf 2 (some (.object "TidePost$Caller")), .fieldLink RX8 251 "TidePost$Connection" "caller" "LTidePost$Caller;", .methodLink RX8 133 yX8_connectionOf, .instanceMethod yX8_connectionOf, .selects RX8 yX8_connectionOf yX8_connectionOf, .code yX8_connectionOf cX8_connectionOf 2 (some (.object "TidePost$Connection")), .classLink RX8 297 "java/lang/IndexOutOfBoundsException", .initialized "java/lang/IndexOutOfBoundsException", .fieldLink RX8 21 "TidePost" "traffic" "LTidePost$Traffic;", .fieldLink RX8 99 "TidePost$Traffic" "made" "I", .fieldLink RX8 247 "TidePost$Traffic" "all" "[LTidePost$Connection;"] ++ wsX10 ++ wsX20 ++ wsX80 ++ wsX60 ++ (vx_atS RX8 301 "java/lang/IndexOutOfBoundsException" ["java/lang/RuntimeException", "java/lang/Exception"]).filter goodWord)
def wsX8_window : List Cond := .code yX8_window cX8_window 2 (some .int) :: ([.fieldLink RX8 199 "TidePost$Caller" "window" "I", .methodLink RX8 108 yX8_callerOf, .instanceMethod yX8_callerOf, .selects RX8 yX8_callerOf yX8_callerOf, .initialized RX8, .code yX8_callerOf cX8_callerOf 2 (some (.object "TidePost$Caller")), .fieldLink RX8 251 "TidePost$Connection" "caller" "LTidePost$Caller;", .methodLink RX8 133 yX8_connectionOf, .instanceMethod yX8_connectionOf, .selects RX8 yX8_connectionOf yX8_connectionOf, .code yX8_connectionOf cX8_connectionOf 2 (some (.object "TidePost$Connection")), .classLink RX8 297 "java/lang/IndexOutOfBoundsException", .initialized "java/lang/IndexOutOfBoundsException", .fieldLink RX8 21 "TidePost" "traffic" "LTidePost$Traffic;", .fieldLink RX8 99 "TidePost$Traffic" "made" "I", .fieldLink RX8 247 "TidePost$Traffic" "all" "[LTidePost$Connection;"] ++ wsX10 ++ wsX20 ++ wsX80 ++ wsX60 ++ (vx_atS RX8 301 "java/lang/IndexOutOfBoundsException" ["java/lang/RuntimeException", "java/lang/Exception"]).filter goodWord)
def wsX8_recover : List Cond := .code yX8_recover cX8_recover 2 (some .int) :: ([.fieldLink RX8 211 "TidePost$Caller" "recover" "I", .methodLink RX8 108 yX8_callerOf, .instanceMethod yX8_callerOf, .selects RX8 yX8_callerOf yX8_callerOf, .initialized RX8, .code yX8_callerOf cX8_callerOf 2 (some (.object "TidePost$Caller")), .fieldLink RX8 251 "TidePost$Connection" "caller" "LTidePost$Caller;", .methodLink RX8 133 yX8_connectionOf, .instanceMethod yX8_connectionOf, .selects RX8 yX8_connectionOf yX8_connectionOf, .code yX8_connectionOf cX8_connectionOf 2 (some (.object "TidePost$Connection")), .classLink RX8 297 "java/lang/IndexOutOfBoundsException", .initialized "java/lang/IndexOutOfBoundsException", .fieldLink RX8 21 "TidePost" "traffic" "LTidePost$Traffic;", .fieldLink RX8 99 "TidePost$Traffic" "made" "I", .fieldLink RX8 247 "TidePost$Traffic" "all" "[LTidePost$Connection;"] ++ wsX10 ++ wsX20 ++ wsX80 ++ wsX60 ++ (vx_atS RX8 301 "java/lang/IndexOutOfBoundsException" ["java/lang/RuntimeException", "java/lang/Exception"]).filter goodWord)
def wsX8_timeout : List Cond := .code yX8_timeout cX8_timeout 2 (some .int) :: ([.fieldLink RX8 214 "TidePost$Caller" "timing" "LTidePost$Timing;", .fieldLink RX8 226 "TidePost$Timing" "timeout" "I", .methodLink RX8 108 yX8_callerOf, .instanceMethod yX8_callerOf, .selects RX8 yX8_callerOf yX8_callerOf, .initialized RX8, .code yX8_callerOf cX8_callerOf 2 (some (.object "TidePost$Caller")), .fieldLink RX8 251 "TidePost$Connection" "caller" "LTidePost$Caller;", .methodLink RX8 133 yX8_connectionOf, .instanceMethod yX8_connectionOf, .selects RX8 yX8_connectionOf yX8_connectionOf, .code yX8_connectionOf cX8_connectionOf 2 (some (.object "TidePost$Connection")), .classLink RX8 297 "java/lang/IndexOutOfBoundsException", .initialized "java/lang/IndexOutOfBoundsException", .fieldLink RX8 21 "TidePost" "traffic" "LTidePost$Traffic;", .fieldLink RX8 99 "TidePost$Traffic" "made" "I", .fieldLink RX8 247 "TidePost$Traffic" "all" "[LTidePost$Connection;"] ++ wsX10 ++ wsX50 ++ wsX20 ++ wsX80 ++ wsX60 ++ (vx_atS RX8 301 "java/lang/IndexOutOfBoundsException" ["java/lang/RuntimeException", "java/lang/Exception"]).filter goodWord)
def wsX8_timer : List Cond := .code yX8_timer cX8_timer 2 (some .int) :: ([.fieldLink RX8 229 "TidePost$Caller" "timer" "I", .methodLink RX8 108 yX8_callerOf, .instanceMethod yX8_callerOf, .selects RX8 yX8_callerOf yX8_callerOf, .initialized RX8, .code yX8_callerOf cX8_callerOf 2 (some (.object "TidePost$Caller")), .fieldLink RX8 251 "TidePost$Connection" "caller" "LTidePost$Caller;", .methodLink RX8 133 yX8_connectionOf, .instanceMethod yX8_connectionOf, .selects RX8 yX8_connectionOf yX8_connectionOf, .code yX8_connectionOf cX8_connectionOf 2 (some (.object "TidePost$Connection")), .classLink RX8 297 "java/lang/IndexOutOfBoundsException", .initialized "java/lang/IndexOutOfBoundsException", .fieldLink RX8 21 "TidePost" "traffic" "LTidePost$Traffic;", .fieldLink RX8 99 "TidePost$Traffic" "made" "I", .fieldLink RX8 247 "TidePost$Traffic" "all" "[LTidePost$Connection;"] ++ wsX10 ++ wsX20 ++ wsX80 ++ wsX60 ++ (vx_atS RX8 301 "java/lang/IndexOutOfBoundsException" ["java/lang/RuntimeException", "java/lang/Exception"]).filter goodWord)
def wsX8_measured : List Cond := .code yX8_measured cX8_measured 2 (some .int) :: ([.fieldLink RX8 214 "TidePost$Caller" "timing" "LTidePost$Timing;", .fieldLink RX8 232 "TidePost$Timing" "measured" "I", .methodLink RX8 108 yX8_callerOf, .instanceMethod yX8_callerOf, .selects RX8 yX8_callerOf yX8_callerOf, .initialized RX8, .code yX8_callerOf cX8_callerOf 2 (some (.object "TidePost$Caller")), .fieldLink RX8 251 "TidePost$Connection" "caller" "LTidePost$Caller;", .methodLink RX8 133 yX8_connectionOf, .instanceMethod yX8_connectionOf, .selects RX8 yX8_connectionOf yX8_connectionOf, .code yX8_connectionOf cX8_connectionOf 2 (some (.object "TidePost$Connection")), .classLink RX8 297 "java/lang/IndexOutOfBoundsException", .initialized "java/lang/IndexOutOfBoundsException", .fieldLink RX8 21 "TidePost" "traffic" "LTidePost$Traffic;", .fieldLink RX8 99 "TidePost$Traffic" "made" "I", .fieldLink RX8 247 "TidePost$Traffic" "all" "[LTidePost$Connection;"] ++ wsX10 ++ wsX50 ++ wsX20 ++ wsX80 ++ wsX60 ++ (vx_atS RX8 301 "java/lang/IndexOutOfBoundsException" ["java/lang/RuntimeException", "java/lang/Exception"]).filter goodWord)
def wsX8_tries : List Cond := .code yX8_tries cX8_tries 2 (some .int) :: ([.fieldLink RX8 235 "TidePost$Caller" "tries" "I", .methodLink RX8 108 yX8_callerOf, .instanceMethod yX8_callerOf, .selects RX8 yX8_callerOf yX8_callerOf, .initialized RX8, .code yX8_callerOf cX8_callerOf 2 (some (.object "TidePost$Caller")), .fieldLink RX8 251 "TidePost$Connection" "caller" "LTidePost$Caller;", .methodLink RX8 133 yX8_connectionOf, .instanceMethod yX8_connectionOf, .selects RX8 yX8_connectionOf yX8_connectionOf, .code yX8_connectionOf cX8_connectionOf 2 (some (.object "TidePost$Connection")), .classLink RX8 297 "java/lang/IndexOutOfBoundsException", .initialized "java/lang/IndexOutOfBoundsException", .fieldLink RX8 21 "TidePost" "traffic" "LTidePost$Traffic;", .fieldLink RX8 99 "TidePost$Traffic" "made" "I", .fieldLink RX8 247 "TidePost$Traffic" "all" "[LTidePost$Connection;"] ++ wsX10 ++ wsX20 ++ wsX80 ++ wsX60 ++ (vx_atS RX8 301 "java/lang/IndexOutOfBoundsException" ["java/lang/RuntimeException", "java/lang/Exception"]).filter goodWord)
def wsX8_wanted : List Cond := .code yX8_wanted cX8_wanted 2 (some .int) :: ([.fieldLink RX8 150 "TidePost$Connection" "callee" "LTidePost$Callee;", .fieldLink RX8 241 "TidePost$Callee" "wanted" "I", .methodLink RX8 133 yX8_connectionOf, .instanceMethod yX8_connectionOf, .selects RX8 yX8_connectionOf yX8_connectionOf, .initialized RX8, .code yX8_connectionOf cX8_connectionOf 2 (some (.object "TidePost$Connection")), .classLink RX8 297 "java/lang/IndexOutOfBoundsException", .initialized "java/lang/IndexOutOfBoundsException", .fieldLink RX8 21 "TidePost" "traffic" "LTidePost$Traffic;", .fieldLink RX8 99 "TidePost$Traffic" "made" "I", .fieldLink RX8 247 "TidePost$Traffic" "all" "[LTidePost$Connection;"] ++ wsX20 ++ wsX00 ++ wsX80 ++ wsX60 ++ (vx_atS RX8 301 "java/lang/IndexOutOfBoundsException" ["java/lang/RuntimeException", "java/lang/Exception"]).filter goodWord)
def wsX8_holds : List Cond := .code yX8_holds cX8_holds 4 (some .boolean) :: ([.fieldLink RX8 150 "TidePost$Connection" "callee" "LTidePost$Callee;", .fieldLink RX8 244 "TidePost$Callee" "held" "[Z", .methodLink RX8 133 yX8_connectionOf, .instanceMethod yX8_connectionOf, .selects RX8 yX8_connectionOf yX8_connectionOf, .initialized RX8, .code yX8_connectionOf cX8_connectionOf 2 (some (.object "TidePost$Connection")), .classLink RX8 297 "java/lang/IndexOutOfBoundsException", .initialized "java/lang/IndexOutOfBoundsException", .fieldLink RX8 21 "TidePost" "traffic" "LTidePost$Traffic;", .fieldLink RX8 99 "TidePost$Traffic" "made" "I", .fieldLink RX8 247 "TidePost$Traffic" "all" "[LTidePost$Connection;"] ++ wsX20 ++ wsX00 ++ wsX80 ++ wsX60 ++ (vx_atS RX8 301 "java/lang/IndexOutOfBoundsException" ["java/lang/RuntimeException", "java/lang/Exception"]).filter goodWord)
def wsX8_readable : List Cond := .code yX8_readable cX8_readable 2 (some .int) :: ([.methodLink RX8 133 yX8_connectionOf, .instanceMethod yX8_connectionOf, .selects RX8 yX8_connectionOf yX8_connectionOf, .initialized RX8, .code yX8_connectionOf cX8_connectionOf 2 (some (.object "TidePost$Connection")), .classLink RX8 297 "java/lang/IndexOutOfBoundsException", .initialized "java/lang/IndexOutOfBoundsException", .fieldLink RX8 21 "TidePost" "traffic" "LTidePost$Traffic;", .fieldLink RX8 99 "TidePost$Traffic" "made" "I", .fieldLink RX8 247 "TidePost$Traffic" "all" "[LTidePost$Connection;", .methodLink RX8 137 yX2_unread, .instanceMethod yX2_unread, .selects RX2 yX2_unread yX2_unread, .initialized RX2, .code yX2_unread cX2_unread 1 (some .int), .fieldLink RX2 19 "TidePost$Connection" "callee" "LTidePost$Callee;", .fieldLink RX2 23 "TidePost$Callee" "wanted" "I", .fieldLink RX2 10 "TidePost$Connection" "caller" "LTidePost$Caller;", .fieldLink RX2 27 "TidePost$Caller" "given" "I", .methodLink RX2 30 Lib.Math.min.name, .static Lib.Math.min.name, .initialized "java/lang/Math", .code Lib.Math.min.name Lib.Math.min.code 2 (some .int), .fieldLink RX2 36 "TidePost$Callee" "read" "I"] ++ wsX80 ++ wsX60 ++ wsX20 ++ wsX00 ++ wsX10 ++ (vx_atS RX8 301 "java/lang/IndexOutOfBoundsException" ["java/lang/RuntimeException", "java/lang/Exception"]).filter goodWord)
def wsX8_hasRead : List Cond := .code yX8_hasRead cX8_hasRead 2 (some .int) :: ([.fieldLink RX8 150 "TidePost$Connection" "callee" "LTidePost$Callee;", .fieldLink RX8 159 "TidePost$Callee" "read" "I", .methodLink RX8 133 yX8_connectionOf, .instanceMethod yX8_connectionOf, .selects RX8 yX8_connectionOf yX8_connectionOf, .initialized RX8, .code yX8_connectionOf cX8_connectionOf 2 (some (.object "TidePost$Connection")), .classLink RX8 297 "java/lang/IndexOutOfBoundsException", .initialized "java/lang/IndexOutOfBoundsException", .fieldLink RX8 21 "TidePost" "traffic" "LTidePost$Traffic;", .fieldLink RX8 99 "TidePost$Traffic" "made" "I", .fieldLink RX8 247 "TidePost$Traffic" "all" "[LTidePost$Connection;"] ++ wsX20 ++ wsX00 ++ wsX80 ++ wsX60 ++ (vx_atS RX8 301 "java/lang/IndexOutOfBoundsException" ["java/lang/RuntimeException", "java/lang/Exception"]).filter goodWord)
def wsX8_lostIn_r1 : List Cond := [Cond.fieldLink RX8 25 "TidePost" "ahead" "LTidePost$Traffic;", Cond.fieldLink RX8 21 "TidePost" "traffic" "LTidePost$Traffic;", Cond.fieldLink RX8 186 "TidePost$Traffic" "lost" "I", Cond.methodLink RX8 57 yX8_checkRange, Cond.static yX8_checkRange, Cond.initialized RX8, Cond.code yX8_checkRange cX8_checkRange 3 none, Cond.classLink RX8 52 "java/lang/IllegalArgumentException", Cond.initialized "java/lang/IllegalArgumentException", Cond.methodLink RX8 255 yX6_copyFrom, Cond.instanceMethod yX6_copyFrom, Cond.selects RX6 yX6_copyFrom yX6_copyFrom, Cond.initialized RX6, Cond.code yX6_copyFrom cX6_copyFrom 3 none, Cond.fieldLink RX6 23 "TidePost$Traffic" "net" "LTidePost$Net;", Cond.fieldLink RX6 84 "TidePost$Net" "links" "I", Cond.fieldLink RX6 11 "TidePost$Traffic" "ways" "[LTidePost$Way;", Cond.fieldLink RX6 29 "TidePost$Traffic" "made" "I", Cond.fieldLink RX6 19 "TidePost$Traffic" "all" "[LTidePost$Connection;", Cond.fieldLink RX6 52 "TidePost$Traffic" "clock" "I", Cond.fieldLink RX6 69 "TidePost$Traffic" "lost" "I", Cond.methodLink RX6 195 yX7_copyFrom, Cond.instanceMethod yX7_copyFrom, Cond.selects RX7 yX7_copyFrom yX7_copyFrom]
def wsX8_lostIn_r2 : List Cond := [Cond.initialized RX7, Cond.code yX7_copyFrom cX7_copyFrom 2 none, Cond.fieldLink RX7 9 "TidePost$Way" "queue" "[I", Cond.methodLink RX7 43 arraycopyName, Cond.native arraycopyName, Cond.static arraycopyName, Cond.initialized "java/lang/System", Cond.fieldLink RX7 22 "TidePost$Way" "head" "I", Cond.fieldLink RX7 18 "TidePost$Way" "queued" "I", Cond.fieldLink RX7 15 "TidePost$Way" "flight" "[I", Cond.fieldLink RX7 37 "TidePost$Way" "flying" "I", Cond.fieldLink RX7 40 "TidePost$Way" "flown" "I", Cond.fieldLink RX7 25 "TidePost$Way" "toLose" "I", Cond.methodLink RX6 199 yX2_copyFrom, Cond.instanceMethod yX2_copyFrom, Cond.selects RX2 yX2_copyFrom yX2_copyFrom, Cond.initialized RX2, Cond.code yX2_copyFrom cX2_copyFrom 2 none, Cond.fieldLink RX2 39 "TidePost$Connection" "callerNode" "I", Cond.fieldLink RX2 42 "TidePost$Connection" "calleeNode" "I", Cond.fieldLink RX2 10 "TidePost$Connection" "caller" "LTidePost$Caller;", Cond.fieldLink RX2 19 "TidePost$Connection" "callee" "LTidePost$Callee;", Cond.methodLink RX2 45 yX1_copyFrom, Cond.instanceMethod yX1_copyFrom]
def wsX8_lostIn_r3 : List Cond := [Cond.selects RX1 yX1_copyFrom yX1_copyFrom, Cond.initialized RX1, Cond.code yX1_copyFrom cX1_copyFrom 2 none, Cond.fieldLink RX1 18 "TidePost$Caller" "state" "I", Cond.fieldLink RX1 47 "TidePost$Caller" "given" "I", Cond.fieldLink RX1 43 "TidePost$Caller" "toldToClose" "Z", Cond.fieldLink RX1 53 "TidePost$Caller" "base" "I", Cond.fieldLink RX1 50 "TidePost$Caller" "next" "I", Cond.fieldLink RX1 22 "TidePost$Caller" "window" "I", Cond.fieldLink RX1 25 "TidePost$Caller" "threshold" "I", Cond.fieldLink RX1 28 "TidePost$Caller" "room" "I", Cond.fieldLink RX1 78 "TidePost$Caller" "like" "I", Cond.fieldLink RX1 31 "TidePost$Caller" "recover" "I", Cond.fieldLink RX1 40 "TidePost$Caller" "timer" "I", Cond.fieldLink RX1 64 "TidePost$Caller" "tries" "I", Cond.fieldLink RX1 99 "TidePost$Caller" "sentAgain" "I", Cond.fieldLink RX1 12 "TidePost$Caller" "timing" "LTidePost$Timing;", Cond.methodLink RX1 106 yX5_copyFrom, Cond.instanceMethod yX5_copyFrom, Cond.selects RX5 yX5_copyFrom yX5_copyFrom, Cond.initialized RX5, Cond.code yX5_copyFrom cX5_copyFrom 2 none, Cond.fieldLink RX5 9 "TidePost$Timing" "round" "I", Cond.fieldLink RX5 15 "TidePost$Timing" "swing" "I"]
def wsX8_lostIn_r4 : List Cond := [Cond.fieldLink RX5 18 "TidePost$Timing" "timeout" "I", Cond.fieldLink RX5 21 "TidePost$Timing" "measured" "I", Cond.fieldLink RX5 24 "TidePost$Timing" "measuredAt" "I", Cond.methodLink RX2 49 yX0_copyFrom, Cond.instanceMethod yX0_copyFrom, Cond.selects RX0 yX0_copyFrom yX0_copyFrom, Cond.initialized RX0, Cond.code yX0_copyFrom cX0_copyFrom 2 none, Cond.fieldLink RX0 19 "TidePost$Callee" "buffer" "I", Cond.fieldLink RX0 22 "TidePost$Callee" "wanted" "I", Cond.fieldLink RX0 15 "TidePost$Callee" "read" "I", Cond.fieldLink RX0 9 "TidePost$Callee" "held" "[Z", Cond.methodLink RX0 31 arraycopyName, Cond.methodLink RX8 165 yX6_tick, Cond.instanceMethod yX6_tick, Cond.selects RX6 yX6_tick yX6_tick, Cond.code yX6_tick cX6_tick 1 none, Cond.methodLink RX6 72 yX6_letArrive, Cond.instanceMethod yX6_letArrive, Cond.selects RX6 yX6_letArrive yX6_letArrive, Cond.code yX6_letArrive cX6_letArrive 4 none, Cond.fieldLink RX6 93 "TidePost$Net" "seconds" "[I", Cond.fieldLink RX6 97 "TidePost$Net" "firsts" "[I", Cond.methodLink RX6 89 yX7_land]
def wsX8_lostIn_r5 : List Cond := [Cond.instanceMethod yX7_land, Cond.selects RX7 yX7_land yX7_land, Cond.code yX7_land cX7_land 4 (some .int), Cond.methodLink RX7 28 yJ9_floorMod_7cf53, Cond.static yJ9_floorMod_7cf53, Cond.initialized RJ9, Cond.code yJ9_floorMod_7cf53 cJ9_floorMod_7cf53 3 (some .int), Cond.methodLink RX6 100 yX6_arrive, Cond.instanceMethod yX6_arrive, Cond.selects RX6 yX6_arrive yX6_arrive, Cond.code yX6_arrive cX6_arrive 8 none, Cond.fieldLink RX6 33 "TidePost$Connection" "callerNode" "I", Cond.fieldLink RX6 36 "TidePost$Connection" "calleeNode" "I", Cond.fieldLink RX6 48 "TidePost$Connection" "caller" "LTidePost$Caller;", Cond.fieldLink RX6 39 "TidePost$Connection" "callee" "LTidePost$Callee;", Cond.methodLink RX6 103 yX4_connectionOf, Cond.static yX4_connectionOf, Cond.initialized RX4, Cond.code yX4_connectionOf cX4_connectionOf 1 (some .int), Cond.methodLink RX6 108 yX4_kindOf, Cond.static yX4_kindOf, Cond.code yX4_kindOf cX4_kindOf 1 (some .int), Cond.methodLink RX6 111 yX6_send, Cond.instanceMethod yX6_send]
def wsX8_lostIn_r6 : List Cond := [Cond.selects RX6 yX6_send yX6_send, Cond.code yX6_send cX6_send 6 none, Cond.fieldLink RX6 188 "TidePost$Net" "rooms" "[I", Cond.methodLink RX6 181 yX3_linkTowards, Cond.instanceMethod yX3_linkTowards, Cond.selects RX3 yX3_linkTowards yX3_linkTowards, Cond.initialized RX3, Cond.code yX3_linkTowards cX3_linkTowards 6 (some .int), Cond.fieldLink RX3 30 "TidePost$Net" "distances" "[[I", Cond.fieldLink RX3 43 "TidePost$Net" "links" "I", Cond.fieldLink RX3 24 "TidePost$Net" "up" "[Z", Cond.fieldLink RX3 18 "TidePost$Net" "delays" "[I", Cond.methodLink RX3 46 yX3_farEnd, Cond.instanceMethod yX3_farEnd, Cond.selects RX3 yX3_farEnd yX3_farEnd, Cond.code yX3_farEnd cX3_farEnd 3 (some .int), Cond.fieldLink RX3 9 "TidePost$Net" "firsts" "[I", Cond.fieldLink RX3 15 "TidePost$Net" "seconds" "[I", Cond.methodLink RX6 185 yX4_hopsOf, Cond.static yX4_hopsOf, Cond.code yX4_hopsOf cX4_hopsOf 1 (some .int), Cond.methodLink RX6 191 yX7_join, Cond.instanceMethod yX7_join, Cond.selects RX7 yX7_join yX7_join]
def wsX8_lostIn_r7 : List Cond := [Cond.code yX7_join cX7_join 3 (some .boolean), Cond.methodLink RX6 115 yX4_numberOf, Cond.static yX4_numberOf, Cond.code yX4_numberOf cX4_numberOf 1 (some .int), Cond.methodLink RX6 118 yX4_roomOf, Cond.static yX4_roomOf, Cond.code yX4_roomOf cX4_roomOf 1 (some .int), Cond.methodLink RX6 121 yX1_takeAnswer, Cond.instanceMethod yX1_takeAnswer, Cond.selects RX1 yX1_takeAnswer yX1_takeAnswer, Cond.code yX1_takeAnswer cX1_takeAnswer 4 (some .boolean), Cond.methodLink RX1 67 yX1_advance, Cond.instanceMethod yX1_advance, Cond.selects RX1 yX1_advance yX1_advance, Cond.code yX1_advance cX1_advance 5 (some .boolean), Cond.fieldLink RX1 37 "TidePost$Timing" "timeout" "I", Cond.methodLink RX1 75 yX5_answered, Cond.instanceMethod yX5_answered, Cond.selects RX5 yX5_answered yX5_answered, Cond.code yX5_answered cX5_answered 5 none, Cond.methodLink RX5 27 Lib.Math.abs.name, Cond.static Lib.Math.abs.name, Cond.initialized "java/lang/Math", Cond.code Lib.Math.abs.name Lib.Math.abs.code 1 (some .int)]
def wsX8_lostIn_r8 : List Cond := [Cond.methodLink RX5 33 Lib.Math.max.name, Cond.static Lib.Math.max.name, Cond.code Lib.Math.max.name Lib.Math.max.code 2 (some .int), Cond.methodLink RX5 37 Lib.Math.min.name, Cond.static Lib.Math.min.name, Cond.code Lib.Math.min.name Lib.Math.min.code 2 (some .int), Cond.methodLink RX1 81 yX1_growWindow, Cond.instanceMethod yX1_growWindow, Cond.selects RX1 yX1_growWindow yX1_growWindow, Cond.code yX1_growWindow cX1_growWindow 2 none, Cond.methodLink RX1 84 Lib.Math.max.name, Cond.methodLink RX1 90 Lib.Math.min.name, Cond.methodLink RX1 71 yX1_repeated, Cond.instanceMethod yX1_repeated, Cond.selects RX1 yX1_repeated yX1_repeated, Cond.code yX1_repeated cX1_repeated 2 (some .boolean), Cond.methodLink RX1 93 yX1_startRecovery, Cond.instanceMethod yX1_startRecovery, Cond.selects RX1 yX1_startRecovery yX1_startRecovery, Cond.code yX1_startRecovery cX1_startRecovery 1 none, Cond.methodLink RX6 125 yX1_baseAgain, Cond.instanceMethod yX1_baseAgain, Cond.selects RX1 yX1_baseAgain yX1_baseAgain, Cond.code yX1_baseAgain cX1_baseAgain 1 (some .int)]
def wsX8_lostIn_r9 : List Cond := [Cond.methodLink RX1 102 yX5_sentTwice, Cond.instanceMethod yX5_sentTwice, Cond.selects RX5 yX5_sentTwice yX5_sentTwice, Cond.code yX5_sentTwice cX5_sentTwice 2 none, Cond.methodLink RX6 128 yX6_sendThing, Cond.instanceMethod yX6_sendThing, Cond.selects RX6 yX6_sendThing yX6_sendThing, Cond.code yX6_sendThing cX6_sendThing 6 none, Cond.fieldLink RX6 172 "TidePost$Caller" "given" "I", Cond.methodLink RX6 168 yX4_of, Cond.static yX4_of, Cond.code yX4_of cX4_of 4 (some .int), Cond.methodLink RX6 131 yX0_take, Cond.instanceMethod yX0_take, Cond.selects RX0 yX0_take yX0_take, Cond.code yX0_take cX0_take 3 (some .boolean), Cond.methodLink RX6 135 yX6_sendAnswer, Cond.instanceMethod yX6_sendAnswer, Cond.selects RX6 yX6_sendAnswer yX6_sendAnswer, Cond.code yX6_sendAnswer cX6_sendAnswer 5 none, Cond.fieldLink RX6 175 "TidePost$Callee" "wanted" "I", Cond.methodLink RX6 178 yX0_spare, Cond.instanceMethod yX0_spare, Cond.selects RX0 yX0_spare yX0_spare]
def wsX8_lostIn_r10 : List Cond := [Cond.code yX0_spare cX0_spare 1 (some .int), Cond.methodLink RX0 25 Lib.Math.max.name, Cond.methodLink RX6 75 yX6_letTimersRunOut, Cond.instanceMethod yX6_letTimersRunOut, Cond.selects RX6 yX6_letTimersRunOut yX6_letTimersRunOut, Cond.code yX6_letTimersRunOut cX6_letTimersRunOut 3 none, Cond.fieldLink RX6 138 "TidePost$Caller" "timer" "I", Cond.fieldLink RX6 145 "TidePost$Caller" "state" "I", Cond.methodLink RX6 141 yX1_runOut, Cond.instanceMethod yX1_runOut, Cond.selects RX1 yX1_runOut yX1_runOut, Cond.code yX1_runOut cX1_runOut 2 (some .boolean), Cond.methodLink RX1 96 yX5_backOff, Cond.instanceMethod yX5_backOff, Cond.selects RX5 yX5_backOff yX5_backOff, Cond.code yX5_backOff cX5_backOff 1 none, Cond.methodLink RX6 61 yX6_sendHello, Cond.instanceMethod yX6_sendHello, Cond.selects RX6 yX6_sendHello yX6_sendHello, Cond.code yX6_sendHello cX6_sendHello 4 none, Cond.methodLink RX6 78 yX6_letCallersSend, Cond.instanceMethod yX6_letCallersSend, Cond.selects RX6 yX6_letCallersSend yX6_letCallersSend, Cond.code yX6_letCallersSend cX6_letCallersSend 4 none]
def wsX8_lostIn_r11 : List Cond := [Cond.fieldLink RX6 152 "TidePost$Caller" "next" "I", Cond.methodLink RX6 148 yX1_maySend, Cond.instanceMethod yX1_maySend, Cond.selects RX1 yX1_maySend yX1_maySend, Cond.code yX1_maySend cX1_maySend 3 (some .boolean), Cond.methodLink RX1 56 yX1_things, Cond.instanceMethod yX1_things, Cond.selects RX1 yX1_things yX1_things, Cond.code yX1_things cX1_things 1 (some .int), Cond.methodLink RX6 155 yX1_sent, Cond.instanceMethod yX1_sent, Cond.selects RX1 yX1_sent yX1_sent, Cond.code yX1_sent cX1_sent 2 none, Cond.methodLink RX1 60 yX5_sent, Cond.instanceMethod yX5_sent, Cond.selects RX5 yX5_sent yX5_sent, Cond.code yX5_sent cX5_sent 3 none, Cond.methodLink RX6 81 yX6_letTakeOff, Cond.instanceMethod yX6_letTakeOff, Cond.selects RX6 yX6_letTakeOff yX6_letTakeOff, Cond.code yX6_letTakeOff cX6_letTakeOff 3 none, Cond.fieldLink RX6 158 "TidePost$Net" "up" "[Z", Cond.fieldLink RX6 162 "TidePost$Net" "delays" "[I", Cond.methodLink RX6 165 yX7_takeOff]
def wsX8_lostIn_r12 : List Cond := [Cond.instanceMethod yX7_takeOff, Cond.selects RX7 yX7_takeOff yX7_takeOff, Cond.code yX7_takeOff cX7_takeOff 3 (some .boolean), Cond.constant RX7 36 (262144)]
def wsX8_lostIn : List Cond := .code yX8_lostIn cX8_lostIn 3 (some .int) :: ((wsX8_lostIn_r1 ++ (wsX8_lostIn_r2 ++ (wsX8_lostIn_r3 ++ (wsX8_lostIn_r4 ++ (wsX8_lostIn_r5 ++ (wsX8_lostIn_r6 ++ (wsX8_lostIn_r7 ++ (wsX8_lostIn_r8 ++ (wsX8_lostIn_r9 ++ (wsX8_lostIn_r10 ++ (wsX8_lostIn_r11 ++ wsX8_lostIn_r12))))))))))) ++ wsX80 ++ wsX60 ++ wsX30 ++ wsX70 ++ wsX20 ++ wsX10 ++ wsX50 ++ wsX00 ++ (vx_atS RX8 56 "java/lang/IllegalArgumentException" ["java/lang/RuntimeException", "java/lang/Exception"]).filter goodWord)
def wsX8_digestOfLink : List Cond := .code yX8_digestOfLink cX8_digestOfLink 8 (some .long) :: ([.constantLong RX8 269 (31), .fieldLink RX8 12 "TidePost" "net" "LTidePost$Net;", .fieldLink RX8 80 "TidePost$Net" "up" "[Z", .fieldLink RX8 21 "TidePost" "traffic" "LTidePost$Traffic;", .fieldLink RX8 189 "TidePost$Traffic" "ways" "[LTidePost$Way;", .fieldLink RX8 177 "TidePost$Way" "queued" "I", .fieldLink RX8 180 "TidePost$Way" "flying" "I", .fieldLink RX8 183 "TidePost$Way" "flown" "I"] ++ wsX80 ++ wsX30 ++ wsX60 ++ wsX70)
def wsX8_digestOfCaller : List Cond := .code yX8_digestOfCaller cX8_digestOfCaller 5 (some .long) :: ([.constantLong RX8 269 (31), .fieldLink RX8 193 "TidePost$Caller" "state" "I", .fieldLink RX8 116 "TidePost$Caller" "given" "I", .fieldLink RX8 130 "TidePost$Caller" "base" "I", .fieldLink RX8 196 "TidePost$Caller" "next" "I", .fieldLink RX8 199 "TidePost$Caller" "window" "I", .fieldLink RX8 202 "TidePost$Caller" "threshold" "I", .fieldLink RX8 205 "TidePost$Caller" "room" "I", .fieldLink RX8 208 "TidePost$Caller" "like" "I", .fieldLink RX8 211 "TidePost$Caller" "recover" "I", .fieldLink RX8 214 "TidePost$Caller" "timing" "LTidePost$Timing;", .fieldLink RX8 218 "TidePost$Timing" "round" "I", .fieldLink RX8 223 "TidePost$Timing" "swing" "I", .fieldLink RX8 226 "TidePost$Timing" "timeout" "I", .fieldLink RX8 229 "TidePost$Caller" "timer" "I", .fieldLink RX8 232 "TidePost$Timing" "measured" "I", .fieldLink RX8 235 "TidePost$Caller" "tries" "I", .fieldLink RX8 238 "TidePost$Caller" "sentAgain" "I"] ++ wsX10 ++ wsX50)
def wsX8_digestOfCallee : List Cond := .code yX8_digestOfCallee cX8_digestOfCallee 5 (some .long) :: ([.constantLong RX8 269 (31), .fieldLink RX8 150 "TidePost$Connection" "callee" "LTidePost$Callee;", .fieldLink RX8 241 "TidePost$Callee" "wanted" "I", .fieldLink RX8 159 "TidePost$Callee" "read" "I", .methodLink RX8 137 yX2_unread, .instanceMethod yX2_unread, .selects RX2 yX2_unread yX2_unread, .initialized RX2, .code yX2_unread cX2_unread 1 (some .int), .fieldLink RX2 19 "TidePost$Connection" "callee" "LTidePost$Callee;", .fieldLink RX2 23 "TidePost$Callee" "wanted" "I", .fieldLink RX2 10 "TidePost$Connection" "caller" "LTidePost$Caller;", .fieldLink RX2 27 "TidePost$Caller" "given" "I", .methodLink RX2 30 Lib.Math.min.name, .static Lib.Math.min.name, .initialized "java/lang/Math", .code Lib.Math.min.name Lib.Math.min.code 2 (some .int), .fieldLink RX2 36 "TidePost$Callee" "read" "I"] ++ wsX20 ++ wsX00 ++ wsX10)
def wsX8_digest_r1 : List Cond := [Cond.constantLong RX8 267 (58043), Cond.constantLong RX8 269 (31), Cond.fieldLink RX8 12 "TidePost" "net" "LTidePost$Net;", Cond.fieldLink RX8 61 "TidePost$Net" "links" "I", Cond.fieldLink RX8 21 "TidePost" "traffic" "LTidePost$Traffic;", Cond.fieldLink RX8 99 "TidePost$Traffic" "made" "I", Cond.fieldLink RX8 247 "TidePost$Traffic" "all" "[LTidePost$Connection;", Cond.fieldLink RX8 251 "TidePost$Connection" "caller" "LTidePost$Caller;", Cond.fieldLink RX8 33 "TidePost$Net" "nodes" "I", Cond.fieldLink RX8 171 "TidePost$Net" "distances" "[[I", Cond.methodLink RX8 271 yX8_clock, Cond.instanceMethod yX8_clock, Cond.selects RX8 yX8_clock yX8_clock, Cond.initialized RX8, Cond.code yX8_clock cX8_clock 1 (some .int), Cond.fieldLink RX8 168 "TidePost$Traffic" "clock" "I", Cond.methodLink RX8 273 yX8_nodes, Cond.instanceMethod yX8_nodes, Cond.selects RX8 yX8_nodes yX8_nodes, Cond.code yX8_nodes cX8_nodes 1 (some .int), Cond.methodLink RX8 275 yX8_links, Cond.instanceMethod yX8_links, Cond.selects RX8 yX8_links yX8_links, Cond.code yX8_links cX8_links 1 (some .int)]
def wsX8_digest_r2 : List Cond := [Cond.methodLink RX8 277 yX8_lost, Cond.instanceMethod yX8_lost, Cond.selects RX8 yX8_lost yX8_lost, Cond.code yX8_lost cX8_lost 1 (some .int), Cond.fieldLink RX8 186 "TidePost$Traffic" "lost" "I", Cond.methodLink RX8 279 yX8_underWay, Cond.instanceMethod yX8_underWay, Cond.selects RX8 yX8_underWay yX8_underWay, Cond.code yX8_underWay cX8_underWay 3 (some .int), Cond.fieldLink RX8 189 "TidePost$Traffic" "ways" "[LTidePost$Way;", Cond.fieldLink RX8 177 "TidePost$Way" "queued" "I", Cond.fieldLink RX8 180 "TidePost$Way" "flying" "I", Cond.methodLink RX8 282 yX8_connections, Cond.instanceMethod yX8_connections, Cond.selects RX8 yX8_connections yX8_connections, Cond.code yX8_connections cX8_connections 1 (some .int), Cond.methodLink RX8 285 yX8_digestOfLink, Cond.instanceMethod yX8_digestOfLink, Cond.selects RX8 yX8_digestOfLink yX8_digestOfLink, Cond.code yX8_digestOfLink cX8_digestOfLink 8 (some .long), Cond.fieldLink RX8 80 "TidePost$Net" "up" "[Z", Cond.fieldLink RX8 183 "TidePost$Way" "flown" "I", Cond.methodLink RX8 289 yX8_digestOfCaller, Cond.static yX8_digestOfCaller]
def wsX8_digest_r3 : List Cond := [Cond.code yX8_digestOfCaller cX8_digestOfCaller 5 (some .long), Cond.fieldLink RX8 193 "TidePost$Caller" "state" "I", Cond.fieldLink RX8 116 "TidePost$Caller" "given" "I", Cond.fieldLink RX8 130 "TidePost$Caller" "base" "I", Cond.fieldLink RX8 196 "TidePost$Caller" "next" "I", Cond.fieldLink RX8 199 "TidePost$Caller" "window" "I", Cond.fieldLink RX8 202 "TidePost$Caller" "threshold" "I", Cond.fieldLink RX8 205 "TidePost$Caller" "room" "I", Cond.fieldLink RX8 208 "TidePost$Caller" "like" "I", Cond.fieldLink RX8 211 "TidePost$Caller" "recover" "I", Cond.fieldLink RX8 214 "TidePost$Caller" "timing" "LTidePost$Timing;", Cond.fieldLink RX8 218 "TidePost$Timing" "round" "I", Cond.fieldLink RX8 223 "TidePost$Timing" "swing" "I", Cond.fieldLink RX8 226 "TidePost$Timing" "timeout" "I", Cond.fieldLink RX8 229 "TidePost$Caller" "timer" "I", Cond.fieldLink RX8 232 "TidePost$Timing" "measured" "I", Cond.fieldLink RX8 235 "TidePost$Caller" "tries" "I", Cond.fieldLink RX8 238 "TidePost$Caller" "sentAgain" "I", Cond.methodLink RX8 293 yX8_digestOfCallee, Cond.static yX8_digestOfCallee, Cond.code yX8_digestOfCallee cX8_digestOfCallee 5 (some .long), Cond.fieldLink RX8 150 "TidePost$Connection" "callee" "LTidePost$Callee;", Cond.fieldLink RX8 241 "TidePost$Callee" "wanted" "I", Cond.fieldLink RX8 159 "TidePost$Callee" "read" "I"]
def wsX8_digest_r4 : List Cond := [Cond.methodLink RX8 137 yX2_unread, Cond.instanceMethod yX2_unread, Cond.selects RX2 yX2_unread yX2_unread, Cond.initialized RX2, Cond.code yX2_unread cX2_unread 1 (some .int), Cond.fieldLink RX2 19 "TidePost$Connection" "callee" "LTidePost$Callee;", Cond.fieldLink RX2 23 "TidePost$Callee" "wanted" "I", Cond.fieldLink RX2 10 "TidePost$Connection" "caller" "LTidePost$Caller;", Cond.fieldLink RX2 27 "TidePost$Caller" "given" "I", Cond.methodLink RX2 30 Lib.Math.min.name, Cond.static Lib.Math.min.name, Cond.initialized "java/lang/Math", Cond.code Lib.Math.min.name Lib.Math.min.code 2 (some .int), Cond.fieldLink RX2 36 "TidePost$Callee" "read" "I"]
def wsX8_digest : List Cond := .code yX8_digest cX8_digest 4 (some .long) :: ((wsX8_digest_r1 ++ (wsX8_digest_r2 ++ (wsX8_digest_r3 ++ wsX8_digest_r4))) ++ wsX80 ++ wsX30 ++ wsX60 ++ wsX20 ++ wsX70 ++ wsX10 ++ wsX50 ++ wsX00)
def wsJ9_abs_0f7a4 : List Cond := .code yJ9_abs_0f7a4 cJ9_abs_0f7a4 1 (some .int) :: ([])
def wsJ9_max_7cf53 : List Cond := .code yJ9_max_7cf53 cJ9_max_7cf53 2 (some .int) :: ([])
def wsJ9_min_7cf53 : List Cond := .code yJ9_min_7cf53 cJ9_min_7cf53 2 (some .int) :: ([])
def wsL_below : List Cond := .code yL_below cL_below 2 (some .int) :: ([.constant RL 7 (2147483647)])
def wsL_cell : List Cond := .code yL_cell cL_cell 2 (some .int) :: ([.constant RL 8 (790386105)])
def wsL_act_r1 : List Cond := [Cond.classLink RL 94 "java/lang/IndexOutOfBoundsException", Cond.classLink RL 96 "java/lang/IllegalArgumentException", Cond.classLink RL 98 "java/lang/IllegalStateException", Cond.methodLink RL 45 Lib.Math.max.name, Cond.static Lib.Math.max.name, Cond.initialized "java/lang/Math", Cond.code Lib.Math.max.name Lib.Math.max.code 2 (some .int), Cond.methodLink RL 73 Lib.Math.min.name, Cond.static Lib.Math.min.name, Cond.code Lib.Math.min.name Lib.Math.min.code 2 (some .int), Cond.methodLink RL 42 yX8_connections, Cond.instanceMethod yX8_connections, Cond.selects RX8 yX8_connections yX8_connections, Cond.initialized RX8, Cond.code yX8_connections cX8_connections 1 (some .int), Cond.fieldLink RX8 21 "TidePost" "traffic" "LTidePost$Traffic;", Cond.fieldLink RX8 99 "TidePost$Traffic" "made" "I", Cond.methodLink RL 18 yL_below, Cond.static yL_below, Cond.initialized RL, Cond.code yL_below cL_below 2 (some .int), Cond.constant RL 7 (2147483647), Cond.methodLink RL 50 yX8_clock, Cond.instanceMethod yX8_clock]
def wsL_act_r2 : List Cond := [Cond.selects RX8 yX8_clock yX8_clock, Cond.code yX8_clock cX8_clock 1 (some .int), Cond.fieldLink RX8 168 "TidePost$Traffic" "clock" "I", Cond.methodLink RL 53 yX8_addLink, Cond.instanceMethod yX8_addLink, Cond.selects RX8 yX8_addLink yX8_addLink, Cond.code yX8_addLink cX8_addLink 5 (some .int), Cond.classLink RX8 52 "java/lang/IllegalArgumentException", Cond.initialized "java/lang/IllegalArgumentException", Cond.classLink RX8 37 "java/lang/IllegalStateException", Cond.initialized "java/lang/IllegalStateException", Cond.fieldLink RX8 12 "TidePost" "net" "LTidePost$Net;", Cond.fieldLink RX8 61 "TidePost$Net" "links" "I", Cond.methodLink RX8 48 yX8_checkNode, Cond.instanceMethod yX8_checkNode, Cond.selects RX8 yX8_checkNode yX8_checkNode, Cond.code yX8_checkNode cX8_checkNode 2 none, Cond.classLink RX8 297 "java/lang/IndexOutOfBoundsException", Cond.initialized "java/lang/IndexOutOfBoundsException", Cond.fieldLink RX8 33 "TidePost$Net" "nodes" "I", Cond.methodLink RX8 57 yX8_checkRange, Cond.static yX8_checkRange, Cond.code yX8_checkRange cX8_checkRange 3 none, Cond.methodLink RX8 64 yX3_joins]
def wsL_act_r3 : List Cond := [Cond.instanceMethod yX3_joins, Cond.selects RX3 yX3_joins yX3_joins, Cond.initialized RX3, Cond.code yX3_joins cX3_joins 4 (some .boolean), Cond.fieldLink RX3 43 "TidePost$Net" "links" "I", Cond.methodLink RX3 46 yX3_farEnd, Cond.instanceMethod yX3_farEnd, Cond.selects RX3 yX3_farEnd yX3_farEnd, Cond.code yX3_farEnd cX3_farEnd 3 (some .int), Cond.fieldLink RX3 9 "TidePost$Net" "firsts" "[I", Cond.fieldLink RX3 15 "TidePost$Net" "seconds" "[I", Cond.methodLink RX8 70 yX3_layLink, Cond.instanceMethod yX3_layLink, Cond.selects RX3 yX3_layLink yX3_layLink, Cond.code yX3_layLink cX3_layLink 6 (some .int), Cond.fieldLink RX3 18 "TidePost$Net" "delays" "[I", Cond.fieldLink RX3 21 "TidePost$Net" "rooms" "[I", Cond.fieldLink RX3 24 "TidePost$Net" "up" "[Z", Cond.methodLink RX3 40 yX3_measureRoutes, Cond.instanceMethod yX3_measureRoutes, Cond.selects RX3 yX3_measureRoutes yX3_measureRoutes, Cond.code yX3_measureRoutes cX3_measureRoutes 2 none, Cond.fieldLink RX3 36 "TidePost$Net" "nodes" "I", Cond.fieldLink RX3 30 "TidePost$Net" "distances" "[[I"]
def wsL_act_r4 : List Cond := [Cond.methodLink RX3 50 yX3_spread, Cond.instanceMethod yX3_spread, Cond.selects RX3 yX3_spread yX3_spread, Cond.code yX3_spread cX3_spread 9 none, Cond.methodLink RX3 54 yX3_shorten, Cond.static yX3_shorten, Cond.code yX3_shorten cX3_shorten 4 (some .boolean), Cond.methodLink RL 57 yX8_call, Cond.instanceMethod yX8_call, Cond.selects RX8 yX8_call yX8_call, Cond.code yX8_call cX8_call 4 (some .int), Cond.methodLink RX8 104 yX6_connect, Cond.instanceMethod yX6_connect, Cond.selects RX6 yX6_connect yX6_connect, Cond.initialized RX6, Cond.code yX6_connect cX6_connect 6 (some .int), Cond.fieldLink RX6 29 "TidePost$Traffic" "made" "I", Cond.fieldLink RX6 19 "TidePost$Traffic" "all" "[LTidePost$Connection;", Cond.fieldLink RX6 33 "TidePost$Connection" "callerNode" "I", Cond.fieldLink RX6 36 "TidePost$Connection" "calleeNode" "I", Cond.fieldLink RX6 39 "TidePost$Connection" "callee" "LTidePost$Callee;", Cond.fieldLink RX6 43 "TidePost$Callee" "buffer" "I", Cond.fieldLink RX6 48 "TidePost$Connection" "caller" "LTidePost$Caller;", Cond.fieldLink RX6 52 "TidePost$Traffic" "clock" "I"]
def wsL_act_r5 : List Cond := [Cond.methodLink RX6 55 yX1_begin, Cond.instanceMethod yX1_begin, Cond.selects RX1 yX1_begin yX1_begin, Cond.initialized RX1, Cond.code yX1_begin cX1_begin 3 none, Cond.fieldLink RX1 18 "TidePost$Caller" "state" "I", Cond.fieldLink RX1 22 "TidePost$Caller" "window" "I", Cond.fieldLink RX1 25 "TidePost$Caller" "threshold" "I", Cond.fieldLink RX1 28 "TidePost$Caller" "room" "I", Cond.fieldLink RX1 31 "TidePost$Caller" "recover" "I", Cond.fieldLink RX1 12 "TidePost$Caller" "timing" "LTidePost$Timing;", Cond.fieldLink RX1 37 "TidePost$Timing" "timeout" "I", Cond.fieldLink RX1 40 "TidePost$Caller" "timer" "I", Cond.methodLink RX1 34 yX5_begin, Cond.instanceMethod yX5_begin, Cond.selects RX5 yX5_begin yX5_begin, Cond.initialized RX5, Cond.code yX5_begin cX5_begin 1 none, Cond.fieldLink RX5 9 "TidePost$Timing" "round" "I", Cond.fieldLink RX5 15 "TidePost$Timing" "swing" "I", Cond.fieldLink RX5 18 "TidePost$Timing" "timeout" "I", Cond.fieldLink RX5 21 "TidePost$Timing" "measured" "I", Cond.fieldLink RX5 24 "TidePost$Timing" "measuredAt" "I", Cond.methodLink RX6 61 yX6_sendHello]
def wsL_act_r6 : List Cond := [Cond.instanceMethod yX6_sendHello, Cond.selects RX6 yX6_sendHello yX6_sendHello, Cond.code yX6_sendHello cX6_sendHello 4 none, Cond.methodLink RX6 168 yX4_of, Cond.static yX4_of, Cond.initialized RX4, Cond.code yX4_of cX4_of 4 (some .int), Cond.methodLink RX6 111 yX6_send, Cond.instanceMethod yX6_send, Cond.selects RX6 yX6_send yX6_send, Cond.code yX6_send cX6_send 6 none, Cond.fieldLink RX6 23 "TidePost$Traffic" "net" "LTidePost$Net;", Cond.fieldLink RX6 69 "TidePost$Traffic" "lost" "I", Cond.fieldLink RX6 97 "TidePost$Net" "firsts" "[I", Cond.fieldLink RX6 11 "TidePost$Traffic" "ways" "[LTidePost$Way;", Cond.fieldLink RX6 188 "TidePost$Net" "rooms" "[I", Cond.methodLink RX6 181 yX3_linkTowards, Cond.instanceMethod yX3_linkTowards, Cond.selects RX3 yX3_linkTowards yX3_linkTowards, Cond.code yX3_linkTowards cX3_linkTowards 6 (some .int), Cond.methodLink RX6 185 yX4_hopsOf, Cond.static yX4_hopsOf, Cond.code yX4_hopsOf cX4_hopsOf 1 (some .int), Cond.methodLink RX6 191 yX7_join]
def wsL_act_r7 : List Cond := [Cond.instanceMethod yX7_join, Cond.selects RX7 yX7_join yX7_join, Cond.initialized RX7, Cond.code yX7_join cX7_join 3 (some .boolean), Cond.fieldLink RX7 18 "TidePost$Way" "queued" "I", Cond.fieldLink RX7 9 "TidePost$Way" "queue" "[I", Cond.fieldLink RX7 22 "TidePost$Way" "head" "I", Cond.methodLink RL 61 yX8_given, Cond.instanceMethod yX8_given, Cond.selects RX8 yX8_given yX8_given, Cond.code yX8_given cX8_given 2 (some .int), Cond.fieldLink RX8 116 "TidePost$Caller" "given" "I", Cond.methodLink RX8 108 yX8_callerOf, Cond.instanceMethod yX8_callerOf, Cond.selects RX8 yX8_callerOf yX8_callerOf, Cond.code yX8_callerOf cX8_callerOf 2 (some (.object "TidePost$Caller")), Cond.fieldLink RX8 251 "TidePost$Connection" "caller" "LTidePost$Caller;", Cond.methodLink RX8 133 yX8_connectionOf, Cond.instanceMethod yX8_connectionOf, Cond.selects RX8 yX8_connectionOf yX8_connectionOf, Cond.code yX8_connectionOf cX8_connectionOf 2 (some (.object "TidePost$Connection")), Cond.fieldLink RX8 247 "TidePost$Traffic" "all" "[LTidePost$Connection;", Cond.methodLink RL 64 yX8_give, Cond.instanceMethod yX8_give]
def wsL_act_r8 : List Cond := [Cond.selects RX8 yX8_give yX8_give, Cond.code yX8_give cX8_give 6 (some .int), Cond.fieldLink RX8 30 "TidePost" "values" "[[I", Cond.methodLink RX8 112 yX8_checkTakesThings, Cond.static yX8_checkTakesThings, Cond.code yX8_checkTakesThings cX8_checkTakesThings 1 none, Cond.fieldLink RX8 193 "TidePost$Caller" "state" "I", Cond.fieldLink RX8 123 "TidePost$Caller" "toldToClose" "Z", Cond.methodLink RL 67 yX8_close, Cond.instanceMethod yX8_close, Cond.selects RX8 yX8_close yX8_close, Cond.code yX8_close cX8_close 3 (some .int), Cond.fieldLink RX8 130 "TidePost$Caller" "base" "I", Cond.methodLink RX8 127 yX1_things, Cond.instanceMethod yX1_things, Cond.selects RX1 yX1_things yX1_things, Cond.code yX1_things cX1_things 1 (some .int), Cond.fieldLink RX1 43 "TidePost$Caller" "toldToClose" "Z", Cond.fieldLink RX1 47 "TidePost$Caller" "given" "I", Cond.methodLink RL 70 yX8_readable, Cond.instanceMethod yX8_readable, Cond.selects RX8 yX8_readable yX8_readable, Cond.code yX8_readable cX8_readable 2 (some .int), Cond.methodLink RX8 137 yX2_unread]
def wsL_act_r9 : List Cond := [Cond.instanceMethod yX2_unread, Cond.selects RX2 yX2_unread yX2_unread, Cond.initialized RX2, Cond.code yX2_unread cX2_unread 1 (some .int), Cond.fieldLink RX2 19 "TidePost$Connection" "callee" "LTidePost$Callee;", Cond.fieldLink RX2 23 "TidePost$Callee" "wanted" "I", Cond.fieldLink RX2 10 "TidePost$Connection" "caller" "LTidePost$Caller;", Cond.fieldLink RX2 27 "TidePost$Caller" "given" "I", Cond.methodLink RX2 30 Lib.Math.min.name, Cond.fieldLink RX2 36 "TidePost$Callee" "read" "I", Cond.methodLink RL 76 yX8_read, Cond.instanceMethod yX8_read, Cond.selects RX8 yX8_read yX8_read, Cond.code yX8_read cX8_read 9 (some .int), Cond.methodLink RX8 142 Lib.Math.min.name, Cond.fieldLink RX8 150 "TidePost$Connection" "callee" "LTidePost$Callee;", Cond.fieldLink RX8 159 "TidePost$Callee" "read" "I", Cond.methodLink RX8 154 yX0_spare, Cond.instanceMethod yX0_spare, Cond.selects RX0 yX0_spare yX0_spare, Cond.initialized RX0, Cond.code yX0_spare cX0_spare 1 (some .int), Cond.fieldLink RX0 15 "TidePost$Callee" "read" "I", Cond.fieldLink RX0 19 "TidePost$Callee" "buffer" "I"]
def wsL_act_r10 : List Cond := [Cond.fieldLink RX0 22 "TidePost$Callee" "wanted" "I", Cond.methodLink RX0 25 Lib.Math.max.name, Cond.methodLink RX8 162 yX6_sendAnswer, Cond.instanceMethod yX6_sendAnswer, Cond.selects RX6 yX6_sendAnswer yX6_sendAnswer, Cond.code yX6_sendAnswer cX6_sendAnswer 5 none, Cond.fieldLink RX6 175 "TidePost$Callee" "wanted" "I", Cond.methodLink RX6 178 yX0_spare, Cond.methodLink RL 79 yX8_hasRead, Cond.instanceMethod yX8_hasRead, Cond.selects RX8 yX8_hasRead yX8_hasRead, Cond.code yX8_hasRead cX8_hasRead 2 (some .int), Cond.methodLink RL 82 yX8_links, Cond.instanceMethod yX8_links, Cond.selects RX8 yX8_links yX8_links, Cond.code yX8_links cX8_links 1 (some .int), Cond.methodLink RL 85 yX8_turn, Cond.instanceMethod yX8_turn, Cond.selects RX8 yX8_turn yX8_turn, Cond.code yX8_turn cX8_turn 2 (some .int), Cond.fieldLink RX8 80 "TidePost$Net" "up" "[Z", Cond.methodLink RX8 74 yX8_checkLink, Cond.instanceMethod yX8_checkLink, Cond.selects RX8 yX8_checkLink yX8_checkLink]
def wsL_act_r11 : List Cond := [Cond.code yX8_checkLink cX8_checkLink 2 none, Cond.methodLink RX8 77 yX3_flip, Cond.instanceMethod yX3_flip, Cond.selects RX3 yX3_flip yX3_flip, Cond.code yX3_flip cX3_flip 2 none, Cond.methodLink RX8 84 yX6_dropAll, Cond.instanceMethod yX6_dropAll, Cond.selects RX6 yX6_dropAll yX6_dropAll, Cond.code yX6_dropAll cX6_dropAll 3 (some .int), Cond.methodLink RX6 65 yX7_drop, Cond.instanceMethod yX7_drop, Cond.selects RX7 yX7_drop yX7_drop, Cond.code yX7_drop cX7_drop 3 (some .int), Cond.fieldLink RX7 37 "TidePost$Way" "flying" "I", Cond.fieldLink RX7 15 "TidePost$Way" "flight" "[I", Cond.methodLink RL 88 yX8_lose, Cond.instanceMethod yX8_lose, Cond.selects RX8 yX8_lose yX8_lose, Cond.code yX8_lose cX8_lose 6 (some .int), Cond.fieldLink RX8 92 "TidePost$Way" "toLose" "I", Cond.methodLink RX8 88 yX8_wayOf, Cond.instanceMethod yX8_wayOf, Cond.selects RX8 yX8_wayOf yX8_wayOf, Cond.code yX8_wayOf cX8_wayOf 3 (some (.object "TidePost$Way"))]
def wsL_act_r12 : List Cond := [Cond.fieldLink RX8 189 "TidePost$Traffic" "ways" "[LTidePost$Way;", Cond.methodLink RL 91 yX8_pass, Cond.instanceMethod yX8_pass, Cond.selects RX8 yX8_pass yX8_pass, Cond.code yX8_pass cX8_pass 3 (some .int), Cond.methodLink RX8 165 yX6_tick, Cond.instanceMethod yX6_tick, Cond.selects RX6 yX6_tick yX6_tick, Cond.code yX6_tick cX6_tick 1 none, Cond.methodLink RX6 72 yX6_letArrive, Cond.instanceMethod yX6_letArrive, Cond.selects RX6 yX6_letArrive yX6_letArrive, Cond.code yX6_letArrive cX6_letArrive 4 none, Cond.fieldLink RX6 84 "TidePost$Net" "links" "I", Cond.fieldLink RX6 93 "TidePost$Net" "seconds" "[I", Cond.methodLink RX6 89 yX7_land, Cond.instanceMethod yX7_land, Cond.selects RX7 yX7_land yX7_land, Cond.code yX7_land cX7_land 4 (some .int), Cond.methodLink RX7 28 yJ9_floorMod_7cf53, Cond.static yJ9_floorMod_7cf53, Cond.initialized RJ9, Cond.code yJ9_floorMod_7cf53 cJ9_floorMod_7cf53 3 (some .int), Cond.methodLink RX6 100 yX6_arrive]
def wsL_act_r13 : List Cond := [Cond.instanceMethod yX6_arrive, Cond.selects RX6 yX6_arrive yX6_arrive, Cond.code yX6_arrive cX6_arrive 8 none, Cond.methodLink RX6 103 yX4_connectionOf, Cond.static yX4_connectionOf, Cond.code yX4_connectionOf cX4_connectionOf 1 (some .int), Cond.methodLink RX6 108 yX4_kindOf, Cond.static yX4_kindOf, Cond.code yX4_kindOf cX4_kindOf 1 (some .int), Cond.methodLink RX6 115 yX4_numberOf, Cond.static yX4_numberOf, Cond.code yX4_numberOf cX4_numberOf 1 (some .int), Cond.methodLink RX6 118 yX4_roomOf, Cond.static yX4_roomOf, Cond.code yX4_roomOf cX4_roomOf 1 (some .int), Cond.methodLink RX6 121 yX1_takeAnswer, Cond.instanceMethod yX1_takeAnswer, Cond.selects RX1 yX1_takeAnswer yX1_takeAnswer, Cond.code yX1_takeAnswer cX1_takeAnswer 4 (some .boolean), Cond.fieldLink RX1 64 "TidePost$Caller" "tries" "I", Cond.fieldLink RX1 53 "TidePost$Caller" "base" "I", Cond.fieldLink RX1 50 "TidePost$Caller" "next" "I", Cond.methodLink RX1 67 yX1_advance, Cond.instanceMethod yX1_advance]
def wsL_act_r14 : List Cond := [Cond.selects RX1 yX1_advance yX1_advance, Cond.code yX1_advance cX1_advance 5 (some .boolean), Cond.fieldLink RX1 78 "TidePost$Caller" "like" "I", Cond.methodLink RX1 75 yX5_answered, Cond.instanceMethod yX5_answered, Cond.selects RX5 yX5_answered yX5_answered, Cond.code yX5_answered cX5_answered 5 none, Cond.methodLink RX5 27 Lib.Math.abs.name, Cond.static Lib.Math.abs.name, Cond.code Lib.Math.abs.name Lib.Math.abs.code 1 (some .int), Cond.methodLink RX5 33 Lib.Math.max.name, Cond.methodLink RX5 37 Lib.Math.min.name, Cond.methodLink RX1 81 yX1_growWindow, Cond.instanceMethod yX1_growWindow, Cond.selects RX1 yX1_growWindow yX1_growWindow, Cond.code yX1_growWindow cX1_growWindow 2 none, Cond.methodLink RX1 84 Lib.Math.max.name, Cond.methodLink RX1 90 Lib.Math.min.name, Cond.methodLink RX1 71 yX1_repeated, Cond.instanceMethod yX1_repeated, Cond.selects RX1 yX1_repeated yX1_repeated, Cond.code yX1_repeated cX1_repeated 2 (some .boolean), Cond.methodLink RX1 93 yX1_startRecovery, Cond.instanceMethod yX1_startRecovery]
def wsL_act_r15 : List Cond := [Cond.selects RX1 yX1_startRecovery yX1_startRecovery, Cond.code yX1_startRecovery cX1_startRecovery 1 none, Cond.methodLink RX6 125 yX1_baseAgain, Cond.instanceMethod yX1_baseAgain, Cond.selects RX1 yX1_baseAgain yX1_baseAgain, Cond.code yX1_baseAgain cX1_baseAgain 1 (some .int), Cond.fieldLink RX1 99 "TidePost$Caller" "sentAgain" "I", Cond.methodLink RX1 102 yX5_sentTwice, Cond.instanceMethod yX5_sentTwice, Cond.selects RX5 yX5_sentTwice yX5_sentTwice, Cond.code yX5_sentTwice cX5_sentTwice 2 none, Cond.methodLink RX6 128 yX6_sendThing, Cond.instanceMethod yX6_sendThing, Cond.selects RX6 yX6_sendThing yX6_sendThing, Cond.code yX6_sendThing cX6_sendThing 6 none, Cond.fieldLink RX6 172 "TidePost$Caller" "given" "I", Cond.methodLink RX6 131 yX0_take, Cond.instanceMethod yX0_take, Cond.selects RX0 yX0_take yX0_take, Cond.code yX0_take cX0_take 3 (some .boolean), Cond.fieldLink RX0 9 "TidePost$Callee" "held" "[Z", Cond.methodLink RX6 135 yX6_sendAnswer, Cond.methodLink RX6 75 yX6_letTimersRunOut, Cond.instanceMethod yX6_letTimersRunOut]
def wsL_act_r16 : List Cond := [Cond.selects RX6 yX6_letTimersRunOut yX6_letTimersRunOut, Cond.code yX6_letTimersRunOut cX6_letTimersRunOut 3 none, Cond.fieldLink RX6 138 "TidePost$Caller" "timer" "I", Cond.fieldLink RX6 145 "TidePost$Caller" "state" "I", Cond.methodLink RX6 141 yX1_runOut, Cond.instanceMethod yX1_runOut, Cond.selects RX1 yX1_runOut yX1_runOut, Cond.code yX1_runOut cX1_runOut 2 (some .boolean), Cond.methodLink RX1 96 yX5_backOff, Cond.instanceMethod yX5_backOff, Cond.selects RX5 yX5_backOff yX5_backOff, Cond.code yX5_backOff cX5_backOff 1 none, Cond.methodLink RX6 78 yX6_letCallersSend, Cond.instanceMethod yX6_letCallersSend, Cond.selects RX6 yX6_letCallersSend yX6_letCallersSend, Cond.code yX6_letCallersSend cX6_letCallersSend 4 none, Cond.fieldLink RX6 152 "TidePost$Caller" "next" "I", Cond.methodLink RX6 148 yX1_maySend, Cond.instanceMethod yX1_maySend, Cond.selects RX1 yX1_maySend yX1_maySend, Cond.code yX1_maySend cX1_maySend 3 (some .boolean), Cond.methodLink RX1 56 yX1_things, Cond.methodLink RX6 155 yX1_sent, Cond.instanceMethod yX1_sent]
def wsL_act_r17 : List Cond := [Cond.selects RX1 yX1_sent yX1_sent, Cond.code yX1_sent cX1_sent 2 none, Cond.methodLink RX1 60 yX5_sent, Cond.instanceMethod yX5_sent, Cond.selects RX5 yX5_sent yX5_sent, Cond.code yX5_sent cX5_sent 3 none, Cond.methodLink RX6 81 yX6_letTakeOff, Cond.instanceMethod yX6_letTakeOff, Cond.selects RX6 yX6_letTakeOff yX6_letTakeOff, Cond.code yX6_letTakeOff cX6_letTakeOff 3 none, Cond.fieldLink RX6 158 "TidePost$Net" "up" "[Z", Cond.fieldLink RX6 162 "TidePost$Net" "delays" "[I", Cond.methodLink RX6 165 yX7_takeOff, Cond.instanceMethod yX7_takeOff, Cond.selects RX7 yX7_takeOff yX7_takeOff, Cond.code yX7_takeOff cX7_takeOff 3 (some .boolean), Cond.fieldLink RX7 25 "TidePost$Way" "toLose" "I", Cond.constant RX7 36 (262144), Cond.fieldLink RX7 40 "TidePost$Way" "flown" "I"]
def wsL_act : List Cond := .codeWith yL_act cL_act 14 (some .boolean) [(41, 301, 441, 94), (302, 331, 441, 94), (332, 430, 441, 94), (431, 438, 441, 94), (41, 301, 458, 96), (302, 331, 458, 96), (332, 430, 458, 96), (431, 438, 458, 96), (41, 301, 475, 98), (302, 331, 475, 98), (332, 430, 475, 98), (431, 438, 475, 98)] :: ((wsL_act_r1 ++ (wsL_act_r2 ++ (wsL_act_r3 ++ (wsL_act_r4 ++ (wsL_act_r5 ++ (wsL_act_r6 ++ (wsL_act_r7 ++ (wsL_act_r8 ++ (wsL_act_r9 ++ (wsL_act_r10 ++ (wsL_act_r11 ++ (wsL_act_r12 ++ (wsL_act_r13 ++ (wsL_act_r14 ++ (wsL_act_r15 ++ (wsL_act_r16 ++ wsL_act_r17)))))))))))))))) ++ wsX80 ++ wsX60 ++ wsX30 ++ wsX20 ++ wsX00 ++ wsX10 ++ wsX50 ++ wsX70 ++ (vx_atS RX8 56 "java/lang/IllegalArgumentException" ["java/lang/RuntimeException", "java/lang/Exception"]).filter goodWord ++ (vx_atS RX8 41 "java/lang/IllegalStateException" ["java/lang/RuntimeException", "java/lang/Exception"]).filter goodWord ++ (vx_atS RX8 301 "java/lang/IndexOutOfBoundsException" ["java/lang/RuntimeException", "java/lang/Exception"]).filter goodWord)
def wsL_isSound_r1 : List Cond := [Cond.methodLink RL 42 yX8_connections, Cond.instanceMethod yX8_connections, Cond.selects RX8 yX8_connections yX8_connections, Cond.initialized RX8, Cond.code yX8_connections cX8_connections 1 (some .int), Cond.fieldLink RX8 21 "TidePost" "traffic" "LTidePost$Traffic;", Cond.fieldLink RX8 99 "TidePost$Traffic" "made" "I", Cond.methodLink RL 100 yX8_stateOf, Cond.instanceMethod yX8_stateOf, Cond.selects RX8 yX8_stateOf yX8_stateOf, Cond.code yX8_stateOf cX8_stateOf 2 (some .int), Cond.fieldLink RX8 193 "TidePost$Caller" "state" "I", Cond.methodLink RX8 108 yX8_callerOf, Cond.instanceMethod yX8_callerOf, Cond.selects RX8 yX8_callerOf yX8_callerOf, Cond.code yX8_callerOf cX8_callerOf 2 (some (.object "TidePost$Caller")), Cond.fieldLink RX8 251 "TidePost$Connection" "caller" "LTidePost$Caller;", Cond.methodLink RX8 133 yX8_connectionOf, Cond.instanceMethod yX8_connectionOf, Cond.selects RX8 yX8_connectionOf yX8_connectionOf, Cond.code yX8_connectionOf cX8_connectionOf 2 (some (.object "TidePost$Connection")), Cond.classLink RX8 297 "java/lang/IndexOutOfBoundsException", Cond.initialized "java/lang/IndexOutOfBoundsException", Cond.fieldLink RX8 247 "TidePost$Traffic" "all" "[LTidePost$Connection;"]
def wsL_isSound_r2 : List Cond := [Cond.methodLink RL 103 yX8_base, Cond.instanceMethod yX8_base, Cond.selects RX8 yX8_base yX8_base, Cond.code yX8_base cX8_base 2 (some .int), Cond.fieldLink RX8 130 "TidePost$Caller" "base" "I", Cond.methodLink RL 106 yX8_wanted, Cond.instanceMethod yX8_wanted, Cond.selects RX8 yX8_wanted yX8_wanted, Cond.code yX8_wanted cX8_wanted 2 (some .int), Cond.fieldLink RX8 150 "TidePost$Connection" "callee" "LTidePost$Callee;", Cond.fieldLink RX8 241 "TidePost$Callee" "wanted" "I", Cond.methodLink RL 109 yX8_next, Cond.instanceMethod yX8_next, Cond.selects RX8 yX8_next yX8_next, Cond.code yX8_next cX8_next 2 (some .int), Cond.fieldLink RX8 196 "TidePost$Caller" "next" "I", Cond.methodLink RL 61 yX8_given, Cond.instanceMethod yX8_given, Cond.selects RX8 yX8_given yX8_given, Cond.code yX8_given cX8_given 2 (some .int), Cond.fieldLink RX8 116 "TidePost$Caller" "given" "I", Cond.methodLink RL 79 yX8_hasRead, Cond.instanceMethod yX8_hasRead, Cond.selects RX8 yX8_hasRead yX8_hasRead]
def wsL_isSound_r3 : List Cond := [Cond.code yX8_hasRead cX8_hasRead 2 (some .int), Cond.fieldLink RX8 159 "TidePost$Callee" "read" "I", Cond.methodLink RL 70 yX8_readable, Cond.instanceMethod yX8_readable, Cond.selects RX8 yX8_readable yX8_readable, Cond.code yX8_readable cX8_readable 2 (some .int), Cond.methodLink RX8 137 yX2_unread, Cond.instanceMethod yX2_unread, Cond.selects RX2 yX2_unread yX2_unread, Cond.initialized RX2, Cond.code yX2_unread cX2_unread 1 (some .int), Cond.fieldLink RX2 19 "TidePost$Connection" "callee" "LTidePost$Callee;", Cond.fieldLink RX2 23 "TidePost$Callee" "wanted" "I", Cond.fieldLink RX2 10 "TidePost$Connection" "caller" "LTidePost$Caller;", Cond.fieldLink RX2 27 "TidePost$Caller" "given" "I", Cond.methodLink RX2 30 Lib.Math.min.name, Cond.static Lib.Math.min.name, Cond.initialized "java/lang/Math", Cond.code Lib.Math.min.name Lib.Math.min.code 2 (some .int), Cond.fieldLink RX2 36 "TidePost$Callee" "read" "I", Cond.methodLink RL 112 yX8_window, Cond.instanceMethod yX8_window, Cond.selects RX8 yX8_window yX8_window, Cond.code yX8_window cX8_window 2 (some .int)]
def wsL_isSound_r4 : List Cond := [Cond.fieldLink RX8 199 "TidePost$Caller" "window" "I", Cond.methodLink RL 115 yX8_timeout, Cond.instanceMethod yX8_timeout, Cond.selects RX8 yX8_timeout yX8_timeout, Cond.code yX8_timeout cX8_timeout 2 (some .int), Cond.fieldLink RX8 214 "TidePost$Caller" "timing" "LTidePost$Timing;", Cond.fieldLink RX8 226 "TidePost$Timing" "timeout" "I", Cond.methodLink RL 118 yX8_tries, Cond.instanceMethod yX8_tries, Cond.selects RX8 yX8_tries yX8_tries, Cond.code yX8_tries cX8_tries 2 (some .int), Cond.fieldLink RX8 235 "TidePost$Caller" "tries" "I", Cond.methodLink RL 121 yX8_timer, Cond.instanceMethod yX8_timer, Cond.selects RX8 yX8_timer yX8_timer, Cond.code yX8_timer cX8_timer 2 (some .int), Cond.fieldLink RX8 229 "TidePost$Caller" "timer" "I", Cond.methodLink RL 50 yX8_clock, Cond.instanceMethod yX8_clock, Cond.selects RX8 yX8_clock yX8_clock, Cond.code yX8_clock cX8_clock 1 (some .int), Cond.fieldLink RX8 168 "TidePost$Traffic" "clock" "I", Cond.methodLink RL 124 yX8_measured, Cond.instanceMethod yX8_measured]
def wsL_isSound_r5 : List Cond := [Cond.selects RX8 yX8_measured yX8_measured, Cond.code yX8_measured cX8_measured 2 (some .int), Cond.fieldLink RX8 232 "TidePost$Timing" "measured" "I", Cond.methodLink RL 127 yX8_recover, Cond.instanceMethod yX8_recover, Cond.selects RX8 yX8_recover yX8_recover, Cond.code yX8_recover cX8_recover 2 (some .int), Cond.fieldLink RX8 211 "TidePost$Caller" "recover" "I", Cond.methodLink RL 130 yX8_holds, Cond.instanceMethod yX8_holds, Cond.selects RX8 yX8_holds yX8_holds, Cond.code yX8_holds cX8_holds 4 (some .boolean), Cond.fieldLink RX8 244 "TidePost$Callee" "held" "[Z", Cond.methodLink RL 82 yX8_links, Cond.instanceMethod yX8_links, Cond.selects RX8 yX8_links yX8_links, Cond.code yX8_links cX8_links 1 (some .int), Cond.fieldLink RX8 12 "TidePost" "net" "LTidePost$Net;", Cond.fieldLink RX8 61 "TidePost$Net" "links" "I", Cond.methodLink RL 134 yX8_queued, Cond.instanceMethod yX8_queued, Cond.selects RX8 yX8_queued yX8_queued, Cond.code yX8_queued cX8_queued 3 (some .int), Cond.fieldLink RX8 177 "TidePost$Way" "queued" "I"]
def wsL_isSound_r6 : List Cond := [Cond.methodLink RX8 88 yX8_wayOf, Cond.instanceMethod yX8_wayOf, Cond.selects RX8 yX8_wayOf yX8_wayOf, Cond.code yX8_wayOf cX8_wayOf 3 (some (.object "TidePost$Way")), Cond.fieldLink RX8 189 "TidePost$Traffic" "ways" "[LTidePost$Way;", Cond.methodLink RX8 74 yX8_checkLink, Cond.instanceMethod yX8_checkLink, Cond.selects RX8 yX8_checkLink yX8_checkLink, Cond.code yX8_checkLink cX8_checkLink 2 none, Cond.methodLink RL 137 yX8_flying, Cond.instanceMethod yX8_flying, Cond.selects RX8 yX8_flying yX8_flying, Cond.code yX8_flying cX8_flying 3 (some .int), Cond.fieldLink RX8 180 "TidePost$Way" "flying" "I", Cond.methodLink RL 140 yX8_isUp, Cond.instanceMethod yX8_isUp, Cond.selects RX8 yX8_isUp yX8_isUp, Cond.code yX8_isUp cX8_isUp 2 (some .boolean), Cond.fieldLink RX8 80 "TidePost$Net" "up" "[Z", Cond.methodLink RL 144 yX8_nextLink, Cond.instanceMethod yX8_nextLink, Cond.selects RX8 yX8_nextLink yX8_nextLink, Cond.code yX8_nextLink cX8_nextLink 3 (some .int), Cond.methodLink RX8 48 yX8_checkNode]
def wsL_isSound_r7 : List Cond := [Cond.instanceMethod yX8_checkNode, Cond.selects RX8 yX8_checkNode yX8_checkNode, Cond.code yX8_checkNode cX8_checkNode 2 none, Cond.fieldLink RX8 33 "TidePost$Net" "nodes" "I", Cond.methodLink RX8 174 yX3_linkTowards, Cond.instanceMethod yX3_linkTowards, Cond.selects RX3 yX3_linkTowards yX3_linkTowards, Cond.initialized RX3, Cond.code yX3_linkTowards cX3_linkTowards 6 (some .int), Cond.fieldLink RX3 30 "TidePost$Net" "distances" "[[I", Cond.fieldLink RX3 43 "TidePost$Net" "links" "I", Cond.fieldLink RX3 24 "TidePost$Net" "up" "[Z", Cond.fieldLink RX3 18 "TidePost$Net" "delays" "[I", Cond.methodLink RX3 46 yX3_farEnd, Cond.instanceMethod yX3_farEnd, Cond.selects RX3 yX3_farEnd yX3_farEnd, Cond.code yX3_farEnd cX3_farEnd 3 (some .int), Cond.fieldLink RX3 9 "TidePost$Net" "firsts" "[I", Cond.fieldLink RX3 15 "TidePost$Net" "seconds" "[I", Cond.methodLink RL 147 yX8_distance, Cond.instanceMethod yX8_distance, Cond.selects RX8 yX8_distance yX8_distance, Cond.code yX8_distance cX8_distance 3 (some .int), Cond.fieldLink RX8 171 "TidePost$Net" "distances" "[[I"]
def wsL_isSound_r8 : List Cond := [Cond.methodLink RL 150 yX8_underWay, Cond.instanceMethod yX8_underWay, Cond.selects RX8 yX8_underWay yX8_underWay, Cond.code yX8_underWay cX8_underWay 3 (some .int)]
def wsL_isSound : List Cond := .code yL_isSound cL_isSound 6 (some .boolean) :: ((wsL_isSound_r1 ++ (wsL_isSound_r2 ++ (wsL_isSound_r3 ++ (wsL_isSound_r4 ++ (wsL_isSound_r5 ++ (wsL_isSound_r6 ++ (wsL_isSound_r7 ++ wsL_isSound_r8))))))) ++ wsX80 ++ wsX60 ++ wsX10 ++ wsX20 ++ wsX00 ++ wsX50 ++ wsX30 ++ wsX70 ++ (vx_atS RX8 301 "java/lang/IndexOutOfBoundsException" ["java/lang/RuntimeException", "java/lang/Exception"]).filter goodWord)
abbrev vwCl : List vw_C := [(RX0, TX0, 4), (RX1, TX1, 14), (RX2, TX2, 4), (RX3, TX3, 9), (RX5, TX5, 5), (RX6, TX6, 6), (RX7, TX7, 7), (RX8, TX8, 4)]
end
section
/-! The world of one TidePost: its 234 cells (and two rows of the law's own), each at a fixed place; what changes is ints alone.
w = (addresses, launch, array classes, class numbers, slot numbers); τ i k: the int in slot (or element) k of the cell i. -/
abbrev TS : Type := Nat → Nat → Int32
abbrev WPar : Type := (Nat → Nat) × Launch × (Nat → ClassId) × (Nat → ClassId) × (Nat → Nat → Nat) × Nat
abbrev Cxt : Type := Program × Env × Room × State × MethodId × Array Value × List Frame × Method × Code × (State → Prop) × Nat
/-- how many cells there are: 234, and the law's own two rows once they are made -/
def tp_N (w : WPar) : Nat := w.2.2.2.2.2
def tp_kd (i : Nat) : Nat :=
  if i < 17 then (if i = 0 then 7 else if i = 1 then 3 else if i < 6 then 11 else if i = 6 then 12 else if i = 7 then 14 else 13)
  else if i < 227 then (let j := (i - 17) % 105
    if j = 0 then 5 else if j = 1 then 15 else if j = 2 then 16
    else if j < 75 then (if j % 3 = 0 then 6 else if j % 3 = 1 then 8 else 9)
    else if j % 5 = 0 then 2 else if j % 5 = 1 then 1 else if j % 5 = 2 then 4 else if j % 5 = 3 then 0 else 10)
  else if i = 227 then 17 else if i < 234 then 18 else 19
def tp_rs (f : Nat → Option Nat) : vp_A → Prop := fun _ => True
/-- what the cell i holds -/
def tp_E (w : WPar) (i : Nat) (f : Nat → Int32) : va_E := match tp_kd i with
  | 0 => .inr (0, [.int (f 0), .int (f 1), .int (f 2), .ref (w.1 (i + 1))])
  | 1 => .inr (1, [.int (f 0), .int (f 1), .int (f 2), .int (f 3), .int (f 4), .int (f 5), .int (f 6), .int (f 7), .int (f 8), .int (f 9), .int (f 10), .int (f 11), .int (f 12), .ref (w.1 (i + 1))])
  | 2 => .inr (2, [.int (f 0), .int (f 1), .ref (w.1 (i + 1)), .ref (w.1 (i + 3))])
  | 3 => .inr (3, [.int (f 0), .int (f 1), .ref (w.1 2), .ref (w.1 3), .ref (w.1 4), .ref (w.1 5), .ref (w.1 6), .ref (w.1 7), .ref (w.1 16)])
  | 4 => .inr (4, [.int (f 0), .int (f 1), .int (f 2), .int (f 3), .int (f 4)])
  | 5 => .inr (5, [.ref (w.1 1), .ref (w.1 (i + 1)), .ref (w.1 (i + 2)), .int (f 3), .int (f 4), .int (f 5)])
  | 6 => .inr (6, [.ref (w.1 (i + 1)), .int (f 1), .int (f 2), .ref (w.1 (i + 2)), .int (f 4), .int (f 5), .int (f 6)])
  | 7 => .inr (7, [.ref (w.1 1), .ref (w.1 17), .ref (w.1 122), .ref (w.1 227)])
  | 8 => .inl (w.2.2.1 0, 20, .inl f)
  | 9 => .inl (w.2.2.1 0, 10, .inl f)
  | 10 => .inl (w.2.2.1 1, 201, .inl f)
  | 11 => .inl (w.2.2.1 0, 12, .inl f)
  | 12 => .inl (w.2.2.1 1, 12, .inl f)
  | 13 => .inl (w.2.2.1 0, 8, .inl f)
  | 14 => .inl (w.2.2.1 4, 8, .inr (.inr (.inr (.inr (fun j => if j < 8 then some (w.1 (8 + j)) else none)))))
  | 15 => .inl (w.2.2.1 2, 24, .inr (.inr (.inr (.inr (fun j => if j < 24 then some (w.1 (i + 2 + 3 * j)) else none)))))
  | 16 => .inl (w.2.2.1 3, 6, .inr (.inr (.inr (.inr (fun j => if j < 6 then some (w.1 (i + 73 + 5 * j)) else none)))))
  | 17 => .inl (w.2.2.1 4, 6, .inr (.inr (.inr (.inr (fun j => if j < 6 then some (w.1 (228 + j)) else none)))))
  | 18 => .inl (w.2.2.1 0, 200, .inl f)
  | _ => .inl (w.2.2.1 0, 6, .inl f)
abbrev tp_tys (w : WPar) : List (ClassId × FieldType) := [(w.2.2.1 0, .int), (w.2.2.1 1, .boolean), (w.2.2.1 2, .object "TidePost$Way"), (w.2.2.1 3, .object "TidePost$Connection"), (w.2.2.1 4, .array .int)]
def tp_W (w : WPar) (τ : TS) : va_W := (List.range (tp_N w)).map (fun i => (w.1 i, tp_E w i (τ i)))
abbrev tp_D (w : WPar) : va_G := (w.2.2.2.1, w.2.2.2.2.1)
def tp_inj (w : WPar) : Prop := ∀ i j, i < tp_N w → j < tp_N w → w.1 i = w.1 j → i = j
def tp_A (w : WPar) (sz : Nat) : Nat → Prop := fun q => (∃ i, i < tp_N w ∧ q = w.1 i) ∨ sz ≤ q
/-- the cell i holds the row f -/
def tp_rw (τ : TS) (i : Nat) (f : Nat → Int32) : TS := fun a => if a = i then f else τ a
/-- slot k of the cell i holds v -/
def tp_up (τ : TS) (i k : Nat) (v : Int32) : TS := tp_rw τ i (upd (τ i) k v)
theorem tp_at {w : WPar} {τ : TS} {i : Nat} (hi : i < tp_N w) : (tp_W w τ)[i]? = some (w.1 i, tp_E w i (τ i)) := by
  simp [tp_W, List.getElem?_map, List.getElem?_range hi]
theorem tp_set {w : WPar} {τ : TS} {i : Nat} (f : Nat → Int32) (hi : i < tp_N w) : (tp_W w τ).set i (w.1 i, tp_E w i f) = tp_W w (tp_rw τ i f) := by
  apply List.ext_getElem?
  intro j
  rw [List.getElem?_set]
  by_cases hj : j < tp_N w
  · by_cases e : i = j
    · subst e
      rw [tp_at hi]
      simp [tp_W, tp_rw, hi]
    · rw [if_neg e, tp_at hj, tp_at hj]
      simp [tp_rw, Ne.symm e]
  · have h1 : ∀ τ' : TS, (tp_W w τ')[j]? = none := fun τ' => List.getElem?_eq_none (by simp [tp_W]; omega)
    rw [h1, h1, if_neg (by omega)]
theorem tp_Dd {w : WPar} {τ : TS} {sz : Nat} (h : tp_inj w) : va_D (tp_A w sz) (tp_W w τ) := by
  have hk : ∀ (k : Nat) (q : Nat × va_E), (tp_W w τ)[k]? = some q → k < tp_N w ∧ q.1 = w.1 k := fun k q hq => by
    have hl : k < tp_N w := by
      rcases Nat.lt_or_ge k (tp_N w) with h2 | h2
      · exact h2
      · rw [List.getElem?_eq_none (by simp [tp_W]; omega)] at hq
        cases hq
    rw [tp_at hl] at hq
    cases hq
    exact ⟨hl, rfl⟩
  refine ⟨fun i j p q hi hj hpq => ?_, fun k q hq => ?_⟩
  · obtain ⟨h1, h2⟩ := hk i p hi
    obtain ⟨h3, h4⟩ := hk j q hj
    exact h i j h1 h3 (by rw [← h2, ← h4, hpq])
  · obtain ⟨h1, h2⟩ := hk k q hq
    exact Or.inl ⟨k, h1, h2⟩
theorem tp_same {w : WPar} {sz sz' : Nat} (h : sz ≤ sz') : ∀ q, tp_A w sz' q → tp_A w sz q := fun q hq => hq.elim Or.inl (fun h2 => Or.inr (Nat.le_trans h h2))
theorem tp_old {w : WPar} {sz0 sz : Nat} : ∀ q, q < sz → tp_A w sz q → tp_A w sz0 q := fun q hq h => h.elim Or.inl (fun h2 => absurd hq (Nat.not_lt.mpr h2))

theorem tE0 {w : WPar} {i : Nat} {f : Nat → Int32} (h : tp_kd i = 0) : tp_E w i f = .inr (0, [.int (f 0), .int (f 1), .int (f 2), .ref (w.1 (i + 1))]) := by simp only [tp_E, h]
theorem tS0_0 {w : WPar} {i : Nat} {f : Nat → Int32} (h : tp_kd i = 0) (v : Int32) : ((.inr (0, List.set [.int (f 0), .int (f 1), .int (f 2), .ref (w.1 (i + 1))] 0 (.int v))) : va_E) = tp_E w i (upd f 0 v) := by rw [tE0 h]; simp [upd, List.set]
theorem tS0_1 {w : WPar} {i : Nat} {f : Nat → Int32} (h : tp_kd i = 0) (v : Int32) : ((.inr (0, List.set [.int (f 0), .int (f 1), .int (f 2), .ref (w.1 (i + 1))] 1 (.int v))) : va_E) = tp_E w i (upd f 1 v) := by rw [tE0 h]; simp [upd, List.set]
theorem tS0_2 {w : WPar} {i : Nat} {f : Nat → Int32} (h : tp_kd i = 0) (v : Int32) : ((.inr (0, List.set [.int (f 0), .int (f 1), .int (f 2), .ref (w.1 (i + 1))] 2 (.int v))) : va_E) = tp_E w i (upd f 2 v) := by rw [tE0 h]; simp [upd, List.set]
theorem tE1 {w : WPar} {i : Nat} {f : Nat → Int32} (h : tp_kd i = 1) : tp_E w i f = .inr (1, [.int (f 0), .int (f 1), .int (f 2), .int (f 3), .int (f 4), .int (f 5), .int (f 6), .int (f 7), .int (f 8), .int (f 9), .int (f 10), .int (f 11), .int (f 12), .ref (w.1 (i + 1))]) := by simp only [tp_E, h]
theorem tS1_0 {w : WPar} {i : Nat} {f : Nat → Int32} (h : tp_kd i = 1) (v : Int32) : ((.inr (1, List.set [.int (f 0), .int (f 1), .int (f 2), .int (f 3), .int (f 4), .int (f 5), .int (f 6), .int (f 7), .int (f 8), .int (f 9), .int (f 10), .int (f 11), .int (f 12), .ref (w.1 (i + 1))] 0 (.int v))) : va_E) = tp_E w i (upd f 0 v) := by rw [tE1 h]; simp [upd, List.set]
theorem tS1_1 {w : WPar} {i : Nat} {f : Nat → Int32} (h : tp_kd i = 1) (v : Int32) : ((.inr (1, List.set [.int (f 0), .int (f 1), .int (f 2), .int (f 3), .int (f 4), .int (f 5), .int (f 6), .int (f 7), .int (f 8), .int (f 9), .int (f 10), .int (f 11), .int (f 12), .ref (w.1 (i + 1))] 1 (.int v))) : va_E) = tp_E w i (upd f 1 v) := by rw [tE1 h]; simp [upd, List.set]
theorem tS1_2 {w : WPar} {i : Nat} {f : Nat → Int32} (h : tp_kd i = 1) (v : Int32) : ((.inr (1, List.set [.int (f 0), .int (f 1), .int (f 2), .int (f 3), .int (f 4), .int (f 5), .int (f 6), .int (f 7), .int (f 8), .int (f 9), .int (f 10), .int (f 11), .int (f 12), .ref (w.1 (i + 1))] 2 (.int v))) : va_E) = tp_E w i (upd f 2 v) := by rw [tE1 h]; simp [upd, List.set]
theorem tS1_3 {w : WPar} {i : Nat} {f : Nat → Int32} (h : tp_kd i = 1) (v : Int32) : ((.inr (1, List.set [.int (f 0), .int (f 1), .int (f 2), .int (f 3), .int (f 4), .int (f 5), .int (f 6), .int (f 7), .int (f 8), .int (f 9), .int (f 10), .int (f 11), .int (f 12), .ref (w.1 (i + 1))] 3 (.int v))) : va_E) = tp_E w i (upd f 3 v) := by rw [tE1 h]; simp [upd, List.set]
theorem tS1_4 {w : WPar} {i : Nat} {f : Nat → Int32} (h : tp_kd i = 1) (v : Int32) : ((.inr (1, List.set [.int (f 0), .int (f 1), .int (f 2), .int (f 3), .int (f 4), .int (f 5), .int (f 6), .int (f 7), .int (f 8), .int (f 9), .int (f 10), .int (f 11), .int (f 12), .ref (w.1 (i + 1))] 4 (.int v))) : va_E) = tp_E w i (upd f 4 v) := by rw [tE1 h]; simp [upd, List.set]
theorem tS1_5 {w : WPar} {i : Nat} {f : Nat → Int32} (h : tp_kd i = 1) (v : Int32) : ((.inr (1, List.set [.int (f 0), .int (f 1), .int (f 2), .int (f 3), .int (f 4), .int (f 5), .int (f 6), .int (f 7), .int (f 8), .int (f 9), .int (f 10), .int (f 11), .int (f 12), .ref (w.1 (i + 1))] 5 (.int v))) : va_E) = tp_E w i (upd f 5 v) := by rw [tE1 h]; simp [upd, List.set]
theorem tS1_6 {w : WPar} {i : Nat} {f : Nat → Int32} (h : tp_kd i = 1) (v : Int32) : ((.inr (1, List.set [.int (f 0), .int (f 1), .int (f 2), .int (f 3), .int (f 4), .int (f 5), .int (f 6), .int (f 7), .int (f 8), .int (f 9), .int (f 10), .int (f 11), .int (f 12), .ref (w.1 (i + 1))] 6 (.int v))) : va_E) = tp_E w i (upd f 6 v) := by rw [tE1 h]; simp [upd, List.set]
theorem tS1_7 {w : WPar} {i : Nat} {f : Nat → Int32} (h : tp_kd i = 1) (v : Int32) : ((.inr (1, List.set [.int (f 0), .int (f 1), .int (f 2), .int (f 3), .int (f 4), .int (f 5), .int (f 6), .int (f 7), .int (f 8), .int (f 9), .int (f 10), .int (f 11), .int (f 12), .ref (w.1 (i + 1))] 7 (.int v))) : va_E) = tp_E w i (upd f 7 v) := by rw [tE1 h]; simp [upd, List.set]
theorem tS1_8 {w : WPar} {i : Nat} {f : Nat → Int32} (h : tp_kd i = 1) (v : Int32) : ((.inr (1, List.set [.int (f 0), .int (f 1), .int (f 2), .int (f 3), .int (f 4), .int (f 5), .int (f 6), .int (f 7), .int (f 8), .int (f 9), .int (f 10), .int (f 11), .int (f 12), .ref (w.1 (i + 1))] 8 (.int v))) : va_E) = tp_E w i (upd f 8 v) := by rw [tE1 h]; simp [upd, List.set]
theorem tS1_9 {w : WPar} {i : Nat} {f : Nat → Int32} (h : tp_kd i = 1) (v : Int32) : ((.inr (1, List.set [.int (f 0), .int (f 1), .int (f 2), .int (f 3), .int (f 4), .int (f 5), .int (f 6), .int (f 7), .int (f 8), .int (f 9), .int (f 10), .int (f 11), .int (f 12), .ref (w.1 (i + 1))] 9 (.int v))) : va_E) = tp_E w i (upd f 9 v) := by rw [tE1 h]; simp [upd, List.set]
theorem tS1_10 {w : WPar} {i : Nat} {f : Nat → Int32} (h : tp_kd i = 1) (v : Int32) : ((.inr (1, List.set [.int (f 0), .int (f 1), .int (f 2), .int (f 3), .int (f 4), .int (f 5), .int (f 6), .int (f 7), .int (f 8), .int (f 9), .int (f 10), .int (f 11), .int (f 12), .ref (w.1 (i + 1))] 10 (.int v))) : va_E) = tp_E w i (upd f 10 v) := by rw [tE1 h]; simp [upd, List.set]
theorem tS1_11 {w : WPar} {i : Nat} {f : Nat → Int32} (h : tp_kd i = 1) (v : Int32) : ((.inr (1, List.set [.int (f 0), .int (f 1), .int (f 2), .int (f 3), .int (f 4), .int (f 5), .int (f 6), .int (f 7), .int (f 8), .int (f 9), .int (f 10), .int (f 11), .int (f 12), .ref (w.1 (i + 1))] 11 (.int v))) : va_E) = tp_E w i (upd f 11 v) := by rw [tE1 h]; simp [upd, List.set]
theorem tS1_12 {w : WPar} {i : Nat} {f : Nat → Int32} (h : tp_kd i = 1) (v : Int32) : ((.inr (1, List.set [.int (f 0), .int (f 1), .int (f 2), .int (f 3), .int (f 4), .int (f 5), .int (f 6), .int (f 7), .int (f 8), .int (f 9), .int (f 10), .int (f 11), .int (f 12), .ref (w.1 (i + 1))] 12 (.int v))) : va_E) = tp_E w i (upd f 12 v) := by rw [tE1 h]; simp [upd, List.set]
theorem tE2 {w : WPar} {i : Nat} {f : Nat → Int32} (h : tp_kd i = 2) : tp_E w i f = .inr (2, [.int (f 0), .int (f 1), .ref (w.1 (i + 1)), .ref (w.1 (i + 3))]) := by simp only [tp_E, h]
theorem tS2_0 {w : WPar} {i : Nat} {f : Nat → Int32} (h : tp_kd i = 2) (v : Int32) : ((.inr (2, List.set [.int (f 0), .int (f 1), .ref (w.1 (i + 1)), .ref (w.1 (i + 3))] 0 (.int v))) : va_E) = tp_E w i (upd f 0 v) := by rw [tE2 h]; simp [upd, List.set]
theorem tS2_1 {w : WPar} {i : Nat} {f : Nat → Int32} (h : tp_kd i = 2) (v : Int32) : ((.inr (2, List.set [.int (f 0), .int (f 1), .ref (w.1 (i + 1)), .ref (w.1 (i + 3))] 1 (.int v))) : va_E) = tp_E w i (upd f 1 v) := by rw [tE2 h]; simp [upd, List.set]
theorem tE3 {w : WPar} {i : Nat} {f : Nat → Int32} (h : tp_kd i = 3) : tp_E w i f = .inr (3, [.int (f 0), .int (f 1), .ref (w.1 2), .ref (w.1 3), .ref (w.1 4), .ref (w.1 5), .ref (w.1 6), .ref (w.1 7), .ref (w.1 16)]) := by simp only [tp_E, h]
theorem tS3_0 {w : WPar} {i : Nat} {f : Nat → Int32} (h : tp_kd i = 3) (v : Int32) : ((.inr (3, List.set [.int (f 0), .int (f 1), .ref (w.1 2), .ref (w.1 3), .ref (w.1 4), .ref (w.1 5), .ref (w.1 6), .ref (w.1 7), .ref (w.1 16)] 0 (.int v))) : va_E) = tp_E w i (upd f 0 v) := by rw [tE3 h]; simp [upd, List.set]
theorem tS3_1 {w : WPar} {i : Nat} {f : Nat → Int32} (h : tp_kd i = 3) (v : Int32) : ((.inr (3, List.set [.int (f 0), .int (f 1), .ref (w.1 2), .ref (w.1 3), .ref (w.1 4), .ref (w.1 5), .ref (w.1 6), .ref (w.1 7), .ref (w.1 16)] 1 (.int v))) : va_E) = tp_E w i (upd f 1 v) := by rw [tE3 h]; simp [upd, List.set]
theorem tE4 {w : WPar} {i : Nat} {f : Nat → Int32} (h : tp_kd i = 4) : tp_E w i f = .inr (4, [.int (f 0), .int (f 1), .int (f 2), .int (f 3), .int (f 4)]) := by simp only [tp_E, h]
theorem tS4_0 {w : WPar} {i : Nat} {f : Nat → Int32} (h : tp_kd i = 4) (v : Int32) : ((.inr (4, List.set [.int (f 0), .int (f 1), .int (f 2), .int (f 3), .int (f 4)] 0 (.int v))) : va_E) = tp_E w i (upd f 0 v) := by rw [tE4 h]; simp [upd, List.set]
theorem tS4_1 {w : WPar} {i : Nat} {f : Nat → Int32} (h : tp_kd i = 4) (v : Int32) : ((.inr (4, List.set [.int (f 0), .int (f 1), .int (f 2), .int (f 3), .int (f 4)] 1 (.int v))) : va_E) = tp_E w i (upd f 1 v) := by rw [tE4 h]; simp [upd, List.set]
theorem tS4_2 {w : WPar} {i : Nat} {f : Nat → Int32} (h : tp_kd i = 4) (v : Int32) : ((.inr (4, List.set [.int (f 0), .int (f 1), .int (f 2), .int (f 3), .int (f 4)] 2 (.int v))) : va_E) = tp_E w i (upd f 2 v) := by rw [tE4 h]; simp [upd, List.set]
theorem tS4_3 {w : WPar} {i : Nat} {f : Nat → Int32} (h : tp_kd i = 4) (v : Int32) : ((.inr (4, List.set [.int (f 0), .int (f 1), .int (f 2), .int (f 3), .int (f 4)] 3 (.int v))) : va_E) = tp_E w i (upd f 3 v) := by rw [tE4 h]; simp [upd, List.set]
theorem tS4_4 {w : WPar} {i : Nat} {f : Nat → Int32} (h : tp_kd i = 4) (v : Int32) : ((.inr (4, List.set [.int (f 0), .int (f 1), .int (f 2), .int (f 3), .int (f 4)] 4 (.int v))) : va_E) = tp_E w i (upd f 4 v) := by rw [tE4 h]; simp [upd, List.set]
theorem tE5 {w : WPar} {i : Nat} {f : Nat → Int32} (h : tp_kd i = 5) : tp_E w i f = .inr (5, [.ref (w.1 1), .ref (w.1 (i + 1)), .ref (w.1 (i + 2)), .int (f 3), .int (f 4), .int (f 5)]) := by simp only [tp_E, h]
theorem tS5_3 {w : WPar} {i : Nat} {f : Nat → Int32} (h : tp_kd i = 5) (v : Int32) : ((.inr (5, List.set [.ref (w.1 1), .ref (w.1 (i + 1)), .ref (w.1 (i + 2)), .int (f 3), .int (f 4), .int (f 5)] 3 (.int v))) : va_E) = tp_E w i (upd f 3 v) := by rw [tE5 h]; simp [upd, List.set]
theorem tS5_4 {w : WPar} {i : Nat} {f : Nat → Int32} (h : tp_kd i = 5) (v : Int32) : ((.inr (5, List.set [.ref (w.1 1), .ref (w.1 (i + 1)), .ref (w.1 (i + 2)), .int (f 3), .int (f 4), .int (f 5)] 4 (.int v))) : va_E) = tp_E w i (upd f 4 v) := by rw [tE5 h]; simp [upd, List.set]
theorem tS5_5 {w : WPar} {i : Nat} {f : Nat → Int32} (h : tp_kd i = 5) (v : Int32) : ((.inr (5, List.set [.ref (w.1 1), .ref (w.1 (i + 1)), .ref (w.1 (i + 2)), .int (f 3), .int (f 4), .int (f 5)] 5 (.int v))) : va_E) = tp_E w i (upd f 5 v) := by rw [tE5 h]; simp [upd, List.set]
theorem tE6 {w : WPar} {i : Nat} {f : Nat → Int32} (h : tp_kd i = 6) : tp_E w i f = .inr (6, [.ref (w.1 (i + 1)), .int (f 1), .int (f 2), .ref (w.1 (i + 2)), .int (f 4), .int (f 5), .int (f 6)]) := by simp only [tp_E, h]
theorem tS6_1 {w : WPar} {i : Nat} {f : Nat → Int32} (h : tp_kd i = 6) (v : Int32) : ((.inr (6, List.set [.ref (w.1 (i + 1)), .int (f 1), .int (f 2), .ref (w.1 (i + 2)), .int (f 4), .int (f 5), .int (f 6)] 1 (.int v))) : va_E) = tp_E w i (upd f 1 v) := by rw [tE6 h]; simp [upd, List.set]
theorem tS6_2 {w : WPar} {i : Nat} {f : Nat → Int32} (h : tp_kd i = 6) (v : Int32) : ((.inr (6, List.set [.ref (w.1 (i + 1)), .int (f 1), .int (f 2), .ref (w.1 (i + 2)), .int (f 4), .int (f 5), .int (f 6)] 2 (.int v))) : va_E) = tp_E w i (upd f 2 v) := by rw [tE6 h]; simp [upd, List.set]
theorem tS6_4 {w : WPar} {i : Nat} {f : Nat → Int32} (h : tp_kd i = 6) (v : Int32) : ((.inr (6, List.set [.ref (w.1 (i + 1)), .int (f 1), .int (f 2), .ref (w.1 (i + 2)), .int (f 4), .int (f 5), .int (f 6)] 4 (.int v))) : va_E) = tp_E w i (upd f 4 v) := by rw [tE6 h]; simp [upd, List.set]
theorem tS6_5 {w : WPar} {i : Nat} {f : Nat → Int32} (h : tp_kd i = 6) (v : Int32) : ((.inr (6, List.set [.ref (w.1 (i + 1)), .int (f 1), .int (f 2), .ref (w.1 (i + 2)), .int (f 4), .int (f 5), .int (f 6)] 5 (.int v))) : va_E) = tp_E w i (upd f 5 v) := by rw [tE6 h]; simp [upd, List.set]
theorem tS6_6 {w : WPar} {i : Nat} {f : Nat → Int32} (h : tp_kd i = 6) (v : Int32) : ((.inr (6, List.set [.ref (w.1 (i + 1)), .int (f 1), .int (f 2), .ref (w.1 (i + 2)), .int (f 4), .int (f 5), .int (f 6)] 6 (.int v))) : va_E) = tp_E w i (upd f 6 v) := by rw [tE6 h]; simp [upd, List.set]
theorem tE7 {w : WPar} {i : Nat} {f : Nat → Int32} (h : tp_kd i = 7) : tp_E w i f = .inr (7, [.ref (w.1 1), .ref (w.1 17), .ref (w.1 122), .ref (w.1 227)]) := by simp only [tp_E, h]
theorem tE8 {w : WPar} {i : Nat} {f : Nat → Int32} (h : tp_kd i = 8) : tp_E w i f = .inl (w.2.2.1 0, 20, .inl f) := by simp only [tp_E, h]
theorem tE9 {w : WPar} {i : Nat} {f : Nat → Int32} (h : tp_kd i = 9) : tp_E w i f = .inl (w.2.2.1 0, 10, .inl f) := by simp only [tp_E, h]
theorem tE10 {w : WPar} {i : Nat} {f : Nat → Int32} (h : tp_kd i = 10) : tp_E w i f = .inl (w.2.2.1 1, 201, .inl f) := by simp only [tp_E, h]
theorem tE11 {w : WPar} {i : Nat} {f : Nat → Int32} (h : tp_kd i = 11) : tp_E w i f = .inl (w.2.2.1 0, 12, .inl f) := by simp only [tp_E, h]
theorem tE12 {w : WPar} {i : Nat} {f : Nat → Int32} (h : tp_kd i = 12) : tp_E w i f = .inl (w.2.2.1 1, 12, .inl f) := by simp only [tp_E, h]
theorem tE13 {w : WPar} {i : Nat} {f : Nat → Int32} (h : tp_kd i = 13) : tp_E w i f = .inl (w.2.2.1 0, 8, .inl f) := by simp only [tp_E, h]
theorem tE18 {w : WPar} {i : Nat} {f : Nat → Int32} (h : tp_kd i = 18) : tp_E w i f = .inl (w.2.2.1 0, 200, .inl f) := by simp only [tp_E, h]
theorem tE19 {w : WPar} {i : Nat} {f : Nat → Int32} (h : tp_kd i = 19) : tp_E w i f = .inl (w.2.2.1 0, 6, .inl f) := by simp only [tp_E, h]
theorem tE14 {w : WPar} {i : Nat} {f : Nat → Int32} (h : tp_kd i = 14) : tp_E w i f = .inl (w.2.2.1 4, 8, .inr (.inr (.inr (.inr (fun j => if j < 8 then some (w.1 (8 + j)) else none))))) := by simp only [tp_E, h]
theorem tE15 {w : WPar} {i : Nat} {f : Nat → Int32} (h : tp_kd i = 15) : tp_E w i f = .inl (w.2.2.1 2, 24, .inr (.inr (.inr (.inr (fun j => if j < 24 then some (w.1 (i + 2 + 3 * j)) else none))))) := by simp only [tp_E, h]
theorem tE16 {w : WPar} {i : Nat} {f : Nat → Int32} (h : tp_kd i = 16) : tp_E w i f = .inl (w.2.2.1 3, 6, .inr (.inr (.inr (.inr (fun j => if j < 6 then some (w.1 (i + 73 + 5 * j)) else none))))) := by simp only [tp_E, h]
theorem tE17 {w : WPar} {i : Nat} {f : Nat → Int32} (h : tp_kd i = 17) : tp_E w i f = .inl (w.2.2.1 4, 6, .inr (.inr (.inr (.inr (fun j => if j < 6 then some (w.1 (228 + j)) else none))))) := by simp only [tp_E, h]
abbrev tp_ik (i k : Nat) : Prop := tp_kd i = k ∧ i < 236
abbrev tp_ok (w : WPar) (i : Nat) : Prop := i < tp_N w ∧ 234 ≤ tp_N w
abbrev tp_is (w : WPar) (i k : Nat) : Prop := tp_kd i = k ∧ tp_ok w i
theorem tp_small {i k : Nat} (h : tp_kd i = k) (h2 : k ≠ 19) : i < 234 := by
  rcases Nat.lt_or_ge i 234 with h3 | h3
  · exact h3
  · refine absurd (h.symm.trans ?_) h2
    unfold tp_kd
    rw [if_neg (by omega), if_neg (by omega), if_neg (by omega), if_neg (by omega)]
theorem tp_isk {w : WPar} {i k : Nat} (h : tp_is w i k) (h2 : k ≠ 19) : tp_ik i k := ⟨h.1, Nat.lt_trans (tp_small h.1 h2) (by decide)⟩
theorem tp_ofk {w : WPar} {i k : Nat} (h : tp_kd i = k) (h2 : k ≠ 19) (hN : 234 ≤ tp_N w) : tp_is w i k := ⟨h, Nat.lt_of_lt_of_le (tp_small h h2) hN, hN⟩
theorem tK0_3 {i : Nat} (h : tp_ik i 0) : tp_ik (i + 1) 10 := by
  have h0 : ∀ j : Fin 236, tp_kd j.val = 0 → tp_kd (j.val + 1) = 10 ∧ j.val + 1 < 236 := by decide +kernel
  exact h0 ⟨i, h.2⟩ h.1
theorem tR0_3 {w : WPar} {i : Nat} (h : tp_is w i 0) : tp_is w (i + 1) 10 := tp_ofk (tK0_3 (tp_isk h (by decide))).1 (by decide) h.2.2
theorem tK1_13 {i : Nat} (h : tp_ik i 1) : tp_ik (i + 1) 4 := by
  have h0 : ∀ j : Fin 236, tp_kd j.val = 1 → tp_kd (j.val + 1) = 4 ∧ j.val + 1 < 236 := by decide +kernel
  exact h0 ⟨i, h.2⟩ h.1
theorem tR1_13 {w : WPar} {i : Nat} (h : tp_is w i 1) : tp_is w (i + 1) 4 := tp_ofk (tK1_13 (tp_isk h (by decide))).1 (by decide) h.2.2
theorem tK2_2 {i : Nat} (h : tp_ik i 2) : tp_ik (i + 1) 1 := by
  have h0 : ∀ j : Fin 236, tp_kd j.val = 2 → tp_kd (j.val + 1) = 1 ∧ j.val + 1 < 236 := by decide +kernel
  exact h0 ⟨i, h.2⟩ h.1
theorem tR2_2 {w : WPar} {i : Nat} (h : tp_is w i 2) : tp_is w (i + 1) 1 := tp_ofk (tK2_2 (tp_isk h (by decide))).1 (by decide) h.2.2
theorem tK2_3 {i : Nat} (h : tp_ik i 2) : tp_ik (i + 3) 0 := by
  have h0 : ∀ j : Fin 236, tp_kd j.val = 2 → tp_kd (j.val + 3) = 0 ∧ j.val + 3 < 236 := by decide +kernel
  exact h0 ⟨i, h.2⟩ h.1
theorem tR2_3 {w : WPar} {i : Nat} (h : tp_is w i 2) : tp_is w (i + 3) 0 := tp_ofk (tK2_3 (tp_isk h (by decide))).1 (by decide) h.2.2
theorem tR3_2 {w : WPar} {i : Nat} (h : tp_is w i 3) : tp_is w 2 11 := tp_ofk (show tp_kd 2 = 11 by decide +kernel) (by decide) h.2.2
theorem tR3_3 {w : WPar} {i : Nat} (h : tp_is w i 3) : tp_is w 3 11 := tp_ofk (show tp_kd 3 = 11 by decide +kernel) (by decide) h.2.2
theorem tR3_4 {w : WPar} {i : Nat} (h : tp_is w i 3) : tp_is w 4 11 := tp_ofk (show tp_kd 4 = 11 by decide +kernel) (by decide) h.2.2
theorem tR3_5 {w : WPar} {i : Nat} (h : tp_is w i 3) : tp_is w 5 11 := tp_ofk (show tp_kd 5 = 11 by decide +kernel) (by decide) h.2.2
theorem tR3_6 {w : WPar} {i : Nat} (h : tp_is w i 3) : tp_is w 6 12 := tp_ofk (show tp_kd 6 = 12 by decide +kernel) (by decide) h.2.2
theorem tR3_7 {w : WPar} {i : Nat} (h : tp_is w i 3) : tp_is w 7 14 := tp_ofk (show tp_kd 7 = 14 by decide +kernel) (by decide) h.2.2
theorem tR3_8 {w : WPar} {i : Nat} (h : tp_is w i 3) : tp_is w 16 13 := tp_ofk (show tp_kd 16 = 13 by decide +kernel) (by decide) h.2.2
theorem tR5_0 {w : WPar} {i : Nat} (h : tp_is w i 5) : tp_is w 1 3 := tp_ofk (show tp_kd 1 = 3 by decide +kernel) (by decide) h.2.2
theorem tK5_1 {i : Nat} (h : tp_ik i 5) : tp_ik (i + 1) 15 := by
  have h0 : ∀ j : Fin 236, tp_kd j.val = 5 → tp_kd (j.val + 1) = 15 ∧ j.val + 1 < 236 := by decide +kernel
  exact h0 ⟨i, h.2⟩ h.1
theorem tR5_1 {w : WPar} {i : Nat} (h : tp_is w i 5) : tp_is w (i + 1) 15 := tp_ofk (tK5_1 (tp_isk h (by decide))).1 (by decide) h.2.2
theorem tK5_2 {i : Nat} (h : tp_ik i 5) : tp_ik (i + 2) 16 := by
  have h0 : ∀ j : Fin 236, tp_kd j.val = 5 → tp_kd (j.val + 2) = 16 ∧ j.val + 2 < 236 := by decide +kernel
  exact h0 ⟨i, h.2⟩ h.1
theorem tR5_2 {w : WPar} {i : Nat} (h : tp_is w i 5) : tp_is w (i + 2) 16 := tp_ofk (tK5_2 (tp_isk h (by decide))).1 (by decide) h.2.2
theorem tK6_0 {i : Nat} (h : tp_ik i 6) : tp_ik (i + 1) 8 := by
  have h0 : ∀ j : Fin 236, tp_kd j.val = 6 → tp_kd (j.val + 1) = 8 ∧ j.val + 1 < 236 := by decide +kernel
  exact h0 ⟨i, h.2⟩ h.1
theorem tR6_0 {w : WPar} {i : Nat} (h : tp_is w i 6) : tp_is w (i + 1) 8 := tp_ofk (tK6_0 (tp_isk h (by decide))).1 (by decide) h.2.2
theorem tK6_3 {i : Nat} (h : tp_ik i 6) : tp_ik (i + 2) 9 := by
  have h0 : ∀ j : Fin 236, tp_kd j.val = 6 → tp_kd (j.val + 2) = 9 ∧ j.val + 2 < 236 := by decide +kernel
  exact h0 ⟨i, h.2⟩ h.1
theorem tR6_3 {w : WPar} {i : Nat} (h : tp_is w i 6) : tp_is w (i + 2) 9 := tp_ofk (tK6_3 (tp_isk h (by decide))).1 (by decide) h.2.2
theorem tR7_0 {w : WPar} {i : Nat} (h : tp_is w i 7) : tp_is w 1 3 := tp_ofk (show tp_kd 1 = 3 by decide +kernel) (by decide) h.2.2
theorem tR7_1 {w : WPar} {i : Nat} (h : tp_is w i 7) : tp_is w 17 5 := tp_ofk (show tp_kd 17 = 5 by decide +kernel) (by decide) h.2.2
theorem tR7_2 {w : WPar} {i : Nat} (h : tp_is w i 7) : tp_is w 122 5 := tp_ofk (show tp_kd 122 = 5 by decide +kernel) (by decide) h.2.2
theorem tR7_3 {w : WPar} {i : Nat} (h : tp_is w i 7) : tp_is w 227 17 := tp_ofk (show tp_kd 227 = 17 by decide +kernel) (by decide) h.2.2
theorem tK14 {i j : Nat} (h : tp_ik i 14) (hj : j < 8) : tp_ik (8 + j) 13 := by
  have h0 : ∀ x : Fin 236, ∀ y : Fin 8, tp_kd x.val = 14 → tp_kd (8 + y.val) = 13 ∧ 8 + y.val < 236 := by decide +kernel
  exact h0 ⟨i, h.2⟩ ⟨j, hj⟩ h.1
theorem tR14 {w : WPar} {i j : Nat} (h : tp_is w i 14) (hj : j < 8) : tp_is w (8 + j) 13 := tp_ofk (tK14 (tp_isk h (by decide)) hj).1 (by decide) h.2.2
theorem tK15 {i j : Nat} (h : tp_ik i 15) (hj : j < 24) : tp_ik (i + 2 + 3 * j) 6 := by
  have h0 : ∀ x : Fin 236, ∀ y : Fin 24, tp_kd x.val = 15 → tp_kd (x.val + 2 + 3 * y.val) = 6 ∧ x.val + 2 + 3 * y.val < 236 := by decide +kernel
  exact h0 ⟨i, h.2⟩ ⟨j, hj⟩ h.1
theorem tR15 {w : WPar} {i j : Nat} (h : tp_is w i 15) (hj : j < 24) : tp_is w (i + 2 + 3 * j) 6 := tp_ofk (tK15 (tp_isk h (by decide)) hj).1 (by decide) h.2.2
theorem tK16 {i j : Nat} (h : tp_ik i 16) (hj : j < 6) : tp_ik (i + 73 + 5 * j) 2 := by
  have h0 : ∀ x : Fin 236, ∀ y : Fin 6, tp_kd x.val = 16 → tp_kd (x.val + 73 + 5 * y.val) = 2 ∧ x.val + 73 + 5 * y.val < 236 := by decide +kernel
  exact h0 ⟨i, h.2⟩ ⟨j, hj⟩ h.1
theorem tR16 {w : WPar} {i j : Nat} (h : tp_is w i 16) (hj : j < 6) : tp_is w (i + 73 + 5 * j) 2 := tp_ofk (tK16 (tp_isk h (by decide)) hj).1 (by decide) h.2.2
theorem tK17 {i j : Nat} (h : tp_ik i 17) (hj : j < 6) : tp_ik (228 + j) 18 := by
  have h0 : ∀ x : Fin 236, ∀ y : Fin 6, tp_kd x.val = 17 → tp_kd (228 + y.val) = 18 ∧ 228 + y.val < 236 := by decide +kernel
  exact h0 ⟨i, h.2⟩ ⟨j, hj⟩ h.1
theorem tR17 {w : WPar} {i j : Nat} (h : tp_is w i 17) (hj : j < 6) : tp_is w (228 + j) 18 := tp_ofk (tK17 (tp_isk h (by decide)) hj).1 (by decide) h.2.2
/-- the machine, at pc with the locals ls and the stack st, in the world τ, comes to an end as the method's post says -/
def Zt (w : WPar) (g : Cxt) (τ : TS) (k : Nat × Nat) (pc : Nat) (ls : List (Nat × Value)) (st : List Value) : Prop := match g with
  | (p, e, R, s, m, args, below, meth, c, Q, nL) => ∀ (H : Heap) (locs : List Loc) (la : Array Slot), lv_has la nL ls → va_P (tp_D w) vwCl (tp_W w τ) H → va_S (tp_A w s.heap.size) s.heap H locs → W p w.2.1 e R s m args below meth c H locs k.1 k.2 Q (F0 m pc la st)
def Cok (w : WPar) (g : Cxt) (cc : ByteArray) (own : String) (Ts : List Cond) (n F L Ce Sl : Nat) : Prop := match g with
  | (p, _, R, s, m, args, _, meth, c, _, nL) => p.tables.exec = Jvm.exec ∧ c.code = cc ∧ c.maxLocals = n ∧ s.vm.findClass own = some m.cls ∧ (∀ x ∈ Ts, x.before args s = true) ∧ va_K (tp_D w) vwCl (tp_tys w) s ∧ tp_inj w ∧ nL = n ∧ R.frames = F ∧ R.locals = L ∧ R.cells = Ce ∧ R.slots = Sl ∧ meth.locks = false
section ZT
variable {w : WPar} {g : Cxt} {τ : TS} {k : Nat × Nat} {pc : Nat} {ls : List (Nat × Value)} {st : List Value} {cc : ByteArray} {own : String} {Ts : List Cond} {n F L Ce Sl : Nat}
theorem z_iconst (C : Cok w g cc own Ts n F L Ce Sl) {q : Int} (v : Int32) (hv : Int32.ofInt q = v) (hdg : decode cc pc = .ok (.iconst q, 1)) (kk : Zt w g τ k (pc + 1) ls (.int v :: st)) : Zt w g τ k pc ls (st) := by
  obtain ⟨p, e, R, s, m, args, below, meth, c, Q, nL⟩ := g
  obtain ⟨hx, hb, -⟩ := C
  exact fun H locs la hl hP hS => lv_iconst hx hb hdg hv (kk H locs la hl hP hS)
theorem z_bipush (C : Cok w g cc own Ts n F L Ce Sl) {q : Int} (v : Int32) (hv : (Int8.ofInt q).toInt32 = v) (hdg : decode cc pc = .ok (.bipush q, 2)) (kk : Zt w g τ k (pc + 2) ls (.int v :: st)) : Zt w g τ k pc ls (st) := by
  obtain ⟨p, e, R, s, m, args, below, meth, c, Q, nL⟩ := g
  obtain ⟨hx, hb, -⟩ := C
  exact fun H locs la hl hP hS => lv_bipush hx hb hdg hv (kk H locs la hl hP hS)
theorem z_sipush (C : Cok w g cc own Ts n F L Ce Sl) {q : Int} (v : Int32) (hv : (Int16.ofInt q).toInt32 = v) (hdg : decode cc pc = .ok (.sipush q, 3)) (kk : Zt w g τ k (pc + 3) ls (.int v :: st)) : Zt w g τ k pc ls (st) := by
  obtain ⟨p, e, R, s, m, args, below, meth, c, Q, nL⟩ := g
  obtain ⟨hx, hb, -⟩ := C
  exact fun H locs la hl hP hS => lv_sipush hx hb hdg hv (kk H locs la hl hP hS)
theorem z_iload_n (C : Cok w g cc own Ts n F L Ce Sl) {j : Fin 4} {x : Int32} (q : Nat) (hq : ls[q]? = some ((j : Nat), .int x)) (hdg : decode cc pc = .ok (.iload_n j, 1)) (kk : Zt w g τ k (pc + 1) ls (.int x :: st)) : Zt w g τ k pc ls (st) := by
  obtain ⟨p, e, R, s, m, args, below, meth, c, Q, nL⟩ := g
  obtain ⟨hx, hb, -⟩ := C
  exact fun H locs la hl hP hS => lv_iload_n hx hb hdg rfl (lv_at hl q hq) (kk H locs la hl hP hS)
theorem z_iload (C : Cok w g cc own Ts n F L Ce Sl) {j : Nat} {x : Int32} (q : Nat) (hq : ls[q]? = some (j, .int x)) (hdg : decode cc pc = .ok (.iload j, 2)) (kk : Zt w g τ k (pc + 2) ls (.int x :: st)) : Zt w g τ k pc ls (st) := by
  obtain ⟨p, e, R, s, m, args, below, meth, c, Q, nL⟩ := g
  obtain ⟨hx, hb, -⟩ := C
  exact fun H locs la hl hP hS => lv_iload hx hb hdg (lv_at hl q hq) (kk H locs la hl hP hS)
theorem z_lload_n (C : Cok w g cc own Ts n F L Ce Sl) {j : Fin 4} {x : Int64} (q : Nat) (hq : ls[q]? = some ((j : Nat), .long x)) (hdg : decode cc pc = .ok (.lload_n j, 1)) (kk : Zt w g τ k (pc + 1) ls (.long x :: st)) : Zt w g τ k pc ls (st) := by
  obtain ⟨p, e, R, s, m, args, below, meth, c, Q, nL⟩ := g
  obtain ⟨hx, hb, -⟩ := C
  exact fun H locs la hl hP hS => lv_lload_n hx hb hdg rfl (lv_at hl q hq) (kk H locs la hl hP hS)
theorem z_lload (C : Cok w g cc own Ts n F L Ce Sl) {j : Nat} {x : Int64} (q : Nat) (hq : ls[q]? = some (j, .long x)) (hdg : decode cc pc = .ok (.lload j, 2)) (kk : Zt w g τ k (pc + 2) ls (.long x :: st)) : Zt w g τ k pc ls (st) := by
  obtain ⟨p, e, R, s, m, args, below, meth, c, Q, nL⟩ := g
  obtain ⟨hx, hb, -⟩ := C
  exact fun H locs la hl hP hS => lv_lload hx hb hdg (lv_at hl q hq) (kk H locs la hl hP hS)
theorem z_aload_n (C : Cok w g cc own Ts n F L Ce Sl) {j : Fin 4} {x : Nat} (q : Nat) (hq : ls[q]? = some ((j : Nat), .ref x)) (hdg : decode cc pc = .ok (.aload_n j, 1)) (kk : Zt w g τ k (pc + 1) ls (.ref x :: st)) : Zt w g τ k pc ls (st) := by
  obtain ⟨p, e, R, s, m, args, below, meth, c, Q, nL⟩ := g
  obtain ⟨hx, hb, -⟩ := C
  exact fun H locs la hl hP hS => lv_aload_n hx hb hdg rfl (lv_at hl q hq) (kk H locs la hl hP hS)
theorem z_aload (C : Cok w g cc own Ts n F L Ce Sl) {j : Nat} {x : Nat} (q : Nat) (hq : ls[q]? = some (j, .ref x)) (hdg : decode cc pc = .ok (.aload j, 2)) (kk : Zt w g τ k (pc + 2) ls (.ref x :: st)) : Zt w g τ k pc ls (st) := by
  obtain ⟨p, e, R, s, m, args, below, meth, c, Q, nL⟩ := g
  obtain ⟨hx, hb, -⟩ := C
  exact fun H locs la hl hP hS => lv_aload hx hb hdg (lv_at hl q hq) (kk H locs la hl hP hS)
theorem z_istore_n (C : Cok w g cc own Ts n F L Ce Sl) {j : Fin 4} {x : Int32} (ls2 : List (Nat × Value)) (hdg : decode cc pc = .ok (.istore_n j, 1)) (hn : (j : Nat) < n) (hl2 : ((j : Nat), Value.int x) :: ls.filter (fun q => !(q.1 == (j : Nat)) && !(q.1 + 1 == (j : Nat) && q.2.category == 2)) = ls2) (kk : Zt w g τ k (pc + 1) ls2 st) : Zt w g τ k pc ls (.int x :: st) := by
  obtain ⟨p, e, R, s, m, args, below, meth, c, Q, nL⟩ := g
  obtain ⟨hx, hb, -, -, -, -, -, hnL, -⟩ := C
  exact fun H locs la hl hP hS => lv_istore_n hx hb hdg rfl hl (by rw [hnL]; exact hn) hl2 (fun la2 hl3 => kk H locs la2 hl3 hP hS)
theorem z_istore (C : Cok w g cc own Ts n F L Ce Sl) {j : Nat} {x : Int32} (ls2 : List (Nat × Value)) (hdg : decode cc pc = .ok (.istore j, 2)) (hn : j < n) (hl2 : (j, Value.int x) :: ls.filter (fun q => !(q.1 == j) && !(q.1 + 1 == j && q.2.category == 2)) = ls2) (kk : Zt w g τ k (pc + 2) ls2 st) : Zt w g τ k pc ls (.int x :: st) := by
  obtain ⟨p, e, R, s, m, args, below, meth, c, Q, nL⟩ := g
  obtain ⟨hx, hb, -, -, -, -, -, hnL, -⟩ := C
  exact fun H locs la hl hP hS => lv_istore hx hb hdg hl (by rw [hnL]; exact hn) hl2 (fun la2 hl3 => kk H locs la2 hl3 hP hS)
theorem z_astore_n (C : Cok w g cc own Ts n F L Ce Sl) {j : Fin 4} {x : Nat} (ls2 : List (Nat × Value)) (hdg : decode cc pc = .ok (.astore_n j, 1)) (hn : (j : Nat) < n) (hl2 : ((j : Nat), Value.ref x) :: ls.filter (fun q => !(q.1 == (j : Nat)) && !(q.1 + 1 == (j : Nat) && q.2.category == 2)) = ls2) (kk : Zt w g τ k (pc + 1) ls2 st) : Zt w g τ k pc ls (.ref x :: st) := by
  obtain ⟨p, e, R, s, m, args, below, meth, c, Q, nL⟩ := g
  obtain ⟨hx, hb, -, -, -, -, -, hnL, -⟩ := C
  exact fun H locs la hl hP hS => lv_astore_n hx hb hdg rfl hl (by rw [hnL]; exact hn) hl2 (fun la2 hl3 => kk H locs la2 hl3 hP hS)
theorem z_astore (C : Cok w g cc own Ts n F L Ce Sl) {j : Nat} {x : Nat} (ls2 : List (Nat × Value)) (hdg : decode cc pc = .ok (.astore j, 2)) (hn : j < n) (hl2 : (j, Value.ref x) :: ls.filter (fun q => !(q.1 == j) && !(q.1 + 1 == j && q.2.category == 2)) = ls2) (kk : Zt w g τ k (pc + 2) ls2 st) : Zt w g τ k pc ls (.ref x :: st) := by
  obtain ⟨p, e, R, s, m, args, below, meth, c, Q, nL⟩ := g
  obtain ⟨hx, hb, -, -, -, -, -, hnL, -⟩ := C
  exact fun H locs la hl hP hS => lv_astore hx hb hdg hl (by rw [hnL]; exact hn) hl2 (fun la2 hl3 => kk H locs la2 hl3 hP hS)
theorem z_lstore_n (C : Cok w g cc own Ts n F L Ce Sl) {j : Fin 4} {x : Int64} (ls2 : List (Nat × Value)) (hdg : decode cc pc = .ok (.lstore_n j, 1)) (hn : (j : Nat) + 1 < n) (hl2 : ((j : Nat), Value.long x) :: ls.filter (fun q => !(q.1 == (j : Nat)) && (!(q.1 == (j : Nat) + 1) && !(q.1 + 1 == (j : Nat) && q.2.category == 2))) = ls2) (kk : Zt w g τ k (pc + 1) ls2 st) : Zt w g τ k pc ls (.long x :: st) := by
  obtain ⟨p, e, R, s, m, args, below, meth, c, Q, nL⟩ := g
  obtain ⟨hx, hb, -, -, -, -, -, hnL, -⟩ := C
  exact fun H locs la hl hP hS => lv_lstore_n hx hb hdg rfl hl (by rw [hnL]; exact hn) hl2 (fun la2 hl3 => kk H locs la2 hl3 hP hS)
theorem z_lstore (C : Cok w g cc own Ts n F L Ce Sl) {j : Nat} {x : Int64} (ls2 : List (Nat × Value)) (hdg : decode cc pc = .ok (.lstore j, 2)) (hn : j + 1 < n) (hl2 : (j, Value.long x) :: ls.filter (fun q => !(q.1 == j) && (!(q.1 == j + 1) && !(q.1 + 1 == j && q.2.category == 2))) = ls2) (kk : Zt w g τ k (pc + 2) ls2 st) : Zt w g τ k pc ls (.long x :: st) := by
  obtain ⟨p, e, R, s, m, args, below, meth, c, Q, nL⟩ := g
  obtain ⟨hx, hb, -, -, -, -, -, hnL, -⟩ := C
  exact fun H locs la hl hP hS => lv_lstore hx hb hdg hl (by rw [hnL]; exact hn) hl2 (fun la2 hl3 => kk H locs la2 hl3 hP hS)
theorem z_iinc (C : Cok w g cc own Ts n F L Ce Sl) {j : Nat} {d : Int} {x : Int32} (q : Nat) (v : Int32) (ls2 : List (Nat × Value)) (hdg : decode cc pc = .ok (.iinc j d, 3)) (hq : ls[q]? = some (j, .int x)) (hv : x + Int32.ofInt d = v) (hn : j < n) (hl2 : (j, Value.int v) :: ls.filter (fun q => !(q.1 == j) && !(q.1 + 1 == j && q.2.category == 2)) = ls2) (kk : Zt w g τ k (pc + 3) ls2 st) : Zt w g τ k pc ls st := by
  obtain ⟨p, e, R, s, m, args, below, meth, c, Q, nL⟩ := g
  obtain ⟨hx, hb, -, -, -, -, -, hnL, -⟩ := C
  exact fun H locs la hl hP hS => lv_iinc hx hb hdg hl hq hv (by rw [hnL]; exact hn) hl2 (fun la2 hl3 => kk H locs la2 hl3 hP hS)
theorem z_iadd (C : Cok w g cc own Ts n F L Ce Sl) {x y : Int32} (hdg : decode cc pc = .ok (.iadd, 1)) (kk : Zt w g τ k (pc + 1) ls (.int (x + y) :: st)) : Zt w g τ k pc ls (.int y :: .int x :: st) := by
  obtain ⟨p, e, R, s, m, args, below, meth, c, Q, nL⟩ := g
  obtain ⟨hx, hb, -⟩ := C
  exact fun H locs la hl hP hS => lv_iadd hx hb hdg (kk H locs la hl hP hS)
theorem z_isub (C : Cok w g cc own Ts n F L Ce Sl) {x y : Int32} (hdg : decode cc pc = .ok (.isub, 1)) (kk : Zt w g τ k (pc + 1) ls (.int (x - y) :: st)) : Zt w g τ k pc ls (.int y :: .int x :: st) := by
  obtain ⟨p, e, R, s, m, args, below, meth, c, Q, nL⟩ := g
  obtain ⟨hx, hb, -⟩ := C
  exact fun H locs la hl hP hS => lv_isub hx hb hdg (kk H locs la hl hP hS)
theorem z_imul (C : Cok w g cc own Ts n F L Ce Sl) {x y : Int32} (hdg : decode cc pc = .ok (.imul, 1)) (kk : Zt w g τ k (pc + 1) ls (.int (x * y) :: st)) : Zt w g τ k pc ls (.int y :: .int x :: st) := by
  obtain ⟨p, e, R, s, m, args, below, meth, c, Q, nL⟩ := g
  obtain ⟨hx, hb, -⟩ := C
  exact fun H locs la hl hP hS => lv_imul hx hb hdg (kk H locs la hl hP hS)
theorem z_iand (C : Cok w g cc own Ts n F L Ce Sl) {x y : Int32} (hdg : decode cc pc = .ok (.iand, 1)) (kk : Zt w g τ k (pc + 1) ls (.int (x &&& y) :: st)) : Zt w g τ k pc ls (.int y :: .int x :: st) := by
  obtain ⟨p, e, R, s, m, args, below, meth, c, Q, nL⟩ := g
  obtain ⟨hx, hb, -⟩ := C
  exact fun H locs la hl hP hS => lv_iand hx hb hdg (kk H locs la hl hP hS)
theorem z_ior (C : Cok w g cc own Ts n F L Ce Sl) {x y : Int32} (hdg : decode cc pc = .ok (.ior, 1)) (kk : Zt w g τ k (pc + 1) ls (.int (x ||| y) :: st)) : Zt w g τ k pc ls (.int y :: .int x :: st) := by
  obtain ⟨p, e, R, s, m, args, below, meth, c, Q, nL⟩ := g
  obtain ⟨hx, hb, -⟩ := C
  exact fun H locs la hl hP hS => lv_ior hx hb hdg (kk H locs la hl hP hS)
theorem z_ixor (C : Cok w g cc own Ts n F L Ce Sl) {x y : Int32} (hdg : decode cc pc = .ok (.ixor, 1)) (kk : Zt w g τ k (pc + 1) ls (.int (x ^^^ y) :: st)) : Zt w g τ k pc ls (.int y :: .int x :: st) := by
  obtain ⟨p, e, R, s, m, args, below, meth, c, Q, nL⟩ := g
  obtain ⟨hx, hb, -⟩ := C
  exact fun H locs la hl hP hS => lv_ixor hx hb hdg (kk H locs la hl hP hS)
theorem z_ishl (C : Cok w g cc own Ts n F L Ce Sl) {x y : Int32} (hdg : decode cc pc = .ok (.ishl, 1)) (kk : Zt w g τ k (pc + 1) ls (.int (x <<< (y &&& 31)) :: st)) : Zt w g τ k pc ls (.int y :: .int x :: st) := by
  obtain ⟨p, e, R, s, m, args, below, meth, c, Q, nL⟩ := g
  obtain ⟨hx, hb, -⟩ := C
  exact fun H locs la hl hP hS => lv_ishl hx hb hdg (kk H locs la hl hP hS)
theorem z_ishr (C : Cok w g cc own Ts n F L Ce Sl) {x y : Int32} (hdg : decode cc pc = .ok (.ishr, 1)) (kk : Zt w g τ k (pc + 1) ls (.int (x >>> (y &&& 31)) :: st)) : Zt w g τ k pc ls (.int y :: .int x :: st) := by
  obtain ⟨p, e, R, s, m, args, below, meth, c, Q, nL⟩ := g
  obtain ⟨hx, hb, -⟩ := C
  exact fun H locs la hl hP hS => lv_ishr hx hb hdg (kk H locs la hl hP hS)
theorem z_idiv (C : Cok w g cc own Ts n F L Ce Sl) {x y : Int32} (hy : ¬ y = 0) (hdg : decode cc pc = .ok (.idiv, 1)) (kk : Zt w g τ k (pc + 1) ls (.int (x / y) :: st)) : Zt w g τ k pc ls (.int y :: .int x :: st) := by
  obtain ⟨p, e, R, s, m, args, below, meth, c, Q, nL⟩ := g
  obtain ⟨hx, hb, -⟩ := C
  exact fun H locs la hl hP hS => lv_idiv hx hb hdg hy (kk H locs la hl hP hS)
theorem z_irem (C : Cok w g cc own Ts n F L Ce Sl) {x y : Int32} (hy : ¬ y = 0) (hdg : decode cc pc = .ok (.irem, 1)) (kk : Zt w g τ k (pc + 1) ls (.int (x - x / y * y) :: st)) : Zt w g τ k pc ls (.int y :: .int x :: st) := by
  obtain ⟨p, e, R, s, m, args, below, meth, c, Q, nL⟩ := g
  obtain ⟨hx, hb, -⟩ := C
  exact fun H locs la hl hP hS => lv_irem hx hb hdg hy (kk H locs la hl hP hS)
theorem z_ineg (C : Cok w g cc own Ts n F L Ce Sl) {x : Int32} (hdg : decode cc pc = .ok (.ineg, 1)) (kk : Zt w g τ k (pc + 1) ls (.int (-x) :: st)) : Zt w g τ k pc ls (.int x :: st) := by
  obtain ⟨p, e, R, s, m, args, below, meth, c, Q, nL⟩ := g
  obtain ⟨hx, hb, -⟩ := C
  exact fun H locs la hl hP hS => lv_ineg hx hb hdg (kk H locs la hl hP hS)
theorem z_ladd (C : Cok w g cc own Ts n F L Ce Sl) {x y : Int64} (hdg : decode cc pc = .ok (.ladd, 1)) (kk : Zt w g τ k (pc + 1) ls (.long (x + y) :: st)) : Zt w g τ k pc ls (.long y :: .long x :: st) := by
  obtain ⟨p, e, R, s, m, args, below, meth, c, Q, nL⟩ := g
  obtain ⟨hx, hb, -⟩ := C
  exact fun H locs la hl hP hS => lv_ladd hx hb hdg (kk H locs la hl hP hS)
theorem z_lmul (C : Cok w g cc own Ts n F L Ce Sl) {x y : Int64} (hdg : decode cc pc = .ok (.lmul, 1)) (kk : Zt w g τ k (pc + 1) ls (.long (x * y) :: st)) : Zt w g τ k pc ls (.long y :: .long x :: st) := by
  obtain ⟨p, e, R, s, m, args, below, meth, c, Q, nL⟩ := g
  obtain ⟨hx, hb, -⟩ := C
  exact fun H locs la hl hP hS => lv_lmul hx hb hdg (kk H locs la hl hP hS)
theorem z_lsub (C : Cok w g cc own Ts n F L Ce Sl) {x y : Int64} (hdg : decode cc pc = .ok (.lsub, 1)) (kk : Zt w g τ k (pc + 1) ls (.long (x - y) :: st)) : Zt w g τ k pc ls (.long y :: .long x :: st) := by
  obtain ⟨p, e, R, s, m, args, below, meth, c, Q, nL⟩ := g
  obtain ⟨hx, hb, -⟩ := C
  exact fun H locs la hl hP hS => lv_lsub hx hb hdg (kk H locs la hl hP hS)
theorem z_i2l (C : Cok w g cc own Ts n F L Ce Sl) {x : Int32} (hdg : decode cc pc = .ok (.i2l, 1)) (kk : Zt w g τ k (pc + 1) ls (.long x.toInt64 :: st)) : Zt w g τ k pc ls (.int x :: st) := by
  obtain ⟨p, e, R, s, m, args, below, meth, c, Q, nL⟩ := g
  obtain ⟨hx, hb, -⟩ := C
  exact fun H locs la hl hP hS => lv_i2l hx hb hdg rfl (kk H locs la hl hP hS)
theorem z_lcmp (C : Cok w g cc own Ts n F L Ce Sl) {x y : Int64} (hdg : decode cc pc = .ok (.lcmp, 1)) (kk : Zt w g τ k (pc + 1) ls (.int (lg_cmp x y) :: st)) : Zt w g τ k pc ls (.long y :: .long x :: st) := by
  obtain ⟨p, e, R, s, m, args, below, meth, c, Q, nL⟩ := g
  obtain ⟨hx, hb, -⟩ := C
  exact fun H locs la hl hP hS => W.lcmp hx hb hdg (kk H locs la hl hP hS)
theorem z_dup (C : Cok w g cc own Ts n F L Ce Sl) {v : Value} (hv : v.category = 1) (hdg : decode cc pc = .ok (.dup, 1)) (kk : Zt w g τ k (pc + 1) ls (v :: v :: st)) : Zt w g τ k pc ls (v :: st) := by
  obtain ⟨p, e, R, s, m, args, below, meth, c, Q, nL⟩ := g
  obtain ⟨hx, hb, -⟩ := C
  exact fun H locs la hl hP hS => lv_dup hx hb hdg hv (kk H locs la hl hP hS)
theorem z_dup_x1 (C : Cok w g cc own Ts n F L Ce Sl) {v u : Value} (hv : v.category = 1) (hu : u.category = 1) (hdg : decode cc pc = .ok (.dup_x1, 1)) (kk : Zt w g τ k (pc + 1) ls (v :: u :: v :: st)) : Zt w g τ k pc ls (v :: u :: st) := by
  obtain ⟨p, e, R, s, m, args, below, meth, c, Q, nL⟩ := g
  obtain ⟨hx, hb, -⟩ := C
  exact fun H locs la hl hP hS => lv_dup_x1 hx hb hdg hv hu (kk H locs la hl hP hS)
theorem z_dup2 (C : Cok w g cc own Ts n F L Ce Sl) {v u : Value} (hv : v.category = 1) (hu : u.category = 1) (hdg : decode cc pc = .ok (.dup2, 1)) (kk : Zt w g τ k (pc + 1) ls (v :: u :: v :: u :: st)) : Zt w g τ k pc ls (v :: u :: st) := by
  obtain ⟨p, e, R, s, m, args, below, meth, c, Q, nL⟩ := g
  obtain ⟨hx, hb, -⟩ := C
  exact fun H locs la hl hP hS => lv_dup2_11 hx hb hdg hv hu (kk H locs la hl hP hS)
theorem z_pop (C : Cok w g cc own Ts n F L Ce Sl) {v : Value} (hv : v.category = 1) (hdg : decode cc pc = .ok (.pop, 1)) (kk : Zt w g τ k (pc + 1) ls (st)) : Zt w g τ k pc ls (v :: st) := by
  obtain ⟨p, e, R, s, m, args, below, meth, c, Q, nL⟩ := g
  obtain ⟨hx, hb, -⟩ := C
  exact fun H locs la hl hP hS => lv_pop hx hb hdg hv (kk H locs la hl hP hS)
theorem z_ldc (C : Cok w g cc own Ts n F L Ce Sl) {index : Nat} (v : Int32) (hc : Cond.constant own index v ∈ Ts) (hdg : decode cc pc = .ok (.ldc index, 2)) (kk : Zt w g τ k (pc + 2) ls (.int v :: st)) : Zt w g τ k pc ls st := by
  obtain ⟨p, e, R, s, m, args, below, meth, c, Q, nL⟩ := g
  obtain ⟨hx, hb, hml, hown, hts, -⟩ := C
  exact fun H locs la hl hP hS => lv_ldc hx hb hown (hts _ hc) hdg (kk H locs la hl hP hS)
theorem z_ldcw (C : Cok w g cc own Ts n F L Ce Sl) {index : Nat} (v : Int32) (hc : Cond.constant own index v ∈ Ts) (hdg : decode cc pc = .ok (.ldc_w index, 3)) (kk : Zt w g τ k (pc + 3) ls (.int v :: st)) : Zt w g τ k pc ls st := by
  obtain ⟨p, e, R, s, m, args, below, meth, c, Q, nL⟩ := g
  obtain ⟨hx, hb, hml, hown, hts, -⟩ := C
  exact fun H locs la hl hP hS => lv_ldcw hx hb hown (hts _ hc) hdg (kk H locs la hl hP hS)
theorem z_ldc2 (C : Cok w g cc own Ts n F L Ce Sl) {index : Nat} (v : Int64) (hc : Cond.constantLong own index v ∈ Ts) (hdg : decode cc pc = .ok (.ldc2_w index, 3)) (kk : Zt w g τ k (pc + 3) ls (.long v :: st)) : Zt w g τ k pc ls st := by
  obtain ⟨p, e, R, s, m, args, below, meth, c, Q, nL⟩ := g
  obtain ⟨hx, hb, hml, hown, hts, -⟩ := C
  exact fun H locs la hl hP hS => lv_ldc2 hx hb hown (hts _ hc) hdg (kk H locs la hl hP hS)
theorem z_icmp_eq (C : Cok w g cc own Ts n F L Ce Sl) {x y : Int32} {off : Int} {tgt : Nat} (hdg : decode cc pc = .ok (.if_icmp .eq off, 3)) (ht : (pc : Int) + off = (tgt : Int)) (kt : x = y → Zt w g τ k tgt ls st) (kf : ¬ x = y → Zt w g τ k (pc + 3) ls st) : Zt w g τ k pc ls (.int y :: .int x :: st) := by
  obtain ⟨p, e, R, s, m, args, below, meth, c, Q, nL⟩ := g
  obtain ⟨hx, hb, -⟩ := C
  exact fun H locs la hl hP hS => lv_icmp_eq hx hb hdg ht (fun h => kt h H locs la hl hP hS) (fun h => kf h H locs la hl hP hS)
theorem z_if_eq (C : Cok w g cc own Ts n F L Ce Sl) {x : Int32} {off : Int} {tgt : Nat} (hdg : decode cc pc = .ok (.ifCond .eq off, 3)) (ht : (pc : Int) + off = (tgt : Int)) (kt : x = 0 → Zt w g τ k tgt ls st) (kf : ¬ x = 0 → Zt w g τ k (pc + 3) ls st) : Zt w g τ k pc ls (.int x :: st) := by
  obtain ⟨p, e, R, s, m, args, below, meth, c, Q, nL⟩ := g
  obtain ⟨hx, hb, -⟩ := C
  exact fun H locs la hl hP hS => lv_if_eq hx hb hdg ht (fun h => kt h H locs la hl hP hS) (fun h => kf h H locs la hl hP hS)
theorem z_icmp_ne (C : Cok w g cc own Ts n F L Ce Sl) {x y : Int32} {off : Int} {tgt : Nat} (hdg : decode cc pc = .ok (.if_icmp .ne off, 3)) (ht : (pc : Int) + off = (tgt : Int)) (kt : ¬ x = y → Zt w g τ k tgt ls st) (kf : x = y → Zt w g τ k (pc + 3) ls st) : Zt w g τ k pc ls (.int y :: .int x :: st) := by
  obtain ⟨p, e, R, s, m, args, below, meth, c, Q, nL⟩ := g
  obtain ⟨hx, hb, -⟩ := C
  exact fun H locs la hl hP hS => lv_icmp_ne hx hb hdg ht (fun h => kt h H locs la hl hP hS) (fun h => kf h H locs la hl hP hS)
theorem z_if_ne (C : Cok w g cc own Ts n F L Ce Sl) {x : Int32} {off : Int} {tgt : Nat} (hdg : decode cc pc = .ok (.ifCond .ne off, 3)) (ht : (pc : Int) + off = (tgt : Int)) (kt : ¬ x = 0 → Zt w g τ k tgt ls st) (kf : x = 0 → Zt w g τ k (pc + 3) ls st) : Zt w g τ k pc ls (.int x :: st) := by
  obtain ⟨p, e, R, s, m, args, below, meth, c, Q, nL⟩ := g
  obtain ⟨hx, hb, -⟩ := C
  exact fun H locs la hl hP hS => lv_if_ne hx hb hdg ht (fun h => kt h H locs la hl hP hS) (fun h => kf h H locs la hl hP hS)
theorem z_icmp_lt (C : Cok w g cc own Ts n F L Ce Sl) {x y : Int32} {off : Int} {tgt : Nat} (hdg : decode cc pc = .ok (.if_icmp .lt off, 3)) (ht : (pc : Int) + off = (tgt : Int)) (kt : x < y → Zt w g τ k tgt ls st) (kf : ¬ x < y → Zt w g τ k (pc + 3) ls st) : Zt w g τ k pc ls (.int y :: .int x :: st) := by
  obtain ⟨p, e, R, s, m, args, below, meth, c, Q, nL⟩ := g
  obtain ⟨hx, hb, -⟩ := C
  exact fun H locs la hl hP hS => lv_icmp_lt hx hb hdg ht (fun h => kt h H locs la hl hP hS) (fun h => kf h H locs la hl hP hS)
theorem z_if_lt (C : Cok w g cc own Ts n F L Ce Sl) {x : Int32} {off : Int} {tgt : Nat} (hdg : decode cc pc = .ok (.ifCond .lt off, 3)) (ht : (pc : Int) + off = (tgt : Int)) (kt : x < 0 → Zt w g τ k tgt ls st) (kf : ¬ x < 0 → Zt w g τ k (pc + 3) ls st) : Zt w g τ k pc ls (.int x :: st) := by
  obtain ⟨p, e, R, s, m, args, below, meth, c, Q, nL⟩ := g
  obtain ⟨hx, hb, -⟩ := C
  exact fun H locs la hl hP hS => lv_if_lt hx hb hdg ht (fun h => kt h H locs la hl hP hS) (fun h => kf h H locs la hl hP hS)
theorem z_icmp_ge (C : Cok w g cc own Ts n F L Ce Sl) {x y : Int32} {off : Int} {tgt : Nat} (hdg : decode cc pc = .ok (.if_icmp .ge off, 3)) (ht : (pc : Int) + off = (tgt : Int)) (kt : y ≤ x → Zt w g τ k tgt ls st) (kf : ¬ y ≤ x → Zt w g τ k (pc + 3) ls st) : Zt w g τ k pc ls (.int y :: .int x :: st) := by
  obtain ⟨p, e, R, s, m, args, below, meth, c, Q, nL⟩ := g
  obtain ⟨hx, hb, -⟩ := C
  exact fun H locs la hl hP hS => lv_icmp_ge hx hb hdg ht (fun h => kt h H locs la hl hP hS) (fun h => kf h H locs la hl hP hS)
theorem z_if_ge (C : Cok w g cc own Ts n F L Ce Sl) {x : Int32} {off : Int} {tgt : Nat} (hdg : decode cc pc = .ok (.ifCond .ge off, 3)) (ht : (pc : Int) + off = (tgt : Int)) (kt : 0 ≤ x → Zt w g τ k tgt ls st) (kf : ¬ 0 ≤ x → Zt w g τ k (pc + 3) ls st) : Zt w g τ k pc ls (.int x :: st) := by
  obtain ⟨p, e, R, s, m, args, below, meth, c, Q, nL⟩ := g
  obtain ⟨hx, hb, -⟩ := C
  exact fun H locs la hl hP hS => lv_if_ge hx hb hdg ht (fun h => kt h H locs la hl hP hS) (fun h => kf h H locs la hl hP hS)
theorem z_icmp_gt (C : Cok w g cc own Ts n F L Ce Sl) {x y : Int32} {off : Int} {tgt : Nat} (hdg : decode cc pc = .ok (.if_icmp .gt off, 3)) (ht : (pc : Int) + off = (tgt : Int)) (kt : y < x → Zt w g τ k tgt ls st) (kf : ¬ y < x → Zt w g τ k (pc + 3) ls st) : Zt w g τ k pc ls (.int y :: .int x :: st) := by
  obtain ⟨p, e, R, s, m, args, below, meth, c, Q, nL⟩ := g
  obtain ⟨hx, hb, -⟩ := C
  exact fun H locs la hl hP hS => lv_icmp_gt hx hb hdg ht (fun h => kt h H locs la hl hP hS) (fun h => kf h H locs la hl hP hS)
theorem z_if_gt (C : Cok w g cc own Ts n F L Ce Sl) {x : Int32} {off : Int} {tgt : Nat} (hdg : decode cc pc = .ok (.ifCond .gt off, 3)) (ht : (pc : Int) + off = (tgt : Int)) (kt : 0 < x → Zt w g τ k tgt ls st) (kf : ¬ 0 < x → Zt w g τ k (pc + 3) ls st) : Zt w g τ k pc ls (.int x :: st) := by
  obtain ⟨p, e, R, s, m, args, below, meth, c, Q, nL⟩ := g
  obtain ⟨hx, hb, -⟩ := C
  exact fun H locs la hl hP hS => lv_if_gt hx hb hdg ht (fun h => kt h H locs la hl hP hS) (fun h => kf h H locs la hl hP hS)
theorem z_icmp_le (C : Cok w g cc own Ts n F L Ce Sl) {x y : Int32} {off : Int} {tgt : Nat} (hdg : decode cc pc = .ok (.if_icmp .le off, 3)) (ht : (pc : Int) + off = (tgt : Int)) (kt : x ≤ y → Zt w g τ k tgt ls st) (kf : ¬ x ≤ y → Zt w g τ k (pc + 3) ls st) : Zt w g τ k pc ls (.int y :: .int x :: st) := by
  obtain ⟨p, e, R, s, m, args, below, meth, c, Q, nL⟩ := g
  obtain ⟨hx, hb, -⟩ := C
  exact fun H locs la hl hP hS => lv_icmp_le hx hb hdg ht (fun h => kt h H locs la hl hP hS) (fun h => kf h H locs la hl hP hS)
theorem z_if_le (C : Cok w g cc own Ts n F L Ce Sl) {x : Int32} {off : Int} {tgt : Nat} (hdg : decode cc pc = .ok (.ifCond .le off, 3)) (ht : (pc : Int) + off = (tgt : Int)) (kt : x ≤ 0 → Zt w g τ k tgt ls st) (kf : ¬ x ≤ 0 → Zt w g τ k (pc + 3) ls st) : Zt w g τ k pc ls (.int x :: st) := by
  obtain ⟨p, e, R, s, m, args, below, meth, c, Q, nL⟩ := g
  obtain ⟨hx, hb, -⟩ := C
  exact fun H locs la hl hP hS => lv_if_le hx hb hdg ht (fun h => kt h H locs la hl hP hS) (fun h => kf h H locs la hl hP hS)
theorem z_goto (C : Cok w g cc own Ts n F L Ce Sl) {off : Int} {tgt : Nat} (hdg : decode cc pc = .ok (.goto off, 3)) (ht : (pc : Int) + off = (tgt : Int)) (kk : Zt w g τ k tgt ls st) : Zt w g τ k pc ls st := by
  obtain ⟨p, e, R, s, m, args, below, meth, c, Q, nL⟩ := g
  obtain ⟨hx, hb, -⟩ := C
  exact fun H locs la hl hP hS => lv_goto hx hb hdg ht (kk H locs la hl hP hS)
theorem z_sub (ks : List Nat) (ls2 : List (Nat × Value)) (h2 : lv_pick ls ks = ls2) (kk : Zt w g τ k pc ls2 st) : Zt w g τ k pc ls st := by
  obtain ⟨p, e, R, s, m, args, below, meth, c, Q, nL⟩ := g
  exact fun H locs la hl hP hS => kk H locs la (lv_sub hl ks h2) hP hS
theorem z_top {x : Int32} (kk : ∀ y : Int32, y = x → Zt w g τ k pc ls (.int y :: st)) : Zt w g τ k pc ls (.int x :: st) := kk x rfl
theorem z_topl {x : Int64} (kk : ∀ y : Int64, y = x → Zt w g τ k pc ls (.long y :: st)) : Zt w g τ k pc ls (.long x :: st) := kk x rfl
theorem z_widen (k2 : Nat × Nat) (h1 : k.1 ≤ k2.1) (h2 : k.2 ≤ k2.2) (kk : Zt w g τ k2 pc ls st) : Zt w g τ k pc ls st := by
  obtain ⟨p, e, R, s, m, args, below, meth, c, Q, nL⟩ := g
  exact fun H locs la hl hP hS => W.widen h1 h2 (kk H locs la hl hP hS)
theorem z_get (C : Cok w g cc own Ts n F L Ce Sl) {ref Cn : String} {T : u_T} {N ci index i : Nat} (hi : tp_ok w i) (q : Nat) {fs : List Value} {v : Value} (hE : tp_E w i (τ i) = .inr (ci, fs)) (hin : ∀ x ∈ u_ws Cn T N, x ∈ Ts) (hc : vwCl[ci]? = some (Cn, T, N)) (hq : q < N) (hlink : Cond.fieldLink own index ref (T q).2.1 (T q).2.2.1 ∈ Ts) (hsame : ref = (T q).1) (hv : fs[q]? = some v) (hdg : decode cc pc = .ok (.getfield index, 3)) (kk : Zt w g τ k (pc + 3) ls (v :: st)) : Zt w g τ k pc ls (.ref (w.1 i) :: st) := by
  obtain ⟨p, e, R, s, m, args, below, meth, c, Q, nL⟩ := g
  obtain ⟨hx, hb, hml, hown, hts, hK, hj, -⟩ := C
  exact fun H locs la hl hP hS => va_get hx hb hts hin hown hK hP i (by rw [tp_at hi.1, hE]) hc q hq (hts _ hlink) (fun x h => by rw [hsame]; exact h) hv hdg (kk H locs la hl hP hS)
theorem z_put (C : Cok w g cc own Ts n F L Ce Sl) {ref Cn : String} {T : u_T} {N ci index i : Nat} (hi : tp_ok w i) (q : Nat) {fs : List Value} {v : Int32} {ty : FieldType} (hE : tp_E w i (τ i) = .inr (ci, fs)) (hS2 : ((.inr (ci, fs.set q (.int v))) : va_E) = tp_E w i (upd (τ i) q v)) (hin : ∀ x ∈ u_ws Cn T N, x ∈ Ts) (ty0 : Nat → FieldType) (hty : ∀ j, j < N → parseFieldDescriptor (T j).2.2.1 = some (ty0 j)) (hnm : ∀ a, a < N → ∀ b, b < N → a ≠ b → (T a).2.1 ≠ (T b).2.1) (hc : vwCl[ci]? = some (Cn, T, N)) (hq : q < N) (hlink : Cond.fieldLink own index ref (T q).2.1 (T q).2.2.1 ∈ Ts) (hsame : ref = (T q).1) (hfin : (T q).2.2.2 = false) (hd : parseFieldDescriptor (T q).2.2.1 = some ty) (hn : narrow ty (.int v) = .int v) (hfit : fits ty (.int v) = true) (hlen : q < fs.length) (hdg : decode cc pc = .ok (.putfield index, 3)) (kk : ∀ τ2 : TS, τ2 = tp_up τ i q v → Zt w g τ2 k (pc + 3) ls st) : Zt w g τ k pc ls (.int v :: .ref (w.1 i) :: st) := by
  obtain ⟨p, e, R, s, m, args, below, meth, c, Q, nL⟩ := g
  obtain ⟨hx, hb, hml, hown, hts, hK, hj, -⟩ := C
  exact fun H locs la hl hP hS => va_put hx hb hts hin ty0 hty hnm hown hK hP (tp_Dd hj) hS i (by rw [tp_at hi.1, hE]) hc q hq (hts _ hlink) (fun x h => by rw [hsame]; exact h) hfin hd hn hfit hlen hdg (fun H1 locs1 hP1 _ hS1 => by
    rw [hS2, tp_set _ hi.1] at hP1
    exact kk _ rfl H1 locs1 la hl hP1 hS1)
theorem z_iald (C : Cok w g cc own Ts n F L Ce Sl) {i N : Nat} {x : Int32} (hi : tp_ok w i) (hE : tp_E w i (τ i) = .inl (w.2.2.1 0, N, .inl (τ i))) (hx2 : vp_in x N) (hdg : decode cc pc = .ok (.iaload, 1)) (kk : Zt w g τ k (pc + 1) ls (.int (τ i x.toNatClampNeg) :: st)) : Zt w g τ k pc ls (.int x :: .ref (w.1 i) :: st) := by
  obtain ⟨p, e, R, s, m, args, below, meth, c, Q, nL⟩ := g
  obtain ⟨hx, hb, hml, hown, hts, hK, hj, -⟩ := C
  exact fun H locs la hl hP hS => va_iald hx hb hK hP i 0 (by rw [tp_at hi.1, hE]) rfl hx2 hdg (kk H locs la hl hP hS)
theorem z_zald (C : Cok w g cc own Ts n F L Ce Sl) {i N : Nat} {x : Int32} (hi : tp_ok w i) (hE : tp_E w i (τ i) = .inl (w.2.2.1 1, N, .inl (τ i))) (hx2 : vp_in x N) (hdg : decode cc pc = .ok (.baload, 1)) (kk : Zt w g τ k (pc + 1) ls (.int (τ i x.toNatClampNeg) :: st)) : Zt w g τ k pc ls (.int x :: .ref (w.1 i) :: st) := by
  obtain ⟨p, e, R, s, m, args, below, meth, c, Q, nL⟩ := g
  obtain ⟨hx, hb, hml, hown, hts, hK, hj, -⟩ := C
  exact fun H locs la hl hP hS => va_zald hx hb hK hP i 1 (by rw [tp_at hi.1, hE]) rfl hx2 hdg (kk H locs la hl hP hS)
theorem z_iast (C : Cok w g cc own Ts n F L Ce Sl) {i N : Nat} {x v : Int32} (hi : tp_ok w i) (hE : ∀ f, tp_E w i f = .inl (w.2.2.1 0, N, .inl f)) (hx2 : vp_in x N) (hdg : decode cc pc = .ok (.iastore, 1)) (kk : ∀ τ2 : TS, τ2 = tp_up τ i x.toNatClampNeg v → Zt w g τ2 k (pc + 1) ls st) : Zt w g τ k pc ls (.int v :: .int x :: .ref (w.1 i) :: st) := by
  obtain ⟨p, e, R, s, m, args, below, meth, c, Q, nL⟩ := g
  obtain ⟨hx, hb, hml, hown, hts, hK, hj, -⟩ := C
  exact fun H locs la hl hP hS => va_iast hx hb hK hP (tp_Dd hj) hS i 0 (by rw [tp_at hi.1, hE]) rfl hx2 hdg (fun H1 locs1 hP1 _ hS1 => by
    rw [← hE, tp_set _ hi.1] at hP1
    exact kk _ rfl H1 locs1 la hl hP1 hS1)
theorem z_zast (C : Cok w g cc own Ts n F L Ce Sl) {i N : Nat} {x v : Int32} (hi : tp_ok w i) (hE : ∀ f, tp_E w i f = .inl (w.2.2.1 1, N, .inl f)) (hx2 : vp_in x N) (hv : vp_nar .boolean v = v) (hdg : decode cc pc = .ok (.bastore, 1)) (kk : ∀ τ2 : TS, τ2 = tp_up τ i x.toNatClampNeg v → Zt w g τ2 k (pc + 1) ls st) : Zt w g τ k pc ls (.int v :: .int x :: .ref (w.1 i) :: st) := by
  obtain ⟨p, e, R, s, m, args, below, meth, c, Q, nL⟩ := g
  obtain ⟨hx, hb, hml, hown, hts, hK, hj, -⟩ := C
  exact fun H locs la hl hP hS => va_zast hx hb hK hP (tp_Dd hj) hS i 1 (by rw [tp_at hi.1, hE]) rfl hx2 hdg (fun H1 locs1 hP1 _ hS1 => by
    rw [hv, ← hE, tp_set _ hi.1] at hP1
    exact kk _ rfl H1 locs1 la hl hP1 hS1)
theorem z_aald_q2 (C : Cok w g cc own Ts n F L Ce Sl) {i N b : Nat} {f : Nat → Option Nat} {x : Int32} (hi : tp_ok w i) (hE : tp_E w i (τ i) = .inl (w.2.2.1 2, N, .inr (.inr (.inr (.inr f))))) (hx2 : vp_in x N) (hf : f x.toNatClampNeg = some b) (hdg : decode cc pc = .ok (.aaload, 1)) (kk : Zt w g τ k (pc + 1) ls (.ref b :: st)) : Zt w g τ k pc ls (.int x :: .ref (w.1 i) :: st) := by
  obtain ⟨p, e, R, s, m, args, below, meth, c, Q, nL⟩ := g
  obtain ⟨hx, hb, hml, hown, hts, hK, hj, -⟩ := C
  exact fun H locs la hl hP hS => va_aldq hx hb hK hP i 2 (by rw [tp_at hi.1, hE]) rfl hx2 hdg (by rw [hf]; exact kk H locs la hl hP hS)
theorem z_aald_q3 (C : Cok w g cc own Ts n F L Ce Sl) {i N b : Nat} {f : Nat → Option Nat} {x : Int32} (hi : tp_ok w i) (hE : tp_E w i (τ i) = .inl (w.2.2.1 3, N, .inr (.inr (.inr (.inr f))))) (hx2 : vp_in x N) (hf : f x.toNatClampNeg = some b) (hdg : decode cc pc = .ok (.aaload, 1)) (kk : Zt w g τ k (pc + 1) ls (.ref b :: st)) : Zt w g τ k pc ls (.int x :: .ref (w.1 i) :: st) := by
  obtain ⟨p, e, R, s, m, args, below, meth, c, Q, nL⟩ := g
  obtain ⟨hx, hb, hml, hown, hts, hK, hj, -⟩ := C
  exact fun H locs la hl hP hS => va_aldq hx hb hK hP i 3 (by rw [tp_at hi.1, hE]) rfl hx2 hdg (by rw [hf]; exact kk H locs la hl hP hS)
theorem z_alen (C : Cok w g cc own Ts n F L Ce Sl) {i : Nat} {cA : ClassId} {x : vp_A} {ty : FieldType} (t0 : Nat) (v : Int32) (hi : tp_ok w i) (hE : tp_E w i (τ i) = .inl (cA, x)) (ht : (tp_tys w)[t0]? = some (cA, ty)) (hv : Int32.ofNat x.1 = v) (hdg : decode cc pc = .ok (.arraylength, 1)) (kk : Zt w g τ k (pc + 1) ls (.int v :: st)) : Zt w g τ k pc ls (.ref (w.1 i) :: st) := by
  obtain ⟨p, e, R, s, m, args, below, meth, c, Q, nL⟩ := g
  obtain ⟨hx, hb, hml, hown, hts, hK, hj, -⟩ := C
  exact fun H locs la hl hP hS => va_alen hx hb hK hP i t0 (by rw [tp_at hi.1, hE]) ht hv hdg (kk H locs la hl hP hS)
theorem z_max (C : Cok w g cc own Ts n F L Ce Sl) {index : Nat} {x y : Int32} (h1 : Cond.methodLink own index Lib.Math.max.name ∈ Ts) (h2 : Cond.static Lib.Math.max.name ∈ Ts) (h3 : Cond.initialized "java/lang/Math" ∈ Ts) (h4 : Cond.code Lib.Math.max.name Lib.Math.max.code 2 (some .int) ∈ Ts) (hF : 1 ≤ F) (hL : (st.map fun v => v.category).sum + 13 ≤ L) (hk1 : k.1 ≤ Ce) (hk2 : k.2 ≤ Sl) (hdg : decode cc pc = .ok (.invokestatic index, 3)) (kk : Zt w g τ k (pc + 3) ls (.int (if x < y then y else x) :: st)) : Zt w g τ k pc ls (.int y :: .int x :: st) := by
  obtain ⟨p, e, R, s, m, args, below, meth, c, Q, nL⟩ := g
  obtain ⟨hx, hb, hml, hown, hts, hK, hj, hnL, rF, rL, rC, rS, -⟩ := C
  subst rF rL rC rS hnL
  exact fun H locs la hl hP hS => va_mmax hx hb (by rw [hml]; exact hl.1.symm) hown (hts _ h1) (hts _ h2) (hts _ h3) (hts _ h4) hF hL hk1 hk2 hdg (kk H locs la hl hP hS)
theorem z_min (C : Cok w g cc own Ts n F L Ce Sl) {index : Nat} {x y : Int32} (h1 : Cond.methodLink own index Lib.Math.min.name ∈ Ts) (h2 : Cond.static Lib.Math.min.name ∈ Ts) (h3 : Cond.initialized "java/lang/Math" ∈ Ts) (h4 : Cond.code Lib.Math.min.name Lib.Math.min.code 2 (some .int) ∈ Ts) (hF : 1 ≤ F) (hL : (st.map fun v => v.category).sum + 13 ≤ L) (hk1 : k.1 ≤ Ce) (hk2 : k.2 ≤ Sl) (hdg : decode cc pc = .ok (.invokestatic index, 3)) (kk : Zt w g τ k (pc + 3) ls (.int (if y < x then y else x) :: st)) : Zt w g τ k pc ls (.int y :: .int x :: st) := by
  obtain ⟨p, e, R, s, m, args, below, meth, c, Q, nL⟩ := g
  obtain ⟨hx, hb, hml, hown, hts, hK, hj, hnL, rF, rL, rC, rS, -⟩ := C
  subst rF rL rC rS hnL
  exact fun H locs la hl hP hS => va_mmin hx hb (by rw [hml]; exact hl.1.symm) hown (hts _ h1) (hts _ h2) (hts _ h3) (hts _ h4) hF hL hk1 hk2 hdg (kk H locs la hl hP hS)
theorem z_abs (C : Cok w g cc own Ts n F L Ce Sl) {index : Nat} {x : Int32} (h1 : Cond.methodLink own index Lib.Math.abs.name ∈ Ts) (h2 : Cond.static Lib.Math.abs.name ∈ Ts) (h3 : Cond.initialized "java/lang/Math" ∈ Ts) (h4 : Cond.code Lib.Math.abs.name Lib.Math.abs.code 1 (some .int) ∈ Ts) (hF : 1 ≤ F) (hL : (st.map fun v => v.category).sum + 13 ≤ L) (hk1 : k.1 ≤ Ce) (hk2 : k.2 ≤ Sl) (hdg : decode cc pc = .ok (.invokestatic index, 3)) (kk : Zt w g τ k (pc + 3) ls (.int (if 0 ≤ x then x else 0 - x) :: st)) : Zt w g τ k pc ls (.int x :: st) := by
  obtain ⟨p, e, R, s, m, args, below, meth, c, Q, nL⟩ := g
  obtain ⟨hx, hb, hml, hown, hts, hK, hj, hnL, rF, rL, rC, rS, -⟩ := C
  subst rF rL rC rS hnL
  exact fun H locs la hl hP hS => va_mabs hx hb (by rw [hml]; exact hl.1.symm) hown (hts _ h1) (hts _ h2) (hts _ h3) (hts _ h4) hF hL hk1 hk2 hdg (kk H locs la hl hP hS)
theorem va_ald2 {p : Program} {l : Launch} {e : Env} {R : Room} {s : State} {m : MethodId} {args : Array Value} {below : List Frame} {meth : Method} {c : Code} {H : Heap} {locs : List Loc} {cells slots : Nat} {Q : State → Prop} {cc : ByteArray} {pc : Nat} {la : Array Slot} {rest : List Value} {D : va_G} {cl : List vw_C} {a : Nat} {tys : List (ClassId × FieldType)} {ws : va_W} (hexec : p.tables.exec = Jvm.exec) (hb : c.code = cc) (hK : va_K D cl tys s) (hP : va_P D cl ws H) (q0 t0 : Nat) {cA : ClassId} {N : Nat} {f : Nat → Option Nat} (ha : ws[q0]? = some (a, .inl (cA, N, .inr (.inr (.inr (.inr f)))))) (ht : tys[t0]? = some (cA, .array .int)) {i : Int32} (hin : vp_in i N) (hdg : decode cc pc = .ok (.aaload, 1))
    (kk : W p l e R s m args below meth c H locs cells slots Q (F0 m (pc + 1) la (va_rf (f i.toNatClampNeg) :: rest))) : W p l e R s m args below meth c H locs cells slots Q (F0 m pc la (.int i :: .ref a :: rest)) := by
  have hlt : i.toNatClampNeg < N := Nat.not_le.mp fun q => hin (Or.inr q)
  exact W.aald (v := va_rf (f i.toNatClampNeg)) (ty := .array .int) hexec hb (hP q0 _ ha) ((hK.2 t0 _ ht).1 N (fun j => va_rf (f j))) rfl (fun q => by cases q) (by show ¬ (i < 0 ∨ (arrV _ _ _).slots.size ≤ _); rw [arrV_size]; exact hin) (by show (arrV _ _ _).slots[_]? = _; rw [arrV_read _ _ hlt]) rfl rfl hdg kk
theorem z_aald_q4 (C : Cok w g cc own Ts n F L Ce Sl) {i N b : Nat} {f : Nat → Option Nat} {x : Int32} (hi : tp_ok w i) (hE : tp_E w i (τ i) = .inl (w.2.2.1 4, N, .inr (.inr (.inr (.inr f))))) (hx2 : vp_in x N) (hf : f x.toNatClampNeg = some b) (hdg : decode cc pc = .ok (.aaload, 1)) (kk : Zt w g τ k (pc + 1) ls (.ref b :: st)) : Zt w g τ k pc ls (.int x :: .ref (w.1 i) :: st) := by
  obtain ⟨p, e, R, s, m, args, below, meth, c, Q, nL⟩ := g
  obtain ⟨hx, hb, hml, hown, hts, hK, hj, -⟩ := C
  exact fun H locs la hl hP hS => va_ald2 hx hb hK hP i 4 (by rw [tp_at hi.1, hE]) rfl hx2 hdg (by rw [hf]; exact kk H locs la hl hP hS)
theorem z_copy (C : Cok w g cc own Ts n F L Ce Sl) {index i j t N M : Nat} {ty : FieldType} {sp dp x : Int32} (hi : tp_ok w i) (hj2 : tp_ok w j) (hEi : ∀ f, tp_E w i f = .inl (w.2.2.1 t, N, .inl f)) (hEj : ∀ f, tp_E w j f = .inl (w.2.2.1 t, M, .inl f)) (ht : (tp_tys w)[t]? = some (w.2.2.1 t, ty)) (hprim : refKind ty = false) (h1 : ¬ sp < 0) (h2 : ¬ dp < 0) (h3 : ¬ x < 0) (h4 : sp.toNatClampNeg + x.toNatClampNeg ≤ N) (h5 : dp.toNatClampNeg + x.toNatClampNeg ≤ M) (hfit : ∀ q, q < x.toNatClampNeg → fits ty (.int (τ i (sp.toNatClampNeg + q))) = true)
    (a1 : Cond.methodLink own index arraycopyName ∈ Ts) (a2 : Cond.native arraycopyName ∈ Ts) (a3 : Cond.static arraycopyName ∈ Ts) (a4 : Cond.initialized "java/lang/System" ∈ Ts) (hF : 1 ≤ F) (hL : (st.map fun v => v.category).sum + (nativeFrameWords "java/lang/System" "arraycopy" 5 + 11) ≤ L) (hdg : decode cc pc = .ok (.invokestatic index, 3))
    (kk : ∀ τ2 : TS, τ2 = tp_rw τ j (va_cpy (τ i) (τ j) sp.toNatClampNeg dp.toNatClampNeg x.toNatClampNeg) → Zt w g τ2 k (pc + 3) ls st) : Zt w g τ k pc ls (.int x :: .int dp :: .ref (w.1 j) :: .int sp :: .ref (w.1 i) :: st) := by
  obtain ⟨p, e, R, s, m, args, below, meth, c, Q, nL⟩ := g
  obtain ⟨hx, hb, hml, hown, hts, hK, hj, hnL, rF, rL, rC, rS, -⟩ := C
  subst rF rL rC rS hnL
  exact fun H locs la hl hP hS => va_copyi hx hb (by rw [hml]; exact hl.1.symm) hown (hts _ a1) (hts _ a2) (hts _ a3) (hts _ a4) hK hP (tp_Dd hj) hS i j t t (by rw [tp_at hi.1, hEi]) (by rw [tp_at hj2.1, hEj]) ht ht hprim h1 h2 h3 h4 h5 hfit hF hL hdg (fun H1 locs1 hP1 _ hS1 => by
    rw [← hEj, tp_set _ hj2.1] at hP1
    exact kk _ rfl H1 locs1 la hl hP1 hS1)
theorem tp_lt {x : Int32} {N : Nat} (h : vp_in x N) : x.toNatClampNeg < N := Nat.lt_of_not_le (fun h2 => h (Or.inr h2))
/-- a truth value -/
def tp_z (v : Int32) : Prop := narrow .boolean (.int v) = .int v ∧ fits .boolean (.int v) = true ∧ vp_nar .boolean v = v
theorem tp_z0 : tp_z 0 := ⟨rfl, rfl, rfl⟩
theorem tp_z1 : tp_z 1 := ⟨rfl, rfl, rfl⟩
end ZT
end
section
/-- a contract's start: the heap of this size, the world τ -/
def tp_Pre (w : WPar) (τ : TS) (sz : Nat) : State → Prop := fun U => U.heap.size = sz ∧ va_P (tp_D w) vwCl (tp_W w τ) U.heap ∧ va_K (tp_D w) vwCl (tp_tys w) U ∧ tp_inj w
/-- .. and its end -/
def tp_B (w : WPar) : TS → State → Prop := fun τ t => va_P (tp_D w) vwCl (tp_W w τ) t.heap ∧ va_K (tp_D w) vwCl (tp_tys w) t
def MI (w : WPar) (y : MethodName) (ws : List Cond) (F L : Nat) (As : List Value) (τ : TS) (K : TS → Int32 → Prop) : Prop := ∀ sz, Met w.2.1 y ws { frames := F, cells := 0, slots := 0, locals := L } (va_Pc As (tp_Pre w τ sz)) (va_Qi (fun r τ2 => K τ2 r) (tp_B w) (tp_A w sz)) 0 0 (tp_A w sz)
def ML (w : WPar) (y : MethodName) (ws : List Cond) (F L : Nat) (As : List Value) (τ : TS) (K : TS → Int64 → Prop) : Prop := ∀ sz, Met w.2.1 y ws { frames := F, cells := 0, slots := 0, locals := L } (va_Pc As (tp_Pre w τ sz)) (va_Ql (fun r τ2 => K τ2 r) (tp_B w) (tp_A w sz)) 0 0 (tp_A w sz)
def MV (w : WPar) (y : MethodName) (ws : List Cond) (F L : Nat) (As : List Value) (τ : TS) (K : TS → Prop) : Prop := ∀ sz, Met w.2.1 y ws { frames := F, cells := 0, slots := 0, locals := L } (va_Pc As (tp_Pre w τ sz)) (va_Qv K (tp_B w) (tp_A w sz)) 0 0 (tp_A w sz)
def MR (w : WPar) (y : MethodName) (ws : List Cond) (F L : Nat) (As : List Value) (τ : TS) (K : TS → Nat → Prop) (kd : Nat) : Prop := ∀ sz, Met w.2.1 y ws { frames := F, cells := 0, slots := 0, locals := L } (va_Pc As (tp_Pre w τ sz)) (va_Qr (fun u : TS × Nat => K u.1 u.2 ∧ tp_is w u.2 kd) (fun u a t => a = w.1 u.2 ∧ tp_B w u.1 t) (tp_A w sz)) 0 0 (tp_A w sz)
def RR (w : WPar) (g : Cxt) (cc : ByteArray) (K : TS → Nat → Prop) (kd : Nat) : Prop := ∀ (τ : TS) (pc : Nat) (ls : List (Nat × Value)) (j : Nat), decode cc pc = .ok (.areturn, 1) → tp_is w j kd → K τ j → Zt w g τ (0, 0) pc ls [.ref (w.1 j)]
/-- how a method's own end is reached -/
def RI (w : WPar) (g : Cxt) (cc : ByteArray) (K : TS → Int32 → Prop) : Prop := ∀ (τ : TS) (pc : Nat) (ls : List (Nat × Value)) (v : Int32), decode cc pc = .ok (.ireturn, 1) → K τ v → Zt w g τ (0, 0) pc ls [.int v]
def RZ (w : WPar) (g : Cxt) (cc : ByteArray) (K : TS → Int32 → Prop) : Prop := ∀ (τ : TS) (pc : Nat) (ls : List (Nat × Value)) (v : Int32), decode cc pc = .ok (.ireturn, 1) → narrow .boolean (.int v) = .int v → K τ v → Zt w g τ (0, 0) pc ls [.int v]
def RL9 (w : WPar) (g : Cxt) (cc : ByteArray) (K : TS → Int64 → Prop) : Prop := ∀ (τ : TS) (pc : Nat) (ls : List (Nat × Value)) (v : Int64), decode cc pc = .ok (.lreturn, 1) → K τ v → Zt w g τ (0, 0) pc ls [.long v]
def RV (w : WPar) (g : Cxt) (cc : ByteArray) (K : TS → Prop) : Prop := ∀ (τ : TS) (pc : Nat) (ls : List (Nat × Value)), decode cc pc = .ok (.return_, 1) → K τ → Zt w g τ (0, 0) pc ls []
theorem tp_blind {w : WPar} {τ : TS} {sz : Nat} {As : List Value} : FrameBlind (va_Pc As (tp_Pre w τ sz)) := fun a U g mk q => by
  obtain ⟨q0, q1, q2, q3, q4⟩ := q
  exact ⟨q0, q1, q2, va_K.moved (u := U) (U := U.calling g mk a) (Vm.Alike.refl U.vm) q3, q4⟩

theorem tp_enterI {w : WPar} {y : MethodName} {ws ws2 : List Cond} {cc : ByteArray} {maxL F L : Nat} {own : String} {As : List Value} {τ : TS} {K : TS → Int32 → Prop} (hy : plainName y.cls = true) (hcls : y.cls = own) (hw : ws = Cond.code y cc maxL (some .int) :: ws2) (hle : (lg_sl As).length ≤ maxL)
    (body : ∀ g : Cxt, Cok w g cc own ws maxL F L 0 0 → RI w g cc K → Zt w g τ (0, 0) 0 (lv_args 0 As) []) : MI w y ws F L As τ K := by
  intro sz
  refine Met.ofW hy hw ?_
  intro p e s m args below meth c s₁ B hml hv
  obtain ⟨rfl, hsz, hP, hK, hj⟩ := hv
  subst hsz
  have hts := atoms_spec (ws := ws) B.pre
  have hown : s.vm.findClass own = some m.cls := by rw [← hcls]; exact findClass_of_methodNamed B.named
  have hR : RI w (p, e, ({ frames := F, cells := 0, slots := 0, locals := L } : Room), s, m, As.toArray, below, meth, c, MQ below (va_Qi (fun r τ2 => K τ2 r) (tp_B w) (tp_A w s.heap.size)) As.toArray s 0 0 (tp_A w s.heap.size), maxL) cc K := by
    intro τ2 pc ls v hdg hKv
    exact fun H locs la hl hP2 hS => W.iret B.exec B.bytes B.returns (fun t ht hW => ⟨⟨v, τ2, rfl, hKv, by rw [ht]; exact hP2, va_K.moved hW.alike hK⟩, hS.F ht⟩) hS.2.2 hdg B.notSynchronized
  have hZ := body (p, e, ({ frames := F, cells := 0, slots := 0, locals := L } : Room), s, m, As.toArray, below, meth, c, MQ below (va_Qi (fun r τ2 => K τ2 r) (tp_B w) (tp_A w s.heap.size)) As.toArray s 0 0 (tp_A w s.heap.size), maxL) ⟨B.exec, B.bytes, hml, hown, hts, hK, hj, rfl, rfl, rfl, rfl, rfl, B.notSynchronized⟩ hR
  rw [lg_entry_eq]
  exact hZ s.heap [] _ (lv_entry As hle) hP va_S.rf
theorem tp_enterV {w : WPar} {y : MethodName} {ws ws2 : List Cond} {cc : ByteArray} {maxL F L : Nat} {own : String} {As : List Value} {τ : TS} {K : TS → Prop} (hy : plainName y.cls = true) (hcls : y.cls = own) (hw : ws = Cond.code y cc maxL (none) :: ws2) (hle : (lg_sl As).length ≤ maxL)
    (body : ∀ g : Cxt, Cok w g cc own ws maxL F L 0 0 → RV w g cc K → Zt w g τ (0, 0) 0 (lv_args 0 As) []) : MV w y ws F L As τ K := by
  intro sz
  refine Met.ofW hy hw ?_
  intro p e s m args below meth c s₁ B hml hv
  obtain ⟨rfl, hsz, hP, hK, hj⟩ := hv
  subst hsz
  have hts := atoms_spec (ws := ws) B.pre
  have hown : s.vm.findClass own = some m.cls := by rw [← hcls]; exact findClass_of_methodNamed B.named
  have hR : RV w (p, e, ({ frames := F, cells := 0, slots := 0, locals := L } : Room), s, m, As.toArray, below, meth, c, MQ below (va_Qv K (tp_B w) (tp_A w s.heap.size)) As.toArray s 0 0 (tp_A w s.heap.size), maxL) cc K := by
    intro τ2 pc ls hdg hKv
    exact fun H locs la hl hP2 hS => W.vret B.exec B.bytes B.returns (fun t ht hW => ⟨⟨τ2, rfl, hKv, by rw [ht]; exact hP2, va_K.moved hW.alike hK⟩, hS.F ht⟩) hS.2.2 hdg B.notSynchronized
  have hZ := body (p, e, ({ frames := F, cells := 0, slots := 0, locals := L } : Room), s, m, As.toArray, below, meth, c, MQ below (va_Qv K (tp_B w) (tp_A w s.heap.size)) As.toArray s 0 0 (tp_A w s.heap.size), maxL) ⟨B.exec, B.bytes, hml, hown, hts, hK, hj, rfl, rfl, rfl, rfl, rfl, B.notSynchronized⟩ hR
  rw [lg_entry_eq]
  exact hZ s.heap [] _ (lv_entry As hle) hP va_S.rf
theorem tp_enterL {w : WPar} {y : MethodName} {ws ws2 : List Cond} {cc : ByteArray} {maxL F L : Nat} {own : String} {As : List Value} {τ : TS} {K : TS → Int64 → Prop} (hy : plainName y.cls = true) (hcls : y.cls = own) (hw : ws = Cond.code y cc maxL (some .long) :: ws2) (hle : (lg_sl As).length ≤ maxL)
    (body : ∀ g : Cxt, Cok w g cc own ws maxL F L 0 0 → RL9 w g cc K → Zt w g τ (0, 0) 0 (lv_args 0 As) []) : ML w y ws F L As τ K := by
  intro sz
  refine Met.ofW hy hw ?_
  intro p e s m args below meth c s₁ B hml hv
  obtain ⟨rfl, hsz, hP, hK, hj⟩ := hv
  subst hsz
  have hts := atoms_spec (ws := ws) B.pre
  have hown : s.vm.findClass own = some m.cls := by rw [← hcls]; exact findClass_of_methodNamed B.named
  have hR : RL9 w (p, e, ({ frames := F, cells := 0, slots := 0, locals := L } : Room), s, m, As.toArray, below, meth, c, MQ below (va_Ql (fun r τ2 => K τ2 r) (tp_B w) (tp_A w s.heap.size)) As.toArray s 0 0 (tp_A w s.heap.size), maxL) cc K := by
    intro τ2 pc ls v hdg hKv
    exact fun H locs la hl hP2 hS => W.lret B.exec B.bytes B.returns (fun t ht hW => ⟨⟨v, τ2, rfl, hKv, by rw [ht]; exact hP2, va_K.moved hW.alike hK⟩, hS.F ht⟩) hS.2.2 hdg B.notSynchronized
  have hZ := body (p, e, ({ frames := F, cells := 0, slots := 0, locals := L } : Room), s, m, As.toArray, below, meth, c, MQ below (va_Ql (fun r τ2 => K τ2 r) (tp_B w) (tp_A w s.heap.size)) As.toArray s 0 0 (tp_A w s.heap.size), maxL) ⟨B.exec, B.bytes, hml, hown, hts, hK, hj, rfl, rfl, rfl, rfl, rfl, B.notSynchronized⟩ hR
  rw [lg_entry_eq]
  exact hZ s.heap [] _ (lv_entry As hle) hP va_S.rf
theorem tp_enterZ {w : WPar} {y : MethodName} {ws ws2 : List Cond} {cc : ByteArray} {maxL F L : Nat} {own : String} {As : List Value} {τ : TS} {K : TS → Int32 → Prop} (hy : plainName y.cls = true) (hcls : y.cls = own) (hw : ws = Cond.code y cc maxL (some .boolean) :: ws2) (hle : (lg_sl As).length ≤ maxL)
    (body : ∀ g : Cxt, Cok w g cc own ws maxL F L 0 0 → RZ w g cc K → Zt w g τ (0, 0) 0 (lv_args 0 As) []) : MI w y ws F L As τ K := by
  intro sz
  refine Met.ofW hy hw ?_
  intro p e s m args below meth c s₁ B hml hv
  obtain ⟨rfl, hsz, hP, hK, hj⟩ := hv
  subst hsz
  have hts := atoms_spec (ws := ws) B.pre
  have hown : s.vm.findClass own = some m.cls := by rw [← hcls]; exact findClass_of_methodNamed B.named
  have hR : RZ w (p, e, ({ frames := F, cells := 0, slots := 0, locals := L } : Room), s, m, As.toArray, below, meth, c, MQ below (va_Qi (fun r τ2 => K τ2 r) (tp_B w) (tp_A w s.heap.size)) As.toArray s 0 0 (tp_A w s.heap.size), maxL) cc K := by
    intro τ2 pc ls v hdg hnar hKv
    exact fun H locs la hl hP2 hS => W.zret B.exec B.bytes B.returns hnar (fun t ht hW => ⟨⟨v, τ2, rfl, hKv, by rw [ht]; exact hP2, va_K.moved hW.alike hK⟩, hS.F ht⟩) hS.2.2 hdg B.notSynchronized
  have hZ := body (p, e, ({ frames := F, cells := 0, slots := 0, locals := L } : Room), s, m, As.toArray, below, meth, c, MQ below (va_Qi (fun r τ2 => K τ2 r) (tp_B w) (tp_A w s.heap.size)) As.toArray s 0 0 (tp_A w s.heap.size), maxL) ⟨B.exec, B.bytes, hml, hown, hts, hK, hj, rfl, rfl, rfl, rfl, rfl, B.notSynchronized⟩ hR
  rw [lg_entry_eq]
  exact hZ s.heap [] _ (lv_entry As hle) hP va_S.rf
theorem tp_enterIF {w : WPar} {y : MethodName} {ws ws2 : List Cond} {cc : ByteArray} {maxL F L : Nat} {own : String} {As : List Value} {τ : TS} {K : TS → Int32 → Prop} (hy : plainFor y = true) (hcls : y.cls = own) (hw : ws = Cond.code y cc maxL (some .int) :: ws2) (hle : (lg_sl As).length ≤ maxL)
    (body : ∀ g : Cxt, Cok w g cc own ws maxL F L 0 0 → RI w g cc K → Zt w g τ (0, 0) 0 (lv_args 0 As) []) : MI w y ws F L As τ K := by
  intro sz
  refine va_MetF hy hw ?_
  intro p e s m args below meth c s₁ B hml hv
  obtain ⟨rfl, hsz, hP, hK, hj⟩ := hv
  subst hsz
  have hts := atoms_spec (ws := ws) B.pre
  have hown : s.vm.findClass own = some m.cls := by rw [← hcls]; exact findClass_of_methodNamed B.named
  have hR : RI w (p, e, ({ frames := F, cells := 0, slots := 0, locals := L } : Room), s, m, As.toArray, below, meth, c, MQ below (va_Qi (fun r τ2 => K τ2 r) (tp_B w) (tp_A w s.heap.size)) As.toArray s 0 0 (tp_A w s.heap.size), maxL) cc K := by
    intro τ2 pc ls v hdg hKv
    exact fun H locs la hl hP2 hS => W.iret B.exec B.bytes B.returns (fun t ht hW => ⟨⟨v, τ2, rfl, hKv, by rw [ht]; exact hP2, va_K.moved hW.alike hK⟩, hS.F ht⟩) hS.2.2 hdg B.notSynchronized
  have hZ := body (p, e, ({ frames := F, cells := 0, slots := 0, locals := L } : Room), s, m, As.toArray, below, meth, c, MQ below (va_Qi (fun r τ2 => K τ2 r) (tp_B w) (tp_A w s.heap.size)) As.toArray s 0 0 (tp_A w s.heap.size), maxL) ⟨B.exec, B.bytes, hml, hown, hts, hK, hj, rfl, rfl, rfl, rfl, rfl, B.notSynchronized⟩ hR
  rw [lg_entry_eq]
  exact hZ s.heap [] _ (lv_entry As hle) hP va_S.rf
theorem tp_enterR {w : WPar} {y : MethodName} {ws ws2 : List Cond} {cc : ByteArray} {maxL F L kd : Nat} {own Cr : String} {As : List Value} {τ : TS} {K : TS → Nat → Prop} (hy : plainName y.cls = true) (hcls : y.cls = own) (hw : ws = Cond.code y cc maxL (some (.object Cr)) :: ws2) (hle : (lg_sl As).length ≤ maxL)
    (body : ∀ g : Cxt, Cok w g cc own ws maxL F L 0 0 → RR w g cc K kd → Zt w g τ (0, 0) 0 (lv_args 0 As) []) : MR w y ws F L As τ K kd := by
  intro sz
  refine Met.ofW hy hw ?_
  intro p e s m args below meth c s₁ B hml hv
  obtain ⟨rfl, hsz, hP, hK, hj⟩ := hv
  subst hsz
  have hts := atoms_spec (ws := ws) B.pre
  have hown : s.vm.findClass own = some m.cls := by rw [← hcls]; exact findClass_of_methodNamed B.named
  have hR : RR w (p, e, ({ frames := F, cells := 0, slots := 0, locals := L } : Room), s, m, As.toArray, below, meth, c, MQ below (va_Qr (fun u : TS × Nat => K u.1 u.2 ∧ tp_is w u.2 kd) (fun u a t => a = w.1 u.2 ∧ tp_B w u.1 t) (tp_A w s.heap.size)) As.toArray s 0 0 (tp_A w s.heap.size), maxL) cc K kd := by
    intro τ2 pc ls j hdg hkd hKv
    exact fun H locs la hl hP2 hS => W.aret B.exec B.bytes B.returns (Or.inl ⟨_, rfl⟩) (Or.inr ⟨_, rfl⟩) (fun t ht hW => ⟨⟨(τ2, j), _, rfl, ⟨hKv, hkd⟩, rfl, by rw [ht]; exact hP2, va_K.moved hW.alike hK⟩, hS.F ht⟩) hS.2.2 hdg B.notSynchronized
  have hZ := body (p, e, ({ frames := F, cells := 0, slots := 0, locals := L } : Room), s, m, As.toArray, below, meth, c, MQ below (va_Qr (fun u : TS × Nat => K u.1 u.2 ∧ tp_is w u.2 kd) (fun u a t => a = w.1 u.2 ∧ tp_B w u.1 t) (tp_A w s.heap.size)) As.toArray s 0 0 (tp_A w s.heap.size), maxL) ⟨B.exec, B.bytes, hml, hown, hts, hK, hj, rfl, rfl, rfl, rfl, rfl, B.notSynchronized⟩ hR
  rw [lg_entry_eq]
  exact hZ s.heap [] _ (lv_entry As hle) hP va_S.rf
section CT
variable {w : WPar} {g : Cxt} {τ : TS} {k : Nat × Nat} {pc : Nat} {ls : List (Nat × Value)} {st : List Value} {cc : ByteArray} {own : String} {Ts : List Cond} {n F L Ce Sl : Nat} {y : MethodName} {ws ws2 : List Cond} {bytes : ByteArray} {maxL F1 L1 index : Nat} {As : List Value} {rt : Option FieldType}
theorem zv_i (C : Cok w g cc own Ts n F L Ce Sl) {Cn : String} {i ci N : Nat} {T : u_T} {fs : List Value} {K : TS → Int32 → Prop} (hM : MI w y ws F1 L1 (.ref (w.1 i) :: As) τ K) (hi : tp_ok w i) (hE : tp_E w i (τ i) = .inr (ci, fs)) (hc : vwCl[ci]? = some (Cn, T, N)) (nP : Nat) (hG : GoodIn Ts (wsV own index Cn y ws)) (hw : ws = Cond.code y bytes maxL (rt) :: ws2) (hd : y.cls = Cn ∧ y.cls ≠ "java/lang/invoke/MethodHandle" ∧ y.cls ≠ "java/lang/invoke/VarHandle" ∧ (parseMethodDescriptor y.desc).map (fun d => d.parameters.length) = some nP) (hR : F1 + 1 ≤ F ∧ 8 + (maxL + 11) + L1 ≤ L) (hn : As.length = nP) (hst : 0 + (st.map fun v => v.category).sum ≤ 8) (hk : k.1 ≤ Ce ∧ k.2 ≤ Sl) {st0 : List Value} (hs0 : st0 = As.reverse ++ .ref (w.1 i) :: st) (hdg : decode cc pc = .ok (.invokevirtual index, 3))
    (kk : ∀ (r : Int32) (τ2 : TS), K τ2 r → Zt w g τ2 k (pc + 3) ls (.int r :: st)) : Zt w g τ k pc ls st0 := by
  subst hs0
  obtain ⟨p, e, R, s, m, args, below, meth, c, Q, nL⟩ := g
  obtain ⟨hx, hb, hml, hown, hts, hK, hj, hnL, rF, rL, rC, rS, -⟩ := C
  subst rF rL rC rS hnL
  intro H locs la hl hP hS
  refine va_calli (va_runV (As := As) (rest := st) ⟨hx, hb, hml, hown, hts⟩ (hM H.size) (cwV nP hts hG hw rfl rfl hd hR) ⟨tp_blind, va_recv hK hP hc (q0 := i) (by rw [tp_at hi.1, hE]), fun U hU hW => ⟨rfl, by rw [hU], by rw [hU]; exact hP, va_K.moved hW.alike hK, hj⟩⟩ rfl hn hl.1 rfl (by simpa using hst) hdg ⟨by simpa using hk.1, by simpa using hk.2⟩) hS (fun q hq h => tp_old q hq h) (fun q h => tp_same hS.1 q h) (fun r τ2 t H1 locs1 ht hvm hw2 hB hz1 hk1 hS1 => ?_)
  obtain ⟨hP1, hK1⟩ := hB
  rw [ht] at hP1
  exact kk r τ2 hw2 H1 locs1 la hl hP1 hS1
theorem zs_i (C : Cok w g cc own Ts n F L Ce Sl) {K : TS → Int32 → Prop} (hM : MI w y ws F1 L1 As τ K) (nP : Nat) (hG : GoodIn Ts (va_wsS own index y ws)) (hw : ws = Cond.code y bytes maxL (rt) :: ws2) (hd : y.cls ≠ "java/lang/invoke/MethodHandle" ∧ y.cls ≠ "java/lang/invoke/VarHandle" ∧ (parseMethodDescriptor y.desc).map (fun d => d.parameters.length) = some nP) (hR : F1 + 1 ≤ F ∧ 8 + (maxL + 11) + L1 ≤ L) (hn : As.length = nP) (hst : 0 + (st.map fun v => v.category).sum ≤ 8) (hk : k.1 ≤ Ce ∧ k.2 ≤ Sl) {st0 : List Value} (hs0 : st0 = As.reverse ++ st) (hdg : decode cc pc = .ok (.invokestatic index, 3))
    (kk : ∀ (r : Int32) (τ2 : TS), K τ2 r → Zt w g τ2 k (pc + 3) ls (.int r :: st)) : Zt w g τ k pc ls st0 := by
  subst hs0
  obtain ⟨p, e, R, s, m, args, below, meth, c, Q, nL⟩ := g
  obtain ⟨hx, hb, hml, hown, hts, hK, hj, hnL, rF, rL, rC, rS, -⟩ := C
  subst rF rL rC rS hnL
  intro H locs la hl hP hS
  refine va_calli (va_runS (As := As) (rest := st) ⟨hx, hb, hml, hown, hts⟩ (hM H.size) (va_cwS nP hts hG hw rfl rfl hd hR) ⟨tp_blind, fun U hU hW => ⟨rfl, by rw [hU], by rw [hU]; exact hP, va_K.moved hW.alike hK, hj⟩⟩ rfl hn hl.1 rfl (by simpa using hst) hdg ⟨by simpa using hk.1, by simpa using hk.2⟩) hS (fun q hq h => tp_old q hq h) (fun q h => tp_same hS.1 q h) (fun r τ2 t H1 locs1 ht hvm hw2 hB hz1 hk1 hS1 => ?_)
  obtain ⟨hP1, hK1⟩ := hB
  rw [ht] at hP1
  exact kk r τ2 hw2 H1 locs1 la hl hP1 hS1
theorem zv_l (C : Cok w g cc own Ts n F L Ce Sl) {Cn : String} {i ci N : Nat} {T : u_T} {fs : List Value} {K : TS → Int64 → Prop} (hM : ML w y ws F1 L1 (.ref (w.1 i) :: As) τ K) (hi : tp_ok w i) (hE : tp_E w i (τ i) = .inr (ci, fs)) (hc : vwCl[ci]? = some (Cn, T, N)) (nP : Nat) (hG : GoodIn Ts (wsV own index Cn y ws)) (hw : ws = Cond.code y bytes maxL (some .long) :: ws2) (hd : y.cls = Cn ∧ y.cls ≠ "java/lang/invoke/MethodHandle" ∧ y.cls ≠ "java/lang/invoke/VarHandle" ∧ (parseMethodDescriptor y.desc).map (fun d => d.parameters.length) = some nP) (hR : F1 + 1 ≤ F ∧ 8 + (maxL + 11) + L1 ≤ L) (hn : As.length = nP) (hst : 0 + (st.map fun v => v.category).sum ≤ 8) (hk : k.1 ≤ Ce ∧ k.2 ≤ Sl) {st0 : List Value} (hs0 : st0 = As.reverse ++ .ref (w.1 i) :: st) (hdg : decode cc pc = .ok (.invokevirtual index, 3))
    (kk : ∀ (r : Int64) (τ2 : TS), K τ2 r → Zt w g τ2 k (pc + 3) ls (.long r :: st)) : Zt w g τ k pc ls st0 := by
  subst hs0
  obtain ⟨p, e, R, s, m, args, below, meth, c, Q, nL⟩ := g
  obtain ⟨hx, hb, hml, hown, hts, hK, hj, hnL, rF, rL, rC, rS, -⟩ := C
  subst rF rL rC rS hnL
  intro H locs la hl hP hS
  refine va_calll (va_runV (As := As) (rest := st) ⟨hx, hb, hml, hown, hts⟩ (hM H.size) (cwV nP hts hG hw rfl rfl hd hR) ⟨tp_blind, va_recv hK hP hc (q0 := i) (by rw [tp_at hi.1, hE]), fun U hU hW => ⟨rfl, by rw [hU], by rw [hU]; exact hP, va_K.moved hW.alike hK, hj⟩⟩ rfl hn hl.1 rfl (by simpa using hst) hdg ⟨by simpa using hk.1, by simpa using hk.2⟩) hS (fun q hq h => tp_old q hq h) (fun q h => tp_same hS.1 q h) (fun r τ2 t H1 locs1 ht hvm hw2 hB hz1 hk1 hS1 => ?_)
  obtain ⟨hP1, hK1⟩ := hB
  rw [ht] at hP1
  exact kk r τ2 hw2 H1 locs1 la hl hP1 hS1
theorem zs_l (C : Cok w g cc own Ts n F L Ce Sl) {K : TS → Int64 → Prop} (hM : ML w y ws F1 L1 As τ K) (nP : Nat) (hG : GoodIn Ts (va_wsS own index y ws)) (hw : ws = Cond.code y bytes maxL (some .long) :: ws2) (hd : y.cls ≠ "java/lang/invoke/MethodHandle" ∧ y.cls ≠ "java/lang/invoke/VarHandle" ∧ (parseMethodDescriptor y.desc).map (fun d => d.parameters.length) = some nP) (hR : F1 + 1 ≤ F ∧ 8 + (maxL + 11) + L1 ≤ L) (hn : As.length = nP) (hst : 0 + (st.map fun v => v.category).sum ≤ 8) (hk : k.1 ≤ Ce ∧ k.2 ≤ Sl) {st0 : List Value} (hs0 : st0 = As.reverse ++ st) (hdg : decode cc pc = .ok (.invokestatic index, 3))
    (kk : ∀ (r : Int64) (τ2 : TS), K τ2 r → Zt w g τ2 k (pc + 3) ls (.long r :: st)) : Zt w g τ k pc ls st0 := by
  subst hs0
  obtain ⟨p, e, R, s, m, args, below, meth, c, Q, nL⟩ := g
  obtain ⟨hx, hb, hml, hown, hts, hK, hj, hnL, rF, rL, rC, rS, -⟩ := C
  subst rF rL rC rS hnL
  intro H locs la hl hP hS
  refine va_calll (va_runS (As := As) (rest := st) ⟨hx, hb, hml, hown, hts⟩ (hM H.size) (va_cwS nP hts hG hw rfl rfl hd hR) ⟨tp_blind, fun U hU hW => ⟨rfl, by rw [hU], by rw [hU]; exact hP, va_K.moved hW.alike hK, hj⟩⟩ rfl hn hl.1 rfl (by simpa using hst) hdg ⟨by simpa using hk.1, by simpa using hk.2⟩) hS (fun q hq h => tp_old q hq h) (fun q h => tp_same hS.1 q h) (fun r τ2 t H1 locs1 ht hvm hw2 hB hz1 hk1 hS1 => ?_)
  obtain ⟨hP1, hK1⟩ := hB
  rw [ht] at hP1
  exact kk r τ2 hw2 H1 locs1 la hl hP1 hS1
theorem zv_v (C : Cok w g cc own Ts n F L Ce Sl) {Cn : String} {i ci N : Nat} {T : u_T} {fs : List Value} {K : TS → Prop} (hM : MV w y ws F1 L1 (.ref (w.1 i) :: As) τ K) (hi : tp_ok w i) (hE : tp_E w i (τ i) = .inr (ci, fs)) (hc : vwCl[ci]? = some (Cn, T, N)) (nP : Nat) (hG : GoodIn Ts (wsV own index Cn y ws)) (hw : ws = Cond.code y bytes maxL (none) :: ws2) (hd : y.cls = Cn ∧ y.cls ≠ "java/lang/invoke/MethodHandle" ∧ y.cls ≠ "java/lang/invoke/VarHandle" ∧ (parseMethodDescriptor y.desc).map (fun d => d.parameters.length) = some nP) (hR : F1 + 1 ≤ F ∧ 8 + (maxL + 11) + L1 ≤ L) (hn : As.length = nP) (hst : 0 + (st.map fun v => v.category).sum ≤ 8) (hk : k.1 ≤ Ce ∧ k.2 ≤ Sl) {st0 : List Value} (hs0 : st0 = As.reverse ++ .ref (w.1 i) :: st) (hdg : decode cc pc = .ok (.invokevirtual index, 3))
    (kk : ∀ (τ2 : TS), K τ2 → Zt w g τ2 k (pc + 3) ls st) : Zt w g τ k pc ls st0 := by
  subst hs0
  obtain ⟨p, e, R, s, m, args, below, meth, c, Q, nL⟩ := g
  obtain ⟨hx, hb, hml, hown, hts, hK, hj, hnL, rF, rL, rC, rS, -⟩ := C
  subst rF rL rC rS hnL
  intro H locs la hl hP hS
  refine va_callv (va_runV (As := As) (rest := st) ⟨hx, hb, hml, hown, hts⟩ (hM H.size) (cwV nP hts hG hw rfl rfl hd hR) ⟨tp_blind, va_recv hK hP hc (q0 := i) (by rw [tp_at hi.1, hE]), fun U hU hW => ⟨rfl, by rw [hU], by rw [hU]; exact hP, va_K.moved hW.alike hK, hj⟩⟩ rfl hn hl.1 rfl (by simpa using hst) hdg ⟨by simpa using hk.1, by simpa using hk.2⟩) hS (fun q hq h => tp_old q hq h) (fun q h => tp_same hS.1 q h) (fun τ2 t H1 locs1 ht hvm hw2 hB hz1 hk1 hS1 => ?_)
  obtain ⟨hP1, hK1⟩ := hB
  rw [ht] at hP1
  exact kk τ2 hw2 H1 locs1 la hl hP1 hS1
theorem zs_v (C : Cok w g cc own Ts n F L Ce Sl) {K : TS → Prop} (hM : MV w y ws F1 L1 As τ K) (nP : Nat) (hG : GoodIn Ts (va_wsS own index y ws)) (hw : ws = Cond.code y bytes maxL (none) :: ws2) (hd : y.cls ≠ "java/lang/invoke/MethodHandle" ∧ y.cls ≠ "java/lang/invoke/VarHandle" ∧ (parseMethodDescriptor y.desc).map (fun d => d.parameters.length) = some nP) (hR : F1 + 1 ≤ F ∧ 8 + (maxL + 11) + L1 ≤ L) (hn : As.length = nP) (hst : 0 + (st.map fun v => v.category).sum ≤ 8) (hk : k.1 ≤ Ce ∧ k.2 ≤ Sl) {st0 : List Value} (hs0 : st0 = As.reverse ++ st) (hdg : decode cc pc = .ok (.invokestatic index, 3))
    (kk : ∀ (τ2 : TS), K τ2 → Zt w g τ2 k (pc + 3) ls st) : Zt w g τ k pc ls st0 := by
  subst hs0
  obtain ⟨p, e, R, s, m, args, below, meth, c, Q, nL⟩ := g
  obtain ⟨hx, hb, hml, hown, hts, hK, hj, hnL, rF, rL, rC, rS, -⟩ := C
  subst rF rL rC rS hnL
  intro H locs la hl hP hS
  refine va_callv (va_runS (As := As) (rest := st) ⟨hx, hb, hml, hown, hts⟩ (hM H.size) (va_cwS nP hts hG hw rfl rfl hd hR) ⟨tp_blind, fun U hU hW => ⟨rfl, by rw [hU], by rw [hU]; exact hP, va_K.moved hW.alike hK, hj⟩⟩ rfl hn hl.1 rfl (by simpa using hst) hdg ⟨by simpa using hk.1, by simpa using hk.2⟩) hS (fun q hq h => tp_old q hq h) (fun q h => tp_same hS.1 q h) (fun τ2 t H1 locs1 ht hvm hw2 hB hz1 hk1 hS1 => ?_)
  obtain ⟨hP1, hK1⟩ := hB
  rw [ht] at hP1
  exact kk τ2 hw2 H1 locs1 la hl hP1 hS1
theorem zv_r (C : Cok w g cc own Ts n F L Ce Sl) {Cn : String} {i ci N kd : Nat} {T : u_T} {fs : List Value} {K : TS → Nat → Prop} (hM : MR w y ws F1 L1 (.ref (w.1 i) :: As) τ K kd) (hi : tp_ok w i) (hE : tp_E w i (τ i) = .inr (ci, fs)) (hc : vwCl[ci]? = some (Cn, T, N)) (nP : Nat) (hG : GoodIn Ts (wsV own index Cn y ws)) (hw : ws = Cond.code y bytes maxL rt :: ws2) (hd : y.cls = Cn ∧ y.cls ≠ "java/lang/invoke/MethodHandle" ∧ y.cls ≠ "java/lang/invoke/VarHandle" ∧ (parseMethodDescriptor y.desc).map (fun d => d.parameters.length) = some nP) (hR : F1 + 1 ≤ F ∧ 8 + (maxL + 11) + L1 ≤ L) (hn : As.length = nP) (hst : 0 + (st.map fun v => v.category).sum ≤ 8) (hk : k.1 ≤ Ce ∧ k.2 ≤ Sl) {st0 : List Value} (hs0 : st0 = As.reverse ++ .ref (w.1 i) :: st) (hdg : decode cc pc = .ok (.invokevirtual index, 3))
    (kk : ∀ (τ2 : TS) (j : Nat), K τ2 j → tp_is w j kd → Zt w g τ2 k (pc + 3) ls (.ref (w.1 j) :: st)) : Zt w g τ k pc ls st0 := by
  subst hs0
  obtain ⟨p, e, R, s, m, args, below, meth, c, Q, nL⟩ := g
  obtain ⟨hx, hb, hml, hown, hts, hK, hj, hnL, rF, rL, rC, rS, -⟩ := C
  subst rF rL rC rS hnL
  intro H locs la hl hP hS
  refine va_callr (va_runV (As := As) (rest := st) ⟨hx, hb, hml, hown, hts⟩ (hM H.size) (cwV nP hts hG hw rfl rfl hd hR) ⟨tp_blind, va_recv hK hP hc (q0 := i) (by rw [tp_at hi.1, hE]), fun U hU hW => ⟨rfl, by rw [hU], by rw [hU]; exact hP, va_K.moved hW.alike hK, hj⟩⟩ rfl hn hl.1 rfl (by simpa using hst) hdg ⟨by simpa using hk.1, by simpa using hk.2⟩) hS (fun q hq h => tp_old q hq h) (fun q h => tp_same hS.1 q h) (fun u ra t H1 locs1 ht hvm hw2 hB hz1 hk1 hS1 => ?_)
  obtain ⟨τ2, j⟩ := u
  obtain ⟨rfl, hP1, hK1⟩ := hB
  rw [ht] at hP1
  exact kk τ2 j hw2.1 hw2.2 H1 locs1 la hl hP1 hS1
end CT
end
