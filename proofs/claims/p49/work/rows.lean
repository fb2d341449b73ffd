section
-- ===== PART A: goes FIRST, ahead of the names: the tables' words, and 'selects' of the private methods out of them =====
/-- a private method of a class that the tables say can be made, by its rows of tables_1 -/
def lw_okq (q : MethodName × Nat) : Prop := (q.1.cls ≠ "java/lang/invoke/MethodHandle" ∧ q.1.cls ≠ "java/lang/invoke/VarHandle") ∧ Cond.instantiable q.1.cls q.2 ∈ tables_1 ∧ Cond.privateMethod q.1 ∈ tables_1 ∧ Cond.instanceMethod q.1 ∈ tables_1
theorem lw_p0 : lw_okq (⟨"java/lang/Throwable", "fillInStackTrace", "(I)Ljava/lang/Throwable;"⟩, 6) := ⟨⟨by decide +kernel, by decide +kernel⟩, List.mem_of_getElem? (i := 341) (by decide +kernel), List.mem_of_getElem? (i := 339) (by decide +kernel), List.mem_of_getElem? (i := 340) (by decide +kernel)⟩
theorem lw_p1 : lw_okq (⟨"TidePost$Net", "measureRoutes", "()V"⟩, 9) := ⟨⟨by decide +kernel, by decide +kernel⟩, List.mem_of_getElem? (i := 27) (by decide +kernel), List.mem_of_getElem? (i := 375) (by decide +kernel), List.mem_of_getElem? (i := 376) (by decide +kernel)⟩
theorem lw_p2 : lw_okq (⟨"TidePost$Traffic", "letArrive", "()V"⟩, 6) := ⟨⟨by decide +kernel, by decide +kernel⟩, List.mem_of_getElem? (i := 75) (by decide +kernel), List.mem_of_getElem? (i := 441) (by decide +kernel), List.mem_of_getElem? (i := 442) (by decide +kernel)⟩
theorem lw_p3 : lw_okq (⟨"TidePost$Traffic", "arrive", "(II)V"⟩, 6) := ⟨⟨by decide +kernel, by decide +kernel⟩, List.mem_of_getElem? (i := 75) (by decide +kernel), List.mem_of_getElem? (i := 452) (by decide +kernel), List.mem_of_getElem? (i := 453) (by decide +kernel)⟩
theorem lw_p4 : lw_okq (⟨"TidePost$Traffic", "send", "(III)V"⟩, 6) := ⟨⟨by decide +kernel, by decide +kernel⟩, List.mem_of_getElem? (i := 75) (by decide +kernel), List.mem_of_getElem? (i := 462) (by decide +kernel), List.mem_of_getElem? (i := 463) (by decide +kernel)⟩
theorem lw_p5 : lw_okq (⟨"TidePost$Caller", "advance", "(III)Z"⟩, 14) := ⟨⟨by decide +kernel, by decide +kernel⟩, List.mem_of_getElem? (i := 121) (by decide +kernel), List.mem_of_getElem? (i := 491) (by decide +kernel), List.mem_of_getElem? (i := 492) (by decide +kernel)⟩
theorem lw_p6 : lw_okq (⟨"TidePost$Caller", "growWindow", "()V"⟩, 14) := ⟨⟨by decide +kernel, by decide +kernel⟩, List.mem_of_getElem? (i := 121) (by decide +kernel), List.mem_of_getElem? (i := 508) (by decide +kernel), List.mem_of_getElem? (i := 509) (by decide +kernel)⟩
theorem lw_p7 : lw_okq (⟨"TidePost$Caller", "repeated", "(I)Z"⟩, 14) := ⟨⟨by decide +kernel, by decide +kernel⟩, List.mem_of_getElem? (i := 121) (by decide +kernel), List.mem_of_getElem? (i := 514) (by decide +kernel), List.mem_of_getElem? (i := 515) (by decide +kernel)⟩
theorem lw_p8 : lw_okq (⟨"TidePost$Caller", "startRecovery", "()V"⟩, 14) := ⟨⟨by decide +kernel, by decide +kernel⟩, List.mem_of_getElem? (i := 121) (by decide +kernel), List.mem_of_getElem? (i := 518) (by decide +kernel), List.mem_of_getElem? (i := 519) (by decide +kernel)⟩
theorem lw_p9 : lw_okq (⟨"TidePost$Traffic", "sendThing", "(II)V"⟩, 6) := ⟨⟨by decide +kernel, by decide +kernel⟩, List.mem_of_getElem? (i := 75) (by decide +kernel), List.mem_of_getElem? (i := 530) (by decide +kernel), List.mem_of_getElem? (i := 531) (by decide +kernel)⟩
theorem lw_p10 : lw_okq (⟨"TidePost$Traffic", "letTimersRunOut", "()V"⟩, 6) := ⟨⟨by decide +kernel, by decide +kernel⟩, List.mem_of_getElem? (i := 75) (by decide +kernel), List.mem_of_getElem? (i := 550) (by decide +kernel), List.mem_of_getElem? (i := 551) (by decide +kernel)⟩
theorem lw_p11 : lw_okq (⟨"TidePost$Traffic", "sendHello", "(I)V"⟩, 6) := ⟨⟨by decide +kernel, by decide +kernel⟩, List.mem_of_getElem? (i := 75) (by decide +kernel), List.mem_of_getElem? (i := 562) (by decide +kernel), List.mem_of_getElem? (i := 563) (by decide +kernel)⟩
theorem lw_p12 : lw_okq (⟨"TidePost$Traffic", "letCallersSend", "()V"⟩, 6) := ⟨⟨by decide +kernel, by decide +kernel⟩, List.mem_of_getElem? (i := 75) (by decide +kernel), List.mem_of_getElem? (i := 566) (by decide +kernel), List.mem_of_getElem? (i := 567) (by decide +kernel)⟩
theorem lw_p13 : lw_okq (⟨"TidePost$Traffic", "letTakeOff", "()V"⟩, 6) := ⟨⟨by decide +kernel, by decide +kernel⟩, List.mem_of_getElem? (i := 75) (by decide +kernel), List.mem_of_getElem? (i := 586) (by decide +kernel), List.mem_of_getElem? (i := 587) (by decide +kernel)⟩
theorem lw_p14 : lw_okq (⟨"TidePost", "digestOfLink", "(JI)J"⟩, 4) := ⟨⟨by decide +kernel, by decide +kernel⟩, List.mem_of_getElem? (i := 19) (by decide +kernel), List.mem_of_getElem? (i := 625) (by decide +kernel), List.mem_of_getElem? (i := 626) (by decide +kernel)⟩
theorem lw_p15 : lw_okq (⟨"TidePost", "checkNode", "(I)V"⟩, 4) := ⟨⟨by decide +kernel, by decide +kernel⟩, List.mem_of_getElem? (i := 19) (by decide +kernel), List.mem_of_getElem? (i := 661) (by decide +kernel), List.mem_of_getElem? (i := 662) (by decide +kernel)⟩
def lw_privs_1 : List (MethodName × Nat) := [(⟨"java/lang/Throwable", "fillInStackTrace", "(I)Ljava/lang/Throwable;"⟩, 6), (⟨"TidePost$Net", "measureRoutes", "()V"⟩, 9), (⟨"TidePost$Traffic", "letArrive", "()V"⟩, 6), (⟨"TidePost$Traffic", "arrive", "(II)V"⟩, 6), (⟨"TidePost$Traffic", "send", "(III)V"⟩, 6), (⟨"TidePost$Caller", "advance", "(III)Z"⟩, 14), (⟨"TidePost$Caller", "growWindow", "()V"⟩, 14), (⟨"TidePost$Caller", "repeated", "(I)Z"⟩, 14), (⟨"TidePost$Caller", "startRecovery", "()V"⟩, 14), (⟨"TidePost$Traffic", "sendThing", "(II)V"⟩, 6), (⟨"TidePost$Traffic", "letTimersRunOut", "()V"⟩, 6), (⟨"TidePost$Traffic", "sendHello", "(I)V"⟩, 6), (⟨"TidePost$Traffic", "letCallersSend", "()V"⟩, 6), (⟨"TidePost$Traffic", "letTakeOff", "()V"⟩, 6), (⟨"TidePost", "digestOfLink", "(JI)J"⟩, 4), (⟨"TidePost", "checkNode", "(I)V"⟩, 4)]
theorem lw_r1 : ∀ q ∈ lw_privs_1, lw_okq q := List.forall_mem_cons.mpr ⟨lw_p0, List.forall_mem_cons.mpr ⟨lw_p1, List.forall_mem_cons.mpr ⟨lw_p2, List.forall_mem_cons.mpr ⟨lw_p3, List.forall_mem_cons.mpr ⟨lw_p4, List.forall_mem_cons.mpr ⟨lw_p5, List.forall_mem_cons.mpr ⟨lw_p6, List.forall_mem_cons.mpr ⟨lw_p7, List.forall_mem_cons.mpr ⟨lw_p8, List.forall_mem_cons.mpr ⟨lw_p9, List.forall_mem_cons.mpr ⟨lw_p10, List.forall_mem_cons.mpr ⟨lw_p11, List.forall_mem_cons.mpr ⟨lw_p12, List.forall_mem_cons.mpr ⟨lw_p13, List.forall_mem_cons.mpr ⟨lw_p14, List.forall_mem_cons.mpr ⟨lw_p15, fun _ h => absurd h List.not_mem_nil⟩⟩⟩⟩⟩⟩⟩⟩⟩⟩⟩⟩⟩⟩⟩⟩
theorem lw_p16 : lw_okq (⟨"TidePost", "callerOf", "(I)LTidePost$Caller;"⟩, 4) := ⟨⟨by decide +kernel, by decide +kernel⟩, List.mem_of_getElem? (i := 19) (by decide +kernel), List.mem_of_getElem? (i := 713) (by decide +kernel), List.mem_of_getElem? (i := 714) (by decide +kernel)⟩
theorem lw_p17 : lw_okq (⟨"TidePost", "connectionOf", "(I)LTidePost$Connection;"⟩, 4) := ⟨⟨by decide +kernel, by decide +kernel⟩, List.mem_of_getElem? (i := 19) (by decide +kernel), List.mem_of_getElem? (i := 717) (by decide +kernel), List.mem_of_getElem? (i := 718) (by decide +kernel)⟩
theorem lw_p18 : lw_okq (⟨"TidePost", "checkLink", "(I)V"⟩, 4) := ⟨⟨by decide +kernel, by decide +kernel⟩, List.mem_of_getElem? (i := 19) (by decide +kernel), List.mem_of_getElem? (i := 758) (by decide +kernel), List.mem_of_getElem? (i := 759) (by decide +kernel)⟩
theorem lw_p19 : lw_okq (⟨"TidePost", "wayOf", "(II)LTidePost$Way;"⟩, 4) := ⟨⟨by decide +kernel, by decide +kernel⟩, List.mem_of_getElem? (i := 19) (by decide +kernel), List.mem_of_getElem? (i := 779) (by decide +kernel), List.mem_of_getElem? (i := 780) (by decide +kernel)⟩
def lw_privs_2 : List (MethodName × Nat) := [(⟨"TidePost", "callerOf", "(I)LTidePost$Caller;"⟩, 4), (⟨"TidePost", "connectionOf", "(I)LTidePost$Connection;"⟩, 4), (⟨"TidePost", "checkLink", "(I)V"⟩, 4), (⟨"TidePost", "wayOf", "(II)LTidePost$Way;"⟩, 4)]
theorem lw_r2 : ∀ q ∈ lw_privs_2, lw_okq q := List.forall_mem_cons.mpr ⟨lw_p16, List.forall_mem_cons.mpr ⟨lw_p17, List.forall_mem_cons.mpr ⟨lw_p18, List.forall_mem_cons.mpr ⟨lw_p19, fun _ h => absurd h List.not_mem_nil⟩⟩⟩⟩
def lw_privs : List (MethodName × Nat) := lw_privs_1 ++ (lw_privs_2)
def lw_tbl : List Cond := k2_sels lw_privs ++ tables_1
theorem lw_privs_ok : ∀ q ∈ lw_privs, lw_okq q := by
  show ∀ q ∈ lw_privs_1 ++ (lw_privs_2), lw_okq q
  exact List.forall_mem_append.mpr ⟨lw_r1, lw_r2⟩
end
section
/-! ===== BEGIN words of one list among another's, by their places ===== -/
theorem goodIn_r {big : List Cond} (ws : List Cond) (ps : List Nat) (hp : ws = ps.filterMap (fun i => big[i]?)) (h : ws.all goodWord = true) : GoodIn big ws := by
  intro w hw
  have h1 := List.all_eq_true.mp h w hw
  rw [hp] at hw
  obtain ⟨i, -, hi⟩ := List.mem_filterMap.mp hw
  have hm : w ∈ big := by first | exact List.mem_of_getElem? hi | exact List.getElem?_mem hi
  exact ⟨hm, good_of_word h1⟩
theorem goodIn_app {big a b : List Cond} (ha : GoodIn big a) (hb : GoodIn big b) : GoodIn big (a ++ b) := fun w h => (List.mem_append.mp h).elim (ha w) (hb w)
theorem goodIn_ca {big a b : List Cond} {c : Cond} (ha : GoodIn big (c :: a)) (hb : GoodIn big b) : GoodIn big (c :: (a ++ b)) := fun w h => (List.mem_cons.mp h).elim (fun e => ha w (List.mem_cons.mpr (Or.inl e))) (fun h => (List.mem_append.mp h).elim (fun h => ha w (List.mem_cons.mpr (Or.inr h))) (hb w))
theorem goodIn_sub {big ws : List Cond} (hm : ∀ w ∈ ws, w ∈ big) (h : ws.all goodWord = true) : GoodIn big ws := fun w hw => ⟨hm w hw, good_of_word (List.all_eq_true.mp h w hw)⟩
/-! ===== END ===== -/

/-! ===== BEGIN new T[n][m]: the outer array a place, the inner ones among the pooled ===== -/
/-- f, but v at every address of l -/
def vr_up {α : Type} (f : Nat → α) (l : List Nat) (v : α) : Nat → α := fun a => if a ∈ l then v else f a
theorem vr_up_in {α : Type} {f : Nat → α} {l : List Nat} {v : α} {a : Nat} (h : a ∈ l) : vr_up f l v a = v := if_pos h
theorem vr_up_ne {α : Type} {f : Nat → α} {l : List Nat} {v : α} {a : Nat} (h : a ∉ l) : vr_up f l v a = f a := if_neg h
theorem vr_rows {L l : List Nat} {f : Nat → va_E} {e : va_E} (h : ∀ a, a ∈ l → a ∉ L) : va_pl L f ++ l.map (fun a => (a, e)) = va_pl (L ++ l) (vr_up f l e) := by
  unfold va_pl
  rw [List.map_append]
  congr 1
  · apply List.map_congr_left
    intro a ha
    rw [vr_up_ne (fun q => h a q ha)]
  · apply List.map_congr_left
    intro a ha
    rw [vr_up_in ha]
theorem vr_lay {X rows : va_W} {x : Nat × va_E} {pl : va_W} {D : va_G} {cl : List vw_C} {H : Heap} (hP : va_P D cl (((X ++ pl) ++ [x]) ++ rows) H) : va_P D cl ((X ++ [x]) ++ (pl ++ rows)) H := by
  rw [List.append_assoc (X ++ pl)] at hP
  have h := va_P.swap hP
  rw [← List.append_assoc X] at h
  have h2 := va_P.swap h
  rw [List.append_assoc (X ++ [x])] at h2
  exact h2
theorem vr_layD {X rows : va_W} {x : Nat × va_E} {pl : va_W} {A : Nat → Prop} (hD : va_D A (((X ++ pl) ++ [x]) ++ rows)) : va_D A ((X ++ [x]) ++ (pl ++ rows)) := by
  rw [List.append_assoc (X ++ pl)] at hD
  have h := va_D.swap hD
  rw [← List.append_assoc X] at h
  have h2 := va_D.swap h
  rw [List.append_assoc (X ++ [x])] at h2
  exact h2
theorem vr_outer (c : ClassId) (N h0 : Nat) : ∀ i : Nat, Jvm.Free.Multi.outerC c N h0 i = arrV c N (fun j => va_rf (if j < i then some (h0 + 1 + j) else none))
  | 0 => by
    show ({ cls := c, slots := Array.replicate N .null, vm := .none } : Cell) = _
    rw [arrV_new]
    refine congrArg (arrV c N) (funext fun j => ?_)
    simp [va_rf]
  | i + 1 => by
    show (Jvm.Free.Multi.outerC c N h0 i).setSlot i (.ref (h0 + 1 + i)) = _
    rw [vr_outer c N h0 i, arrV_store]
    refine congrArg (arrV c N) (funext fun j => ?_)
    by_cases e : j = i
    · subst e
      simp [updV, va_rf]
    · by_cases h : j < i
      · simp [updV, e, h, Nat.lt_succ_of_lt h]
      · simp [updV, e, h, show ¬ j < i + 1 by omega]
section VGM
variable {p : Program} {l : Launch} {e : Env} {R : Room} {s : State} {m : MethodId} {args : Array Value} {below : List Frame} {meth : Method} {c : Code} {H : Heap} {locs : List Loc} {cells slots : Nat} {Q : State → Prop}
variable {cc : ByteArray} {pc : Nat} {ls : Array Slot} {rest : List Value} {D : va_G} {cl : List vw_C} {A : Nat → Prop} {a : Nat} {tys : List (ClassId × FieldType)} {ws : va_W} {H0 : Heap}
theorem va_mna {X : va_W} {L : List Nat} {f : Nat → va_E} {cc : ByteArray} (hexec : p.tables.exec = Jvm.exec) (hb : c.code = cc) {own : String} {index : Nat} {ty : FieldType} {cy : ClassId} (hown : s.vm.findClass own = some m.cls) (hclink : (Cond.classLink own index ("[" ++ (FieldType.array ty).toString)).before args s = true) (hover : (Cond.arrayOver (.array ty)).before args s = true) (harr : (Cond.arrayClass ty).before args s = true) (hcy : s.vm.findClass (FieldType.array ty).toString = some cy)
    (hK : va_K D cl tys s) (hP : va_P D cl (X ++ va_pl L f) H) (hD : va_D A (X ++ va_pl L f)) (hS : va_S A H0 H locs) (hA : ∀ q, H0.size ≤ q → A q) {n k : Int32} {N' K' : Nat} {z : vp_A} (hn : ¬ n < 0) (hk : ¬ k < 0) (hN : n.toNatClampNeg = N') (hM : k.toNatClampNeg = K')
    (hb1 : N' * 4 ≤ 536870912) (hb2 : K' * componentBytes ty ≤ 536870912) (hb3 : K' ≤ 536870912) (hdf : fits ty (defaultValue ty) = true) (hdd : (defaultValue ty).isDefault = true) (hcells : cells + (1 + N') ≤ R.cells) (hslots : slots + (N' + N' * K') ≤ R.slots) (hz : ∀ c : ClassId, Jvm.Free.Multi.innerC c K' (defaultValue ty) = vp_cell c z) (hdg : decode cc pc = .ok (.multianewarray index 2, 4))
    (kk : ∀ (q : Nat) (r : Nat → Nat) (cA : ClassId) (H1 : Heap), (∀ i j : Nat, i < N' → j < N' → r i = r j → i = j) → (∀ i : Nat, i < N' → r i ∉ L) → va_K D cl (tys ++ [(cA, .array ty)]) s →
      va_P D cl ((X ++ [(q, .inl (cA, N', .inr (.inr (.inr (.inr (fun i => if i < N' then some (r i) else none))))))]) ++ va_pl (L ++ (List.range N').map r) (vr_up f ((List.range N').map r) (.inl (cy, z)))) H1 → va_D A ((X ++ [(q, .inl (cA, N', .inr (.inr (.inr (.inr (fun i => if i < N' then some (r i) else none))))))]) ++ va_pl (L ++ (List.range N').map r) (vr_up f ((List.range N').map r) (.inl (cy, z)))) → va_S A H0 H1 locs →
      W p l e R s m args below meth c H1 locs (cells + 1 + N') (slots + N' + N' * K') Q (F0 m (pc + 4) ls (.ref q :: rest))) : W p l e R s m args below meth c H locs cells slots Q (F0 m pc ls (.int k :: .int n :: rest)) := by
  subst hN
  subst hM
  intro T hT Xs
  obtain ⟨vm₁, cA, comp, -, fA, fC, hO, -, X', step⟩ := Xs.multianewarray2F hexec hown hclink hover harr (g := F0 m pc ls (.int k :: .int n :: rest)) rfl (by rw [hb]; exact hdg) rfl hn hk hb1 hb2 hb3 hdf hdd hcells hslots
  have ec : some cy = some comp := hcy.symm.trans fC
  cases ec
  generalize hF : Jvm.Free.Multi.fill (T.setVm vm₁) cA cy n.toNatClampNeg k.toNatClampNeg (defaultValue ty) n.toNatClampNeg = F at X' step
  have hTh : (T.setVm vm₁).heap = H := hT
  obtain ⟨f1, f2, -, -⟩ := Jvm.Free.Multi.fill_facts (T.setVm vm₁) cA cy n.toNatClampNeg k.toNatClampNeg (defaultValue ty) n.toNatClampNeg
  rw [hF, hTh] at f1 f2
  have hold : ∀ x : Nat, x < H.size → F.heap[x]? = H[x]? := fun x hx => by
    have := Jvm.Free.Multi.fill_old (T.setVm vm₁) cA cy n.toNatClampNeg k.toNatClampNeg (defaultValue ty) (a := x) (by rw [hTh]; exact hx) n.toNatClampNeg
    rw [hF, hTh] at this
    exact this
  have hrow : ∀ j : Nat, j < n.toNatClampNeg → F.heap[H.size + 1 + j]? = some (vp_cell cy z) := fun j hj => by
    have := Jvm.Free.Multi.fill_inner (T.setVm vm₁) cA cy n.toNatClampNeg k.toNatClampNeg (defaultValue ty) n.toNatClampNeg j hj
    rw [hF, hTh, hz] at this
    exact this
  have hout : Jvm.Free.Multi.outerC cA n.toNatClampNeg H.size n.toNatClampNeg = vp_cell cA (n.toNatClampNeg, .inr (.inr (.inr (.inr (fun i => if i < n.toNatClampNeg then some (H.size + 1 + i) else none))))) := by
    rw [vp_cell_q]
    exact vr_outer cA n.toNatClampNeg H.size n.toNatClampNeg
  rw [hout] at f2
  have hlt : ∀ a, a ∈ L → a < H.size := fun a ha => by
    obtain ⟨k9, hk9⟩ := va_pl_get (X := X) (f := f) ha
    exact (hP k9 _ hk9).lt
  have hnl : ∀ i : Nat, i < n.toNatClampNeg → H.size + 1 + i ∉ L := fun i _ h => by
    have := hlt _ h
    omega
  have hnm : ∀ a, a ∈ (List.range n.toNatClampNeg).map (fun i => H.size + 1 + i) → a ∉ L := fun a ha h => by
    obtain ⟨i, -, rfl⟩ := List.mem_map.mp ha
    have := hlt _ h
    omega
  have hP0 : va_P D cl (X ++ va_pl L f) F.heap := hP.kept (fun k9 x hx => hold x.1 ((hP k9 x hx).lt))
  have hP1 : va_P D cl ((X ++ va_pl L f) ++ [(H.size, .inl (cA, n.toNatClampNeg, .inr (.inr (.inr (.inr (fun i => if i < n.toNatClampNeg then some (H.size + 1 + i) else none))))))]) F.heap := hP0.app (fun k9 x hx => by
    have h0 : k9 < 1 := (List.getElem?_eq_some_iff.mp hx).1
    rw [show k9 = 0 by omega] at hx
    cases hx
    exact f2)
  have hP2 : va_P D cl (((X ++ va_pl L f) ++ [(H.size, .inl (cA, n.toNatClampNeg, .inr (.inr (.inr (.inr (fun i => if i < n.toNatClampNeg then some (H.size + 1 + i) else none))))))]) ++ ((List.range n.toNatClampNeg).map (fun i => H.size + 1 + i)).map (fun a => (a, .inl (cy, z)))) F.heap := hP1.app (fun k9 x hx => by
    obtain ⟨a, ha, rfl⟩ := List.mem_map.mp (List.mem_of_getElem? hx)
    obtain ⟨i, hi, rfl⟩ := List.mem_map.mp ha
    exact hrow i (List.mem_range.mp hi))
  have hD2 : va_D A (((X ++ va_pl L f) ++ [(H.size, .inl (cA, n.toNatClampNeg, .inr (.inr (.inr (.inr (fun i => if i < n.toNatClampNeg then some (H.size + 1 + i) else none))))))]) ++ ((List.range n.toNatClampNeg).map (fun i => H.size + 1 + i)).map (fun a => (a, .inl (cy, z)))) := by
    have hD1 := hD.push (e := .inl (cA, n.toNatClampNeg, .inr (.inr (.inr (.inr (fun i => if i < n.toNatClampNeg then some (H.size + 1 + i) else none)))))) hP rfl (hA _ hS.1)
    generalize hW1 : (X ++ va_pl L f) ++ [(H.size, .inl (cA, n.toNatClampNeg, .inr (.inr (.inr (.inr (fun i => if i < n.toNatClampNeg then some (H.size + 1 + i) else none))))))] = W1 at hD1 hP1 ⊢
    have hle : ∀ (k9 : Nat) (x : Nat × va_E), W1[k9]? = some x → x.1 ≤ H.size := fun k9 x hx => by
      rw [← hW1] at hx
      by_cases hl : k9 < (X ++ va_pl L f).length
      · rw [List.getElem?_append_left hl] at hx
        exact Nat.le_of_lt ((hP k9 x hx).lt)
      · rw [List.getElem?_append_right (by omega)] at hx
        have h0 : k9 - (X ++ va_pl L f).length < 1 := (List.getElem?_eq_some_iff.mp hx).1
        rw [show k9 - (X ++ va_pl L f).length = 0 by omega] at hx
        cases hx
        exact Nat.le_refl _
    have hr : ∀ (k9 : Nat) (x : Nat × va_E), (((List.range n.toNatClampNeg).map (fun i => H.size + 1 + i)).map (fun a => ((a, .inl (cy, z)) : Nat × va_E)))[k9]? = some x → x.1 = H.size + 1 + k9 := fun k9 x hx => by
      rw [List.getElem?_map, List.getElem?_map] at hx
      by_cases h9 : k9 < n.toNatClampNeg
      · rw [List.getElem?_range h9] at hx
        cases hx
        rfl
      · have hn0 : (List.range n.toNatClampNeg)[k9]? = none := List.getElem?_eq_none (by rw [List.length_range]; omega)
        rw [hn0] at hx
        cases hx
    refine ⟨fun i j x y hi hj hxy => ?_, fun k9 x hx => ?_⟩
    · by_cases h1 : i < W1.length <;> by_cases h2 : j < W1.length
      · rw [List.getElem?_append_left h1] at hi
        rw [List.getElem?_append_left h2] at hj
        exact hD1.1 i j x y hi hj hxy
      · rw [List.getElem?_append_left h1] at hi
        rw [List.getElem?_append_right (by omega)] at hj
        have := hle _ _ hi
        have := hr _ _ hj
        omega
      · rw [List.getElem?_append_right (by omega)] at hi
        rw [List.getElem?_append_left h2] at hj
        have := hle _ _ hj
        have := hr _ _ hi
        omega
      · rw [List.getElem?_append_right (by omega)] at hi hj
        have := hr _ _ hi
        have := hr _ _ hj
        omega
    · by_cases h1 : k9 < W1.length
      · rw [List.getElem?_append_left h1] at hx
        exact hD1.2 k9 x hx
      · rw [List.getElem?_append_right (by omega)] at hx
        have := hr _ _ hx
        exact hA _ (by have := hS.1; omega)
  have hAr : ArrOfT s cA (.array ty) := fun N9 z9 => by
    obtain ⟨-, k9, hk9, cm9, hkk9⟩ := (hO 0 0 0).1
    exact ⟨(fun q hq => by cases hq), k9, hk9, cm9, hkk9⟩
  have hK2 : va_K D cl (tys ++ [(cA, .array ty)]) s := ⟨hK.1, fun k9 x hx => by
    by_cases hl : k9 < tys.length
    · rw [List.getElem?_append_left hl] at hx
      exact hK.2 k9 x hx
    · rw [List.getElem?_append_right (by omega)] at hx
      have h0 : k9 - tys.length < 1 := (List.getElem?_eq_some_iff.mp hx).1
      rw [show k9 - tys.length = 0 by omega] at hx
      cases hx
      exact ⟨hAr, fA⟩⟩
  obtain ⟨t, a1, b1⟩ := kk H.size (fun i => H.size + 1 + i) cA F.heap (fun i j _ _ h => by have h9 : H.size + 1 + i = H.size + 1 + j := h; omega) hnl hK2 (by rw [← vr_rows hnm]; exact vr_lay hP2) (by rw [← vr_rows hnm]; exact vr_layD hD2) ⟨by rw [f1]; have := hS.1; omega, fun x h1 h2 => (hold x (Nat.lt_of_lt_of_le h1 hS.1)).trans (hS.2.1 x h1 h2), hS.2.2⟩ F rfl X'
  refine ⟨t, step t ?_, b1⟩
  have e : T.heap.size = H.size := by rw [hT]
  rw [e]
  exact a1
end VGM
/-! ===== END ===== -/

/-! ===== BEGIN exceptions that leave a method, and their catching by the caller (launches without stack traces) ===== -/
section VXA
/-! The laws vx_back, vx_callV, vx_callS, vx_callSW, vx_throw0, vx_throwS follow proofs of the library, with one case more: JvmDerived/Free/Laws.lean (Back.of_free), Shelf42/LK1.lean (callV, callS), Shelf/KitTraced.lean (throwNew0V, throwNewS). -/
/-- where a method has thrown q: the class by its name, the cell, what was written, the world -/
def vx_T (XC : String → State → State → Prop) (st : State) (q : Addr) (t : State) (mc ms : Nat) (free : Addr → Prop) : Prop :=
  ∃ (E : String) (ce : Cell) (L : List Loc), XC E st t ∧ t.heap[q]? = some ce ∧ ce.vm = .none ∧ st.vm.findClass E = some ce.cls ∧ st.WarmedH t.vm ∧ st.sameButNew ({ t with vm := st.vm } : State) L mc ms ∧ ∀ z ∈ L, free z.base
def vx_Q (Qc : Array Value → State → Outcome → State → Prop) (XC : String → State → State → Prop) (mc ms : Nat) (free : Addr → Prop) : Array Value → State → Outcome → State → Prop := fun a st o t =>
  (Qc a st o t ∧ ∃ L, FrameEnd st o t L mc ms ∧ ∀ q ∈ L, free q.base) ∨ ∃ q, o = .threw q ∧ vx_T XC st q t mc ms free
/-- a callee that returns or throws -/
def vx_Met (l : Launch) (y : MethodName) (ws : List Cond) (rm : Room) (Pc : Array Value → State → Prop) (Qc : Array Value → State → Outcome → State → Prop) (XC : String → State → State → Prop) (mc ms : Nat) (free : Addr → Prop) : Prop :=
  MetFree l y (headSpec ws rm) Pc (fun _ _ _ _ _ => True) (vx_Q Qc XC mc ms free)
def vx_Post (XC : String → State → State → Prop) (mc ms : Nat) (free : Addr → Prop) : Pt → Array Value → Addr → Pt → Prop := fun A a q B =>
  ∃ (g : JFrame) (mk : MethodId) (t : State) (L : List Loc) (E : String) (ce : Cell), B.U.heap = t.heap ∧ B.U.vm = t.vm ∧ XC E (A.U.calling g mk a) t ∧ t.heap[q]? = some ce ∧ ce.vm = .none ∧ A.U.vm.findClass E = some ce.cls ∧ B.locs = A.locs ++ L ∧ (∀ z ∈ L, free z.base) ∧ B.cells = A.cells + mc ∧ B.slots = A.slots + ms
def vx_Back (l : Launch) (R : Room) (p : Program) (e : Env) (below : List Frame) (s : State) (sargs : Array Value) (y : MethodName) (len W9 : Nat)
    (Pre : Pt → Array Value → Prop) (Post : Pt → Array Value → Option Value → Pt → Prop) (PostX : Pt → Array Value → Addr → Pt → Prop) : Prop :=
  ∀ (m : MethodId) (meth : Method) (c : Code) (A : Pt) (g : JFrame) (ig : Instr) (mk : MethodId) (a : Array Value),
    Stand p l e R s m sargs below meth c A.U A.locs A.cells A.slots → g.method = m → g.locals.size = c.maxLocals → decode c.code g.pc = .ok (ig, len) →
    2 * g.monitorRoom + (g.stack.map fun v => v.category).sum ≤ W9 → A.U.methodNamed? y = some mk → Pre A a →
    (∃ (v : Option Value) (B : Pt), Stand p l e R s m sargs below meth c B.U B.locs B.cells B.slots ∧ Post A a v B ∧
      Steps p.tables e below (doInvoke e (A.U.setTop g) [] mk a).1 (B.U.setTop { g with pc := g.pc + len, stack := v.toList ++ g.stack })) ∨
    (∃ (q : Addr) (B : Pt), Stand p l e R s m sargs below meth c B.U B.locs B.cells B.slots ∧ PostX A a q B ∧
      Steps p.tables e below (doInvoke e (A.U.setTop g) [] mk a).1 ((B.U.setTop g).pushFrame (.throwing q)))
section Payer
variable {l : Launch} {R : Room} {p : Program} {e : Env} {below : List Frame} {s : State} {sargs : Array Value} {y : MethodName} {len W9 : Nat}
theorem vx_back {ws : List Cond} {rm : Room} {Pc : Array Value → State → Prop} {Qc : Array Value → State → Outcome → State → Prop} {XC : String → State → State → Prop} {mc ms : Nat} {free : Addr → Prop} {bytes : ByteArray} {maxL : Nat} {ret : Option FieldType}
    (hM : vx_Met l y ws rm Pc Qc XC mc ms free) (hblind : FrameBlind Pc) (hrc : rm.cells = mc) (hrs : rm.slots = ms)
    (hframes : rm.frames + 1 ≤ R.frames) (hlocals : W9 + (maxL + 11) + rm.locals ≤ R.locals)
    (hws : ∀ w ∈ ws, ∀ a' U, s.WarmedH U.vm → w.before a' U = true) (hcode : Cond.code y bytes maxL ret ∈ ws) (hinit : ∀ a' U, s.WarmedH U.vm → (Cond.initialized y.cls).before a' U = true) :
    vx_Back l R p e below s sargs y len W9 (PreOf R mc ms Pc) (PostOf Qc mc ms free) (vx_Post XC mc ms free) := by
  intro m meth c A g ig mk a X hg hsize hdg hW hn hp
  have h1 : (headSpec ws rm).pre.before a A.U = true := atoms_intro fun w hw => hws w hw _ _ X.warmed
  have h2 : (Cond.code y bytes maxL ret).before a A.U = true := hws _ hcode _ _ X.warmed
  have h3 : (Cond.initialized y.cls).before a A.U = true := hinit _ _ X.warmed
  have h4 : A.cells + (headSpec ws rm).room.cells ≤ R.cells := by rw [show (headSpec ws rm).room.cells = mc from hrc]; exact hp.1
  have h5 : A.slots + (headSpec ws rm).room.slots ≤ R.slots := by rw [show (headSpec ws rm).room.slots = ms from hrs]; exact hp.2.1
  have hPc : Pc a (A.U.calling g mk a) := hblind _ _ _ _ hp.2.2
  obtain ⟨U, Ls, c0, s0⟩ := A
  dsimp only [Pt.U, Pt.locs, Pt.cells, Pt.slots] at h1 h2 h3 h4 h5 X hn hPc ⊢
  obtain ⟨methY, cY, hmY, hcY, -, hlY, -, -, -, -⟩ := Cond.code_spec hn h2
  obtain ⟨kY, hkY, -⟩ := className_of_methodNamed hn
  have hinitY : kY.init = .initialized := Cond.initialized_spec (findClass_of_methodNamed hn) hkY h3
  have h : At U g.method c below := by rw [hg]; exact X.here
  have hlocals9 : W9 + (maxL + 11) + (headSpec ws rm).room.locals ≤ R.locals := hlocals
  have happ : (headSpec ws rm).appliesLoose y e.platform (U.calling g mk a) = true :=
    Spec.appliesLoose_calling (g := g) h hdg hn hkY hinitY
      (X.room_calling (g := g) (R' := (headSpec ws rm).room) hsize hmY hcY hframes (by rw [hlY]; omega) h4 h5) h1
  obtain ⟨mid, hmid⟩ := h.above
  have hfr : (U.setTop g).frames = (.java g :: mid) ++ below := by rw [State.frames_setTop' g h.top, hmid]; rfl
  obtain ⟨o, s₂, hsteps, -, hend, hq⟩ := Steps.callFree hM p X.admits X.cas X.clock (acts := []) hfr happ hPc trivial
  have hq' : vx_Q Qc XC mc ms free a (U.calling g mk a) o s₂ := hq
  rw [State.frames_setTop' g h.top] at hend
  obtain ⟨g₀, hg0⟩ := Option.isSome_iff_exists.mp h.top
  obtain ⟨r, hr⟩ := State.topJava?_eq_some.mp hg0
  have hr' : (({ U with heap := s₂.heap, slotsUsed := s₂.slotsUsed } : State).setVm s₂.vm).frames = .java g₀ :: r := hr
  rcases hq' with ⟨hqc, L, hfe, hL⟩ | ⟨q, rfl, E, ce, L, hx, hce, hcv, hcl, hW₂, hsm, hL⟩
  · obtain ⟨⟨v, rfl⟩, hW₂, e2, q2, q3, q4, q5, q6⟩ := id hfe
    have e3 : s₂ = ({ (U.calling g mk a).setFrames s₂.frames with heap := s₂.heap, slotsUsed := s₂.slotsUsed } : State).setVm s₂.vm := by
      have : s₂ = ({ s₂ with vm := (U.calling g mk a).vm } : State).setVm s₂.vm := rfl
      rw [e2] at this
      exact this
    obtain ⟨c₂, i₂, len₂, hc₂, hd₂, hf₂⟩ := hend
    have hW' : U.WarmedH s₂.vm := hW₂
    have hcc : c₂ = c := by
      have h1 : s₂.code? g.method = U.code? g.method := by
        rw [State.code?_eq, State.code?_eq, hW'.alike.method?]
      exact Option.some.inj (hc₂.symm.trans (h1.trans h.code))
    subst hcc
    have hlen : len₂ = len := by rw [hdg] at hd₂; cases hd₂; rfl
    subst hlen
    have hs₂ : s₂ = (({ U with heap := s₂.heap, slotsUsed := s₂.slotsUsed } : State).setVm s₂.vm).setTop { g with pc := g.pc + len₂, stack := v.toList ++ g.stack } := by
      refine e3.trans ?_
      rw [hf₂, State.calling_eq h.top, State.setFrames_setFrames, State.setTop_of_frames _ hr', hr]
      rfl
    have hsame : U.sameButNew ({ U with heap := s₂.heap, slotsUsed := s₂.slotsUsed } : State) L mc ms := by
      refine ⟨?_, q2, q3, q4, q5, q6⟩
      obtain ⟨t, ht, -⟩ := State.frames_cons hr
      show ({ U with heap := s₂.heap, slotsUsed := s₂.slotsUsed } : State) = { U.setFrames U.frames with heap := s₂.heap, slotsUsed := s₂.slotsUsed }
      rw [State.setFrames_self ht]
    subst hg
    refine Or.inl ⟨v, ⟨(({ U with heap := s₂.heap, slotsUsed := s₂.slotsUsed } : State).setVm s₂.vm), Ls ++ L, c0 + mc, s0 + ms⟩,
      ⟨X.admits, X.cas, X.clock, X.frames, X.room, X.hears, X.method, X.code, (X.here.setHeapUsed s₂.heap s₂.slotsUsed).setVm hW'.alike, X.tail, State.WarmedH.trans X.warmed hW', X.limits, X.bytes, X.same.trans (hsame.setVm s.vm)⟩,
      ⟨g, mk, s₂, L, rfl, rfl, hqc, rfl, hL, rfl, rfl⟩, ?_⟩
    show Steps p.tables e below _ ((({ U with heap := s₂.heap, slotsUsed := s₂.slotsUsed } : State).setVm s₂.vm).setTop { g with pc := g.pc + len₂, stack := v.toList ++ g.stack })
    rw [← hs₂]
    exact hsteps
  · obtain ⟨e2, q2, q3, q4, q5, q6⟩ := id hsm
    have e3 : s₂ = ({ (U.calling g mk a).setFrames s₂.frames with heap := s₂.heap, slotsUsed := s₂.slotsUsed } : State).setVm s₂.vm := by
      have : s₂ = ({ s₂ with vm := (U.calling g mk a).vm } : State).setVm s₂.vm := rfl
      rw [e2] at this
      exact this
    have hf₂ : s₂.frames = .throwing q :: .java g :: U.frames.tail := hend
    have hW' : U.WarmedH s₂.vm := hW₂
    have hs₂ : s₂ = ((({ U with heap := s₂.heap, slotsUsed := s₂.slotsUsed } : State).setVm s₂.vm).setTop g).pushFrame (.throwing q) := by
      refine e3.trans ?_
      rw [hf₂, State.calling_eq h.top, State.setFrames_setFrames, State.pushFrame, State.frames_setTop _ hr', State.setTop_of_frames _ hr', State.setFrames_setFrames, hr]
      rfl
    have hsame : U.sameButNew ({ U with heap := s₂.heap, slotsUsed := s₂.slotsUsed } : State) L mc ms := by
      refine ⟨?_, q2, q3, q4, q5, q6⟩
      obtain ⟨t, ht, -⟩ := State.frames_cons hr
      show ({ U with heap := s₂.heap, slotsUsed := s₂.slotsUsed } : State) = { U.setFrames U.frames with heap := s₂.heap, slotsUsed := s₂.slotsUsed }
      rw [State.setFrames_self ht]
    subst hg
    refine Or.inr ⟨q, ⟨(({ U with heap := s₂.heap, slotsUsed := s₂.slotsUsed } : State).setVm s₂.vm), Ls ++ L, c0 + mc, s0 + ms⟩,
      ⟨X.admits, X.cas, X.clock, X.frames, X.room, X.hears, X.method, X.code, (X.here.setHeapUsed s₂.heap s₂.slotsUsed).setVm hW'.alike, X.tail, State.WarmedH.trans X.warmed hW', X.limits, X.bytes, X.same.trans (hsame.setVm s.vm)⟩,
      ⟨g, mk, s₂, L, E, ce, rfl, rfl, hx, hce, hcv, hcl, rfl, hL, rfl, rfl⟩, ?_⟩
    show Steps p.tables e below _ (((({ U with heap := s₂.heap, slotsUsed := s₂.slotsUsed } : State).setVm s₂.vm).setTop g).pushFrame (.throwing q))
    rw [← hs₂]
    exact hsteps
end Payer
section Calls
variable {p : Program} {l : Launch} {e : Env} {R : Room} {s : State} {m : MethodId} {args : Array Value} {below : List Frame} {meth : Method} {c : Code} {T : State} {locs : List Loc} {cells slots : Nat}
theorem vx_callV (X : Stand p l e R s m args below meth c T locs cells slots) (hexec : p.tables.exec = Jvm.exec) {own C : String} {index : Nat} {y : MethodName} {bytes : ByteArray} {maxL : Nat} {ret : Option FieldType}
    (hown : s.vm.findClass own = some m.cls) (hlink : (Cond.methodLink own index y).before args s = true) (hinst : (Cond.instanceMethod y).before args s = true) (hsel : (Cond.selects C y y).before args s = true)
    (hcode : (Cond.code y bytes maxL ret).before args s = true) (hy : y.cls ≠ "java/lang/invoke/MethodHandle" ∧ y.cls ≠ "java/lang/invoke/VarHandle")
    {W9 : Nat} {Pre : Pt → Array Value → Prop} {Post : Pt → Array Value → Option Value → Pt → Prop} {PostX : Pt → Array Value → Addr → Pt → Prop} (hK : vx_Back l R p e below s args y 3 W9 Pre Post PostX)
    {b : Addr} {cellB : Cell} (hcell : T.heap[b]? = some cellB) (hobj : cellB.vm.isStatics = false) (hcls : s.vm.findClass C = some cellB.cls)
    {g : JFrame} (hg : g.method = m) (hsize : g.locals.size = c.maxLocals) {argsL rest : List Value} (hlen : ∀ sig, parseMethodDescriptor y.desc = some sig → argsL.length = sig.parameters.length)
    (hstack : g.stack = argsL.reverse ++ .ref b :: rest) (hW : 2 * g.monitorRoom + (rest.map fun v => v.category).sum ≤ W9) (hdg : decode c.code g.pc = .ok (.invokevirtual index, 3))
    (hpre : ∀ vm₁, s.WarmedH vm₁ → Pre ⟨T.setVm vm₁, locs, cells, slots⟩ (Value.ref b :: argsL).toArray) :
    (∃ (v : Option Value) (vm₁ : Vm) (B : Pt), s.WarmedH vm₁ ∧ Stand p l e R s m args below meth c B.U B.locs B.cells B.slots ∧ Post ⟨T.setVm vm₁, locs, cells, slots⟩ (Value.ref b :: argsL).toArray v B ∧
      ∀ target, Steps p.tables e below (B.U.setTop { g with pc := g.pc + 3, stack := v.toList ++ rest }) target → Steps p.tables e below (T.setTop g) target) ∨
    (∃ (q : Addr) (vm₁ : Vm) (B : Pt), s.WarmedH vm₁ ∧ Stand p l e R s m args below meth c B.U B.locs B.cells B.slots ∧ PostX ⟨T.setVm vm₁, locs, cells, slots⟩ (Value.ref b :: argsL).toArray q B ∧
      Steps p.tables e below (T.setTop g) ((B.U.setTop { g with stack := rest }).pushFrame (.throwing q))) := by
  obtain ⟨mk, methM, hnamed, hmethM, hstM, habM⟩ := Cond.instanceMethod_spec hinst
  obtain ⟨methM', cM, hmethM', -, -, -, -, -, -, hsigM⟩ := Cond.code_spec hnamed hcode
  cases hmethM.symm.trans hmethM'
  obtain ⟨c2, r2, m2, q1, q2, q3, q4, kP, hkP, hkPi⟩ := Cond.selects_spec hsel
  cases hcls.symm.trans q1
  cases (State.methodFound?_of_named hnamed hy).symm.trans q2
  cases hnamed.symm.trans q3
  have hselP : selectMethod e.platform s.vm cellB.cls mk = .method mk := by rw [Launch.admits_selectMethod X.admits]; exact q4
  obtain ⟨vm₁, X₁, hstep₁⟩ := X.invokevirtual hexec hown hlink hnamed hmethM hstM hkP hkPi hy (a := b) (cell := cellB) hcell
    (fun z h => by rw [h] at hobj; cases hobj) hselP hmethM habM hkP hkPi (g := g) hg (argsL := argsL) (rest := rest) (hlen _ hsigM) hstack hdg
  rcases hK m meth c ⟨T.setVm vm₁, locs, cells, slots⟩ { g with stack := rest } (.invokevirtual index) mk (Value.ref b :: argsL).toArray X₁ hg hsize hdg hW (X₁.named hnamed) (hpre vm₁ X₁.warmed) with ⟨v, B, X', hpost, hsteps⟩ | ⟨q, B, X', hpost, hsteps⟩
  · exact Or.inl ⟨v, vm₁, B, X₁.warmed, X', hpost, fun target h => hstep₁ _ fun acts => by rw [doInvoke_state]; exact hsteps.trans h⟩
  · exact Or.inr ⟨q, vm₁, B, X₁.warmed, X', hpost, hstep₁ _ fun acts => by rw [doInvoke_state]; exact hsteps⟩
theorem vx_callS (X : Stand p l e R s m args below meth c T locs cells slots) (hexec : p.tables.exec = Jvm.exec) {own : String} {index : Nat} {y : MethodName} {bytes : ByteArray} {maxL : Nat} {ret : Option FieldType}
    (hown : s.vm.findClass own = some m.cls) (hlink : (Cond.methodLink own index y).before args s = true) (hstat : (Cond.static y).before args s = true) (hinit : (Cond.initialized y.cls).before args s = true)
    (hcode : (Cond.code y bytes maxL ret).before args s = true) (hy : y.cls ≠ "java/lang/invoke/MethodHandle" ∧ y.cls ≠ "java/lang/invoke/VarHandle")
    {W9 : Nat} {Pre : Pt → Array Value → Prop} {Post : Pt → Array Value → Option Value → Pt → Prop} {PostX : Pt → Array Value → Addr → Pt → Prop} (hK : vx_Back l R p e below s args y 3 W9 Pre Post PostX)
    {g : JFrame} (hg : g.method = m) (hsize : g.locals.size = c.maxLocals) {argsL rest : List Value} (hlen : ∀ sig, parseMethodDescriptor y.desc = some sig → argsL.length = sig.parameters.length)
    (hstack : g.stack = argsL.reverse ++ rest) (hW : 2 * g.monitorRoom + (rest.map fun v => v.category).sum ≤ W9) (hdg : decode c.code g.pc = .ok (.invokestatic index, 3))
    (hpre : ∀ vm₁, s.WarmedH vm₁ → Pre ⟨T.setVm vm₁, locs, cells, slots⟩ argsL.toArray) :
    (∃ (v : Option Value) (vm₁ : Vm) (B : Pt), s.WarmedH vm₁ ∧ Stand p l e R s m args below meth c B.U B.locs B.cells B.slots ∧ Post ⟨T.setVm vm₁, locs, cells, slots⟩ argsL.toArray v B ∧
      ∀ target, Steps p.tables e below (B.U.setTop { g with pc := g.pc + 3, stack := v.toList ++ rest }) target → Steps p.tables e below (T.setTop g) target) ∨
    (∃ (q : Addr) (vm₁ : Vm) (B : Pt), s.WarmedH vm₁ ∧ Stand p l e R s m args below meth c B.U B.locs B.cells B.slots ∧ PostX ⟨T.setVm vm₁, locs, cells, slots⟩ argsL.toArray q B ∧
      Steps p.tables e below (T.setTop g) ((B.U.setTop { g with stack := rest }).pushFrame (.throwing q))) := by
  obtain ⟨mk, hnamed⟩ := Cond.code_named hcode
  obtain ⟨methM, cM, hmethM, -, -, -, -, -, -, hsigM⟩ := Cond.code_spec hnamed hcode
  have hstatic : methM.isStatic = true := Cond.static_spec hnamed hmethM hstat
  obtain ⟨kP, hkP, -⟩ := className_of_methodNamed hnamed
  have hinitP : kP.init = .initialized := Cond.initialized_spec (findClass_of_methodNamed hnamed) hkP hinit
  obtain ⟨vm₁, X₁, hstep₁⟩ := X.invokestatic hexec hown hlink hnamed hmethM hstatic hkP hinitP hy (g := g) hg (argsL := argsL) (rest := rest) (hlen _ hsigM) hstack hdg
  rcases hK m meth c ⟨T.setVm vm₁, locs, cells, slots⟩ { g with stack := rest } (.invokestatic index) mk argsL.toArray X₁ hg hsize hdg hW (X₁.named hnamed) (hpre vm₁ X₁.warmed) with ⟨v, B, X', hpost, hsteps⟩ | ⟨q, B, X', hpost, hsteps⟩
  · exact Or.inl ⟨v, vm₁, B, X₁.warmed, X', hpost, fun target h => hstep₁ _ fun acts => by rw [doInvoke_state]; exact hsteps.trans h⟩
  · exact Or.inr ⟨q, vm₁, B, X₁.warmed, X', hpost, hstep₁ _ fun acts => by rw [doInvoke_state]; exact hsteps⟩
end Calls
theorem vx_cls {s : State} {T : State} {vm₁ : Vm} {E : String} {k : ClassId} (hW : s.WarmedH vm₁) (h : (T.setVm vm₁).vm.findClass E = some k) : s.vm.findClass E = some k := by
  have h1 : vm₁.findClass E = some k := h
  rw [hW.alike.findClass] at h1
  exact h1
/-- the method's frame g, with q thrown over it -/
def vx_W (p : Program) (l : Launch) (e : Env) (R : Room) (s : State) (m : MethodId) (args : Array Value) (below : List Frame) (meth : Method) (c : Code) (H : Heap) (locs : List Loc) (cells slots : Nat) (Q : State → Prop) (g : JFrame) (q : Addr) : Prop :=
  ∀ T : State, T.heap = H → Stand p l e R s m args below meth c T locs cells slots → ∃ t, Steps p.tables e below ((T.setTop g).pushFrame (.throwing q)) t ∧ Q t
def vx_Run (p : Program) (l : Launch) (e : Env) (R : Room) (s : State) (m : MethodId) (args : Array Value) (below : List Frame) (meth : Method) (c : Code) (H : Heap) (locs : List Loc) (cells slots mc ms : Nat) (g : JFrame) (rest : List Value) (Qa : State → Outcome → State → Prop) (XC : String → State → State → Prop) (free : Addr → Prop) : Prop :=
  ∀ T : State, T.heap = H → Stand p l e R s m args below meth c T locs cells slots →
    (∃ (v : Option Value) (st₀ t T' : State) (L : List Loc), st₀.heap = H ∧ Stand p l e R s m args below meth c T' (locs ++ L) (cells + mc) (slots + ms) ∧ (∀ q ∈ L, free q.base) ∧ T'.heap = t.heap ∧ T'.vm = t.vm ∧ Qa st₀ (.returned v) t ∧
      Goes p e below T g T' { g with pc := g.pc + 3, stack := v.toList ++ rest }) ∨
    (∃ (q : Addr) (st₀ t T' : State) (L : List Loc) (E : String) (ce : Cell), st₀.heap = H ∧ Stand p l e R s m args below meth c T' (locs ++ L) (cells + mc) (slots + ms) ∧ (∀ z ∈ L, free z.base) ∧ T'.heap = t.heap ∧ T'.vm = t.vm ∧ XC E st₀ t ∧ t.heap[q]? = some ce ∧ ce.vm = .none ∧ s.vm.findClass E = some ce.cls ∧
      Steps p.tables e below (T.setTop g) ((T'.setTop { g with stack := rest }).pushFrame (.throwing q)))
def vx_X {S : Type} (px : S → Prop) (B : String → S → State → Prop) (A : Nat → Prop) : String → State → State → Prop := fun E st t => ∃ u : S, px u ∧ B E u t ∧ va_F A st t
section Runs
variable {p : Program} {l : Launch} {e : Env} {R : Room} {s : State} {m : MethodId} {args : Array Value} {below : List Frame} {meth : Method} {c : Code} {H : Heap} {locs : List Loc} {cells slots : Nat}
variable {y : MethodName} {bytes cc : ByteArray} {maxL nL mc ms n index : Nat} {ret : Option FieldType} {ws : List Cond} {rm : Room} {Pc : Array Value → State → Prop} {Qc : Array Value → State → Outcome → State → Prop} {XC : String → State → State → Prop} {free : Addr → Prop} {Ts : List Cond} {own C : String} {b : Addr} {As rest : List Value} {g : JFrame}
theorem vx_callBack (cb : CallB R s args own index y bytes maxL ret ws rm mc ms n) (hM : vx_Met l y ws rm Pc Qc XC mc ms free) (hbl : FrameBlind Pc) : vx_Back l R p e below s args y 3 8 (PreOf R mc ms Pc) (PostOf Qc mc ms free) (vx_Post XC mc ms free) := by
  obtain ⟨hrc, hrs, hfr, hlo, hws, hcw, -, hini, -⟩ := cb
  exact vx_back (bytes := bytes) (maxL := maxL) (ret := ret) hM hbl hrc hrs hfr hlo hws hcw (fun a' U hW => word_at hW (Or.inl (by first | rfl | simp [Cond.onTables, Cond.keeps, Cond.steady])) hini)
theorem vx_runV (S : CallFix p m c cc nL s args Ts own) (hM : vx_Met l y ws rm Pc Qc XC mc ms free) (cw : CallW R s args own C index y bytes maxL ret ws rm mc ms n) (hp : PreV s H C b Pc As)
    (hg : g.method = m) (hn : As.length = n) (hsize : g.locals.size = nL) (hstack : g.stack = As.reverse ++ .ref b :: rest) (hW : 2 * g.monitorRoom + (rest.map fun v => v.category).sum ≤ 8) (hdg : decode cc g.pc = .ok (.invokevirtual index, 3)) (hf : cells + mc ≤ R.cells ∧ slots + ms ≤ R.slots) :
    vx_Run p l e R s m args below meth c H locs cells slots mc ms g rest (Qc (Value.ref b :: As).toArray) XC free := by
  have hK : vx_Back l R p e below s args y 3 8 (PreOf R mc ms Pc) (PostOf Qc mc ms free) (vx_Post XC mc ms free) := vx_callBack cw.1 hM hp.1
  obtain ⟨⟨-, -, -, -, -, -, hcode, -, hy, hlen, hl⟩, hin, hse⟩ := cw
  obtain ⟨hx, hb, hml, ho, -⟩ := S
  obtain ⟨-, ⟨cellB, hcB, hoB, hclB⟩, hPc⟩ := hp
  intro T hT X
  rcases vx_callV X hx (C := C) (bytes := bytes) (maxL := maxL) (ret := ret) ho hl hin hse hcode hy hK (by rw [hT]; exact hcB) hoB hclB hg (hsize.trans hml.symm) (argsL := As) (rest := rest) (fun sig h => hn.trans (hlen sig h)) hstack hW (by rw [hb]; exact hdg)
    (fun vm₁ hW₁ => ⟨hf.1, hf.2, hPc (T.setVm vm₁) hT hW₁⟩) with ⟨v, vm₁, ⟨U', l2, c2, s2⟩, hW₁, X', ⟨g', mk, t, L, e1, e2, hq, h1, hL, h2, h3⟩, st⟩ | ⟨q, vm₁, ⟨U', l2, c2, s2⟩, hW₁, X', ⟨g', mk, t, L, E, ce, e1, e2, hq, hce, hcv, hcl, h1, hL, h2, h3⟩, st⟩
  · dsimp only [Pt.U, Pt.locs, Pt.cells, Pt.slots] at X' e1 e2 h1 h2 h3 st
    subst h1; subst h2; subst h3
    exact Or.inl ⟨v, (T.setVm vm₁).calling g' mk (Value.ref b :: As).toArray, t, U', L, hT, X', hL, e1, e2, hq, st⟩
  · dsimp only [Pt.U, Pt.locs, Pt.cells, Pt.slots] at X' e1 e2 h1 h2 h3 st hcl
    subst h1; subst h2; subst h3
    exact Or.inr ⟨q, (T.setVm vm₁).calling g' mk (Value.ref b :: As).toArray, t, U', L, E, ce, hT, X', hL, e1, e2, hq, hce, hcv, vx_cls hW₁ hcl, st⟩
theorem vx_runS (S : CallFix p m c cc nL s args Ts own) (hM : vx_Met l y ws rm Pc Qc XC mc ms free) (cw : CallB R s args own index y bytes maxL ret ws rm mc ms n ∧ (Cond.static y).before args s = true) (hp : PreS s H Pc As)
    (hg : g.method = m) (hn : As.length = n) (hsize : g.locals.size = nL) (hstack : g.stack = As.reverse ++ rest) (hW : 2 * g.monitorRoom + (rest.map fun v => v.category).sum ≤ 8) (hdg : decode cc g.pc = .ok (.invokestatic index, 3)) (hf : cells + mc ≤ R.cells ∧ slots + ms ≤ R.slots) :
    vx_Run p l e R s m args below meth c H locs cells slots mc ms g rest (Qc As.toArray) XC free := by
  have hK : vx_Back l R p e below s args y 3 8 (PreOf R mc ms Pc) (PostOf Qc mc ms free) (vx_Post XC mc ms free) := vx_callBack cw.1 hM hp.1
  obtain ⟨⟨-, -, -, -, -, -, hcode, hini, hy, hlen, hl⟩, hstt⟩ := cw
  obtain ⟨hx, hb, hml, ho, -⟩ := S
  intro T hT X
  rcases vx_callS X hx (bytes := bytes) (maxL := maxL) (ret := ret) ho hl hstt hini hcode hy hK hg (hsize.trans hml.symm) (argsL := As) (rest := rest) (fun sig h => hn.trans (hlen sig h)) hstack hW (by rw [hb]; exact hdg)
    (fun vm₁ hW₁ => ⟨hf.1, hf.2, hp.2 (T.setVm vm₁) hT hW₁⟩) with ⟨v, vm₁, ⟨U', l2, c2, s2⟩, hW₁, X', ⟨g', mk, t, L, e1, e2, hq, h1, hL, h2, h3⟩, st⟩ | ⟨q, vm₁, ⟨U', l2, c2, s2⟩, hW₁, X', ⟨g', mk, t, L, E, ce, e1, e2, hq, hce, hcv, hcl, h1, hL, h2, h3⟩, st⟩
  · dsimp only [Pt.U, Pt.locs, Pt.cells, Pt.slots] at X' e1 e2 h1 h2 h3 st
    subst h1; subst h2; subst h3
    exact Or.inl ⟨v, (T.setVm vm₁).calling g' mk As.toArray, t, U', L, hT, X', hL, e1, e2, hq, st⟩
  · dsimp only [Pt.U, Pt.locs, Pt.cells, Pt.slots] at X' e1 e2 h1 h2 h3 st hcl
    subst h1; subst h2; subst h3
    exact Or.inr ⟨q, (T.setVm vm₁).calling g' mk As.toArray, t, U', L, E, ce, hT, X', hL, e1, e2, hq, hce, hcv, vx_cls hW₁ hcl, st⟩
end Runs
section Rows
variable {p : Program} {l : Launch} {e : Env} {R : Room} {s : State} {m : MethodId} {args : Array Value} {below : List Frame} {meth : Method} {c : Code} {H : Heap} {locs : List Loc} {cells slots : Nat} {Q : State → Prop}
variable {mc ms : Nat} {free : Addr → Prop} {A0 A1 : Nat → Prop} {H0 : Heap} {a : Array Value} {pc : Nat} {ls : Array Slot} {st0 rest : List Value}
theorem vx_keep {st₀ t T' : State} {L : List Loc} (h0 : st₀.heap = H) (e1 : T'.heap = t.heap) (hS : va_S A0 H0 H locs) (hA : ∀ q, q < H.size → A1 q → A0 q) (hf : ∀ q, free q → A0 q) (hL : ∀ q ∈ L, free q.base) (hF : va_F A1 st₀ t) :
    H.size ≤ T'.heap.size ∧ (∀ q : Nat, q < H.size → ¬ A1 q → T'.heap[q]? = H[q]?) ∧ va_S A0 H0 T'.heap (locs ++ L) := by
  obtain ⟨hz, hk⟩ := hF
  rw [h0] at hz hk
  exact ⟨by rw [e1]; exact hz, fun q h1 h2 => by rw [e1]; exact hk q h1 h2,
    ⟨Nat.le_trans hS.1 (by rw [e1]; exact hz), fun q h1 h2 => by rw [e1, hk q (Nat.lt_of_lt_of_le h1 hS.1) (fun z => h2 (hA q (Nat.lt_of_lt_of_le h1 hS.1) z))]; exact hS.2.1 q h1 h2, fun q hq => by
      rcases List.mem_append.mp hq with h | h
      · exact hS.2.2 q h
      · exact hf _ (hL q h)⟩⟩
theorem vx_calli {S SX : Type} {post : Int32 → S → Prop} {px : SX → Prop} {B : S → State → Prop} {BX : String → SX → State → Prop} {AX : Nat → Prop} (hr : vx_Run p l e R s m args below meth c H locs cells slots mc ms (F0 m pc ls st0) rest (va_Qi post B A1 a) (vx_X px BX AX) free) (hS : va_S A0 H0 H locs) (hA : ∀ q, q < H.size → A1 q → A0 q) (hf : ∀ q, free q → A0 q) (hAX : ∀ q, q < H.size → AX q → A0 q)
    (kx : ∀ (E : String) (ce : Cell) (q9 : Addr) (u : SX) (t : State) (H1 : Heap) (locs1 : List Loc), t.heap = H1 → s.vm.Alike t.vm → px u → BX E u t → H.size ≤ H1.size → (∀ q : Nat, q < H.size → ¬ AX q → H1[q]? = H[q]?) → va_S A0 H0 H1 locs1 → H1[q9]? = some ce → ce.vm = .none → s.vm.findClass E = some ce.cls → vx_W p l e R s m args below meth c H1 locs1 (cells + mc) (slots + ms) Q (F0 m pc ls rest) q9)
    (kk : ∀ (r : Int32) (u : S) (t : State) (H1 : Heap) (locs1 : List Loc), t.heap = H1 → s.vm.Alike t.vm → post r u → B u t → H.size ≤ H1.size → (∀ q : Nat, q < H.size → ¬ A1 q → H1[q]? = H[q]?) → va_S A0 H0 H1 locs1 → W p l e R s m args below meth c H1 locs1 (cells + mc) (slots + ms) Q (F0 m (pc + 3) ls (.int r :: rest))) : W p l e R s m args below meth c H locs cells slots Q (F0 m pc ls st0) := by
  intro T hT X
  rcases hr T hT X with ⟨v, st₀, t, T', L, h0, X', hL, e1, e2, ⟨⟨r, u, hv, hp, hb⟩, hF⟩, st⟩ | ⟨q, st₀, t, T', L, E, ce, h0, X', hL, e1, e2, ⟨u, hp, hb, hF⟩, hce, hcv, hcl, st⟩
  · cases hv
    obtain ⟨k1, k2, k3⟩ := vx_keep h0 e1 hS hA hf hL hF
    obtain ⟨t2, a1, b1⟩ := kk r u t T'.heap (locs ++ L) e1.symm (by rw [← e2]; exact X'.warmed.alike) hp hb k1 k2 k3 T' rfl X'
    exact ⟨t2, st t2 a1, b1⟩
  · obtain ⟨k1, k2, k3⟩ := vx_keep h0 e1 hS hAX hf hL hF
    obtain ⟨t2, a1, b1⟩ := kx E ce q u t T'.heap (locs ++ L) e1.symm (by rw [← e2]; exact X'.warmed.alike) hp hb k1 k2 k3 (by rw [e1]; exact hce) hcv hcl T' rfl X'
    exact ⟨t2, st.trans a1, b1⟩
theorem vx_calll {S SX : Type} {post : Int64 → S → Prop} {px : SX → Prop} {B : S → State → Prop} {BX : String → SX → State → Prop} {AX : Nat → Prop} (hr : vx_Run p l e R s m args below meth c H locs cells slots mc ms (F0 m pc ls st0) rest (va_Ql post B A1 a) (vx_X px BX AX) free) (hS : va_S A0 H0 H locs) (hA : ∀ q, q < H.size → A1 q → A0 q) (hf : ∀ q, free q → A0 q) (hAX : ∀ q, q < H.size → AX q → A0 q)
    (kx : ∀ (E : String) (ce : Cell) (q9 : Addr) (u : SX) (t : State) (H1 : Heap) (locs1 : List Loc), t.heap = H1 → s.vm.Alike t.vm → px u → BX E u t → H.size ≤ H1.size → (∀ q : Nat, q < H.size → ¬ AX q → H1[q]? = H[q]?) → va_S A0 H0 H1 locs1 → H1[q9]? = some ce → ce.vm = .none → s.vm.findClass E = some ce.cls → vx_W p l e R s m args below meth c H1 locs1 (cells + mc) (slots + ms) Q (F0 m pc ls rest) q9)
    (kk : ∀ (r : Int64) (u : S) (t : State) (H1 : Heap) (locs1 : List Loc), t.heap = H1 → s.vm.Alike t.vm → post r u → B u t → H.size ≤ H1.size → (∀ q : Nat, q < H.size → ¬ A1 q → H1[q]? = H[q]?) → va_S A0 H0 H1 locs1 → W p l e R s m args below meth c H1 locs1 (cells + mc) (slots + ms) Q (F0 m (pc + 3) ls (.long r :: rest))) : W p l e R s m args below meth c H locs cells slots Q (F0 m pc ls st0) := by
  intro T hT X
  rcases hr T hT X with ⟨v, st₀, t, T', L, h0, X', hL, e1, e2, ⟨⟨r, u, hv, hp, hb⟩, hF⟩, st⟩ | ⟨q, st₀, t, T', L, E, ce, h0, X', hL, e1, e2, ⟨u, hp, hb, hF⟩, hce, hcv, hcl, st⟩
  · cases hv
    obtain ⟨k1, k2, k3⟩ := vx_keep h0 e1 hS hA hf hL hF
    obtain ⟨t2, a1, b1⟩ := kk r u t T'.heap (locs ++ L) e1.symm (by rw [← e2]; exact X'.warmed.alike) hp hb k1 k2 k3 T' rfl X'
    exact ⟨t2, st t2 a1, b1⟩
  · obtain ⟨k1, k2, k3⟩ := vx_keep h0 e1 hS hAX hf hL hF
    obtain ⟨t2, a1, b1⟩ := kx E ce q u t T'.heap (locs ++ L) e1.symm (by rw [← e2]; exact X'.warmed.alike) hp hb k1 k2 k3 (by rw [e1]; exact hce) hcv hcl T' rfl X'
    exact ⟨t2, st.trans a1, b1⟩
theorem vx_callf {S SX : Type} {post : UInt32 → S → Prop} {px : SX → Prop} {B : S → State → Prop} {BX : String → SX → State → Prop} {AX : Nat → Prop} (hr : vx_Run p l e R s m args below meth c H locs cells slots mc ms (F0 m pc ls st0) rest (va_Qf post B A1 a) (vx_X px BX AX) free) (hS : va_S A0 H0 H locs) (hA : ∀ q, q < H.size → A1 q → A0 q) (hf : ∀ q, free q → A0 q) (hAX : ∀ q, q < H.size → AX q → A0 q)
    (kx : ∀ (E : String) (ce : Cell) (q9 : Addr) (u : SX) (t : State) (H1 : Heap) (locs1 : List Loc), t.heap = H1 → s.vm.Alike t.vm → px u → BX E u t → H.size ≤ H1.size → (∀ q : Nat, q < H.size → ¬ AX q → H1[q]? = H[q]?) → va_S A0 H0 H1 locs1 → H1[q9]? = some ce → ce.vm = .none → s.vm.findClass E = some ce.cls → vx_W p l e R s m args below meth c H1 locs1 (cells + mc) (slots + ms) Q (F0 m pc ls rest) q9)
    (kk : ∀ (r : UInt32) (u : S) (t : State) (H1 : Heap) (locs1 : List Loc), t.heap = H1 → s.vm.Alike t.vm → post r u → B u t → H.size ≤ H1.size → (∀ q : Nat, q < H.size → ¬ A1 q → H1[q]? = H[q]?) → va_S A0 H0 H1 locs1 → W p l e R s m args below meth c H1 locs1 (cells + mc) (slots + ms) Q (F0 m (pc + 3) ls (.float r :: rest))) : W p l e R s m args below meth c H locs cells slots Q (F0 m pc ls st0) := by
  intro T hT X
  rcases hr T hT X with ⟨v, st₀, t, T', L, h0, X', hL, e1, e2, ⟨⟨r, u, hv, hp, hb⟩, hF⟩, st⟩ | ⟨q, st₀, t, T', L, E, ce, h0, X', hL, e1, e2, ⟨u, hp, hb, hF⟩, hce, hcv, hcl, st⟩
  · cases hv
    obtain ⟨k1, k2, k3⟩ := vx_keep h0 e1 hS hA hf hL hF
    obtain ⟨t2, a1, b1⟩ := kk r u t T'.heap (locs ++ L) e1.symm (by rw [← e2]; exact X'.warmed.alike) hp hb k1 k2 k3 T' rfl X'
    exact ⟨t2, st t2 a1, b1⟩
  · obtain ⟨k1, k2, k3⟩ := vx_keep h0 e1 hS hAX hf hL hF
    obtain ⟨t2, a1, b1⟩ := kx E ce q u t T'.heap (locs ++ L) e1.symm (by rw [← e2]; exact X'.warmed.alike) hp hb k1 k2 k3 (by rw [e1]; exact hce) hcv hcl T' rfl X'
    exact ⟨t2, st.trans a1, b1⟩
theorem vx_calld {S SX : Type} {post : UInt64 → S → Prop} {px : SX → Prop} {B : S → State → Prop} {BX : String → SX → State → Prop} {AX : Nat → Prop} (hr : vx_Run p l e R s m args below meth c H locs cells slots mc ms (F0 m pc ls st0) rest (va_Qd post B A1 a) (vx_X px BX AX) free) (hS : va_S A0 H0 H locs) (hA : ∀ q, q < H.size → A1 q → A0 q) (hf : ∀ q, free q → A0 q) (hAX : ∀ q, q < H.size → AX q → A0 q)
    (kx : ∀ (E : String) (ce : Cell) (q9 : Addr) (u : SX) (t : State) (H1 : Heap) (locs1 : List Loc), t.heap = H1 → s.vm.Alike t.vm → px u → BX E u t → H.size ≤ H1.size → (∀ q : Nat, q < H.size → ¬ AX q → H1[q]? = H[q]?) → va_S A0 H0 H1 locs1 → H1[q9]? = some ce → ce.vm = .none → s.vm.findClass E = some ce.cls → vx_W p l e R s m args below meth c H1 locs1 (cells + mc) (slots + ms) Q (F0 m pc ls rest) q9)
    (kk : ∀ (r : UInt64) (u : S) (t : State) (H1 : Heap) (locs1 : List Loc), t.heap = H1 → s.vm.Alike t.vm → post r u → B u t → H.size ≤ H1.size → (∀ q : Nat, q < H.size → ¬ A1 q → H1[q]? = H[q]?) → va_S A0 H0 H1 locs1 → W p l e R s m args below meth c H1 locs1 (cells + mc) (slots + ms) Q (F0 m (pc + 3) ls (.double r :: rest))) : W p l e R s m args below meth c H locs cells slots Q (F0 m pc ls st0) := by
  intro T hT X
  rcases hr T hT X with ⟨v, st₀, t, T', L, h0, X', hL, e1, e2, ⟨⟨r, u, hv, hp, hb⟩, hF⟩, st⟩ | ⟨q, st₀, t, T', L, E, ce, h0, X', hL, e1, e2, ⟨u, hp, hb, hF⟩, hce, hcv, hcl, st⟩
  · cases hv
    obtain ⟨k1, k2, k3⟩ := vx_keep h0 e1 hS hA hf hL hF
    obtain ⟨t2, a1, b1⟩ := kk r u t T'.heap (locs ++ L) e1.symm (by rw [← e2]; exact X'.warmed.alike) hp hb k1 k2 k3 T' rfl X'
    exact ⟨t2, st t2 a1, b1⟩
  · obtain ⟨k1, k2, k3⟩ := vx_keep h0 e1 hS hAX hf hL hF
    obtain ⟨t2, a1, b1⟩ := kx E ce q u t T'.heap (locs ++ L) e1.symm (by rw [← e2]; exact X'.warmed.alike) hp hb k1 k2 k3 (by rw [e1]; exact hce) hcv hcl T' rfl X'
    exact ⟨t2, st.trans a1, b1⟩
theorem vx_callv {S SX : Type} {post : S → Prop} {px : SX → Prop} {B : S → State → Prop} {BX : String → SX → State → Prop} {AX : Nat → Prop} (hr : vx_Run p l e R s m args below meth c H locs cells slots mc ms (F0 m pc ls st0) rest (va_Qv post B A1 a) (vx_X px BX AX) free) (hS : va_S A0 H0 H locs) (hA : ∀ q, q < H.size → A1 q → A0 q) (hf : ∀ q, free q → A0 q) (hAX : ∀ q, q < H.size → AX q → A0 q)
    (kx : ∀ (E : String) (ce : Cell) (q9 : Addr) (u : SX) (t : State) (H1 : Heap) (locs1 : List Loc), t.heap = H1 → s.vm.Alike t.vm → px u → BX E u t → H.size ≤ H1.size → (∀ q : Nat, q < H.size → ¬ AX q → H1[q]? = H[q]?) → va_S A0 H0 H1 locs1 → H1[q9]? = some ce → ce.vm = .none → s.vm.findClass E = some ce.cls → vx_W p l e R s m args below meth c H1 locs1 (cells + mc) (slots + ms) Q (F0 m pc ls rest) q9)
    (kk : ∀ (u : S) (t : State) (H1 : Heap) (locs1 : List Loc), t.heap = H1 → s.vm.Alike t.vm → post u → B u t → H.size ≤ H1.size → (∀ q : Nat, q < H.size → ¬ A1 q → H1[q]? = H[q]?) → va_S A0 H0 H1 locs1 → W p l e R s m args below meth c H1 locs1 (cells + mc) (slots + ms) Q (F0 m (pc + 3) ls (rest))) : W p l e R s m args below meth c H locs cells slots Q (F0 m pc ls st0) := by
  intro T hT X
  rcases hr T hT X with ⟨v, st₀, t, T', L, h0, X', hL, e1, e2, ⟨⟨u, hv, hp, hb⟩, hF⟩, st⟩ | ⟨q, st₀, t, T', L, E, ce, h0, X', hL, e1, e2, ⟨u, hp, hb, hF⟩, hce, hcv, hcl, st⟩
  · cases hv
    obtain ⟨k1, k2, k3⟩ := vx_keep h0 e1 hS hA hf hL hF
    obtain ⟨t2, a1, b1⟩ := kk u t T'.heap (locs ++ L) e1.symm (by rw [← e2]; exact X'.warmed.alike) hp hb k1 k2 k3 T' rfl X'
    exact ⟨t2, st t2 a1, b1⟩
  · obtain ⟨k1, k2, k3⟩ := vx_keep h0 e1 hS hAX hf hL hF
    obtain ⟨t2, a1, b1⟩ := kx E ce q u t T'.heap (locs ++ L) e1.symm (by rw [← e2]; exact X'.warmed.alike) hp hb k1 k2 k3 (by rw [e1]; exact hce) hcv hcl T' rfl X'
    exact ⟨t2, st.trans a1, b1⟩
/-- caught by the row x of this method's table; the rows ahead don't take it -/
theorem vx_catch {own name : String} {E : String} {ce : Cell} {q : Addr} (hown : s.vm.findClass own = some m.cls) (pre : List ExceptionTableEntry) (x : ExceptionTableEntry) (suf : List ExceptionTableEntry) (hsplit : c.exceptionTable.toList = pre ++ x :: suf)
    (hpass : ∀ z ∈ pre, covers z pc = false ∨ (z.catchType ≠ 0 ∧ ∃ nm : String, (Cond.classLink own z.catchType nm).before args s = true ∧ va_Nc E nm s)) (hx : covers x pc = true) (h0 : x.catchType ≠ 0)
    (hlink : (Cond.classLink own x.catchType name).before args s = true) (hcast : (Cond.castable E name).before args s = true) (hcell : H[q]? = some ce) (hv : ce.vm = .none) (hcl : s.vm.findClass E = some ce.cls)
    (kk : W p l e R s m args below meth c H locs cells slots Q (F0 m x.handlerPc ls [.ref q])) : vx_W p l e R s m args below meth c H locs cells slots Q (F0 m pc ls rest) q := by
  intro T hT X
  have hpl : e.platform.magicAccessors = ({} : Platform).magicAccessors := by rw [X.admits.platform]
  obtain ⟨c3, c4, hc3, hc4, hasg⟩ := Cond.castable_spec hcast
  cases Option.some.inj (hc3.symm.trans hcl)
  obtain ⟨c5, hc5, hcl5⟩ := Cond.classLink_spec hown hlink e.platform hpl
  cases Option.some.inj (hc4.symm.trans hc5)
  obtain ⟨vm', X', st⟩ := X.thenCaughtThrough q (g := F0 m pc ls rest) rfl (Steps.refl _) (by rw [hT]; exact hcell) (by rw [hv]; rfl) (by obtain ⟨k9, h9, -⟩ := Vm.findClass_spec hcl; exact ⟨k9, h9⟩) pre x suf hsplit
    (fun z hz => by
      rcases hpass z hz with h | ⟨hz0, nm, hl1, hn1⟩
      · exact Or.inl h
      · obtain ⟨c6, hc6, hcl6⟩ := Cond.classLink_spec hown hl1 e.platform hpl
        obtain ⟨a8, b8, h1, h2, h3⟩ := hn1
        cases Option.some.inj (h1.symm.trans hcl)
        cases Option.some.inj (h2.symm.trans hc6)
        exact Or.inr ⟨hz0, _, hcl6, h3⟩) hx (Or.inr ⟨h0, c4, hcl5, hasg⟩)
  obtain ⟨t, a1, b1⟩ := kk (T.setVm vm') hT X'
  exact ⟨t, st.trans a1, b1⟩
end Rows
section Ends
variable {p : Program} {l : Launch} {e : Env} {R : Room} {s : State} {m : MethodId} {args : Array Value} {below : List Frame} {meth : Method} {c : Code} {H : Heap} {locs : List Loc} {cells slots : Nat} {Q : State → Prop}
variable {mc ms : Nat} {free : Addr → Prop} {A0 A1 : Nat → Prop} {H0 : Heap} {a : Array Value} {ls : Array Slot} {st0 rest : List Value}
variable {Qc : Array Value → State → Outcome → State → Prop} {XC : String → State → State → Prop}
/-- what a body that may throw owes at its end -/
def vx_MQ (below : List Frame) (Qc : Array Value → State → Outcome → State → Prop) (XC : String → State → State → Prop) (a : Array Value) (s : State) (mc ms : Nat) (free : Addr → Prop) : State → Prop := fun t =>
  ∃ o, t.status = .running ∧ Ended t below o ∧ vx_Q Qc XC mc ms free a s o t
theorem vx_ret {g : JFrame} {mc ms : Nat} (k : W p l e R s m args below meth c H locs cells slots (MQ below Qc args s mc ms free) g) : W p l e R s m args below meth c H locs cells slots (vx_MQ below Qc XC args s mc ms free) g := by
  intro T hT X
  obtain ⟨t, a1, o, b1, b2, b3, b4⟩ := k T hT X
  exact ⟨t, a1, o, b1, b2, Or.inl ⟨b3, b4⟩⟩
/-- not caught here: it goes on to the caller -/
theorem vx_widen {g : JFrame} {q : Addr} {k n : Nat} (h1 : cells ≤ k) (h2 : slots ≤ n) (kk : vx_W p l e R s m args below meth c H locs k n Q g q) : vx_W p l e R s m args below meth c H locs cells slots Q g q := fun T hT X => kk T hT (stand_widen X h1 h2)
theorem vx_out {pc : Nat} {E : String} {ce : Cell} {q : Addr} {mc ms : Nat} (hout : ∀ x ∈ c.exceptionTable.toList, covers x pc = false) (hlocks : meth.locks = false) (hcell : H[q]? = some ce) (hv : ce.vm = .none) (hcl : s.vm.findClass E = some ce.cls)
    (hx : ∀ t : State, t.heap = H → s.vm.Alike t.vm → XC E s t) (hf : ∀ z ∈ locs, free z.base) (hc : cells ≤ mc) (hs : slots ≤ ms) :
    vx_W p l e R s m args below meth c H locs cells slots (vx_MQ below Qc XC args s mc ms free) (F0 m pc ls rest) q := by
  intro T hT X
  obtain ⟨st1, hrun, hend, hW, hsm⟩ := X.leaveThrown q (g := F0 m pc ls rest) rfl rfl rfl hout hlocks
  have hcell9 : (T.setFrames (.throwing q :: below)).heap[q]? = some ce := by
    show T.heap[q]? = some ce
    rw [hT]; exact hcell
  exact ⟨_, st1, .threw q, hrun, hend, Or.inr ⟨q, rfl, E, ce, locs, hx _ hT hW.alike, hcell9, hv, hcl, hW, hsm.mono hc hs, hf⟩⟩
theorem vx_frame {U : State} {k n : Nat} (h : s.sameButNew ({ U with vm := s.vm } : State) locs k n) : s.heap.size ≤ U.heap.size ∧ ∀ q : Nat, q < s.heap.size → (∀ z ∈ locs, z.base ≠ q) → U.heap[q]? = s.heap[q]? := by
  obtain ⟨-, h2, -, -, -, h6⟩ := h
  refine ⟨h2, fun q hq hz => ?_⟩
  obtain ⟨c9, e1, e2, e3, e4⟩ := h6 q _ (Array.getElem?_eq_getElem hq)
  have hs : c9.slots = (s.heap[q]).slots := Array.ext_getElem? fun i => e4 i fun hm => hz _ hm rfl
  have h9 : c9 = s.heap[q] := by
    rw [hs] at e2
    exact e2
  have e5 : U.heap[q]? = some c9 := e1
  rw [e5, h9, Array.getElem?_eq_getElem hq]
/-- the words of a throw but the four that speak of the heap -/
def vx_no (w : Cond) : Bool := decide (w ≠ .isRef (.static Bundle.tN "UNASSIGNED_STACK" Bundle.steD)) && decide (w ≠ .isRef (.static Bundle.tN "SUPPRESSED_SENTINEL" Bundle.listD)) && decide (w ≠ .laysStatic Bundle.tN "UNASSIGNED_STACK" Bundle.steD) && decide (w ≠ .laysStatic Bundle.tN "SUPPRESSED_SENTINEL" Bundle.listD)
def vx_at0 (own : String) (ic : Nat) (X : String) (names : List String) : List Cond := (Bundle.ownAtoms0 own ic X names).filter vx_no
def vx_atS (own : String) (ic : Nat) (X : String) (names : List String) : List Cond := (Bundle.ownAtoms own ic X names).filter vx_no
/-- a word that the tables alone decide, or a good one -/
def vx_ot (w : Cond) : Bool := w.onTables || goodWord w
theorem vx_ot_at {args a' : Array Value} {s U : State} {w : Cond} (hW : s.WarmedH U.vm) (hvm : s.vm = U.vm) (hg : vx_ot w = true) (h : w.before args s = true) : w.before a' U = true := by
  simp only [vx_ot, Bool.or_eq_true] at hg
  rcases hg with hg | hg
  · exact va_tabs hg hvm h
  · exact word_at hW (good_of_word hg) h
/-- a list's words: the good ones out of the method's own list, the others by premises of their own -/
theorem vx_hat {args : Array Value} {s : State} {L B : List Cond} (h1 : ∀ w ∈ L.filter goodWord, w.before args s = true) (h2 : ∀ w ∈ L.filter (fun w => !goodWord w), w ∈ B) (h3 : ∀ w ∈ B, w.before args s = true) : ∀ w ∈ L, w.before args s = true := by
  intro w hw
  by_cases g : goodWord w = true
  · exact h1 w (List.mem_filter.mpr ⟨hw, g⟩)
  · refine h3 w (h2 w (List.mem_filter.mpr ⟨hw, ?_⟩))
    show (!goodWord w) = true
    cases hgw : goodWord w
    · rfl
    · exact absurd hgw g
theorem vx_c {args : Array Value} {s : State} {w : Cond} {B : List Cond} (h : w.before args s = true) (t : ∀ w ∈ B, w.before args s = true) : ∀ w' ∈ w :: B, w'.before args s = true := fun w' h' => (List.mem_cons.mp h').elim (fun e => by rw [e]; exact h) (t w')
theorem vx_n {args : Array Value} {s : State} : ∀ w ∈ ([] : List Cond), w.before args s = true := fun _ h => nomatch h
theorem vx_own {args : Array Value} {s : State} {L : List Cond} (h1 : ∀ w ∈ L.filter vx_no, w.before args s = true)
    (hU : (Cond.isRef (.static Bundle.tN "UNASSIGNED_STACK" Bundle.steD)).before args s = true) (hN : (Cond.isRef (.static Bundle.tN "SUPPRESSED_SENTINEL" Bundle.listD)).before args s = true)
    (lU : (Cond.laysStatic Bundle.tN "UNASSIGNED_STACK" Bundle.steD).before args s = true) (lN : (Cond.laysStatic Bundle.tN "SUPPRESSED_SENTINEL" Bundle.listD).before args s = true) : ∀ w ∈ L, w.before args s = true := by
  intro w hw
  by_cases e1 : w = .isRef (.static Bundle.tN "UNASSIGNED_STACK" Bundle.steD)
  · rw [e1]; exact hU
  · by_cases e2 : w = .isRef (.static Bundle.tN "SUPPRESSED_SENTINEL" Bundle.listD)
    · rw [e2]; exact hN
    · by_cases e3 : w = .laysStatic Bundle.tN "UNASSIGNED_STACK" Bundle.steD
      · rw [e3]; exact lU
      · by_cases e4 : w = .laysStatic Bundle.tN "SUPPRESSED_SENTINEL" Bundle.listD
        · rw [e4]; exact lN
        · exact h1 w (List.mem_filter.mpr ⟨hw, by unfold vx_no; rw [decide_eq_true e1, decide_eq_true e2, decide_eq_true e3, decide_eq_true e4]; rfl⟩)
/-- where a static field lies, its class's statics cell in H -/
def vx_L (C n d : String) (A : Nat → Prop) (U : State) (H : Heap) : Prop := ∃ (c : ClassId) (k : Class) (i : Nat) (f : Field) (a : Nat) (cell : Cell), U.vm.findClass C = some c ∧ U.fieldFound? C n d = some (c, k, i, f) ∧ f.isStatic = true ∧ k.statics = some a ∧ H[a]? = some cell ∧ cell.vm.isStatics = true ∧ cell.cls = c ∧ f.slot < cell.slots.size ∧ k.staticTypes[f.slot]? = some f.type ∧ ¬ A a
theorem vx_L.moved {C n d : String} {A : Nat → Prop} {u U : State} {H : Heap} (hvm : u.vm.Alike U.vm) (h : vx_L C n d A u H) : vx_L C n d A U H := by
  obtain ⟨c, k, i, f, a, cell, h1, h2, h3, h4, h5, h6, h7, h8, h9, h10⟩ := h
  obtain ⟨k', hi', he⟩ := State.fieldFound?_setVm hvm h2
  exact ⟨c, k', i, f, a, cell, by rw [hvm.findClass]; exact h1, hi', h3, by rw [he]; exact h4, h5, h6, h7, h8, by rw [he]; exact h9, h10⟩
theorem vx_L.kept {C n d : String} {A : Nat → Prop} {U : State} {H H1 : Heap} (h : vx_L C n d A U H) (hq : ∀ a : Nat, a < H.size → ¬ A a → H1[a]? = H[a]?) : vx_L C n d A U H1 := by
  obtain ⟨c, k, i, f, a, cell, h1, h2, h3, h4, h5, h6, h7, h8, h9, h10⟩ := h
  exact ⟨c, k, i, f, a, cell, h1, h2, h3, h4, by rw [hq a (Array.getElem?_eq_some_iff.mp h5).1 h10]; exact h5, h6, h7, h8, h9, h10⟩
theorem vx_L.narrow {C n d : String} {A B : Nat → Prop} {U : State} {H : Heap} (h : vx_L C n d A U H) (hAB : ∀ q, B q → A q) : vx_L C n d B U H := by
  obtain ⟨c, k, i, f, a, cell, h1, h2, h3, h4, h5, h6, h7, h8, h9, h10⟩ := h
  exact ⟨c, k, i, f, a, cell, h1, h2, h3, h4, h5, h6, h7, h8, h9, fun z => h10 (hAB _ z)⟩
theorem vx_L.word {C n d : String} {A : Nat → Prop} {s : State} {args : Array Value} (h : vx_L C n d A s s.heap) : (Cond.laysStatic C n d).before args s = true := by
  obtain ⟨c, k, i, f, a, cell, h1, h2, h3, h4, h5, h6, h7, h8, h9, -⟩ := h
  show (Cond.laysStatic C n d).holds args s none s [] = true
  exact Cond.laysStatic_of h1 h2 h3 h4 h5 h6 h7 h8 h9
/-- .. and what it holds: null or some reference -/
def vx_Zq (C n d : String) (A : Nat → Prop) (U : State) (H : Heap) : Prop := va_Zq C n d A U H ∧ vx_L C n d A U H
theorem vx_Zq.moved {C n d : String} {A : Nat → Prop} {u U : State} {H : Heap} (hvm : u.vm.Alike U.vm) (h : vx_Zq C n d A u H) : vx_Zq C n d A U H := ⟨va_Zq.moved hvm h.1, vx_L.moved hvm h.2⟩
theorem vx_Zq.kept {C n d : String} {A : Nat → Prop} {U : State} {H H1 : Heap} (h : vx_Zq C n d A U H) (hq : ∀ a : Nat, a < H.size → ¬ A a → H1[a]? = H[a]?) : vx_Zq C n d A U H1 := ⟨va_Zq.kept h.1 hq, vx_L.kept h.2 hq⟩
theorem vx_Zq.narrow {C n d : String} {A B : Nat → Prop} {U : State} {H : Heap} (h : vx_Zq C n d A U H) (hAB : ∀ q, B q → A q) : vx_Zq C n d B U H := ⟨va_Zq.narrow h.1 hAB, vx_L.narrow h.2 hAB⟩
theorem vx_Zqof {args : Array Value} {s : State} {C n d : String} {A : Nat → Prop} (hl : (Cond.laysStatic C n d).before args s = true) (hini : (Cond.initialized C).before args s = true) (h : (Cond.isRef (.static C n d)).before args s = true) (hA : ∀ a : Nat, a < s.heap.size → ¬ A a) : vx_Zq C n d A s s.heap := by
  refine ⟨va_Zqof hl hini h hA, ?_⟩
  obtain ⟨c, k, i, f, a, cell, h1, h2, h3, h4, h5, h6, h7, h8, h9⟩ := Cond.laysStatic_spec hl
  exact ⟨c, k, i, f, a, cell, h1, h2, h3, h4, h5, h6, h7, h8, h9, hA a (Array.getElem?_eq_some_iff.mp h5).1⟩
theorem vx_isRef {C n d : String} {v : Value} {A : Nat → Prop} {s : State} {args : Array Value} (h : va_Z C n d v A s s.heap) (hv : v.isRef = true) : (Cond.isRef (.static C n d)).before args s = true := by
  obtain ⟨cf, kf, fi, f, a, cell, h1, h2, h3, h4, h5, h6, h7, -⟩ := h
  have he : (Term.static C n d).eval args s none [] s = some v := by
    simp [Term.eval, State.fieldNamed?, h1, h2, h4, h5, h6, h7]
  simp only [Cond.before, Cond.holds, Cond.value, he]
  cases v <;> simp_all [Value.isRef]
theorem vx_isRefq {C n d : String} {A : Nat → Prop} {s : State} {args : Array Value} (h : va_Zq C n d A s s.heap) : (Cond.isRef (.static C n d)).before args s = true := by
  rcases h with h | ⟨t, h⟩
  · exact vx_isRef h rfl
  · exact vx_isRef h rfl
/-- the same frame, seen from here: as if the method were called anew in this heap -/
theorem vx_rebase {T : State} (X : Stand p l e R s m args below meth c T locs cells slots) {R' : Room} (hf : R'.frames ≤ R.frames) (hl : R'.locals ≤ R.locals) (hc : cells + R'.cells ≤ R.cells) (hs : slots + R'.slots ≤ R.slots) :
    Stand p l e R' ((T.setVm s.vm).setFrames (.invoking m args :: below)) m args below meth c T [] 0 0 := by
  have htop : (T.setVm s.vm).topJava?.isSome := X.here.top
  have hF : ((T.setVm s.vm).setFrames (.invoking m args :: below)).frames = .invoking m args :: below := State.frames_setFrames _ (State.cur_lt_of_top htop)
  obtain ⟨g₀, hg0⟩ := Option.isSome_iff_exists.mp htop
  obtain ⟨r, hr⟩ := State.topJava?_eq_some.mp hg0
  have hl9 : e.platform.stackLimits (T.setVm s.vm).me = e.platform.stackLimits s.me := X.limits
  have hb9 : (T.setVm s.vm).me.stackBytes = s.me.stackBytes := X.bytes
  refine ⟨X.admits, X.cas, X.clock, hF, ?_, X.hears, X.method, X.code, X.here, X.tail, X.warmed, ?_, ?_, ?_⟩
  · have h := X.room
    have hU : ((T.setVm s.vm).setFrames (.invoking m args :: below)).localsInUse = s.localsInUse := by
      rw [State.localsInUse_invoking hF (meth := meth) (c := c) X.method X.code, State.localsInUse_invoking X.frames X.method X.code]
    simp only [State.hasRoom, Bool.and_eq_true, decide_eq_true_eq] at h ⊢
    obtain ⟨⟨⟨⟨h1, h2, h3, h4, h5, h6⟩, h7⟩, h8⟩, h9⟩ := h
    rw [X.frames, List.length_cons] at h2 h3
    have q1 := X.heapSize
    have q2 := X.used
    simp only [hF, hU, List.length_cons, State.stackLimits_setFrames, State.stackBytes_setFrames, hl9, hb9]
    refine ⟨⟨⟨⟨by omega, by omega, by omega, by omega, by omega, h6⟩, ?_⟩, ?_⟩, X.book⟩
    · show T.heap.size + R'.cells ≤ e.platform.maxCells
      omega
    · show T.slotsUsed + R'.slots ≤ e.platform.maxSlots
      omega
  · rw [State.stackLimits_setFrames]; rfl
  · rw [State.stackBytes_setFrames]; rfl
  · refine ⟨?_, Nat.le_refl _, Nat.le_refl _, ?_, ?_, fun a c9 h9 => ⟨c9, h9, rfl, rfl, fun _ _ => rfl⟩⟩
    · obtain ⟨t, ht, -⟩ := State.frames_cons hr
      show T.setVm s.vm = { ((T.setVm s.vm).setFrames (.invoking m args :: below)).setFrames (T.setVm s.vm).frames with heap := T.heap, slotsUsed := T.slotsUsed }
      rw [State.setFrames_setFrames, State.setFrames_self ht]
      rfl
    · show T.slotsUsed = T.slotsUsed + ((T.heap.toList.drop T.heap.size).map (·.slots.size)).sum
      rw [List.drop_eq_nil_of_le (Nat.le_of_eq Array.length_toList)]
      rfl
    · show ((T.heap.toList.drop T.heap.size).map (·.slots.size)).sum ≤ 0
      rw [List.drop_eq_nil_of_le (Nat.le_of_eq Array.length_toList)]
      exact Nat.le_refl _
/-- 'throw new E()': new; dup; invokespecial; athrow -/
theorem vx_throw0 {cc : ByteArray} {pc : Nat} (hexec : p.tables.exec = Jvm.exec) (hb : c.code = cc) (hl : l.stackTraces = false) {own cls : String} {names : List String} {ik ic mc ms : Nat} {A : Nat → Prop}
    (hown : s.vm.findClass own = some m.cls) (hcls : Bundle.fit cls = true) (hnames : ∀ n ∈ names, Bundle.fit n = true)
    (hk : (Cond.classLink own ik cls).before args s = true) (hini : (Cond.initialized cls).before args s = true) (hat : ∀ w ∈ vx_at0 own ic cls names, w.before args s = true)
    (hgood : ∀ w ∈ Cond.classLink own ik cls :: Cond.initialized cls :: vx_at0 own ic cls names, vx_ot w = true)
    (hU : vx_Zq Bundle.tN "UNASSIGNED_STACK" Bundle.steD A s s.heap) (hN : vx_Zq Bundle.tN "SUPPRESSED_SENTINEL" Bundle.listD A s s.heap) (hS : va_S A s.heap H locs) (hsize : ls.size = c.maxLocals)
    (d0 : decode cc pc = .ok (.new ik, 3)) (d3 : decode cc (pc + 3) = .ok (.dup, 1)) (d4 : decode cc (pc + 4) = .ok (.invokespecial ic, 3)) (d7 : decode cc (pc + 7) = .ok (.athrow, 1))
    (hout : ∀ x ∈ c.exceptionTable.toList, covers x (pc + 7) = false)
    (hRframes : names.length + 3 < R.frames) (hRlocals : (rest.map fun v => v.category).sum + (13 * (names.length + 1) + 42) ≤ R.locals) (hRcells : cells + 1 ≤ R.cells) (hRslots : slots + 6 ≤ R.slots) (hlocks : meth.locks = false)
    (hx : ∀ t : State, s.vm.Alike t.vm → H.size ≤ t.heap.size → (∀ q : Nat, q < H.size → t.heap[q]? = H[q]?) → XC cls s t)
    (hf : ∀ z ∈ locs, free z.base) (hc : cells + 1 ≤ mc) (hs : slots + 6 ≤ ms) :
    W p l e R s m args below meth c H locs cells slots (vx_MQ below Qc XC args s mc ms free) (F0 m pc ls rest) := by
  intro T hT X
  have htr : e.platform.stackTraces = false := (show e.platform.stackTraces = l.stackTraces by rw [X.admits.platform]).trans hl
  have Y := vx_rebase X (R' := { frames := R.frames, locals := R.locals, cells := 1, slots := 6 }) (Nat.le_refl _) (Nat.le_refl _) hRcells hRslots
  obtain ⟨s', hA⟩ : ∃ z, z = (T.setVm s.vm).setFrames (.invoking m args :: below) := ⟨_, rfl⟩
  rw [← hA] at Y
  have hvm : s'.vm = s.vm := by rw [hA]; rfl
  have hhp : s'.heap = H := by rw [hA]; exact hT
  have hW0 : s.WarmedH s'.vm := by rw [hvm]; exact State.WarmedH.refl s
  have hat' : ∀ w ∈ vx_at0 own ic cls names, w.before args s' = true := fun w hw => vx_ot_at hW0 hvm.symm (hgood w (List.mem_cons_of_mem _ (List.mem_cons_of_mem _ hw))) (hat w hw)
  have hk' : (Cond.classLink own ik cls).before args s' = true := vx_ot_at hW0 hvm.symm (hgood _ List.mem_cons_self) hk
  have hini' : (Cond.initialized cls).before args s' = true := vx_ot_at hW0 hvm.symm (hgood _ (List.mem_cons_of_mem _ List.mem_cons_self)) hini
  have hU' : vx_Zq Bundle.tN "UNASSIGNED_STACK" Bundle.steD A s' s'.heap := by rw [hhp]; exact vx_Zq.moved hW0.alike (hU.kept hS.2.1)
  have hN' : vx_Zq Bundle.tN "SUPPRESSED_SENTINEL" Bundle.listD A s' s'.heap := by rw [hhp]; exact vx_Zq.moved hW0.alike (hN.kept hS.2.1)
  have h : ∀ w ∈ Bundle.ownAtoms0 own ic cls names, w.before args s' = true := vx_own hat' (vx_isRefq hU'.1) (vx_isRefq hN'.1) hU'.2.word hN'.2.word
  have hown' : s'.vm.findClass own = some m.cls := by rw [hvm]; exact hown
  have hins : (Cond.instantiable cls 6).before args s' = true := h _ (by simp [Bundle.ownAtoms0])
  obtain ⟨vm₁, cX, kX, hfX, hkX, -, -, X₁, st1⟩ := Y.newCold hexec (own := own) (C := cls) (index := ik) (n := 6) hown' hk' hins hini'
    (g := F0 m pc ls rest) rfl (by rw [hb]; exact d0) (Nat.le_refl _) (Nat.le_refl _)
  generalize hT1 : (T.setVm vm₁).pushCell { cls := cX, slots := kX.instanceTypes.map defaultValue, vm := .none } = T1 at X₁ st1
  have hcat : (Value.ref T.heap.size).category = 1 := rfl
  have hcellA : T1.heap[T.heap.size]? = some (freshCell cX kX) := by rw [← hT1]; exact State.heap_pushCell_size _ _
  have d3' : decode c.code (pc + 3) = .ok (.dup, 1) := by rw [hb]; exact d3
  obtain ⟨U, hsteps, hrun, hend, hW, hsame, ce, hce, hO⟩ := X₁.ctorThrow0 hexec htr (own := own) (cls := cls) (names := names) (ic := ic) hown' hcls hnames h (fun x hx => nomatch hx) hfX hkX hcellA (by rw [hhp, hT]; exact Nat.le_refl _)
    (g := { method := m, pc := pc + 4, locals := ls, stack := .ref T.heap.size :: .ref T.heap.size :: rest, locked := none }) rfl hsize rfl rfl (rest := rest) rfl
    (by rw [hb]; exact d4) (by rw [hb]; exact d7) hout hRframes (by simp only [List.map_cons, List.sum_cons, hcat]; omega) hlocks
  obtain ⟨f1, f2⟩ := vx_frame hsame
  rw [hhp] at f1 f2
  have hWs : s.WarmedH U.vm := State.WarmedH.trans hW0 hW
  have hcl : s.vm.findClass cls = some ce.cls := by
    have h9 := hO.cls
    rw [hvm] at h9
    exact h9
  have hall : s.sameButNew ({ U with vm := s.vm } : State) locs mc ms := by
    subst hA
    obtain ⟨e1, e2⟩ := hsame
    rw [State.setFrames_setFrames] at e1
    have h2 : (T.setVm s.vm).sameButNew ({ U with vm := s.vm } : State) [] (0 + 1) (0 + 6) := ⟨e1, e2⟩
    have h3 := X.same.trans h2
    rw [List.append_nil] at h3
    exact h3.mono hc hs
  refine ⟨U, ?_, .threw T.heap.size, hrun, hend, Or.inr ⟨T.heap.size, rfl, cls, ce, locs, hx U hWs.alike f1 (fun q hq => f2 q hq (fun z hz => nomatch hz)), hce, hO.vm, hcl, hWs, hall, hf⟩⟩
  refine st1 _ ?_
  show Steps p.tables e below (T1.setTop { method := m, pc := pc + 3, locals := ls, stack := .ref T.heap.size :: rest, locked := none }) _
  jvm_step X₁.here [X₁.here.top, hexec, d3', Value.category]
  exact hsteps
/-- 'throw new E("text")': new; dup; ldc; invokespecial; athrow -/
theorem vx_throwS {cc : ByteArray} {pc : Nat} (hexec : p.tables.exec = Jvm.exec) (hb : c.code = cc) (hl : l.stackTraces = false) {own cls text : String} {names : List String} {ik is ic mc ms sa : Nat} {A : Nat → Prop}
    (hown : s.vm.findClass own = some m.cls) (hcls : Bundle.fit cls = true) (hnames : ∀ n ∈ names, Bundle.fit n = true)
    (hk : (Cond.classLink own ik cls).before args s = true) (hini : (Cond.initialized cls).before args s = true) (hstr : vk_R own is text sa s) (hat : ∀ w ∈ vx_atS own ic cls names, w.before args s = true)
    (hgood : ∀ w ∈ Cond.classLink own ik cls :: Cond.initialized cls :: vx_atS own ic cls names, vx_ot w = true)
    (hU : vx_Zq Bundle.tN "UNASSIGNED_STACK" Bundle.steD A s s.heap) (hN : vx_Zq Bundle.tN "SUPPRESSED_SENTINEL" Bundle.listD A s s.heap) (hS : va_S A s.heap H locs) (hsize : ls.size = c.maxLocals)
    (d0 : decode cc pc = .ok (.new ik, 3)) (d3 : decode cc (pc + 3) = .ok (.dup, 1)) (d4 : decode cc (pc + 4) = .ok (.ldc is, 2)) (d6 : decode cc (pc + 6) = .ok (.invokespecial ic, 3)) (d9 : decode cc (pc + 9) = .ok (.athrow, 1))
    (hout : ∀ x ∈ c.exceptionTable.toList, covers x (pc + 9) = false)
    (hRframes : names.length + 3 < R.frames) (hRlocals : (rest.map fun v => v.category).sum + (13 * (names.length + 1) + 43) ≤ R.locals) (hRcells : cells + 1 ≤ R.cells) (hRslots : slots + 6 ≤ R.slots) (hlocks : meth.locks = false)
    (hx : ∀ t : State, s.vm.Alike t.vm → H.size ≤ t.heap.size → (∀ q : Nat, q < H.size → t.heap[q]? = H[q]?) → XC cls s t)
    (hf : ∀ z ∈ locs, free z.base) (hc : cells + 1 ≤ mc) (hs : slots + 6 ≤ ms) :
    W p l e R s m args below meth c H locs cells slots (vx_MQ below Qc XC args s mc ms free) (F0 m pc ls rest) := by
  intro T hT X
  have htr : e.platform.stackTraces = false := (show e.platform.stackTraces = l.stackTraces by rw [X.admits.platform]).trans hl
  have Y := vx_rebase X (R' := { frames := R.frames, locals := R.locals, cells := 1, slots := 6 }) (Nat.le_refl _) (Nat.le_refl _) hRcells hRslots
  obtain ⟨s', hA⟩ : ∃ z, z = (T.setVm s.vm).setFrames (.invoking m args :: below) := ⟨_, rfl⟩
  rw [← hA] at Y
  have hvm : s'.vm = s.vm := by rw [hA]; rfl
  have hhp : s'.heap = H := by rw [hA]; exact hT
  have hW0 : s.WarmedH s'.vm := by rw [hvm]; exact State.WarmedH.refl s
  have hat' : ∀ w ∈ vx_atS own ic cls names, w.before args s' = true := fun w hw => vx_ot_at hW0 hvm.symm (hgood w (List.mem_cons_of_mem _ (List.mem_cons_of_mem _ hw))) (hat w hw)
  have hk' : (Cond.classLink own ik cls).before args s' = true := vx_ot_at hW0 hvm.symm (hgood _ List.mem_cons_self) hk
  have hini' : (Cond.initialized cls).before args s' = true := vx_ot_at hW0 hvm.symm (hgood _ (List.mem_cons_of_mem _ List.mem_cons_self)) hini
  have hU' : vx_Zq Bundle.tN "UNASSIGNED_STACK" Bundle.steD A s' s'.heap := by rw [hhp]; exact vx_Zq.moved hW0.alike (hU.kept hS.2.1)
  have hN' : vx_Zq Bundle.tN "SUPPRESSED_SENTINEL" Bundle.listD A s' s'.heap := by rw [hhp]; exact vx_Zq.moved hW0.alike (hN.kept hS.2.1)
  have h : ∀ w ∈ Bundle.ownAtoms own ic cls names, w.before args s' = true := vx_own hat' (vx_isRefq hU'.1) (vx_isRefq hN'.1) hU'.2.word hN'.2.word
  have hown' : s'.vm.findClass own = some m.cls := by rw [hvm]; exact hown
  have hins : (Cond.instantiable cls 6).before args s' = true := h _ (by simp [Bundle.ownAtoms])
  obtain ⟨vm₁, cX, kX, hfX, hkX, -, -, X₁, st1⟩ := Y.newCold hexec (own := own) (C := cls) (index := ik) (n := 6) hown' hk' hins hini'
    (g := F0 m pc ls rest) rfl (by rw [hb]; exact d0) (Nat.le_refl _) (Nat.le_refl _)
  generalize hT1 : (T.setVm vm₁).pushCell { cls := cX, slots := kX.instanceTypes.map defaultValue, vm := .none } = T1 at X₁ st1
  have hcat : (Value.ref T.heap.size).category = 1 := rfl
  have hcellA : T1.heap[T.heap.size]? = some (freshCell cX kX) := by rw [← hT1]; exact State.heap_pushCell_size _ _
  have d3' : decode c.code (pc + 3) = .ok (.dup, 1) := by rw [hb]; exact d3
  have d4' : decode c.code (pc + 4) = .ok (.ldc is, 2) := by rw [hb]; exact d4
  have hstr' : vk_R own is text sa s' := vk_R.warm hW0 hstr
  obtain ⟨U, hsteps, hrun, hend, hW, hsame, ce, hce, hO⟩ := X₁.ctorThrowS hexec htr (own := own) (cls := cls) (names := names) (ic := ic) hown' hcls hnames h (fun x hx => nomatch hx) hfX hkX hcellA (by rw [hhp, hT]; exact Nat.le_refl _) (msg := .ref sa) rfl
    (g := { method := m, pc := pc + 6, locals := ls, stack := .ref sa :: .ref T.heap.size :: .ref T.heap.size :: rest, locked := none }) rfl hsize rfl rfl (rest := rest) rfl
    (by rw [hb]; exact d6) (by rw [hb]; exact d9) hout hRframes (by simp only [List.map_cons, List.sum_cons, hcat]; omega) hlocks
  obtain ⟨f1, f2⟩ := vx_frame hsame
  rw [hhp] at f1 f2
  have hWs : s.WarmedH U.vm := State.WarmedH.trans hW0 hW
  have hcl : s.vm.findClass cls = some ce.cls := by
    have h9 := hO.cls
    rw [hvm] at h9
    exact h9
  have hall : s.sameButNew ({ U with vm := s.vm } : State) locs mc ms := by
    subst hA
    obtain ⟨e1, e2⟩ := hsame
    rw [State.setFrames_setFrames] at e1
    have h2 : (T.setVm s.vm).sameButNew ({ U with vm := s.vm } : State) [] (0 + 1) (0 + 6) := ⟨e1, e2⟩
    have h3 := X.same.trans h2
    rw [List.append_nil] at h3
    exact h3.mono hc hs
  refine ⟨U, ?_, .threw T.heap.size, hrun, hend, Or.inr ⟨T.heap.size, rfl, cls, ce, locs, hx U hWs.alike f1 (fun q hq => f2 q hq (fun z hz => nomatch hz)), hce, hO.vm, hcl, hWs, hall, hf⟩⟩
  refine st1 _ ?_
  show Steps p.tables e below (T1.setTop { method := m, pc := pc + 3, locals := ls, stack := .ref T.heap.size :: rest, locked := none }) _
  jvm_step X₁.here [X₁.here.top, hexec, d3', Value.category]
  exact X₁.ldcString hexec (own := own) (text := text) (index := is) (a := sa) hown' hstr'.1 hstr'.2
    (g := { method := m, pc := pc + 4, locals := ls, stack := .ref T.heap.size :: .ref T.heap.size :: rest, locked := none }) rfl d4' _ hsteps
/-- 'throw new E("text")', the text by a wide index -/
theorem vx_throwSW {cc : ByteArray} {pc : Nat} (hexec : p.tables.exec = Jvm.exec) (hb : c.code = cc) (hl : l.stackTraces = false) {own cls text : String} {names : List String} {ik is ic mc ms sa : Nat} {A : Nat → Prop}
    (hown : s.vm.findClass own = some m.cls) (hcls : Bundle.fit cls = true) (hnames : ∀ n ∈ names, Bundle.fit n = true)
    (hk : (Cond.classLink own ik cls).before args s = true) (hini : (Cond.initialized cls).before args s = true) (hstr : vk_R own is text sa s) (hat : ∀ w ∈ vx_atS own ic cls names, w.before args s = true)
    (hgood : ∀ w ∈ Cond.classLink own ik cls :: Cond.initialized cls :: vx_atS own ic cls names, vx_ot w = true)
    (hU : vx_Zq Bundle.tN "UNASSIGNED_STACK" Bundle.steD A s s.heap) (hN : vx_Zq Bundle.tN "SUPPRESSED_SENTINEL" Bundle.listD A s s.heap) (hS : va_S A s.heap H locs) (hsize : ls.size = c.maxLocals)
    (d0 : decode cc pc = .ok (.new ik, 3)) (d3 : decode cc (pc + 3) = .ok (.dup, 1)) (d4 : decode cc (pc + 4) = .ok (.ldc_w is, 3)) (d7 : decode cc (pc + 7) = .ok (.invokespecial ic, 3)) (d10 : decode cc (pc + 10) = .ok (.athrow, 1))
    (hout : ∀ x ∈ c.exceptionTable.toList, covers x (pc + 10) = false)
    (hRframes : names.length + 3 < R.frames) (hRlocals : (rest.map fun v => v.category).sum + (13 * (names.length + 1) + 43) ≤ R.locals) (hRcells : cells + 1 ≤ R.cells) (hRslots : slots + 6 ≤ R.slots) (hlocks : meth.locks = false)
    (hx : ∀ t : State, s.vm.Alike t.vm → H.size ≤ t.heap.size → (∀ q : Nat, q < H.size → t.heap[q]? = H[q]?) → XC cls s t)
    (hf : ∀ z ∈ locs, free z.base) (hc : cells + 1 ≤ mc) (hs : slots + 6 ≤ ms) :
    W p l e R s m args below meth c H locs cells slots (vx_MQ below Qc XC args s mc ms free) (F0 m pc ls rest) := by
  intro T hT X
  have htr : e.platform.stackTraces = false := (show e.platform.stackTraces = l.stackTraces by rw [X.admits.platform]).trans hl
  have Y := vx_rebase X (R' := { frames := R.frames, locals := R.locals, cells := 1, slots := 6 }) (Nat.le_refl _) (Nat.le_refl _) hRcells hRslots
  obtain ⟨s', hA⟩ : ∃ z, z = (T.setVm s.vm).setFrames (.invoking m args :: below) := ⟨_, rfl⟩
  rw [← hA] at Y
  have hvm : s'.vm = s.vm := by rw [hA]; rfl
  have hhp : s'.heap = H := by rw [hA]; exact hT
  have hW0 : s.WarmedH s'.vm := by rw [hvm]; exact State.WarmedH.refl s
  have hat' : ∀ w ∈ vx_atS own ic cls names, w.before args s' = true := fun w hw => vx_ot_at hW0 hvm.symm (hgood w (List.mem_cons_of_mem _ (List.mem_cons_of_mem _ hw))) (hat w hw)
  have hk' : (Cond.classLink own ik cls).before args s' = true := vx_ot_at hW0 hvm.symm (hgood _ List.mem_cons_self) hk
  have hini' : (Cond.initialized cls).before args s' = true := vx_ot_at hW0 hvm.symm (hgood _ (List.mem_cons_of_mem _ List.mem_cons_self)) hini
  have hU' : vx_Zq Bundle.tN "UNASSIGNED_STACK" Bundle.steD A s' s'.heap := by rw [hhp]; exact vx_Zq.moved hW0.alike (hU.kept hS.2.1)
  have hN' : vx_Zq Bundle.tN "SUPPRESSED_SENTINEL" Bundle.listD A s' s'.heap := by rw [hhp]; exact vx_Zq.moved hW0.alike (hN.kept hS.2.1)
  have h : ∀ w ∈ Bundle.ownAtoms own ic cls names, w.before args s' = true := vx_own hat' (vx_isRefq hU'.1) (vx_isRefq hN'.1) hU'.2.word hN'.2.word
  have hown' : s'.vm.findClass own = some m.cls := by rw [hvm]; exact hown
  have hins : (Cond.instantiable cls 6).before args s' = true := h _ (by simp [Bundle.ownAtoms])
  obtain ⟨vm₁, cX, kX, hfX, hkX, -, -, X₁, st1⟩ := Y.newCold hexec (own := own) (C := cls) (index := ik) (n := 6) hown' hk' hins hini'
    (g := F0 m pc ls rest) rfl (by rw [hb]; exact d0) (Nat.le_refl _) (Nat.le_refl _)
  generalize hT1 : (T.setVm vm₁).pushCell { cls := cX, slots := kX.instanceTypes.map defaultValue, vm := .none } = T1 at X₁ st1
  have hcat : (Value.ref T.heap.size).category = 1 := rfl
  have hcellA : T1.heap[T.heap.size]? = some (freshCell cX kX) := by rw [← hT1]; exact State.heap_pushCell_size _ _
  have d3' : decode c.code (pc + 3) = .ok (.dup, 1) := by rw [hb]; exact d3
  have d4' : decode c.code (pc + 4) = .ok (.ldc_w is, 3) := by rw [hb]; exact d4
  have hstr' : vk_R own is text sa s' := vk_R.warm hW0 hstr
  obtain ⟨U, hsteps, hrun, hend, hW, hsame, ce, hce, hO⟩ := X₁.ctorThrowS hexec htr (own := own) (cls := cls) (names := names) (ic := ic) hown' hcls hnames h (fun x hx => nomatch hx) hfX hkX hcellA (by rw [hhp, hT]; exact Nat.le_refl _) (msg := .ref sa) rfl
    (g := { method := m, pc := pc + 7, locals := ls, stack := .ref sa :: .ref T.heap.size :: .ref T.heap.size :: rest, locked := none }) rfl hsize rfl rfl (rest := rest) rfl
    (by rw [hb]; exact d7) (by rw [hb]; exact d10) hout hRframes (by simp only [List.map_cons, List.sum_cons, hcat]; omega) hlocks
  obtain ⟨f1, f2⟩ := vx_frame hsame
  rw [hhp] at f1 f2
  have hWs : s.WarmedH U.vm := State.WarmedH.trans hW0 hW
  have hcl : s.vm.findClass cls = some ce.cls := by
    have h9 := hO.cls
    rw [hvm] at h9
    exact h9
  have hall : s.sameButNew ({ U with vm := s.vm } : State) locs mc ms := by
    subst hA
    obtain ⟨e1, e2⟩ := hsame
    rw [State.setFrames_setFrames] at e1
    have h2 : (T.setVm s.vm).sameButNew ({ U with vm := s.vm } : State) [] (0 + 1) (0 + 6) := ⟨e1, e2⟩
    have h3 := X.same.trans h2
    rw [List.append_nil] at h3
    exact h3.mono hc hs
  refine ⟨U, ?_, .threw T.heap.size, hrun, hend, Or.inr ⟨T.heap.size, rfl, cls, ce, locs, hx U hWs.alike f1 (fun q hq => f2 q hq (fun z hz => nomatch hz)), hce, hO.vm, hcl, hWs, hall, hf⟩⟩
  refine st1 _ ?_
  show Steps p.tables e below (T1.setTop { method := m, pc := pc + 3, locals := ls, stack := .ref T.heap.size :: rest, locked := none }) _
  jvm_step X₁.here [X₁.here.top, hexec, d3', Value.category]
  exact X₁.ldcStringW hexec (own := own) (text := text) (index := is) (a := sa) hown' hstr'.1 hstr'.2
    (g := { method := m, pc := pc + 4, locals := ls, stack := .ref T.heap.size :: .ref T.heap.size :: rest, locked := none }) rfl d4' _ hsteps
end Ends
section Bodies
variable {l : Launch}
theorem vx_ofW {y : MethodName} {ws ws' : List Cond} {rm : Room} {Pc : Array Value → State → Prop} {Qc : Array Value → State → Outcome → State → Prop} {XC : String → State → State → Prop} {mc ms : Nat} {free : Addr → Prop} {cc : ByteArray} {maxL : Nat} {ret : Option FieldType}
    (hy : plainName y.cls = true) (hw : ws = Cond.code y cc maxL ret :: ws')
    (body : ∀ p e s m args below meth c s₁, BodyLoose p l y (headSpec ws rm) cc maxL ret e s m args below meth c s₁ → c.maxLocals = maxL → (∀ x ∈ c.exceptionTable.toList, False) → Pc args s →
      W p l e (headSpec ws rm).room s m args below meth c s.heap [] 0 0 (vx_MQ below Qc XC args s mc ms free) (entryFrame m args maxL)) : vx_Met l y ws rm Pc Qc XC mc ms free := by
  refine MetFree.of_bodyS (code := cc) (maxLocals := maxL) (ret := ret) hy ?_ ?_
  · intro args s m h hn
    obtain ⟨meth, c, h1, h2, h3, h4, h5, h6, -, -⟩ := Cond.code_spec hn (atoms_spec (ws := ws) h _ (by rw [hw]; exact List.mem_cons_self))
    exact ⟨meth, c, h1, h2, h3, h4, h5, h6⟩
  · intro p e s m args below meth c s₁ B hml hP _
    have hh0 : s₁.heap = s.heap := by rw [B.state]; rfl
    have ht : ∀ x ∈ c.exceptionTable.toList, False := by
      obtain ⟨meth9, c9, h1, h2, -, -, -, -, h7, -⟩ := Cond.code_spec B.named (atoms_spec (ws := ws) B.pre _ (by rw [hw]; exact List.mem_cons_self))
      cases Option.some.inj (h1.symm.trans B.method)
      cases Option.some.inj (h2.symm.trans (Stand.of_body B).code)
      intro x hx
      rw [Array.isEmpty_iff.mp h7] at hx
      cases hx
    obtain ⟨t, a1, o, b1, b2, b3⟩ := body p e s m args below meth c s₁ B hml ht hP s₁ hh0 (Stand.of_body B)
    exact ⟨t, o, a1, b1, b2, b3⟩
/-- the table of a body with handlers -/
theorem vx_table {p : Program} {x y : MethodName} {S : Spec} {cc bytes : ByteArray} {maxL maxL' : Nat} {ret ret' : Option FieldType} {e : Env} {s s₁ : State} {m : MethodId} {args : Array Value} {below : List Frame} {meth : Method} {c : Code} {hh : List (Nat × Nat × Nat × Nat)}
    (B : BodyLoose p l y S cc maxL ret e s m args below meth c s₁) (h : (Cond.codeWith y bytes maxL' ret' hh).before args s = true) : c.exceptionTable.toList = tableOf hh := by
  obtain ⟨m9, meth9, c9, hn9, h1, h2, -, -, h6, -⟩ := Cond.codeWith_spec h
  cases Option.some.inj (hn9.symm.trans B.named)
  cases Option.some.inj (h1.symm.trans B.method)
  cases Option.some.inj (h2.symm.trans (Stand.of_body B).code)
  rw [← h6, table_eq]
end Bodies
end VXA
/-! ===== END ===== -/
/-! ===== BEGIN a static call of a method with an exception table ===== -/
section VXS
variable {p : Program} {l : Launch} {e : Env} {R : Room} {s : State} {m : MethodId} {args : Array Value} {below : List Frame} {meth : Method} {c : Code} {T : State} {H : Heap} {locs : List Loc} {cells slots : Nat}
abbrev vx_CSW (R : Room) (s : State) (args : Array Value) (own : String) (index : Nat) (y : MethodName) (bytes : ByteArray) (maxL : Nat) (ret : Option FieldType) (hh : List (Nat × Nat × Nat × Nat)) (ws : List Cond) (rm : Room) (mc ms n : Nat) : Prop :=
  (rm.cells = mc ∧ rm.slots = ms ∧ rm.frames + 1 ≤ R.frames ∧ 8 + (maxL + 11) + rm.locals ≤ R.locals ∧ (∀ w ∈ ws, ∀ (a' : Array Value) (U : State), s.WarmedH U.vm → w.before a' U = true) ∧ Cond.codeWith y bytes maxL ret hh ∈ ws) ∧
  (Cond.codeWith y bytes maxL ret hh).before args s = true ∧ (Cond.initialized y.cls).before args s = true ∧ (y.cls ≠ "java/lang/invoke/MethodHandle" ∧ y.cls ≠ "java/lang/invoke/VarHandle") ∧
  (∀ sig, parseMethodDescriptor y.desc = some sig → n = sig.parameters.length) ∧ (Cond.methodLink own index y).before args s = true ∧ (Cond.static y).before args s = true
theorem vx_cwSW {own : String} {index maxL mc ms : Nat} {y : MethodName} {bytes : ByteArray} {ret : Option FieldType} {hh : List (Nat × Nat × Nat × Nat)} {Ts ws ws' : List Cond} {rm : Room} (n : Nat) (ht : ∀ w ∈ Ts, w.before args s = true) (hT : GoodIn Ts (va_wsS own index y ws)) (hw : ws = Cond.codeWith y bytes maxL ret hh :: ws') (hrc : rm.cells = mc) (hrs : rm.slots = ms)
    (hd : y.cls ≠ "java/lang/invoke/MethodHandle" ∧ y.cls ≠ "java/lang/invoke/VarHandle" ∧ (parseMethodDescriptor y.desc).map (fun d => d.parameters.length) = some n) (hR : rm.frames + 1 ≤ R.frames ∧ 8 + (maxL + 11) + rm.locals ≤ R.locals) :
    vx_CSW R s args own index y bytes maxL ret hh ws rm mc ms n := by
  have ok : ∀ w ∈ va_wsS own index y ws, w.before args s = true := fun w h => ht w (hT w h).1
  have hG : GoodIn Ts ws := fun w h => hT w (by unfold va_wsS; exact List.mem_append_right _ h)
  have hc : Cond.codeWith y bytes maxL ret hh ∈ ws := by rw [hw]; exact List.mem_cons_self
  refine ⟨⟨hrc, hrs, hR.1, hR.2, pay_in ht hG, hc⟩, ht _ (hG _ hc).1, ok _ (by simp [va_wsS]), ⟨hd.1, hd.2.1⟩, fun sig h => ?_, ok _ (by simp [va_wsS]), ok _ (by simp [va_wsS])⟩
  have h2 := hd.2.2
  rw [h] at h2
  exact (Option.some.inj h2).symm
theorem vx_callSW (X : Stand p l e R s m args below meth c T locs cells slots) (hexec : p.tables.exec = Jvm.exec) {own : String} {index : Nat} {y : MethodName} {bytes : ByteArray} {maxL : Nat} {ret : Option FieldType} {hh : List (Nat × Nat × Nat × Nat)}
    (hown : s.vm.findClass own = some m.cls) (hlink : (Cond.methodLink own index y).before args s = true) (hstat : (Cond.static y).before args s = true) (hinit : (Cond.initialized y.cls).before args s = true)
    (hcode : (Cond.codeWith y bytes maxL ret hh).before args s = true) (hy : y.cls ≠ "java/lang/invoke/MethodHandle" ∧ y.cls ≠ "java/lang/invoke/VarHandle")
    {W9 : Nat} {Pre : Pt → Array Value → Prop} {Post : Pt → Array Value → Option Value → Pt → Prop} (hK : Back l R p e below s args y 3 W9 Pre Post)
    {g : JFrame} (hg : g.method = m) (hsize : g.locals.size = c.maxLocals) {argsL rest : List Value} (hlen : ∀ sig, parseMethodDescriptor y.desc = some sig → argsL.length = sig.parameters.length)
    (hstack : g.stack = argsL.reverse ++ rest) (hW : 2 * g.monitorRoom + (rest.map fun v => v.category).sum ≤ W9) (hdg : decode c.code g.pc = .ok (.invokestatic index, 3))
    (hpre : ∀ vm₁, s.WarmedH vm₁ → Pre ⟨T.setVm vm₁, locs, cells, slots⟩ argsL.toArray) :
    ∃ (v : Option Value) (vm₁ : Vm) (B : Pt), s.WarmedH vm₁ ∧ Stand p l e R s m args below meth c B.U B.locs B.cells B.slots ∧ Post ⟨T.setVm vm₁, locs, cells, slots⟩ argsL.toArray v B ∧
      ∀ target, Steps p.tables e below (B.U.setTop { g with pc := g.pc + 3, stack := v.toList ++ rest }) target → Steps p.tables e below (T.setTop g) target := by
  obtain ⟨mk, methM, cM, hnamed, hmethM, -, -, -, -, -, -, hsigM⟩ := Cond.codeWith_spec hcode
  have hstatic : methM.isStatic = true := Cond.static_spec hnamed hmethM hstat
  obtain ⟨kP, hkP, -⟩ := className_of_methodNamed hnamed
  have hinitP : kP.init = .initialized := Cond.initialized_spec (findClass_of_methodNamed hnamed) hkP hinit
  obtain ⟨vm₁, X₁, hstep₁⟩ := X.invokestatic hexec hown hlink hnamed hmethM hstatic hkP hinitP hy (g := g) hg (argsL := argsL) (rest := rest) (hlen _ hsigM) hstack hdg
  obtain ⟨v, B, X', hpost, hsteps⟩ := hK m meth c ⟨T.setVm vm₁, locs, cells, slots⟩ { g with stack := rest } (.invokestatic index) mk argsL.toArray X₁ hg hsize hdg hW (X₁.named hnamed) (hpre vm₁ X₁.warmed)
  exact ⟨v, vm₁, B, X₁.warmed, X', hpost, fun target h => hstep₁ _ fun acts => by rw [doInvoke_state]; exact hsteps.trans h⟩
theorem vx_runSW {y : MethodName} {bytes cc : ByteArray} {maxL nL mc ms n index : Nat} {ret : Option FieldType} {hh : List (Nat × Nat × Nat × Nat)} {ws : List Cond} {rm : Room} {Pc : Array Value → State → Prop} {Qc : Array Value → State → Outcome → State → Prop} {free : Addr → Prop} {Ts : List Cond} {own : String} {As rest : List Value} {g : JFrame}
    (S : CallFix p m c cc nL s args Ts own) (hM : Met l y ws rm Pc Qc mc ms free) (cw : vx_CSW R s args own index y bytes maxL ret hh ws rm mc ms n) (hp : PreS s H Pc As)
    (hg : g.method = m) (hn : As.length = n) (hsize : g.locals.size = nL) (hstack : g.stack = As.reverse ++ rest) (hW : 2 * g.monitorRoom + (rest.map fun v => v.category).sum ≤ 8) (hdg : decode cc g.pc = .ok (.invokestatic index, 3)) (hf : cells + mc ≤ R.cells ∧ slots + ms ≤ R.slots) :
    va_Run p l e R s m args below meth c H locs cells slots mc ms g rest (Qc As.toArray) (free) := by
  obtain ⟨⟨hrc, hrs, hfr, hlo, hws, hcw⟩, hcode, hini, hy, hlen, hl, hstt⟩ := cw
  have hK : Back l R p e below s args y 3 8 (PreOf R mc ms Pc) (PostOf Qc mc ms free) := va_backW (hh := hh) (bytes := bytes) (maxL := maxL) (ret := ret) hM hp.1 hrc hrs hfr hlo hws hcw (fun a' U hW => word_at hW (Or.inl (by first | rfl | simp [Cond.onTables, Cond.keeps, Cond.steady])) hini)
  obtain ⟨hx, hb, hml, ho, -⟩ := S
  intro T hT X
  obtain ⟨v, vm₁, ⟨U', l2, c2, s2⟩, hW₁, X', ⟨g', mk, t, L, e1, e2, hq, h1, hL, h2, h3⟩, st⟩ := vx_callSW X hx (hh := hh) (bytes := bytes) (maxL := maxL) (ret := ret) ho hl hstt hini hcode hy hK hg (hsize.trans hml.symm) (argsL := As) (rest := rest) (fun sig h => hn.trans (hlen sig h)) hstack hW (by rw [hb]; exact hdg)
    (fun vm₁ hW₁ => ⟨hf.1, hf.2, hp.2 (T.setVm vm₁) hT hW₁⟩)
  dsimp only [Pt.U, Pt.locs, Pt.cells, Pt.slots] at X' e1 e2 h1 h2 h3 st
  subst h1; subst h2; subst h3
  exact ⟨v, (T.setVm vm₁).calling g' mk As.toArray, t, U', L, hT, X', hL, e1, e2, hq, st⟩
/-- not caught here, past rows that name other classes: it goes on to the caller -/
theorem vx_outP {p : Program} {l : Launch} {e : Env} {R : Room} {s : State} {m : MethodId} {args : Array Value} {below : List Frame} {meth : Method} {c : Code} {H : Heap} {locs : List Loc} {cells slots : Nat} {free : Addr → Prop} {ls : Array Slot} {rest : List Value} {Qc : Array Value → State → Outcome → State → Prop} {XC : String → State → State → Prop}
    {pc : Nat} {own E : String} {ce : Cell} {q : Addr} {mc ms : Nat} (hown : s.vm.findClass own = some m.cls) (hlocks : meth.locks = false)
    (hpass : ∀ z ∈ c.exceptionTable.toList, covers z pc = false ∨ (z.catchType ≠ 0 ∧ ∃ nm : String, (Cond.classLink own z.catchType nm).before args s = true ∧ va_Nc E nm s)) (hcell : H[q]? = some ce) (hv : ce.vm = .none) (hcl : s.vm.findClass E = some ce.cls)
    (hx : ∀ t : State, t.heap = H → s.vm.Alike t.vm → XC E s t) (hf : ∀ z ∈ locs, free z.base) (hc : cells ≤ mc) (hs : slots ≤ ms) :
    vx_W p l e R s m args below meth c H locs cells slots (vx_MQ below Qc XC args s mc ms free) (F0 m pc ls rest) q := by
  intro T hT X
  have hpl : e.platform.magicAccessors = ({} : Platform).magicAccessors := by rw [X.admits.platform]
  obtain ⟨vm', hW', X', st⟩ := X.outThrough hlocks q (g := F0 m pc ls rest) rfl rfl rfl (cell := ce) (by rw [hT]; exact hcell) (by rw [hv]; rfl)
    (by obtain ⟨k9, h9, -⟩ := Vm.findClass_spec hcl; exact ⟨k9, h9⟩) (fun z hz => by
      rcases hpass z hz with h | ⟨hz0, nm, hl1, hn1⟩
      · exact Or.inl h
      · obtain ⟨c6, hc6, hcl6⟩ := Cond.classLink_spec hown hl1 e.platform hpl
        obtain ⟨a8, b8, h1, h2, h3⟩ := hn1
        cases Option.some.inj (h1.symm.trans hcl)
        cases Option.some.inj (h2.symm.trans hc6)
        exact Or.inr ⟨hz0, _, hcl6, h3⟩)
  obtain ⟨g₀, hfr⟩ := X'.frames_eq
  have hcell9 : ((T.setVm vm').setFrames (.throwing q :: below)).heap[q]? = some ce := by
    show T.heap[q]? = some ce
    rw [hT]; exact hcell
  have hend : Ended ((T.setVm vm').setFrames (.throwing q :: below)) below (.threw q) := State.frames_setFrames _ (State.cur_lt_of_frames hfr)
  refine ⟨(T.setVm vm').setFrames (.throwing q :: below), ?_, .threw q, X'.here.running, hend, Or.inr ⟨q, rfl, E, ce, locs, hx _ hT (X'.ends _).1.alike, hcell9, hv, hcl, (X'.ends _).1, (X'.ends _).2.mono hc hs, hf⟩⟩
  rw [X.pushThrowing_eq]
  exact st
/-- a thing of a world lies in the heap -/
theorem vx_lt {D : va_G} {cl : List vw_C} {ws : va_W} {H1 : Heap} (h : va_P D cl ws H1) {k : Nat} {q : Nat × va_E} (hk : ws[k]? = some q) : q.1 < H1.size := (h k q hk).lt
end VXS
/-! ===== END ===== -/
/-! ===== BEGIN methods with a table of their own: called by a name, returning or throwing ===== -/
section VXH
/-! vx_backW, vx_callVX, vx_callSX, vx_callVW, vx_runVW, vx_runVX, vx_runSX, vx_ofWH follow the same proofs as their sisters above (Free/Laws.lean, Shelf42/LK1.lean); vx_outP calls Shelf42/NT130.lean (outThrough). -/
section
variable {l : Launch} {R : Room} {p : Program} {e : Env} {below : List Frame} {s : State} {sargs : Array Value} {y : MethodName} {len W9 : Nat}
theorem vx_backW {ws : List Cond} {rm : Room} {Pc : Array Value → State → Prop} {Qc : Array Value → State → Outcome → State → Prop} {XC : String → State → State → Prop} {mc ms : Nat} {free : Addr → Prop} {bytes : ByteArray} {maxL : Nat} {ret : Option FieldType} {hh : List (Nat × Nat × Nat × Nat)}
    (hM : vx_Met l y ws rm Pc Qc XC mc ms free) (hblind : FrameBlind Pc) (hrc : rm.cells = mc) (hrs : rm.slots = ms)
    (hframes : rm.frames + 1 ≤ R.frames) (hlocals : W9 + (maxL + 11) + rm.locals ≤ R.locals)
    (hws : ∀ w ∈ ws, ∀ a' U, s.WarmedH U.vm → w.before a' U = true) (hcode : Cond.codeWith y bytes maxL ret hh ∈ ws) (hinit : ∀ a' U, s.WarmedH U.vm → (Cond.initialized y.cls).before a' U = true) :
    vx_Back l R p e below s sargs y len W9 (PreOf R mc ms Pc) (PostOf Qc mc ms free) (vx_Post XC mc ms free) := by
  intro m meth c A g ig mk a X hg hsize hdg hW hn hp
  have h1 : (headSpec ws rm).pre.before a A.U = true := atoms_intro fun w hw => hws w hw _ _ X.warmed
  have h2 : (Cond.codeWith y bytes maxL ret hh).before a A.U = true := hws _ hcode _ _ X.warmed
  have h3 : (Cond.initialized y.cls).before a A.U = true := hinit _ _ X.warmed
  have h4 : A.cells + (headSpec ws rm).room.cells ≤ R.cells := by rw [show (headSpec ws rm).room.cells = mc from hrc]; exact hp.1
  have h5 : A.slots + (headSpec ws rm).room.slots ≤ R.slots := by rw [show (headSpec ws rm).room.slots = ms from hrs]; exact hp.2.1
  have hPc : Pc a (A.U.calling g mk a) := hblind _ _ _ _ hp.2.2
  obtain ⟨U, Ls, c0, s0⟩ := A
  dsimp only [Pt.U, Pt.locs, Pt.cells, Pt.slots] at h1 h2 h3 h4 h5 X hn hPc ⊢
  obtain ⟨m9, methY, cY, hn9, hmY, hcY, -, hlY, -⟩ := Cond.codeWith_spec h2
  cases Option.some.inj (hn9.symm.trans hn)
  obtain ⟨kY, hkY, -⟩ := className_of_methodNamed hn
  have hinitY : kY.init = .initialized := Cond.initialized_spec (findClass_of_methodNamed hn) hkY h3
  have h : At U g.method c below := by rw [hg]; exact X.here
  have hlocals9 : W9 + (maxL + 11) + (headSpec ws rm).room.locals ≤ R.locals := hlocals
  have happ : (headSpec ws rm).appliesLoose y e.platform (U.calling g mk a) = true :=
    Spec.appliesLoose_calling (g := g) h hdg hn hkY hinitY
      (X.room_calling (g := g) (R' := (headSpec ws rm).room) hsize hmY hcY hframes (by rw [hlY]; omega) h4 h5) h1
  obtain ⟨mid, hmid⟩ := h.above
  have hfr : (U.setTop g).frames = (.java g :: mid) ++ below := by rw [State.frames_setTop' g h.top, hmid]; rfl
  obtain ⟨o, s₂, hsteps, -, hend, hq⟩ := Steps.callFree hM p X.admits X.cas X.clock (acts := []) hfr happ hPc trivial
  have hq' : vx_Q Qc XC mc ms free a (U.calling g mk a) o s₂ := hq
  rw [State.frames_setTop' g h.top] at hend
  obtain ⟨g₀, hg0⟩ := Option.isSome_iff_exists.mp h.top
  obtain ⟨r, hr⟩ := State.topJava?_eq_some.mp hg0
  have hr' : (({ U with heap := s₂.heap, slotsUsed := s₂.slotsUsed } : State).setVm s₂.vm).frames = .java g₀ :: r := hr
  rcases hq' with ⟨hqc, L, hfe, hL⟩ | ⟨q, rfl, E, ce, L, hx, hce, hcv, hcl, hW₂, hsm, hL⟩
  · obtain ⟨⟨v, rfl⟩, hW₂, e2, q2, q3, q4, q5, q6⟩ := id hfe
    have e3 : s₂ = ({ (U.calling g mk a).setFrames s₂.frames with heap := s₂.heap, slotsUsed := s₂.slotsUsed } : State).setVm s₂.vm := by
      have : s₂ = ({ s₂ with vm := (U.calling g mk a).vm } : State).setVm s₂.vm := rfl
      rw [e2] at this
      exact this
    obtain ⟨c₂, i₂, len₂, hc₂, hd₂, hf₂⟩ := hend
    have hW' : U.WarmedH s₂.vm := hW₂
    have hcc : c₂ = c := by
      have h1 : s₂.code? g.method = U.code? g.method := by
        rw [State.code?_eq, State.code?_eq, hW'.alike.method?]
      exact Option.some.inj (hc₂.symm.trans (h1.trans h.code))
    subst hcc
    have hlen : len₂ = len := by rw [hdg] at hd₂; cases hd₂; rfl
    subst hlen
    have hs₂ : s₂ = (({ U with heap := s₂.heap, slotsUsed := s₂.slotsUsed } : State).setVm s₂.vm).setTop { g with pc := g.pc + len₂, stack := v.toList ++ g.stack } := by
      refine e3.trans ?_
      rw [hf₂, State.calling_eq h.top, State.setFrames_setFrames, State.setTop_of_frames _ hr', hr]
      rfl
    have hsame : U.sameButNew ({ U with heap := s₂.heap, slotsUsed := s₂.slotsUsed } : State) L mc ms := by
      refine ⟨?_, q2, q3, q4, q5, q6⟩
      obtain ⟨t, ht, -⟩ := State.frames_cons hr
      show ({ U with heap := s₂.heap, slotsUsed := s₂.slotsUsed } : State) = { U.setFrames U.frames with heap := s₂.heap, slotsUsed := s₂.slotsUsed }
      rw [State.setFrames_self ht]
    subst hg
    refine Or.inl ⟨v, ⟨(({ U with heap := s₂.heap, slotsUsed := s₂.slotsUsed } : State).setVm s₂.vm), Ls ++ L, c0 + mc, s0 + ms⟩,
      ⟨X.admits, X.cas, X.clock, X.frames, X.room, X.hears, X.method, X.code, (X.here.setHeapUsed s₂.heap s₂.slotsUsed).setVm hW'.alike, X.tail, State.WarmedH.trans X.warmed hW', X.limits, X.bytes, X.same.trans (hsame.setVm s.vm)⟩,
      ⟨g, mk, s₂, L, rfl, rfl, hqc, rfl, hL, rfl, rfl⟩, ?_⟩
    show Steps p.tables e below _ ((({ U with heap := s₂.heap, slotsUsed := s₂.slotsUsed } : State).setVm s₂.vm).setTop { g with pc := g.pc + len₂, stack := v.toList ++ g.stack })
    rw [← hs₂]
    exact hsteps
  · obtain ⟨e2, q2, q3, q4, q5, q6⟩ := id hsm
    have e3 : s₂ = ({ (U.calling g mk a).setFrames s₂.frames with heap := s₂.heap, slotsUsed := s₂.slotsUsed } : State).setVm s₂.vm := by
      have : s₂ = ({ s₂ with vm := (U.calling g mk a).vm } : State).setVm s₂.vm := rfl
      rw [e2] at this
      exact this
    have hf₂ : s₂.frames = .throwing q :: .java g :: U.frames.tail := hend
    have hW' : U.WarmedH s₂.vm := hW₂
    have hs₂ : s₂ = ((({ U with heap := s₂.heap, slotsUsed := s₂.slotsUsed } : State).setVm s₂.vm).setTop g).pushFrame (.throwing q) := by
      refine e3.trans ?_
      rw [hf₂, State.calling_eq h.top, State.setFrames_setFrames, State.pushFrame, State.frames_setTop _ hr', State.setTop_of_frames _ hr', State.setFrames_setFrames, hr]
      rfl
    have hsame : U.sameButNew ({ U with heap := s₂.heap, slotsUsed := s₂.slotsUsed } : State) L mc ms := by
      refine ⟨?_, q2, q3, q4, q5, q6⟩
      obtain ⟨t, ht, -⟩ := State.frames_cons hr
      show ({ U with heap := s₂.heap, slotsUsed := s₂.slotsUsed } : State) = { U.setFrames U.frames with heap := s₂.heap, slotsUsed := s₂.slotsUsed }
      rw [State.setFrames_self ht]
    subst hg
    refine Or.inr ⟨q, ⟨(({ U with heap := s₂.heap, slotsUsed := s₂.slotsUsed } : State).setVm s₂.vm), Ls ++ L, c0 + mc, s0 + ms⟩,
      ⟨X.admits, X.cas, X.clock, X.frames, X.room, X.hears, X.method, X.code, (X.here.setHeapUsed s₂.heap s₂.slotsUsed).setVm hW'.alike, X.tail, State.WarmedH.trans X.warmed hW', X.limits, X.bytes, X.same.trans (hsame.setVm s.vm)⟩,
      ⟨g, mk, s₂, L, E, ce, rfl, rfl, hx, hce, hcv, hcl, rfl, hL, rfl, rfl⟩, ?_⟩
    show Steps p.tables e below _ (((({ U with heap := s₂.heap, slotsUsed := s₂.slotsUsed } : State).setVm s₂.vm).setTop g).pushFrame (.throwing q))
    rw [← hs₂]
    exact hsteps
end
variable {p : Program} {l : Launch} {e : Env} {R : Room} {s : State} {m : MethodId} {args : Array Value} {below : List Frame} {meth : Method} {c : Code} {T : State} {H : Heap} {locs : List Loc} {cells slots : Nat}
theorem vx_callVX (X : Stand p l e R s m args below meth c T locs cells slots) (hexec : p.tables.exec = Jvm.exec) {own C : String} {index : Nat} {y : MethodName} {bytes : ByteArray} {maxL : Nat} {ret : Option FieldType} {hh : List (Nat × Nat × Nat × Nat)}
    (hown : s.vm.findClass own = some m.cls) (hlink : (Cond.methodLink own index y).before args s = true) (hinst : (Cond.instanceMethod y).before args s = true) (hsel : (Cond.selects C y y).before args s = true)
    (hcode : (Cond.codeWith y bytes maxL ret hh).before args s = true) (hy : y.cls ≠ "java/lang/invoke/MethodHandle" ∧ y.cls ≠ "java/lang/invoke/VarHandle")
    {W9 : Nat} {Pre : Pt → Array Value → Prop} {Post : Pt → Array Value → Option Value → Pt → Prop} {PostX : Pt → Array Value → Addr → Pt → Prop} (hK : vx_Back l R p e below s args y 3 W9 Pre Post PostX)
    {b : Addr} {cellB : Cell} (hcell : T.heap[b]? = some cellB) (hobj : cellB.vm.isStatics = false) (hcls : s.vm.findClass C = some cellB.cls)
    {g : JFrame} (hg : g.method = m) (hsize : g.locals.size = c.maxLocals) {argsL rest : List Value} (hlen : ∀ sig, parseMethodDescriptor y.desc = some sig → argsL.length = sig.parameters.length)
    (hstack : g.stack = argsL.reverse ++ .ref b :: rest) (hW : 2 * g.monitorRoom + (rest.map fun v => v.category).sum ≤ W9) (hdg : decode c.code g.pc = .ok (.invokevirtual index, 3))
    (hpre : ∀ vm₁, s.WarmedH vm₁ → Pre ⟨T.setVm vm₁, locs, cells, slots⟩ (Value.ref b :: argsL).toArray) :
    (∃ (v : Option Value) (vm₁ : Vm) (B : Pt), s.WarmedH vm₁ ∧ Stand p l e R s m args below meth c B.U B.locs B.cells B.slots ∧ Post ⟨T.setVm vm₁, locs, cells, slots⟩ (Value.ref b :: argsL).toArray v B ∧
      ∀ target, Steps p.tables e below (B.U.setTop { g with pc := g.pc + 3, stack := v.toList ++ rest }) target → Steps p.tables e below (T.setTop g) target) ∨
    (∃ (q : Addr) (vm₁ : Vm) (B : Pt), s.WarmedH vm₁ ∧ Stand p l e R s m args below meth c B.U B.locs B.cells B.slots ∧ PostX ⟨T.setVm vm₁, locs, cells, slots⟩ (Value.ref b :: argsL).toArray q B ∧
      Steps p.tables e below (T.setTop g) ((B.U.setTop { g with stack := rest }).pushFrame (.throwing q))) := by
  obtain ⟨mk, methM, hnamed, hmethM, hstM, habM⟩ := Cond.instanceMethod_spec hinst
  obtain ⟨m8, methM', cM, hn8, hmethM', -, -, -, -, -, -, hsigM⟩ := Cond.codeWith_spec hcode
  cases Option.some.inj (hn8.symm.trans hnamed)
  cases hmethM.symm.trans hmethM'
  obtain ⟨c2, r2, m2, q1, q2, q3, q4, kP, hkP, hkPi⟩ := Cond.selects_spec hsel
  cases hcls.symm.trans q1
  cases (State.methodFound?_of_named hnamed hy).symm.trans q2
  cases hnamed.symm.trans q3
  have hselP : selectMethod e.platform s.vm cellB.cls mk = .method mk := by rw [Launch.admits_selectMethod X.admits]; exact q4
  obtain ⟨vm₁, X₁, hstep₁⟩ := X.invokevirtual hexec hown hlink hnamed hmethM hstM hkP hkPi hy (a := b) (cell := cellB) hcell
    (fun z h => by rw [h] at hobj; cases hobj) hselP hmethM habM hkP hkPi (g := g) hg (argsL := argsL) (rest := rest) (hlen _ hsigM) hstack hdg
  rcases hK m meth c ⟨T.setVm vm₁, locs, cells, slots⟩ { g with stack := rest } (.invokevirtual index) mk (Value.ref b :: argsL).toArray X₁ hg hsize hdg hW (X₁.named hnamed) (hpre vm₁ X₁.warmed) with ⟨v, B, X', hpost, hsteps⟩ | ⟨q, B, X', hpost, hsteps⟩
  · exact Or.inl ⟨v, vm₁, B, X₁.warmed, X', hpost, fun target h => hstep₁ _ fun acts => by rw [doInvoke_state]; exact hsteps.trans h⟩
  · exact Or.inr ⟨q, vm₁, B, X₁.warmed, X', hpost, hstep₁ _ fun acts => by rw [doInvoke_state]; exact hsteps⟩
theorem vx_callSX (X : Stand p l e R s m args below meth c T locs cells slots) (hexec : p.tables.exec = Jvm.exec) {own : String} {index : Nat} {y : MethodName} {bytes : ByteArray} {maxL : Nat} {ret : Option FieldType} {hh : List (Nat × Nat × Nat × Nat)}
    (hown : s.vm.findClass own = some m.cls) (hlink : (Cond.methodLink own index y).before args s = true) (hstat : (Cond.static y).before args s = true) (hinit : (Cond.initialized y.cls).before args s = true)
    (hcode : (Cond.codeWith y bytes maxL ret hh).before args s = true) (hy : y.cls ≠ "java/lang/invoke/MethodHandle" ∧ y.cls ≠ "java/lang/invoke/VarHandle")
    {W9 : Nat} {Pre : Pt → Array Value → Prop} {Post : Pt → Array Value → Option Value → Pt → Prop} {PostX : Pt → Array Value → Addr → Pt → Prop} (hK : vx_Back l R p e below s args y 3 W9 Pre Post PostX)
    {g : JFrame} (hg : g.method = m) (hsize : g.locals.size = c.maxLocals) {argsL rest : List Value} (hlen : ∀ sig, parseMethodDescriptor y.desc = some sig → argsL.length = sig.parameters.length)
    (hstack : g.stack = argsL.reverse ++ rest) (hW : 2 * g.monitorRoom + (rest.map fun v => v.category).sum ≤ W9) (hdg : decode c.code g.pc = .ok (.invokestatic index, 3))
    (hpre : ∀ vm₁, s.WarmedH vm₁ → Pre ⟨T.setVm vm₁, locs, cells, slots⟩ argsL.toArray) :
    (∃ (v : Option Value) (vm₁ : Vm) (B : Pt), s.WarmedH vm₁ ∧ Stand p l e R s m args below meth c B.U B.locs B.cells B.slots ∧ Post ⟨T.setVm vm₁, locs, cells, slots⟩ argsL.toArray v B ∧
      ∀ target, Steps p.tables e below (B.U.setTop { g with pc := g.pc + 3, stack := v.toList ++ rest }) target → Steps p.tables e below (T.setTop g) target) ∨
    (∃ (q : Addr) (vm₁ : Vm) (B : Pt), s.WarmedH vm₁ ∧ Stand p l e R s m args below meth c B.U B.locs B.cells B.slots ∧ PostX ⟨T.setVm vm₁, locs, cells, slots⟩ argsL.toArray q B ∧
      Steps p.tables e below (T.setTop g) ((B.U.setTop { g with stack := rest }).pushFrame (.throwing q))) := by
  obtain ⟨mk, methM, cM, hnamed, hmethM, -, -, -, -, -, -, hsigM⟩ := Cond.codeWith_spec hcode
  have hstatic : methM.isStatic = true := Cond.static_spec hnamed hmethM hstat
  obtain ⟨kP, hkP, -⟩ := className_of_methodNamed hnamed
  have hinitP : kP.init = .initialized := Cond.initialized_spec (findClass_of_methodNamed hnamed) hkP hinit
  obtain ⟨vm₁, X₁, hstep₁⟩ := X.invokestatic hexec hown hlink hnamed hmethM hstatic hkP hinitP hy (g := g) hg (argsL := argsL) (rest := rest) (hlen _ hsigM) hstack hdg
  rcases hK m meth c ⟨T.setVm vm₁, locs, cells, slots⟩ { g with stack := rest } (.invokestatic index) mk argsL.toArray X₁ hg hsize hdg hW (X₁.named hnamed) (hpre vm₁ X₁.warmed) with ⟨v, B, X', hpost, hsteps⟩ | ⟨q, B, X', hpost, hsteps⟩
  · exact Or.inl ⟨v, vm₁, B, X₁.warmed, X', hpost, fun target h => hstep₁ _ fun acts => by rw [doInvoke_state]; exact hsteps.trans h⟩
  · exact Or.inr ⟨q, vm₁, B, X₁.warmed, X', hpost, hstep₁ _ fun acts => by rw [doInvoke_state]; exact hsteps⟩
theorem vx_callVW (X : Stand p l e R s m args below meth c T locs cells slots) (hexec : p.tables.exec = Jvm.exec) {own C : String} {index : Nat} {y : MethodName} {bytes : ByteArray} {maxL : Nat} {ret : Option FieldType} {hh : List (Nat × Nat × Nat × Nat)}
    (hown : s.vm.findClass own = some m.cls) (hlink : (Cond.methodLink own index y).before args s = true) (hinst : (Cond.instanceMethod y).before args s = true) (hsel : (Cond.selects C y y).before args s = true)
    (hcode : (Cond.codeWith y bytes maxL ret hh).before args s = true) (hy : y.cls ≠ "java/lang/invoke/MethodHandle" ∧ y.cls ≠ "java/lang/invoke/VarHandle")
    {W9 : Nat} {Pre : Pt → Array Value → Prop} {Post : Pt → Array Value → Option Value → Pt → Prop} (hK : Back l R p e below s args y 3 W9 Pre Post)
    {b : Addr} {cellB : Cell} (hcell : T.heap[b]? = some cellB) (hobj : cellB.vm.isStatics = false) (hcls : s.vm.findClass C = some cellB.cls)
    {g : JFrame} (hg : g.method = m) (hsize : g.locals.size = c.maxLocals) {argsL rest : List Value} (hlen : ∀ sig, parseMethodDescriptor y.desc = some sig → argsL.length = sig.parameters.length)
    (hstack : g.stack = argsL.reverse ++ .ref b :: rest) (hW : 2 * g.monitorRoom + (rest.map fun v => v.category).sum ≤ W9) (hdg : decode c.code g.pc = .ok (.invokevirtual index, 3))
    (hpre : ∀ vm₁, s.WarmedH vm₁ → Pre ⟨T.setVm vm₁, locs, cells, slots⟩ (Value.ref b :: argsL).toArray) :
    ∃ (v : Option Value) (vm₁ : Vm) (B : Pt), s.WarmedH vm₁ ∧ Stand p l e R s m args below meth c B.U B.locs B.cells B.slots ∧ Post ⟨T.setVm vm₁, locs, cells, slots⟩ (Value.ref b :: argsL).toArray v B ∧
      ∀ target, Steps p.tables e below (B.U.setTop { g with pc := g.pc + 3, stack := v.toList ++ rest }) target → Steps p.tables e below (T.setTop g) target := by
  obtain ⟨mk, methM, hnamed, hmethM, hstM, habM⟩ := Cond.instanceMethod_spec hinst
  obtain ⟨m8, methM', cM, hn8, hmethM', -, -, -, -, -, -, hsigM⟩ := Cond.codeWith_spec hcode
  cases Option.some.inj (hn8.symm.trans hnamed)
  cases hmethM.symm.trans hmethM'
  obtain ⟨c2, r2, m2, q1, q2, q3, q4, kP, hkP, hkPi⟩ := Cond.selects_spec hsel
  cases hcls.symm.trans q1
  cases (State.methodFound?_of_named hnamed hy).symm.trans q2
  cases hnamed.symm.trans q3
  have hselP : selectMethod e.platform s.vm cellB.cls mk = .method mk := by rw [Launch.admits_selectMethod X.admits]; exact q4
  obtain ⟨vm₁, X₁, hstep₁⟩ := X.invokevirtual hexec hown hlink hnamed hmethM hstM hkP hkPi hy (a := b) (cell := cellB) hcell
    (fun z h => by rw [h] at hobj; cases hobj) hselP hmethM habM hkP hkPi (g := g) hg (argsL := argsL) (rest := rest) (hlen _ hsigM) hstack hdg
  obtain ⟨v, B, X', hpost, hsteps⟩ := hK m meth c ⟨T.setVm vm₁, locs, cells, slots⟩ { g with stack := rest } (.invokevirtual index) mk (Value.ref b :: argsL).toArray X₁ hg hsize hdg hW (X₁.named hnamed) (hpre vm₁ X₁.warmed)
  exact ⟨v, vm₁, B, X₁.warmed, X', hpost, fun target h => hstep₁ _ fun acts => by rw [doInvoke_state]; exact hsteps.trans h⟩
abbrev vx_CVW (R : Room) (s : State) (args : Array Value) (own C : String) (index : Nat) (y : MethodName) (bytes : ByteArray) (maxL : Nat) (ret : Option FieldType) (hh : List (Nat × Nat × Nat × Nat)) (ws : List Cond) (rm : Room) (mc ms n : Nat) : Prop :=
  (rm.cells = mc ∧ rm.slots = ms ∧ rm.frames + 1 ≤ R.frames ∧ 8 + (maxL + 11) + rm.locals ≤ R.locals ∧ (∀ w ∈ ws, ∀ (a' : Array Value) (U : State), s.WarmedH U.vm → w.before a' U = true) ∧ Cond.codeWith y bytes maxL ret hh ∈ ws) ∧
  (Cond.codeWith y bytes maxL ret hh).before args s = true ∧ (Cond.initialized y.cls).before args s = true ∧ (y.cls ≠ "java/lang/invoke/MethodHandle" ∧ y.cls ≠ "java/lang/invoke/VarHandle") ∧
  (∀ sig, parseMethodDescriptor y.desc = some sig → n = sig.parameters.length) ∧ (Cond.methodLink own index y).before args s = true ∧ (Cond.instanceMethod y).before args s = true ∧ (Cond.selects C y y).before args s = true
theorem vx_cwVW {own C : String} {index maxL mc ms : Nat} {y : MethodName} {bytes : ByteArray} {ret : Option FieldType} {hh : List (Nat × Nat × Nat × Nat)} {Ts ws ws' : List Cond} {rm : Room} (n : Nat) (ht : ∀ w ∈ Ts, w.before args s = true) (hT : GoodIn Ts (wsV own index C y ws)) (hw : ws = Cond.codeWith y bytes maxL ret hh :: ws') (hrc : rm.cells = mc) (hrs : rm.slots = ms)
    (hd : y.cls = C ∧ y.cls ≠ "java/lang/invoke/MethodHandle" ∧ y.cls ≠ "java/lang/invoke/VarHandle" ∧ (parseMethodDescriptor y.desc).map (fun d => d.parameters.length) = some n) (hR : rm.frames + 1 ≤ R.frames ∧ 8 + (maxL + 11) + rm.locals ≤ R.locals) :
    vx_CVW R s args own C index y bytes maxL ret hh ws rm mc ms n := by
  obtain ⟨hC, hd⟩ := hd
  subst hC
  have ok : ∀ w ∈ wsV own index y.cls y ws, w.before args s = true := fun w h => ht w (hT w h).1
  have hG : GoodIn Ts ws := fun w h => hT w (by unfold wsV; exact List.mem_append_right _ h)
  have hc : Cond.codeWith y bytes maxL ret hh ∈ ws := by rw [hw]; exact List.mem_cons_self
  refine ⟨⟨hrc, hrs, hR.1, hR.2, pay_in ht hG, hc⟩, ht _ (hG _ hc).1, ok _ (by simp [wsV]), ⟨hd.1, hd.2.1⟩, fun sig h => ?_, ok _ (by simp [wsV]), ok _ (by simp [wsV]), ok _ (by simp [wsV])⟩
  have h2 := hd.2.2
  rw [h] at h2
  exact (Option.some.inj h2).symm
theorem vx_runVW {y : MethodName} {bytes cc : ByteArray} {maxL nL mc ms n index : Nat} {ret : Option FieldType} {hh : List (Nat × Nat × Nat × Nat)} {ws : List Cond} {rm : Room} {Pc : Array Value → State → Prop} {Qc : Array Value → State → Outcome → State → Prop} {free : Addr → Prop} {Ts : List Cond} {own C : String} {b : Addr} {As rest : List Value} {g : JFrame}
    (S : CallFix p m c cc nL s args Ts own) (hM : Met l y ws rm Pc Qc mc ms free) (cw : vx_CVW R s args own C index y bytes maxL ret hh ws rm mc ms n) (hp : PreV s H C b Pc As)
    (hg : g.method = m) (hn : As.length = n) (hsize : g.locals.size = nL) (hstack : g.stack = As.reverse ++ .ref b :: rest) (hW : 2 * g.monitorRoom + (rest.map fun v => v.category).sum ≤ 8) (hdg : decode cc g.pc = .ok (.invokevirtual index, 3)) (hf : cells + mc ≤ R.cells ∧ slots + ms ≤ R.slots) :
    va_Run p l e R s m args below meth c H locs cells slots mc ms g rest (Qc (Value.ref b :: As).toArray) free := by
  obtain ⟨⟨hrc, hrs, hfr, hlo, hws, hcw⟩, hcode, hini, hy, hlen, hl, hin, hse⟩ := cw
  have hK : Back l R p e below s args y 3 8 (PreOf R mc ms Pc) (PostOf Qc mc ms free) := va_backW (hh := hh) (bytes := bytes) (maxL := maxL) (ret := ret) hM hp.1 hrc hrs hfr hlo hws hcw (fun a' U hW => word_at hW (Or.inl (by first | rfl | simp [Cond.onTables, Cond.keeps, Cond.steady])) hini)
  obtain ⟨hx, hb, hml, ho, -⟩ := S
  obtain ⟨-, ⟨cellB, hcB, hoB, hclB⟩, hPc⟩ := hp
  intro T hT X
  obtain ⟨v, vm₁, ⟨U', l2, c2, s2⟩, hW₁, X', ⟨g', mk, t, L, e1, e2, hq, h1, hL, h2, h3⟩, st⟩ := vx_callVW X hx (C := C) (hh := hh) (bytes := bytes) (maxL := maxL) (ret := ret) ho hl hin hse hcode hy hK (by rw [hT]; exact hcB) hoB hclB hg (hsize.trans hml.symm) (argsL := As) (rest := rest) (fun sig h => hn.trans (hlen sig h)) hstack hW (by rw [hb]; exact hdg)
    (fun vm₁ hW₁ => ⟨hf.1, hf.2, hPc (T.setVm vm₁) hT hW₁⟩)
  dsimp only [Pt.U, Pt.locs, Pt.cells, Pt.slots] at X' e1 e2 h1 h2 h3 st
  subst h1; subst h2; subst h3
  exact ⟨v, (T.setVm vm₁).calling g' mk (Value.ref b :: As).toArray, t, U', L, hT, X', hL, e1, e2, hq, st⟩
section
variable {y : MethodName} {bytes cc : ByteArray} {maxL nL mc ms n index : Nat} {ret : Option FieldType} {ws : List Cond} {rm : Room} {Pc : Array Value → State → Prop} {Qc : Array Value → State → Outcome → State → Prop} {XC : String → State → State → Prop} {free : Addr → Prop} {Ts : List Cond} {own C : String} {b : Addr} {As rest : List Value} {g : JFrame}
theorem vx_runVX {hh : List (Nat × Nat × Nat × Nat)} (S : CallFix p m c cc nL s args Ts own) (hM : vx_Met l y ws rm Pc Qc XC mc ms free) (cw : vx_CVW R s args own C index y bytes maxL ret hh ws rm mc ms n) (hp : PreV s H C b Pc As)
    (hg : g.method = m) (hn : As.length = n) (hsize : g.locals.size = nL) (hstack : g.stack = As.reverse ++ .ref b :: rest) (hW : 2 * g.monitorRoom + (rest.map fun v => v.category).sum ≤ 8) (hdg : decode cc g.pc = .ok (.invokevirtual index, 3)) (hf : cells + mc ≤ R.cells ∧ slots + ms ≤ R.slots) :
    vx_Run p l e R s m args below meth c H locs cells slots mc ms g rest (Qc (Value.ref b :: As).toArray) XC free := by
  obtain ⟨⟨hrc, hrs, hfr, hlo, hws, hcw⟩, hcode, hini, hy, hlen, hl, hin, hse⟩ := cw
  have hK : vx_Back l R p e below s args y 3 8 (PreOf R mc ms Pc) (PostOf Qc mc ms free) (vx_Post XC mc ms free) := vx_backW (hh := hh) (bytes := bytes) (maxL := maxL) (ret := ret) hM hp.1 hrc hrs hfr hlo hws hcw (fun a' U hW => word_at hW (Or.inl (by first | rfl | simp [Cond.onTables, Cond.keeps, Cond.steady])) hini)
  obtain ⟨hx, hb, hml, ho, -⟩ := S
  obtain ⟨-, ⟨cellB, hcB, hoB, hclB⟩, hPc⟩ := hp
  intro T hT X
  rcases vx_callVX X hx (C := C) (hh := hh) (bytes := bytes) (maxL := maxL) (ret := ret) ho hl hin hse hcode hy hK (by rw [hT]; exact hcB) hoB hclB hg (hsize.trans hml.symm) (argsL := As) (rest := rest) (fun sig h => hn.trans (hlen sig h)) hstack hW (by rw [hb]; exact hdg)
    (fun vm₁ hW₁ => ⟨hf.1, hf.2, hPc (T.setVm vm₁) hT hW₁⟩) with ⟨v, vm₁, ⟨U', l2, c2, s2⟩, hW₁, X', ⟨g', mk, t, L, e1, e2, hq, h1, hL, h2, h3⟩, st⟩ | ⟨q, vm₁, ⟨U', l2, c2, s2⟩, hW₁, X', ⟨g', mk, t, L, E, ce, e1, e2, hq, hce, hcv, hcl, h1, hL, h2, h3⟩, st⟩
  · dsimp only [Pt.U, Pt.locs, Pt.cells, Pt.slots] at X' e1 e2 h1 h2 h3 st
    subst h1; subst h2; subst h3
    exact Or.inl ⟨v, (T.setVm vm₁).calling g' mk (Value.ref b :: As).toArray, t, U', L, hT, X', hL, e1, e2, hq, st⟩
  · dsimp only [Pt.U, Pt.locs, Pt.cells, Pt.slots] at X' e1 e2 h1 h2 h3 st hcl
    subst h1; subst h2; subst h3
    exact Or.inr ⟨q, (T.setVm vm₁).calling g' mk (Value.ref b :: As).toArray, t, U', L, E, ce, hT, X', hL, e1, e2, hq, hce, hcv, vx_cls hW₁ hcl, st⟩
theorem vx_runSX {hh : List (Nat × Nat × Nat × Nat)} (S : CallFix p m c cc nL s args Ts own) (hM : vx_Met l y ws rm Pc Qc XC mc ms free) (cw : vx_CSW R s args own index y bytes maxL ret hh ws rm mc ms n) (hp : PreS s H Pc As)
    (hg : g.method = m) (hn : As.length = n) (hsize : g.locals.size = nL) (hstack : g.stack = As.reverse ++ rest) (hW : 2 * g.monitorRoom + (rest.map fun v => v.category).sum ≤ 8) (hdg : decode cc g.pc = .ok (.invokestatic index, 3)) (hf : cells + mc ≤ R.cells ∧ slots + ms ≤ R.slots) :
    vx_Run p l e R s m args below meth c H locs cells slots mc ms g rest (Qc As.toArray) XC free := by
  obtain ⟨⟨hrc, hrs, hfr, hlo, hws, hcw⟩, hcode, hini, hy, hlen, hl, hstt⟩ := cw
  have hK : vx_Back l R p e below s args y 3 8 (PreOf R mc ms Pc) (PostOf Qc mc ms free) (vx_Post XC mc ms free) := vx_backW (hh := hh) (bytes := bytes) (maxL := maxL) (ret := ret) hM hp.1 hrc hrs hfr hlo hws hcw (fun a' U hW => word_at hW (Or.inl (by first | rfl | simp [Cond.onTables, Cond.keeps, Cond.steady])) hini)
  obtain ⟨hx, hb, hml, ho, -⟩ := S
  intro T hT X
  rcases vx_callSX X hx (hh := hh) (bytes := bytes) (maxL := maxL) (ret := ret) ho hl hstt hini hcode hy hK hg (hsize.trans hml.symm) (argsL := As) (rest := rest) (fun sig h => hn.trans (hlen sig h)) hstack hW (by rw [hb]; exact hdg)
    (fun vm₁ hW₁ => ⟨hf.1, hf.2, hp.2 (T.setVm vm₁) hT hW₁⟩) with ⟨v, vm₁, ⟨U', l2, c2, s2⟩, hW₁, X', ⟨g', mk, t, L, e1, e2, hq, h1, hL, h2, h3⟩, st⟩ | ⟨q, vm₁, ⟨U', l2, c2, s2⟩, hW₁, X', ⟨g', mk, t, L, E, ce, e1, e2, hq, hce, hcv, hcl, h1, hL, h2, h3⟩, st⟩
  · dsimp only [Pt.U, Pt.locs, Pt.cells, Pt.slots] at X' e1 e2 h1 h2 h3 st
    subst h1; subst h2; subst h3
    exact Or.inl ⟨v, (T.setVm vm₁).calling g' mk As.toArray, t, U', L, hT, X', hL, e1, e2, hq, st⟩
  · dsimp only [Pt.U, Pt.locs, Pt.cells, Pt.slots] at X' e1 e2 h1 h2 h3 st hcl
    subst h1; subst h2; subst h3
    exact Or.inr ⟨q, (T.setVm vm₁).calling g' mk As.toArray, t, U', L, E, ce, hT, X', hL, e1, e2, hq, hce, hcv, vx_cls hW₁ hcl, st⟩
end
end VXH
theorem vx_ofWH {l : Launch} {y : MethodName} {ws ws' : List Cond} {rm : Room} {Pc : Array Value → State → Prop} {Qc : Array Value → State → Outcome → State → Prop} {XC : String → State → State → Prop} {mc ms : Nat} {free : Addr → Prop} {cc : ByteArray} {maxL : Nat} {ret : Option FieldType} {hh : List (Nat × Nat × Nat × Nat)}
    (hy : plainName y.cls = true) (hw : ws = Cond.codeWith y cc maxL ret hh :: ws')
    (body : ∀ p e s m args below meth c s₁, BodyLoose p l y (headSpec ws rm) cc maxL ret e s m args below meth c s₁ → c.maxLocals = maxL → Pc args s →
      W p l e (headSpec ws rm).room s m args below meth c s.heap [] 0 0 (vx_MQ below Qc XC args s mc ms free) (entryFrame m args maxL)) : vx_Met l y ws rm Pc Qc XC mc ms free := by
  refine MetFree.of_bodyS (code := cc) (maxLocals := maxL) (ret := ret) hy ?_ ?_
  · intro args s m h hn
    obtain ⟨m9, meth, c, hn9, h1, h2, h3, h4, -, h5, h6, -⟩ := Cond.codeWith_spec (atoms_spec (ws := ws) h _ (by rw [hw]; exact List.mem_cons_self))
    cases hn.symm.trans hn9
    exact ⟨meth, c, h1, h2, h3, h4, h5, h6⟩
  · intro p e s m args below meth c s₁ B hml hP _
    have hh0 : s₁.heap = s.heap := by rw [B.state]; rfl
    obtain ⟨t, a1, o, b1, b2, b3⟩ := body p e s m args below meth c s₁ B hml hP s₁ hh0 (Stand.of_body B)
    exact ⟨t, o, a1, b1, b2, b3⟩
/-! ===== END ===== -/
end
section
/-! ===== BEGIN printed: names, fields, word lists, decode rows ===== -/
def RX0 : String := "TidePost$Callee"
def TX0 : u_T := fun k => match k with
  | 0 => ("TidePost$Callee", "buffer", "I", false)
  | 1 => ("TidePost$Callee", "wanted", "I", false)
  | 2 => ("TidePost$Callee", "read", "I", false)
  | _ => ("TidePost$Callee", "held", "[Z", true)
def tyX0 : Nat → FieldType := fun k => match k with
  | 0 => .int
  | 1 => .int
  | 2 => .int
  | _ => .array .boolean
abbrev wsX00 : List Cond := u_ws RX0 TX0 4
theorem nmX0 : ∀ a, a < 4 → ∀ b, b < 4 → a ≠ b → (TX0 a).2.1 ≠ (TX0 b).2.1 := by decide +kernel
theorem tyX0_ok : ∀ k, k < 4 → parseFieldDescriptor (TX0 k).2.2.1 = some (tyX0 k) := by decide +kernel
abbrev cX0_init : ByteArray := prog_2_method_1_code
def yX0_init : MethodName := ⟨RX0, "<init>", "()V"⟩
abbrev cX0_spare : ByteArray := prog_2_method_2_code
def yX0_spare : MethodName := ⟨RX0, "spare", "()I"⟩
abbrev cX0_take : ByteArray := prog_2_method_3_code
def yX0_take : MethodName := ⟨RX0, "take", "(IZ)Z"⟩
abbrev cX0_copyFrom : ByteArray := prog_2_method_4_code
def yX0_copyFrom : MethodName := ⟨RX0, "copyFrom", "(LTidePost$Callee;)V"⟩
def RX1 : String := "TidePost$Caller"
def TX1 : u_T := fun k => match k with
  | 0 => ("TidePost$Caller", "state", "I", false)
  | 1 => ("TidePost$Caller", "given", "I", false)
  | 2 => ("TidePost$Caller", "toldToClose", "Z", false)
  | 3 => ("TidePost$Caller", "base", "I", false)
  | 4 => ("TidePost$Caller", "next", "I", false)
  | 5 => ("TidePost$Caller", "window", "I", false)
  | 6 => ("TidePost$Caller", "threshold", "I", false)
  | 7 => ("TidePost$Caller", "room", "I", false)
  | 8 => ("TidePost$Caller", "like", "I", false)
  | 9 => ("TidePost$Caller", "recover", "I", false)
  | 10 => ("TidePost$Caller", "timer", "I", false)
  | 11 => ("TidePost$Caller", "tries", "I", false)
  | 12 => ("TidePost$Caller", "sentAgain", "I", false)
  | _ => ("TidePost$Caller", "timing", "LTidePost$Timing;", true)
def tyX1 : Nat → FieldType := fun k => match k with
  | 0 => .int
  | 1 => .int
  | 2 => .boolean
  | 3 => .int
  | 4 => .int
  | 5 => .int
  | 6 => .int
  | 7 => .int
  | 8 => .int
  | 9 => .int
  | 10 => .int
  | 11 => .int
  | 12 => .int
  | _ => .object "TidePost$Timing"
abbrev wsX10 : List Cond := u_ws RX1 TX1 14
theorem nmX1 : ∀ a, a < 14 → ∀ b, b < 14 → a ≠ b → (TX1 a).2.1 ≠ (TX1 b).2.1 := by decide +kernel
theorem tyX1_ok : ∀ k, k < 14 → parseFieldDescriptor (TX1 k).2.2.1 = some (tyX1 k) := by decide +kernel
abbrev cX1_init : ByteArray := prog_3_method_1_code
def yX1_init : MethodName := ⟨RX1, "<init>", "()V"⟩
abbrev cX1_begin : ByteArray := prog_3_method_2_code
def yX1_begin : MethodName := ⟨RX1, "begin", "(II)V"⟩
abbrev cX1_things : ByteArray := prog_3_method_3_code
def yX1_things : MethodName := ⟨RX1, "things", "()I"⟩
abbrev cX1_maySend : ByteArray := prog_3_method_4_code
def yX1_maySend : MethodName := ⟨RX1, "maySend", "()Z"⟩
abbrev cX1_sent : ByteArray := prog_3_method_5_code
def yX1_sent : MethodName := ⟨RX1, "sent", "(I)V"⟩
abbrev cX1_takeAnswer : ByteArray := prog_3_method_6_code
def yX1_takeAnswer : MethodName := ⟨RX1, "takeAnswer", "(III)Z"⟩
abbrev cX1_advance : ByteArray := prog_3_method_7_code
def yX1_advance : MethodName := ⟨RX1, "advance", "(III)Z"⟩
abbrev cX1_growWindow : ByteArray := prog_3_method_8_code
def yX1_growWindow : MethodName := ⟨RX1, "growWindow", "()V"⟩
abbrev cX1_repeated : ByteArray := prog_3_method_9_code
def yX1_repeated : MethodName := ⟨RX1, "repeated", "(I)Z"⟩
abbrev cX1_runOut : ByteArray := prog_3_method_10_code
def yX1_runOut : MethodName := ⟨RX1, "runOut", "(I)Z"⟩
abbrev cX1_startRecovery : ByteArray := prog_3_method_11_code
def yX1_startRecovery : MethodName := ⟨RX1, "startRecovery", "()V"⟩
abbrev cX1_baseAgain : ByteArray := prog_3_method_12_code
def yX1_baseAgain : MethodName := ⟨RX1, "baseAgain", "()I"⟩
abbrev cX1_copyFrom : ByteArray := prog_3_method_13_code
def yX1_copyFrom : MethodName := ⟨RX1, "copyFrom", "(LTidePost$Caller;)V"⟩
def RX2 : String := "TidePost$Connection"
def TX2 : u_T := fun k => match k with
  | 0 => ("TidePost$Connection", "callerNode", "I", false)
  | 1 => ("TidePost$Connection", "calleeNode", "I", false)
  | 2 => ("TidePost$Connection", "caller", "LTidePost$Caller;", true)
  | _ => ("TidePost$Connection", "callee", "LTidePost$Callee;", true)
def tyX2 : Nat → FieldType := fun k => match k with
  | 0 => .int
  | 1 => .int
  | 2 => .object "TidePost$Caller"
  | _ => .object "TidePost$Callee"
abbrev wsX20 : List Cond := u_ws RX2 TX2 4
theorem nmX2 : ∀ a, a < 4 → ∀ b, b < 4 → a ≠ b → (TX2 a).2.1 ≠ (TX2 b).2.1 := by decide +kernel
theorem tyX2_ok : ∀ k, k < 4 → parseFieldDescriptor (TX2 k).2.2.1 = some (tyX2 k) := by decide +kernel
abbrev cX2_init : ByteArray := prog_4_method_1_code
def yX2_init : MethodName := ⟨RX2, "<init>", "()V"⟩
abbrev cX2_unread : ByteArray := prog_4_method_2_code
def yX2_unread : MethodName := ⟨RX2, "unread", "()I"⟩
abbrev cX2_copyFrom : ByteArray := prog_4_method_3_code
def yX2_copyFrom : MethodName := ⟨RX2, "copyFrom", "(LTidePost$Connection;)V"⟩
def RX3 : String := "TidePost$Net"
def TX3 : u_T := fun k => match k with
  | 0 => ("TidePost$Net", "nodes", "I", false)
  | 1 => ("TidePost$Net", "links", "I", false)
  | 2 => ("TidePost$Net", "firsts", "[I", true)
  | 3 => ("TidePost$Net", "seconds", "[I", true)
  | 4 => ("TidePost$Net", "delays", "[I", true)
  | 5 => ("TidePost$Net", "rooms", "[I", true)
  | 6 => ("TidePost$Net", "up", "[Z", true)
  | 7 => ("TidePost$Net", "distances", "[[I", true)
  | _ => ("TidePost$Net", "trial", "[I", true)
def tyX3 : Nat → FieldType := fun k => match k with
  | 0 => .int
  | 1 => .int
  | 2 => .array .int
  | 3 => .array .int
  | 4 => .array .int
  | 5 => .array .int
  | 6 => .array .boolean
  | 7 => .array (.array .int)
  | _ => .array .int
abbrev wsX30 : List Cond := u_ws RX3 TX3 9
theorem nmX3 : ∀ a, a < 9 → ∀ b, b < 9 → a ≠ b → (TX3 a).2.1 ≠ (TX3 b).2.1 := by decide +kernel
theorem tyX3_ok : ∀ k, k < 9 → parseFieldDescriptor (TX3 k).2.2.1 = some (tyX3 k) := by decide +kernel
abbrev cX3_init : ByteArray := prog_5_method_1_code
def yX3_init : MethodName := ⟨RX3, "<init>", "()V"⟩
abbrev cX3_layNode : ByteArray := prog_5_method_2_code
def yX3_layNode : MethodName := ⟨RX3, "layNode", "()I"⟩
abbrev cX3_layLink : ByteArray := prog_5_method_3_code
def yX3_layLink : MethodName := ⟨RX3, "layLink", "(IIII)I"⟩
abbrev cX3_flip : ByteArray := prog_5_method_4_code
def yX3_flip : MethodName := ⟨RX3, "flip", "(I)V"⟩
abbrev cX3_joins : ByteArray := prog_5_method_5_code
def yX3_joins : MethodName := ⟨RX3, "joins", "(II)Z"⟩
abbrev cX3_farEnd : ByteArray := prog_5_method_6_code
def yX3_farEnd : MethodName := ⟨RX3, "farEnd", "(II)I"⟩
abbrev cX3_linkTowards : ByteArray := prog_5_method_7_code
def yX3_linkTowards : MethodName := ⟨RX3, "linkTowards", "(II)I"⟩
abbrev cX3_measureRoutes : ByteArray := prog_5_method_8_code
def yX3_measureRoutes : MethodName := ⟨RX3, "measureRoutes", "()V"⟩
abbrev cX3_spread : ByteArray := prog_5_method_9_code
def yX3_spread : MethodName := ⟨RX3, "spread", "(II[I)V"⟩
abbrev cX3_shorten : ByteArray := prog_5_method_10_code
def yX3_shorten : MethodName := ⟨RX3, "shorten", "([IIII)Z"⟩
def RX4 : String := "TidePost$Packet"
def TX4 : u_T := fun k => match k with
  | _ => ("", "", "", false)
def tyX4 : Nat → FieldType := fun k => match k with
  | _ => .int
abbrev wsX40 : List Cond := u_ws RX4 TX4 0
theorem nmX4 : ∀ a, a < 0 → ∀ b, b < 0 → a ≠ b → (TX4 a).2.1 ≠ (TX4 b).2.1 := by decide +kernel
theorem tyX4_ok : ∀ k, k < 0 → parseFieldDescriptor (TX4 k).2.2.1 = some (tyX4 k) := by decide +kernel
abbrev cX4_of : ByteArray := prog_6_method_2_code
def yX4_of : MethodName := ⟨RX4, "of", "(IIII)I"⟩
abbrev cX4_hopsOf : ByteArray := prog_6_method_3_code
def yX4_hopsOf : MethodName := ⟨RX4, "hopsOf", "(I)I"⟩
abbrev cX4_connectionOf : ByteArray := prog_6_method_4_code
def yX4_connectionOf : MethodName := ⟨RX4, "connectionOf", "(I)I"⟩
abbrev cX4_kindOf : ByteArray := prog_6_method_5_code
def yX4_kindOf : MethodName := ⟨RX4, "kindOf", "(I)I"⟩
abbrev cX4_numberOf : ByteArray := prog_6_method_6_code
def yX4_numberOf : MethodName := ⟨RX4, "numberOf", "(I)I"⟩
abbrev cX4_roomOf : ByteArray := prog_6_method_7_code
def yX4_roomOf : MethodName := ⟨RX4, "roomOf", "(I)I"⟩
def RX5 : String := "TidePost$Timing"
def TX5 : u_T := fun k => match k with
  | 0 => ("TidePost$Timing", "round", "I", false)
  | 1 => ("TidePost$Timing", "swing", "I", false)
  | 2 => ("TidePost$Timing", "timeout", "I", false)
  | 3 => ("TidePost$Timing", "measured", "I", false)
  | _ => ("TidePost$Timing", "measuredAt", "I", false)
def tyX5 : Nat → FieldType := fun k => match k with
  | 0 => .int
  | 1 => .int
  | 2 => .int
  | 3 => .int
  | _ => .int
abbrev wsX50 : List Cond := u_ws RX5 TX5 5
theorem nmX5 : ∀ a, a < 5 → ∀ b, b < 5 → a ≠ b → (TX5 a).2.1 ≠ (TX5 b).2.1 := by decide +kernel
theorem tyX5_ok : ∀ k, k < 5 → parseFieldDescriptor (TX5 k).2.2.1 = some (tyX5 k) := by decide +kernel
abbrev cX5_init : ByteArray := prog_7_method_1_code
def yX5_init : MethodName := ⟨RX5, "<init>", "()V"⟩
abbrev cX5_begin : ByteArray := prog_7_method_2_code
def yX5_begin : MethodName := ⟨RX5, "begin", "()V"⟩
abbrev cX5_sent : ByteArray := prog_7_method_3_code
def yX5_sent : MethodName := ⟨RX5, "sent", "(II)V"⟩
abbrev cX5_sentTwice : ByteArray := prog_7_method_4_code
def yX5_sentTwice : MethodName := ⟨RX5, "sentTwice", "(I)V"⟩
abbrev cX5_answered : ByteArray := prog_7_method_5_code
def yX5_answered : MethodName := ⟨RX5, "answered", "(II)V"⟩
abbrev cX5_backOff : ByteArray := prog_7_method_6_code
def yX5_backOff : MethodName := ⟨RX5, "backOff", "()V"⟩
abbrev cX5_copyFrom : ByteArray := prog_7_method_7_code
def yX5_copyFrom : MethodName := ⟨RX5, "copyFrom", "(LTidePost$Timing;)V"⟩
def RX6 : String := "TidePost$Traffic"
def TX6 : u_T := fun k => match k with
  | 0 => ("TidePost$Traffic", "net", "LTidePost$Net;", true)
  | 1 => ("TidePost$Traffic", "ways", "[LTidePost$Way;", true)
  | 2 => ("TidePost$Traffic", "all", "[LTidePost$Connection;", true)
  | 3 => ("TidePost$Traffic", "made", "I", false)
  | 4 => ("TidePost$Traffic", "clock", "I", false)
  | _ => ("TidePost$Traffic", "lost", "I", false)
def tyX6 : Nat → FieldType := fun k => match k with
  | 0 => .object "TidePost$Net"
  | 1 => .array (.object "TidePost$Way")
  | 2 => .array (.object "TidePost$Connection")
  | 3 => .int
  | 4 => .int
  | _ => .int
abbrev wsX60 : List Cond := u_ws RX6 TX6 6
theorem nmX6 : ∀ a, a < 6 → ∀ b, b < 6 → a ≠ b → (TX6 a).2.1 ≠ (TX6 b).2.1 := by decide +kernel
theorem tyX6_ok : ∀ k, k < 6 → parseFieldDescriptor (TX6 k).2.2.1 = some (tyX6 k) := by decide +kernel
abbrev cX6_init : ByteArray := prog_8_method_1_code
def yX6_init : MethodName := ⟨RX6, "<init>", "(LTidePost$Net;)V"⟩
abbrev cX6_connect : ByteArray := prog_8_method_2_code
def yX6_connect : MethodName := ⟨RX6, "connect", "(III)I"⟩
abbrev cX6_dropAll : ByteArray := prog_8_method_3_code
def yX6_dropAll : MethodName := ⟨RX6, "dropAll", "(I)I"⟩
abbrev cX6_tick : ByteArray := prog_8_method_4_code
def yX6_tick : MethodName := ⟨RX6, "tick", "()V"⟩
abbrev cX6_letArrive : ByteArray := prog_8_method_5_code
def yX6_letArrive : MethodName := ⟨RX6, "letArrive", "()V"⟩
abbrev cX6_arrive : ByteArray := prog_8_method_6_code
def yX6_arrive : MethodName := ⟨RX6, "arrive", "(II)V"⟩
abbrev cX6_letTimersRunOut : ByteArray := prog_8_method_7_code
def yX6_letTimersRunOut : MethodName := ⟨RX6, "letTimersRunOut", "()V"⟩
abbrev cX6_letCallersSend : ByteArray := prog_8_method_8_code
def yX6_letCallersSend : MethodName := ⟨RX6, "letCallersSend", "()V"⟩
abbrev cX6_letTakeOff : ByteArray := prog_8_method_9_code
def yX6_letTakeOff : MethodName := ⟨RX6, "letTakeOff", "()V"⟩
abbrev cX6_sendHello : ByteArray := prog_8_method_10_code
def yX6_sendHello : MethodName := ⟨RX6, "sendHello", "(I)V"⟩
abbrev cX6_sendThing : ByteArray := prog_8_method_11_code
def yX6_sendThing : MethodName := ⟨RX6, "sendThing", "(II)V"⟩
abbrev cX6_sendAnswer : ByteArray := prog_8_method_12_code
def yX6_sendAnswer : MethodName := ⟨RX6, "sendAnswer", "(I)V"⟩
abbrev cX6_send : ByteArray := prog_8_method_13_code
def yX6_send : MethodName := ⟨RX6, "send", "(III)V"⟩
abbrev cX6_copyFrom : ByteArray := prog_8_method_14_code
def yX6_copyFrom : MethodName := ⟨RX6, "copyFrom", "(LTidePost$Traffic;)V"⟩
def RX7 : String := "TidePost$Way"
def TX7 : u_T := fun k => match k with
  | 0 => ("TidePost$Way", "queue", "[I", true)
  | 1 => ("TidePost$Way", "head", "I", false)
  | 2 => ("TidePost$Way", "queued", "I", false)
  | 3 => ("TidePost$Way", "flight", "[I", true)
  | 4 => ("TidePost$Way", "flying", "I", false)
  | 5 => ("TidePost$Way", "flown", "I", false)
  | _ => ("TidePost$Way", "toLose", "I", false)
def tyX7 : Nat → FieldType := fun k => match k with
  | 0 => .array .int
  | 1 => .int
  | 2 => .int
  | 3 => .array .int
  | 4 => .int
  | 5 => .int
  | _ => .int
abbrev wsX70 : List Cond := u_ws RX7 TX7 7
theorem nmX7 : ∀ a, a < 7 → ∀ b, b < 7 → a ≠ b → (TX7 a).2.1 ≠ (TX7 b).2.1 := by decide +kernel
theorem tyX7_ok : ∀ k, k < 7 → parseFieldDescriptor (TX7 k).2.2.1 = some (tyX7 k) := by decide +kernel
abbrev cX7_init : ByteArray := prog_9_method_1_code
def yX7_init : MethodName := ⟨RX7, "<init>", "()V"⟩
abbrev cX7_join : ByteArray := prog_9_method_2_code
def yX7_join : MethodName := ⟨RX7, "join", "(II)Z"⟩
abbrev cX7_takeOff : ByteArray := prog_9_method_3_code
def yX7_takeOff : MethodName := ⟨RX7, "takeOff", "(I)Z"⟩
abbrev cX7_land : ByteArray := prog_9_method_4_code
def yX7_land : MethodName := ⟨RX7, "land", "(I)I"⟩
abbrev cX7_drop : ByteArray := prog_9_method_5_code
def yX7_drop : MethodName := ⟨RX7, "drop", "()I"⟩
abbrev cX7_copyFrom : ByteArray := prog_9_method_6_code
def yX7_copyFrom : MethodName := ⟨RX7, "copyFrom", "(LTidePost$Way;)V"⟩
def RX8 : String := "TidePost"
def TX8 : u_T := fun k => match k with
  | 0 => ("TidePost", "net", "LTidePost$Net;", true)
  | 1 => ("TidePost", "traffic", "LTidePost$Traffic;", true)
  | 2 => ("TidePost", "ahead", "LTidePost$Traffic;", true)
  | _ => ("TidePost", "values", "[[I", true)
def tyX8 : Nat → FieldType := fun k => match k with
  | 0 => .object "TidePost$Net"
  | 1 => .object "TidePost$Traffic"
  | 2 => .object "TidePost$Traffic"
  | _ => .array (.array .int)
abbrev wsX80 : List Cond := u_ws RX8 TX8 4
theorem nmX8 : ∀ a, a < 4 → ∀ b, b < 4 → a ≠ b → (TX8 a).2.1 ≠ (TX8 b).2.1 := by decide +kernel
theorem tyX8_ok : ∀ k, k < 4 → parseFieldDescriptor (TX8 k).2.2.1 = some (tyX8 k) := by decide +kernel
abbrev cX8_init : ByteArray := prog_1_method_1_code
def yX8_init : MethodName := ⟨RX8, "<init>", "()V"⟩
abbrev cX8_addNode : ByteArray := prog_1_method_2_code
def yX8_addNode : MethodName := ⟨RX8, "addNode", "()I"⟩
abbrev cX8_addLink : ByteArray := prog_1_method_3_code
def yX8_addLink : MethodName := ⟨RX8, "addLink", "(IIII)I"⟩
abbrev cX8_turn : ByteArray := prog_1_method_4_code
def yX8_turn : MethodName := ⟨RX8, "turn", "(I)I"⟩
abbrev cX8_lose : ByteArray := prog_1_method_5_code
def yX8_lose : MethodName := ⟨RX8, "lose", "(III)I"⟩
abbrev cX8_call : ByteArray := prog_1_method_6_code
def yX8_call : MethodName := ⟨RX8, "call", "(III)I"⟩
abbrev cX8_give : ByteArray := prog_1_method_7_code
def yX8_give : MethodName := ⟨RX8, "give", "(III)I"⟩
abbrev cX8_close : ByteArray := prog_1_method_8_code
def yX8_close : MethodName := ⟨RX8, "close", "(I)I"⟩
abbrev cX8_read : ByteArray := prog_1_method_9_code
def yX8_read : MethodName := ⟨RX8, "read", "(II)I"⟩
abbrev cX8_pass : ByteArray := prog_1_method_10_code
def yX8_pass : MethodName := ⟨RX8, "pass", "(I)I"⟩
abbrev cX8_clock : ByteArray := prog_1_method_11_code
def yX8_clock : MethodName := ⟨RX8, "clock", "()I"⟩
abbrev cX8_nodes : ByteArray := prog_1_method_12_code
def yX8_nodes : MethodName := ⟨RX8, "nodes", "()I"⟩
abbrev cX8_links : ByteArray := prog_1_method_13_code
def yX8_links : MethodName := ⟨RX8, "links", "()I"⟩
abbrev cX8_isUp : ByteArray := prog_1_method_14_code
def yX8_isUp : MethodName := ⟨RX8, "isUp", "(I)Z"⟩
abbrev cX8_distance : ByteArray := prog_1_method_15_code
def yX8_distance : MethodName := ⟨RX8, "distance", "(II)I"⟩
abbrev cX8_nextLink : ByteArray := prog_1_method_16_code
def yX8_nextLink : MethodName := ⟨RX8, "nextLink", "(II)I"⟩
abbrev cX8_queued : ByteArray := prog_1_method_17_code
def yX8_queued : MethodName := ⟨RX8, "queued", "(II)I"⟩
abbrev cX8_flying : ByteArray := prog_1_method_18_code
def yX8_flying : MethodName := ⟨RX8, "flying", "(II)I"⟩
abbrev cX8_lost : ByteArray := prog_1_method_20_code
def yX8_lost : MethodName := ⟨RX8, "lost", "()I"⟩
abbrev cX8_underWay : ByteArray := prog_1_method_21_code
def yX8_underWay : MethodName := ⟨RX8, "underWay", "()I"⟩
abbrev cX8_connections : ByteArray := prog_1_method_22_code
def yX8_connections : MethodName := ⟨RX8, "connections", "()I"⟩
abbrev cX8_stateOf : ByteArray := prog_1_method_23_code
def yX8_stateOf : MethodName := ⟨RX8, "stateOf", "(I)I"⟩
abbrev cX8_given : ByteArray := prog_1_method_24_code
def yX8_given : MethodName := ⟨RX8, "given", "(I)I"⟩
abbrev cX8_base : ByteArray := prog_1_method_25_code
def yX8_base : MethodName := ⟨RX8, "base", "(I)I"⟩
abbrev cX8_next : ByteArray := prog_1_method_26_code
def yX8_next : MethodName := ⟨RX8, "next", "(I)I"⟩
abbrev cX8_window : ByteArray := prog_1_method_27_code
def yX8_window : MethodName := ⟨RX8, "window", "(I)I"⟩
abbrev cX8_recover : ByteArray := prog_1_method_31_code
def yX8_recover : MethodName := ⟨RX8, "recover", "(I)I"⟩
abbrev cX8_timeout : ByteArray := prog_1_method_34_code
def yX8_timeout : MethodName := ⟨RX8, "timeout", "(I)I"⟩
abbrev cX8_timer : ByteArray := prog_1_method_35_code
def yX8_timer : MethodName := ⟨RX8, "timer", "(I)I"⟩
abbrev cX8_measured : ByteArray := prog_1_method_36_code
def yX8_measured : MethodName := ⟨RX8, "measured", "(I)I"⟩
abbrev cX8_tries : ByteArray := prog_1_method_37_code
def yX8_tries : MethodName := ⟨RX8, "tries", "(I)I"⟩
abbrev cX8_wanted : ByteArray := prog_1_method_39_code
def yX8_wanted : MethodName := ⟨RX8, "wanted", "(I)I"⟩
abbrev cX8_holds : ByteArray := prog_1_method_40_code
def yX8_holds : MethodName := ⟨RX8, "holds", "(II)Z"⟩
abbrev cX8_readable : ByteArray := prog_1_method_41_code
def yX8_readable : MethodName := ⟨RX8, "readable", "(I)I"⟩
abbrev cX8_hasRead : ByteArray := prog_1_method_42_code
def yX8_hasRead : MethodName := ⟨RX8, "hasRead", "(I)I"⟩
abbrev cX8_lostIn : ByteArray := prog_1_method_45_code
def yX8_lostIn : MethodName := ⟨RX8, "lostIn", "(I)I"⟩
abbrev cX8_digest : ByteArray := prog_1_method_47_code
def yX8_digest : MethodName := ⟨RX8, "digest", "()J"⟩
abbrev cX8_digestOfLink : ByteArray := prog_1_method_48_code
def yX8_digestOfLink : MethodName := ⟨RX8, "digestOfLink", "(JI)J"⟩
abbrev cX8_digestOfCaller : ByteArray := prog_1_method_49_code
def yX8_digestOfCaller : MethodName := ⟨RX8, "digestOfCaller", "(JLTidePost$Caller;)J"⟩
abbrev cX8_digestOfCallee : ByteArray := prog_1_method_50_code
def yX8_digestOfCallee : MethodName := ⟨RX8, "digestOfCallee", "(JLTidePost$Connection;)J"⟩
abbrev cX8_checkNode : ByteArray := prog_1_method_51_code
def yX8_checkNode : MethodName := ⟨RX8, "checkNode", "(I)V"⟩
abbrev cX8_checkLink : ByteArray := prog_1_method_52_code
def yX8_checkLink : MethodName := ⟨RX8, "checkLink", "(I)V"⟩
abbrev cX8_checkRange : ByteArray := prog_1_method_53_code
def yX8_checkRange : MethodName := ⟨RX8, "checkRange", "(III)V"⟩
abbrev cX8_checkTakesThings : ByteArray := prog_1_method_54_code
def yX8_checkTakesThings : MethodName := ⟨RX8, "checkTakesThings", "(LTidePost$Caller;)V"⟩
abbrev cX8_wayOf : ByteArray := prog_1_method_55_code
def yX8_wayOf : MethodName := ⟨RX8, "wayOf", "(II)LTidePost$Way;"⟩
abbrev cX8_connectionOf : ByteArray := prog_1_method_56_code
def yX8_connectionOf : MethodName := ⟨RX8, "connectionOf", "(I)LTidePost$Connection;"⟩
abbrev cX8_callerOf : ByteArray := prog_1_method_57_code
def yX8_callerOf : MethodName := ⟨RX8, "callerOf", "(I)LTidePost$Caller;"⟩
def RX9 : String := "TidePostModel$Row"
def TX9 : u_T := fun k => match k with
  | _ => ("", "", "", false)
def tyX9 : Nat → FieldType := fun k => match k with
  | _ => .int
abbrev wsX90 : List Cond := u_ws RX9 TX9 0
theorem nmX9 : ∀ a, a < 0 → ∀ b, b < 0 → a ≠ b → (TX9 a).2.1 ≠ (TX9 b).2.1 := by decide +kernel
theorem tyX9_ok : ∀ k, k < 0 → parseFieldDescriptor (TX9 k).2.2.1 = some (tyX9 k) := by decide +kernel
def RX10 : String := "TidePostModel$State"
def TX10 : u_T := fun k => match k with
  | _ => ("", "", "", false)
def tyX10 : Nat → FieldType := fun k => match k with
  | _ => .int
abbrev wsX100 : List Cond := u_ws RX10 TX10 0
theorem nmX10 : ∀ a, a < 0 → ∀ b, b < 0 → a ≠ b → (TX10 a).2.1 ≠ (TX10 b).2.1 := by decide +kernel
theorem tyX10_ok : ∀ k, k < 0 → parseFieldDescriptor (TX10 k).2.2.1 = some (tyX10 k) := by decide +kernel
def RX11 : String := "TidePostModel"
def TX11 : u_T := fun k => match k with
  | _ => ("", "", "", false)
def tyX11 : Nat → FieldType := fun k => match k with
  | _ => .int
abbrev wsX110 : List Cond := u_ws RX11 TX11 0
theorem nmX11 : ∀ a, a < 0 → ∀ b, b < 0 → a ≠ b → (TX11 a).2.1 ≠ (TX11 b).2.1 := by decide +kernel
theorem tyX11_ok : ∀ k, k < 0 → parseFieldDescriptor (TX11 k).2.2.1 = some (tyX11 k) := by decide +kernel
def RJx145de : String := "java/io/Serializable"
def TJx145de : u_T := fun k => match k with
  | _ => ("", "", "", false)
def tyJx145de : Nat → FieldType := fun k => match k with
  | _ => .int
abbrev wsJx145de0 : List Cond := u_ws RJx145de TJx145de 0
theorem nmJx145de : ∀ a, a < 0 → ∀ b, b < 0 → a ≠ b → (TJx145de a).2.1 ≠ (TJx145de b).2.1 := by decide +kernel
theorem tyJx145de_ok : ∀ k, k < 0 → parseFieldDescriptor (TJx145de k).2.2.1 = some (tyJx145de k) := by decide +kernel
def RJ9 : String := "java/lang/Math"
def TJ9 : u_T := fun k => match k with
  | _ => ("", "", "", false)
def tyJ9 : Nat → FieldType := fun k => match k with
  | _ => .int
abbrev wsJ90 : List Cond := u_ws RJ9 TJ9 0
theorem nmJ9 : ∀ a, a < 0 → ∀ b, b < 0 → a ≠ b → (TJ9 a).2.1 ≠ (TJ9 b).2.1 := by decide +kernel
theorem tyJ9_ok : ∀ k, k < 0 → parseFieldDescriptor (TJ9 k).2.2.1 = some (tyJ9 k) := by decide +kernel
abbrev cJ9_floorMod_7cf53 : ByteArray := prog_18_method_50_code
def yJ9_floorMod_7cf53 : MethodName := ⟨RJ9, "floorMod", "(II)I"⟩
abbrev cJ9_abs_0f7a4 : ByteArray := prog_18_method_59_code
def yJ9_abs_0f7a4 : MethodName := ⟨RJ9, "abs", "(I)I"⟩
abbrev cJ9_max_7cf53 : ByteArray := prog_18_method_65_code
def yJ9_max_7cf53 : MethodName := ⟨RJ9, "max", "(II)I"⟩
abbrev cJ9_min_7cf53 : ByteArray := prog_18_method_69_code
def yJ9_min_7cf53 : MethodName := ⟨RJ9, "min", "(II)I"⟩
def RJ0 : String := "java/lang/String"
def TJ0 : u_T := fun k => match k with
  | _ => ("", "", "", false)
def tyJ0 : Nat → FieldType := fun k => match k with
  | _ => .int
abbrev wsJ00 : List Cond := u_ws RJ0 TJ0 0
theorem nmJ0 : ∀ a, a < 0 → ∀ b, b < 0 → a ≠ b → (TJ0 a).2.1 ≠ (TJ0 b).2.1 := by decide +kernel
theorem tyJ0_ok : ∀ k, k < 0 → parseFieldDescriptor (TJ0 k).2.2.1 = some (tyJ0 k) := by decide +kernel
def RJ10 : String := "java/lang/System"
def TJ10 : u_T := fun k => match k with
  | _ => ("", "", "", false)
def tyJ10 : Nat → FieldType := fun k => match k with
  | _ => .int
abbrev wsJ100 : List Cond := u_ws RJ10 TJ10 0
theorem nmJ10 : ∀ a, a < 0 → ∀ b, b < 0 → a ≠ b → (TJ10 a).2.1 ≠ (TJ10 b).2.1 := by decide +kernel
theorem tyJ10_ok : ∀ k, k < 0 → parseFieldDescriptor (TJ10 k).2.2.1 = some (tyJ10 k) := by decide +kernel
def RL : String := "TidePostLaw"
abbrev cL_below : ByteArray := method_2_code
def yL_below : MethodName := ⟨RL, "below", "(II)I"⟩
abbrev cL_cell : ByteArray := method_3_code
def yL_cell : MethodName := ⟨RL, "cell", "([II)I"⟩
abbrev cL_law : ByteArray := code
def yL_law : MethodName := ⟨RL, "law", "([I)Z"⟩
abbrev cL_act : ByteArray := method_5_code
def yL_act : MethodName := ⟨RL, "act", "(LTidePost;II[I[I)Z"⟩
abbrev cL_isSound : ByteArray := method_6_code
def yL_isSound : MethodName := ⟨RL, "isSound", "(LTidePost;I)Z"⟩
def wsX0_init : List Cond := .code yX0_init cX0_init 1 none :: ([.methodLink RX0 3 objectInit, .instanceMethod objectInit, .code objectInit ⟨#[0xb1]⟩ 1 none, .arrayClass .boolean, .fieldLink RX0 9 "TidePost$Callee" "held" "[Z"] ++ wsX00)
def wsX0_spare : List Cond := .code yX0_spare cX0_spare 1 (some .int) :: ([.fieldLink RX0 15 "TidePost$Callee" "read" "I", .fieldLink RX0 19 "TidePost$Callee" "buffer" "I", .fieldLink RX0 22 "TidePost$Callee" "wanted" "I", .methodLink RX0 25 Lib.Math.max.name, .static Lib.Math.max.name, .initialized "java/lang/Math", .code Lib.Math.max.name Lib.Math.max.code 2 (some .int)] ++ wsX00)
def wsX0_take : List Cond := .code yX0_take cX0_take 3 (some .boolean) :: ([.fieldLink RX0 22 "TidePost$Callee" "wanted" "I", .fieldLink RX0 9 "TidePost$Callee" "held" "[Z", .fieldLink RX0 15 "TidePost$Callee" "read" "I", .fieldLink RX0 19 "TidePost$Callee" "buffer" "I"] ++ wsX00)
def wsX0_copyFrom : List Cond := .code yX0_copyFrom cX0_copyFrom 2 none :: ([.fieldLink RX0 19 "TidePost$Callee" "buffer" "I", .fieldLink RX0 22 "TidePost$Callee" "wanted" "I", .fieldLink RX0 15 "TidePost$Callee" "read" "I", .fieldLink RX0 9 "TidePost$Callee" "held" "[Z", .methodLink RX0 31 arraycopyName, .native arraycopyName, .static arraycopyName, .initialized "java/lang/System"] ++ wsX00)
def wsX5_init : List Cond := .code yX5_init cX5_init 1 none :: ([.methodLink RX5 3 objectInit, .instanceMethod objectInit, .code objectInit ⟨#[0xb1]⟩ 1 none])
def wsX1_init : List Cond := .code yX1_init cX1_init 1 none :: ([.methodLink RX1 3 objectInit, .instanceMethod objectInit, .code objectInit ⟨#[0xb1]⟩ 1 none, .classLink RX1 9 RX5, .instantiable RX5 5, .initialized RX5, .fieldLink RX1 12 "TidePost$Caller" "timing" "LTidePost$Timing;", .instanceMethod yX5_init, .code yX5_init cX5_init 1 none, .methodLink RX5 3 objectInit] ++ wsX50 ++ wsX10)
def wsX5_begin : List Cond := .code yX5_begin cX5_begin 1 none :: ([.fieldLink RX5 9 "TidePost$Timing" "round" "I", .fieldLink RX5 15 "TidePost$Timing" "swing" "I", .fieldLink RX5 18 "TidePost$Timing" "timeout" "I", .fieldLink RX5 21 "TidePost$Timing" "measured" "I", .fieldLink RX5 24 "TidePost$Timing" "measuredAt" "I"] ++ wsX50)
def wsX1_begin : List Cond := .code yX1_begin cX1_begin 3 none :: ([.fieldLink RX1 18 "TidePost$Caller" "state" "I", .fieldLink RX1 22 "TidePost$Caller" "window" "I", .fieldLink RX1 25 "TidePost$Caller" "threshold" "I", .fieldLink RX1 28 "TidePost$Caller" "room" "I", .fieldLink RX1 31 "TidePost$Caller" "recover" "I", .fieldLink RX1 12 "TidePost$Caller" "timing" "LTidePost$Timing;", .fieldLink RX1 37 "TidePost$Timing" "timeout" "I", .fieldLink RX1 40 "TidePost$Caller" "timer" "I", .methodLink RX1 34 yX5_begin, .instanceMethod yX5_begin, .selects RX5 yX5_begin yX5_begin, .initialized RX5, .code yX5_begin cX5_begin 1 none, .fieldLink RX5 9 "TidePost$Timing" "round" "I", .fieldLink RX5 15 "TidePost$Timing" "swing" "I", .fieldLink RX5 18 "TidePost$Timing" "timeout" "I", .fieldLink RX5 21 "TidePost$Timing" "measured" "I", .fieldLink RX5 24 "TidePost$Timing" "measuredAt" "I"] ++ wsX10 ++ wsX50)
def wsX1_things : List Cond := .code yX1_things cX1_things 1 (some .int) :: ([.fieldLink RX1 43 "TidePost$Caller" "toldToClose" "Z", .fieldLink RX1 47 "TidePost$Caller" "given" "I"] ++ wsX10)
def wsX1_maySend : List Cond := .code yX1_maySend cX1_maySend 3 (some .boolean) :: ([.fieldLink RX1 50 "TidePost$Caller" "next" "I", .fieldLink RX1 53 "TidePost$Caller" "base" "I", .fieldLink RX1 18 "TidePost$Caller" "state" "I", .fieldLink RX1 22 "TidePost$Caller" "window" "I", .fieldLink RX1 47 "TidePost$Caller" "given" "I", .fieldLink RX1 28 "TidePost$Caller" "room" "I", .methodLink RX1 56 yX1_things, .instanceMethod yX1_things, .selects RX1 yX1_things yX1_things, .initialized RX1, .code yX1_things cX1_things 1 (some .int), .fieldLink RX1 43 "TidePost$Caller" "toldToClose" "Z"] ++ wsX10)
def wsX5_sent : List Cond := .code yX5_sent cX5_sent 3 none :: ([.fieldLink RX5 21 "TidePost$Timing" "measured" "I", .fieldLink RX5 24 "TidePost$Timing" "measuredAt" "I"] ++ wsX50)
def wsX1_sent : List Cond := .code yX1_sent cX1_sent 2 none :: ([.fieldLink RX1 12 "TidePost$Caller" "timing" "LTidePost$Timing;", .fieldLink RX1 50 "TidePost$Caller" "next" "I", .fieldLink RX1 40 "TidePost$Caller" "timer" "I", .fieldLink RX1 37 "TidePost$Timing" "timeout" "I", .methodLink RX1 60 yX5_sent, .instanceMethod yX5_sent, .selects RX5 yX5_sent yX5_sent, .initialized RX5, .code yX5_sent cX5_sent 3 none, .fieldLink RX5 21 "TidePost$Timing" "measured" "I", .fieldLink RX5 24 "TidePost$Timing" "measuredAt" "I"] ++ wsX10 ++ wsX50)
def wsX5_answered : List Cond := .code yX5_answered cX5_answered 5 none :: ([.fieldLink RX5 21 "TidePost$Timing" "measured" "I", .fieldLink RX5 24 "TidePost$Timing" "measuredAt" "I", .fieldLink RX5 9 "TidePost$Timing" "round" "I", .fieldLink RX5 15 "TidePost$Timing" "swing" "I", .methodLink RX5 27 Lib.Math.abs.name, .static Lib.Math.abs.name, .initialized "java/lang/Math", .code Lib.Math.abs.name Lib.Math.abs.code 1 (some .int), .methodLink RX5 33 Lib.Math.max.name, .static Lib.Math.max.name, .code Lib.Math.max.name Lib.Math.max.code 2 (some .int), .methodLink RX5 37 Lib.Math.min.name, .static Lib.Math.min.name, .code Lib.Math.min.name Lib.Math.min.code 2 (some .int), .fieldLink RX5 18 "TidePost$Timing" "timeout" "I"] ++ wsX50)
def wsX1_growWindow : List Cond := .code yX1_growWindow cX1_growWindow 2 none :: ([.fieldLink RX1 22 "TidePost$Caller" "window" "I", .fieldLink RX1 25 "TidePost$Caller" "threshold" "I", .methodLink RX1 84 Lib.Math.max.name, .static Lib.Math.max.name, .initialized "java/lang/Math", .code Lib.Math.max.name Lib.Math.max.code 2 (some .int), .methodLink RX1 90 Lib.Math.min.name, .static Lib.Math.min.name, .code Lib.Math.min.name Lib.Math.min.code 2 (some .int)] ++ wsX10)
def wsX1_advance_r1 : List Cond := [Cond.fieldLink RX1 12 "TidePost$Caller" "timing" "LTidePost$Timing;", Cond.fieldLink RX1 53 "TidePost$Caller" "base" "I", Cond.fieldLink RX1 28 "TidePost$Caller" "room" "I", Cond.fieldLink RX1 78 "TidePost$Caller" "like" "I", Cond.fieldLink RX1 31 "TidePost$Caller" "recover" "I", Cond.fieldLink RX1 50 "TidePost$Caller" "next" "I", Cond.fieldLink RX1 37 "TidePost$Timing" "timeout" "I", Cond.fieldLink RX1 40 "TidePost$Caller" "timer" "I", Cond.fieldLink RX1 47 "TidePost$Caller" "given" "I", Cond.fieldLink RX1 18 "TidePost$Caller" "state" "I", Cond.methodLink RX1 75 yX5_answered, Cond.instanceMethod yX5_answered, Cond.selects RX5 yX5_answered yX5_answered, Cond.initialized RX5, Cond.code yX5_answered cX5_answered 5 none, Cond.fieldLink RX5 21 "TidePost$Timing" "measured" "I", Cond.fieldLink RX5 24 "TidePost$Timing" "measuredAt" "I", Cond.fieldLink RX5 9 "TidePost$Timing" "round" "I", Cond.fieldLink RX5 15 "TidePost$Timing" "swing" "I", Cond.methodLink RX5 27 Lib.Math.abs.name, Cond.static Lib.Math.abs.name, Cond.initialized "java/lang/Math", Cond.code Lib.Math.abs.name Lib.Math.abs.code 1 (some .int), Cond.methodLink RX5 33 Lib.Math.max.name]
def wsX1_advance_r2 : List Cond := [Cond.static Lib.Math.max.name, Cond.code Lib.Math.max.name Lib.Math.max.code 2 (some .int), Cond.methodLink RX5 37 Lib.Math.min.name, Cond.static Lib.Math.min.name, Cond.code Lib.Math.min.name Lib.Math.min.code 2 (some .int), Cond.fieldLink RX5 18 "TidePost$Timing" "timeout" "I", Cond.methodLink RX1 81 yX1_growWindow, Cond.instanceMethod yX1_growWindow, Cond.selects RX1 yX1_growWindow yX1_growWindow, Cond.initialized RX1, Cond.code yX1_growWindow cX1_growWindow 2 none, Cond.fieldLink RX1 22 "TidePost$Caller" "window" "I", Cond.fieldLink RX1 25 "TidePost$Caller" "threshold" "I", Cond.methodLink RX1 84 Lib.Math.max.name, Cond.methodLink RX1 90 Lib.Math.min.name]
def wsX1_advance : List Cond := .code yX1_advance cX1_advance 5 (some .boolean) :: ((wsX1_advance_r1 ++ wsX1_advance_r2) ++ wsX10 ++ wsX50)
def wsX1_startRecovery : List Cond := .code yX1_startRecovery cX1_startRecovery 1 none :: ([.fieldLink RX1 50 "TidePost$Caller" "next" "I", .fieldLink RX1 31 "TidePost$Caller" "recover" "I", .fieldLink RX1 53 "TidePost$Caller" "base" "I", .methodLink RX1 84 Lib.Math.max.name, .static Lib.Math.max.name, .initialized "java/lang/Math", .code Lib.Math.max.name Lib.Math.max.code 2 (some .int), .fieldLink RX1 25 "TidePost$Caller" "threshold" "I"] ++ wsX10)
def wsX1_repeated : List Cond := .code yX1_repeated cX1_repeated 2 (some .boolean) :: ([.fieldLink RX1 28 "TidePost$Caller" "room" "I", .fieldLink RX1 78 "TidePost$Caller" "like" "I", .fieldLink RX1 31 "TidePost$Caller" "recover" "I", .fieldLink RX1 25 "TidePost$Caller" "threshold" "I", .fieldLink RX1 22 "TidePost$Caller" "window" "I", .methodLink RX1 93 yX1_startRecovery, .instanceMethod yX1_startRecovery, .selects RX1 yX1_startRecovery yX1_startRecovery, .initialized RX1, .code yX1_startRecovery cX1_startRecovery 1 none, .fieldLink RX1 50 "TidePost$Caller" "next" "I", .fieldLink RX1 53 "TidePost$Caller" "base" "I", .methodLink RX1 84 Lib.Math.max.name, .static Lib.Math.max.name, .initialized "java/lang/Math", .code Lib.Math.max.name Lib.Math.max.code 2 (some .int)] ++ wsX10)
def wsX1_takeAnswer_r1 : List Cond := [Cond.fieldLink RX1 18 "TidePost$Caller" "state" "I", Cond.fieldLink RX1 64 "TidePost$Caller" "tries" "I", Cond.fieldLink RX1 40 "TidePost$Caller" "timer" "I", Cond.fieldLink RX1 53 "TidePost$Caller" "base" "I", Cond.fieldLink RX1 50 "TidePost$Caller" "next" "I", Cond.fieldLink RX1 28 "TidePost$Caller" "room" "I", Cond.methodLink RX1 67 yX1_advance, Cond.instanceMethod yX1_advance, Cond.selects RX1 yX1_advance yX1_advance, Cond.initialized RX1, Cond.code yX1_advance cX1_advance 5 (some .boolean), Cond.fieldLink RX1 12 "TidePost$Caller" "timing" "LTidePost$Timing;", Cond.fieldLink RX1 78 "TidePost$Caller" "like" "I", Cond.fieldLink RX1 31 "TidePost$Caller" "recover" "I", Cond.fieldLink RX1 37 "TidePost$Timing" "timeout" "I", Cond.fieldLink RX1 47 "TidePost$Caller" "given" "I", Cond.methodLink RX1 75 yX5_answered, Cond.instanceMethod yX5_answered, Cond.selects RX5 yX5_answered yX5_answered, Cond.initialized RX5, Cond.code yX5_answered cX5_answered 5 none, Cond.fieldLink RX5 21 "TidePost$Timing" "measured" "I", Cond.fieldLink RX5 24 "TidePost$Timing" "measuredAt" "I", Cond.fieldLink RX5 9 "TidePost$Timing" "round" "I"]
def wsX1_takeAnswer_r2 : List Cond := [Cond.fieldLink RX5 15 "TidePost$Timing" "swing" "I", Cond.methodLink RX5 27 Lib.Math.abs.name, Cond.static Lib.Math.abs.name, Cond.initialized "java/lang/Math", Cond.code Lib.Math.abs.name Lib.Math.abs.code 1 (some .int), Cond.methodLink RX5 33 Lib.Math.max.name, Cond.static Lib.Math.max.name, Cond.code Lib.Math.max.name Lib.Math.max.code 2 (some .int), Cond.methodLink RX5 37 Lib.Math.min.name, Cond.static Lib.Math.min.name, Cond.code Lib.Math.min.name Lib.Math.min.code 2 (some .int), Cond.fieldLink RX5 18 "TidePost$Timing" "timeout" "I", Cond.methodLink RX1 81 yX1_growWindow, Cond.instanceMethod yX1_growWindow, Cond.selects RX1 yX1_growWindow yX1_growWindow, Cond.code yX1_growWindow cX1_growWindow 2 none, Cond.fieldLink RX1 22 "TidePost$Caller" "window" "I", Cond.fieldLink RX1 25 "TidePost$Caller" "threshold" "I", Cond.methodLink RX1 84 Lib.Math.max.name, Cond.methodLink RX1 90 Lib.Math.min.name, Cond.methodLink RX1 71 yX1_repeated, Cond.instanceMethod yX1_repeated, Cond.selects RX1 yX1_repeated yX1_repeated, Cond.code yX1_repeated cX1_repeated 2 (some .boolean)]
def wsX1_takeAnswer_r3 : List Cond := [Cond.methodLink RX1 93 yX1_startRecovery, Cond.instanceMethod yX1_startRecovery, Cond.selects RX1 yX1_startRecovery yX1_startRecovery, Cond.code yX1_startRecovery cX1_startRecovery 1 none]
def wsX1_takeAnswer : List Cond := .code yX1_takeAnswer cX1_takeAnswer 4 (some .boolean) :: ((wsX1_takeAnswer_r1 ++ (wsX1_takeAnswer_r2 ++ wsX1_takeAnswer_r3)) ++ wsX10 ++ wsX50)
def wsX5_backOff : List Cond := .code yX5_backOff cX5_backOff 1 none :: ([.fieldLink RX5 18 "TidePost$Timing" "timeout" "I", .methodLink RX5 37 Lib.Math.min.name, .static Lib.Math.min.name, .initialized "java/lang/Math", .code Lib.Math.min.name Lib.Math.min.code 2 (some .int), .fieldLink RX5 21 "TidePost$Timing" "measured" "I"] ++ wsX50)
def wsX1_runOut_r1 : List Cond := [Cond.fieldLink RX1 40 "TidePost$Caller" "timer" "I", Cond.fieldLink RX1 64 "TidePost$Caller" "tries" "I", Cond.fieldLink RX1 18 "TidePost$Caller" "state" "I", Cond.fieldLink RX1 12 "TidePost$Caller" "timing" "LTidePost$Timing;", Cond.fieldLink RX1 22 "TidePost$Caller" "window" "I", Cond.fieldLink RX1 78 "TidePost$Caller" "like" "I", Cond.fieldLink RX1 37 "TidePost$Timing" "timeout" "I", Cond.methodLink RX1 96 yX5_backOff, Cond.instanceMethod yX5_backOff, Cond.selects RX5 yX5_backOff yX5_backOff, Cond.initialized RX5, Cond.code yX5_backOff cX5_backOff 1 none, Cond.fieldLink RX5 18 "TidePost$Timing" "timeout" "I", Cond.methodLink RX5 37 Lib.Math.min.name, Cond.static Lib.Math.min.name, Cond.initialized "java/lang/Math", Cond.code Lib.Math.min.name Lib.Math.min.code 2 (some .int), Cond.fieldLink RX5 21 "TidePost$Timing" "measured" "I", Cond.methodLink RX1 93 yX1_startRecovery, Cond.instanceMethod yX1_startRecovery, Cond.selects RX1 yX1_startRecovery yX1_startRecovery, Cond.initialized RX1, Cond.code yX1_startRecovery cX1_startRecovery 1 none, Cond.fieldLink RX1 50 "TidePost$Caller" "next" "I"]
def wsX1_runOut_r2 : List Cond := [Cond.fieldLink RX1 31 "TidePost$Caller" "recover" "I", Cond.fieldLink RX1 53 "TidePost$Caller" "base" "I", Cond.methodLink RX1 84 Lib.Math.max.name, Cond.static Lib.Math.max.name, Cond.code Lib.Math.max.name Lib.Math.max.code 2 (some .int), Cond.fieldLink RX1 25 "TidePost$Caller" "threshold" "I"]
def wsX1_runOut : List Cond := .code yX1_runOut cX1_runOut 2 (some .boolean) :: ((wsX1_runOut_r1 ++ wsX1_runOut_r2) ++ wsX10 ++ wsX50)
def wsX5_sentTwice : List Cond := .code yX5_sentTwice cX5_sentTwice 2 none :: ([.fieldLink RX5 21 "TidePost$Timing" "measured" "I"] ++ wsX50)
def wsX1_baseAgain : List Cond := .code yX1_baseAgain cX1_baseAgain 1 (some .int) :: ([.fieldLink RX1 99 "TidePost$Caller" "sentAgain" "I", .fieldLink RX1 12 "TidePost$Caller" "timing" "LTidePost$Timing;", .fieldLink RX1 53 "TidePost$Caller" "base" "I", .methodLink RX1 102 yX5_sentTwice, .instanceMethod yX5_sentTwice, .selects RX5 yX5_sentTwice yX5_sentTwice, .initialized RX5, .code yX5_sentTwice cX5_sentTwice 2 none, .fieldLink RX5 21 "TidePost$Timing" "measured" "I"] ++ wsX10 ++ wsX50)
def wsX5_copyFrom : List Cond := .code yX5_copyFrom cX5_copyFrom 2 none :: ([.fieldLink RX5 9 "TidePost$Timing" "round" "I", .fieldLink RX5 15 "TidePost$Timing" "swing" "I", .fieldLink RX5 18 "TidePost$Timing" "timeout" "I", .fieldLink RX5 21 "TidePost$Timing" "measured" "I", .fieldLink RX5 24 "TidePost$Timing" "measuredAt" "I"] ++ wsX50)
def wsX1_copyFrom : List Cond := .code yX1_copyFrom cX1_copyFrom 2 none :: ([.fieldLink RX1 18 "TidePost$Caller" "state" "I", .fieldLink RX1 47 "TidePost$Caller" "given" "I", .fieldLink RX1 43 "TidePost$Caller" "toldToClose" "Z", .fieldLink RX1 53 "TidePost$Caller" "base" "I", .fieldLink RX1 50 "TidePost$Caller" "next" "I", .fieldLink RX1 22 "TidePost$Caller" "window" "I", .fieldLink RX1 25 "TidePost$Caller" "threshold" "I", .fieldLink RX1 28 "TidePost$Caller" "room" "I", .fieldLink RX1 78 "TidePost$Caller" "like" "I", .fieldLink RX1 31 "TidePost$Caller" "recover" "I", .fieldLink RX1 40 "TidePost$Caller" "timer" "I", .fieldLink RX1 64 "TidePost$Caller" "tries" "I", .fieldLink RX1 99 "TidePost$Caller" "sentAgain" "I", .fieldLink RX1 12 "TidePost$Caller" "timing" "LTidePost$Timing;", .methodLink RX1 106 yX5_copyFrom, .instanceMethod yX5_copyFrom, .selects RX5 yX5_copyFrom yX5_copyFrom, .initialized RX5, .code yX5_copyFrom cX5_copyFrom 2 none, .fieldLink RX5 9 "TidePost$Timing" "round" "I", .fieldLink RX5 15 "TidePost$Timing" "swing" "I", .fieldLink RX5 18 "TidePost$Timing" "timeout" "I", .fieldLink RX5 21 "TidePost$Timing" "measured" "I", .fieldLink RX5 24 "TidePost$Timing" "measuredAt" "I"] ++ wsX10 ++ wsX50)
def wsX2_init_r1 : List Cond := [Cond.methodLink RX2 1 objectInit, Cond.instanceMethod objectInit, Cond.code objectInit ⟨#[0xb1]⟩ 1 none, Cond.classLink RX2 7 RX1, Cond.instantiable RX1 14, Cond.initialized RX1, Cond.fieldLink RX2 10 "TidePost$Connection" "caller" "LTidePost$Caller;", Cond.classLink RX2 16 RX0, Cond.instantiable RX0 4, Cond.initialized RX0, Cond.fieldLink RX2 19 "TidePost$Connection" "callee" "LTidePost$Callee;", Cond.instanceMethod yX1_init, Cond.code yX1_init cX1_init 1 none, Cond.methodLink RX1 3 objectInit, Cond.classLink RX1 9 RX5, Cond.instantiable RX5 5, Cond.initialized RX5, Cond.fieldLink RX1 12 "TidePost$Caller" "timing" "LTidePost$Timing;", Cond.instanceMethod yX5_init, Cond.code yX5_init cX5_init 1 none, Cond.methodLink RX5 3 objectInit, Cond.instanceMethod yX0_init, Cond.code yX0_init cX0_init 1 none, Cond.methodLink RX0 3 objectInit]
def wsX2_init_r2 : List Cond := [Cond.arrayClass .boolean, Cond.fieldLink RX0 9 "TidePost$Callee" "held" "[Z"]
def wsX2_init : List Cond := .code yX2_init cX2_init 1 none :: ((wsX2_init_r1 ++ wsX2_init_r2) ++ wsX10 ++ wsX20 ++ wsX00 ++ wsX50)
def wsX2_unread : List Cond := .code yX2_unread cX2_unread 1 (some .int) :: ([.fieldLink RX2 19 "TidePost$Connection" "callee" "LTidePost$Callee;", .fieldLink RX2 23 "TidePost$Callee" "wanted" "I", .fieldLink RX2 10 "TidePost$Connection" "caller" "LTidePost$Caller;", .fieldLink RX2 27 "TidePost$Caller" "given" "I", .methodLink RX2 30 Lib.Math.min.name, .static Lib.Math.min.name, .initialized "java/lang/Math", .code Lib.Math.min.name Lib.Math.min.code 2 (some .int), .fieldLink RX2 36 "TidePost$Callee" "read" "I"] ++ wsX20 ++ wsX00 ++ wsX10)
def wsX2_copyFrom_r1 : List Cond := [Cond.fieldLink RX2 39 "TidePost$Connection" "callerNode" "I", Cond.fieldLink RX2 42 "TidePost$Connection" "calleeNode" "I", Cond.fieldLink RX2 10 "TidePost$Connection" "caller" "LTidePost$Caller;", Cond.fieldLink RX2 19 "TidePost$Connection" "callee" "LTidePost$Callee;", Cond.methodLink RX2 45 yX1_copyFrom, Cond.instanceMethod yX1_copyFrom, Cond.selects RX1 yX1_copyFrom yX1_copyFrom, Cond.initialized RX1, Cond.code yX1_copyFrom cX1_copyFrom 2 none, Cond.fieldLink RX1 18 "TidePost$Caller" "state" "I", Cond.fieldLink RX1 47 "TidePost$Caller" "given" "I", Cond.fieldLink RX1 43 "TidePost$Caller" "toldToClose" "Z", Cond.fieldLink RX1 53 "TidePost$Caller" "base" "I", Cond.fieldLink RX1 50 "TidePost$Caller" "next" "I", Cond.fieldLink RX1 22 "TidePost$Caller" "window" "I", Cond.fieldLink RX1 25 "TidePost$Caller" "threshold" "I", Cond.fieldLink RX1 28 "TidePost$Caller" "room" "I", Cond.fieldLink RX1 78 "TidePost$Caller" "like" "I", Cond.fieldLink RX1 31 "TidePost$Caller" "recover" "I", Cond.fieldLink RX1 40 "TidePost$Caller" "timer" "I", Cond.fieldLink RX1 64 "TidePost$Caller" "tries" "I", Cond.fieldLink RX1 99 "TidePost$Caller" "sentAgain" "I", Cond.fieldLink RX1 12 "TidePost$Caller" "timing" "LTidePost$Timing;", Cond.methodLink RX1 106 yX5_copyFrom]
def wsX2_copyFrom_r2 : List Cond := [Cond.instanceMethod yX5_copyFrom, Cond.selects RX5 yX5_copyFrom yX5_copyFrom, Cond.initialized RX5, Cond.code yX5_copyFrom cX5_copyFrom 2 none, Cond.fieldLink RX5 9 "TidePost$Timing" "round" "I", Cond.fieldLink RX5 15 "TidePost$Timing" "swing" "I", Cond.fieldLink RX5 18 "TidePost$Timing" "timeout" "I", Cond.fieldLink RX5 21 "TidePost$Timing" "measured" "I", Cond.fieldLink RX5 24 "TidePost$Timing" "measuredAt" "I", Cond.methodLink RX2 49 yX0_copyFrom, Cond.instanceMethod yX0_copyFrom, Cond.selects RX0 yX0_copyFrom yX0_copyFrom, Cond.initialized RX0, Cond.code yX0_copyFrom cX0_copyFrom 2 none, Cond.fieldLink RX0 19 "TidePost$Callee" "buffer" "I", Cond.fieldLink RX0 22 "TidePost$Callee" "wanted" "I", Cond.fieldLink RX0 15 "TidePost$Callee" "read" "I", Cond.fieldLink RX0 9 "TidePost$Callee" "held" "[Z", Cond.methodLink RX0 31 arraycopyName, Cond.native arraycopyName, Cond.static arraycopyName, Cond.initialized "java/lang/System"]
def wsX2_copyFrom : List Cond := .code yX2_copyFrom cX2_copyFrom 2 none :: ((wsX2_copyFrom_r1 ++ wsX2_copyFrom_r2) ++ wsX20 ++ wsX10 ++ wsX50 ++ wsX00)
def wsX3_init : List Cond := .code yX3_init cX3_init 1 none :: ([.methodLink RX3 3 objectInit, .instanceMethod objectInit, .code objectInit ⟨#[0xb1]⟩ 1 none, .arrayClass .int, .fieldLink RX3 9 "TidePost$Net" "firsts" "[I", .fieldLink RX3 15 "TidePost$Net" "seconds" "[I", .fieldLink RX3 18 "TidePost$Net" "delays" "[I", .fieldLink RX3 21 "TidePost$Net" "rooms" "[I", .arrayClass .boolean, .fieldLink RX3 24 "TidePost$Net" "up" "[Z", .classLink RX3 28 "[[I", .fieldLink RX3 30 "TidePost$Net" "distances" "[[I", .fieldLink RX3 33 "TidePost$Net" "trial" "[I"] ++ wsX30)
def wsX3_shorten : List Cond := .code yX3_shorten cX3_shorten 4 (some .boolean) :: ([])
def wsX3_spread : List Cond := .code yX3_spread cX3_spread 9 none :: ([.fieldLink RX3 36 "TidePost$Net" "nodes" "I", .fieldLink RX3 43 "TidePost$Net" "links" "I", .fieldLink RX3 24 "TidePost$Net" "up" "[Z", .fieldLink RX3 9 "TidePost$Net" "firsts" "[I", .fieldLink RX3 15 "TidePost$Net" "seconds" "[I", .fieldLink RX3 18 "TidePost$Net" "delays" "[I", .methodLink RX3 54 yX3_shorten, .static yX3_shorten, .initialized RX3, .code yX3_shorten cX3_shorten 4 (some .boolean)] ++ wsX30)
def wsX3_measureRoutes : List Cond := .code yX3_measureRoutes cX3_measureRoutes 2 none :: ([.fieldLink RX3 36 "TidePost$Net" "nodes" "I", .fieldLink RX3 30 "TidePost$Net" "distances" "[[I", .methodLink RX3 50 yX3_spread, .instanceMethod yX3_spread, .selects RX3 yX3_spread yX3_spread, .initialized RX3, .code yX3_spread cX3_spread 9 none, .fieldLink RX3 43 "TidePost$Net" "links" "I", .fieldLink RX3 24 "TidePost$Net" "up" "[Z", .fieldLink RX3 9 "TidePost$Net" "firsts" "[I", .fieldLink RX3 15 "TidePost$Net" "seconds" "[I", .fieldLink RX3 18 "TidePost$Net" "delays" "[I", .methodLink RX3 54 yX3_shorten, .static yX3_shorten, .code yX3_shorten cX3_shorten 4 (some .boolean)] ++ wsX30)
def wsX3_layNode : List Cond := .code yX3_layNode cX3_layNode 1 (some .int) :: ([.fieldLink RX3 36 "TidePost$Net" "nodes" "I", .methodLink RX3 40 yX3_measureRoutes, .instanceMethod yX3_measureRoutes, .selects RX3 yX3_measureRoutes yX3_measureRoutes, .initialized RX3, .code yX3_measureRoutes cX3_measureRoutes 2 none, .fieldLink RX3 30 "TidePost$Net" "distances" "[[I", .methodLink RX3 50 yX3_spread, .instanceMethod yX3_spread, .selects RX3 yX3_spread yX3_spread, .code yX3_spread cX3_spread 9 none, .fieldLink RX3 43 "TidePost$Net" "links" "I", .fieldLink RX3 24 "TidePost$Net" "up" "[Z", .fieldLink RX3 9 "TidePost$Net" "firsts" "[I", .fieldLink RX3 15 "TidePost$Net" "seconds" "[I", .fieldLink RX3 18 "TidePost$Net" "delays" "[I", .methodLink RX3 54 yX3_shorten, .static yX3_shorten, .code yX3_shorten cX3_shorten 4 (some .boolean)] ++ wsX30)
def wsX3_layLink : List Cond := .code yX3_layLink cX3_layLink 6 (some .int) :: ([.fieldLink RX3 43 "TidePost$Net" "links" "I", .fieldLink RX3 9 "TidePost$Net" "firsts" "[I", .fieldLink RX3 15 "TidePost$Net" "seconds" "[I", .fieldLink RX3 18 "TidePost$Net" "delays" "[I", .fieldLink RX3 21 "TidePost$Net" "rooms" "[I", .fieldLink RX3 24 "TidePost$Net" "up" "[Z", .methodLink RX3 40 yX3_measureRoutes, .instanceMethod yX3_measureRoutes, .selects RX3 yX3_measureRoutes yX3_measureRoutes, .initialized RX3, .code yX3_measureRoutes cX3_measureRoutes 2 none, .fieldLink RX3 36 "TidePost$Net" "nodes" "I", .fieldLink RX3 30 "TidePost$Net" "distances" "[[I", .methodLink RX3 50 yX3_spread, .instanceMethod yX3_spread, .selects RX3 yX3_spread yX3_spread, .code yX3_spread cX3_spread 9 none, .methodLink RX3 54 yX3_shorten, .static yX3_shorten, .code yX3_shorten cX3_shorten 4 (some .boolean)] ++ wsX30)
def wsX3_flip : List Cond := .code yX3_flip cX3_flip 2 none :: ([.fieldLink RX3 24 "TidePost$Net" "up" "[Z", .methodLink RX3 40 yX3_measureRoutes, .instanceMethod yX3_measureRoutes, .selects RX3 yX3_measureRoutes yX3_measureRoutes, .initialized RX3, .code yX3_measureRoutes cX3_measureRoutes 2 none, .fieldLink RX3 36 "TidePost$Net" "nodes" "I", .fieldLink RX3 30 "TidePost$Net" "distances" "[[I", .methodLink RX3 50 yX3_spread, .instanceMethod yX3_spread, .selects RX3 yX3_spread yX3_spread, .code yX3_spread cX3_spread 9 none, .fieldLink RX3 43 "TidePost$Net" "links" "I", .fieldLink RX3 9 "TidePost$Net" "firsts" "[I", .fieldLink RX3 15 "TidePost$Net" "seconds" "[I", .fieldLink RX3 18 "TidePost$Net" "delays" "[I", .methodLink RX3 54 yX3_shorten, .static yX3_shorten, .code yX3_shorten cX3_shorten 4 (some .boolean)] ++ wsX30)
def wsX3_farEnd : List Cond := .code yX3_farEnd cX3_farEnd 3 (some .int) :: ([.fieldLink RX3 9 "TidePost$Net" "firsts" "[I", .fieldLink RX3 15 "TidePost$Net" "seconds" "[I"] ++ wsX30)
def wsX3_joins : List Cond := .code yX3_joins cX3_joins 4 (some .boolean) :: ([.fieldLink RX3 43 "TidePost$Net" "links" "I", .methodLink RX3 46 yX3_farEnd, .instanceMethod yX3_farEnd, .selects RX3 yX3_farEnd yX3_farEnd, .initialized RX3, .code yX3_farEnd cX3_farEnd 3 (some .int), .fieldLink RX3 9 "TidePost$Net" "firsts" "[I", .fieldLink RX3 15 "TidePost$Net" "seconds" "[I"] ++ wsX30)
def wsX3_linkTowards : List Cond := .code yX3_linkTowards cX3_linkTowards 6 (some .int) :: ([.fieldLink RX3 30 "TidePost$Net" "distances" "[[I", .fieldLink RX3 43 "TidePost$Net" "links" "I", .fieldLink RX3 24 "TidePost$Net" "up" "[Z", .fieldLink RX3 18 "TidePost$Net" "delays" "[I", .methodLink RX3 46 yX3_farEnd, .instanceMethod yX3_farEnd, .selects RX3 yX3_farEnd yX3_farEnd, .initialized RX3, .code yX3_farEnd cX3_farEnd 3 (some .int), .fieldLink RX3 9 "TidePost$Net" "firsts" "[I", .fieldLink RX3 15 "TidePost$Net" "seconds" "[I"] ++ wsX30)
def wsX4_of : List Cond := .code yX4_of cX4_of 4 (some .int) :: ([])
def wsX4_hopsOf : List Cond := .code yX4_hopsOf cX4_hopsOf 1 (some .int) :: ([])
def wsX4_connectionOf : List Cond := .code yX4_connectionOf cX4_connectionOf 1 (some .int) :: ([])
def wsX4_kindOf : List Cond := .code yX4_kindOf cX4_kindOf 1 (some .int) :: ([])
def wsX4_numberOf : List Cond := .code yX4_numberOf cX4_numberOf 1 (some .int) :: ([])
def wsX4_roomOf : List Cond := .code yX4_roomOf cX4_roomOf 1 (some .int) :: ([])
def wsX7_init : List Cond := .code yX7_init cX7_init 2 none :: ([.methodLink RX7 3 objectInit, .instanceMethod objectInit, .code objectInit ⟨#[0xb1]⟩ 1 none, .arrayClass .int, .fieldLink RX7 9 "TidePost$Way" "queue" "[I", .fieldLink RX7 15 "TidePost$Way" "flight" "[I"] ++ wsX70)
def wsX6_init_r1 : List Cond := [Cond.methodLink RX6 3 objectInit, Cond.instanceMethod objectInit, Cond.code objectInit ⟨#[0xb1]⟩ 1 none, Cond.classLink RX6 9 RX7, Cond.fieldLink RX6 11 "TidePost$Traffic" "ways" "[LTidePost$Way;", Cond.classLink RX6 17 RX2, Cond.fieldLink RX6 19 "TidePost$Traffic" "all" "[LTidePost$Connection;", Cond.fieldLink RX6 23 "TidePost$Traffic" "net" "LTidePost$Net;", Cond.instantiable RX7 7, Cond.initialized RX7, Cond.instantiable RX2 4, Cond.initialized RX2, Cond.methodLink RX6 27 yX7_init, Cond.instanceMethod yX7_init, Cond.code yX7_init cX7_init 2 none, Cond.methodLink RX7 3 objectInit, Cond.arrayClass .int, Cond.fieldLink RX7 9 "TidePost$Way" "queue" "[I", Cond.fieldLink RX7 15 "TidePost$Way" "flight" "[I", Cond.instanceMethod yX2_init, Cond.code yX2_init cX2_init 1 none, Cond.methodLink RX2 1 objectInit, Cond.classLink RX2 7 RX1, Cond.instantiable RX1 14]
def wsX6_init_r2 : List Cond := [Cond.initialized RX1, Cond.fieldLink RX2 10 "TidePost$Connection" "caller" "LTidePost$Caller;", Cond.classLink RX2 16 RX0, Cond.instantiable RX0 4, Cond.initialized RX0, Cond.fieldLink RX2 19 "TidePost$Connection" "callee" "LTidePost$Callee;", Cond.instanceMethod yX1_init, Cond.code yX1_init cX1_init 1 none, Cond.methodLink RX1 3 objectInit, Cond.classLink RX1 9 RX5, Cond.instantiable RX5 5, Cond.initialized RX5, Cond.fieldLink RX1 12 "TidePost$Caller" "timing" "LTidePost$Timing;", Cond.instanceMethod yX5_init, Cond.code yX5_init cX5_init 1 none, Cond.methodLink RX5 3 objectInit, Cond.instanceMethod yX0_init, Cond.code yX0_init cX0_init 1 none, Cond.methodLink RX0 3 objectInit, Cond.arrayClass .boolean, Cond.fieldLink RX0 9 "TidePost$Callee" "held" "[Z"]
def wsX6_init : List Cond := .code yX6_init cX6_init 3 none :: ((wsX6_init_r1 ++ wsX6_init_r2) ++ wsX60 ++ wsX70 ++ wsX20 ++ wsX10 ++ wsX00 ++ wsX50)
def wsX7_join : List Cond := .code yX7_join cX7_join 3 (some .boolean) :: ([.fieldLink RX7 18 "TidePost$Way" "queued" "I", .fieldLink RX7 9 "TidePost$Way" "queue" "[I", .fieldLink RX7 22 "TidePost$Way" "head" "I"] ++ wsX70)
def wsX6_send_r1 : List Cond := [Cond.fieldLink RX6 23 "TidePost$Traffic" "net" "LTidePost$Net;", Cond.fieldLink RX6 69 "TidePost$Traffic" "lost" "I", Cond.fieldLink RX6 97 "TidePost$Net" "firsts" "[I", Cond.fieldLink RX6 11 "TidePost$Traffic" "ways" "[LTidePost$Way;", Cond.fieldLink RX6 188 "TidePost$Net" "rooms" "[I", Cond.methodLink RX6 181 yX3_linkTowards, Cond.instanceMethod yX3_linkTowards, Cond.selects RX3 yX3_linkTowards yX3_linkTowards, Cond.initialized RX3, Cond.code yX3_linkTowards cX3_linkTowards 6 (some .int), Cond.fieldLink RX3 30 "TidePost$Net" "distances" "[[I", Cond.fieldLink RX3 43 "TidePost$Net" "links" "I", Cond.fieldLink RX3 24 "TidePost$Net" "up" "[Z", Cond.fieldLink RX3 18 "TidePost$Net" "delays" "[I", Cond.methodLink RX3 46 yX3_farEnd, Cond.instanceMethod yX3_farEnd, Cond.selects RX3 yX3_farEnd yX3_farEnd, Cond.code yX3_farEnd cX3_farEnd 3 (some .int), Cond.fieldLink RX3 9 "TidePost$Net" "firsts" "[I", Cond.fieldLink RX3 15 "TidePost$Net" "seconds" "[I", Cond.methodLink RX6 185 yX4_hopsOf, Cond.static yX4_hopsOf, Cond.initialized RX4, Cond.code yX4_hopsOf cX4_hopsOf 1 (some .int)]
def wsX6_send_r2 : List Cond := [Cond.methodLink RX6 191 yX7_join, Cond.instanceMethod yX7_join, Cond.selects RX7 yX7_join yX7_join, Cond.initialized RX7, Cond.code yX7_join cX7_join 3 (some .boolean), Cond.fieldLink RX7 18 "TidePost$Way" "queued" "I", Cond.fieldLink RX7 9 "TidePost$Way" "queue" "[I", Cond.fieldLink RX7 22 "TidePost$Way" "head" "I"]
def wsX6_send : List Cond := .code yX6_send cX6_send 6 none :: ((wsX6_send_r1 ++ wsX6_send_r2) ++ wsX60 ++ wsX30 ++ wsX70)
def wsX6_sendHello_r1 : List Cond := [Cond.fieldLink RX6 19 "TidePost$Traffic" "all" "[LTidePost$Connection;", Cond.fieldLink RX6 33 "TidePost$Connection" "callerNode" "I", Cond.fieldLink RX6 36 "TidePost$Connection" "calleeNode" "I", Cond.methodLink RX6 168 yX4_of, Cond.static yX4_of, Cond.initialized RX4, Cond.code yX4_of cX4_of 4 (some .int), Cond.methodLink RX6 111 yX6_send, Cond.instanceMethod yX6_send, Cond.selects RX6 yX6_send yX6_send, Cond.initialized RX6, Cond.code yX6_send cX6_send 6 none, Cond.fieldLink RX6 23 "TidePost$Traffic" "net" "LTidePost$Net;", Cond.fieldLink RX6 69 "TidePost$Traffic" "lost" "I", Cond.fieldLink RX6 97 "TidePost$Net" "firsts" "[I", Cond.fieldLink RX6 11 "TidePost$Traffic" "ways" "[LTidePost$Way;", Cond.fieldLink RX6 188 "TidePost$Net" "rooms" "[I", Cond.methodLink RX6 181 yX3_linkTowards, Cond.instanceMethod yX3_linkTowards, Cond.selects RX3 yX3_linkTowards yX3_linkTowards, Cond.initialized RX3, Cond.code yX3_linkTowards cX3_linkTowards 6 (some .int), Cond.fieldLink RX3 30 "TidePost$Net" "distances" "[[I", Cond.fieldLink RX3 43 "TidePost$Net" "links" "I"]
def wsX6_sendHello_r2 : List Cond := [Cond.fieldLink RX3 24 "TidePost$Net" "up" "[Z", Cond.fieldLink RX3 18 "TidePost$Net" "delays" "[I", Cond.methodLink RX3 46 yX3_farEnd, Cond.instanceMethod yX3_farEnd, Cond.selects RX3 yX3_farEnd yX3_farEnd, Cond.code yX3_farEnd cX3_farEnd 3 (some .int), Cond.fieldLink RX3 9 "TidePost$Net" "firsts" "[I", Cond.fieldLink RX3 15 "TidePost$Net" "seconds" "[I", Cond.methodLink RX6 185 yX4_hopsOf, Cond.static yX4_hopsOf, Cond.code yX4_hopsOf cX4_hopsOf 1 (some .int), Cond.methodLink RX6 191 yX7_join, Cond.instanceMethod yX7_join, Cond.selects RX7 yX7_join yX7_join, Cond.initialized RX7, Cond.code yX7_join cX7_join 3 (some .boolean), Cond.fieldLink RX7 18 "TidePost$Way" "queued" "I", Cond.fieldLink RX7 9 "TidePost$Way" "queue" "[I", Cond.fieldLink RX7 22 "TidePost$Way" "head" "I"]
def wsX6_sendHello : List Cond := .code yX6_sendHello cX6_sendHello 4 none :: ((wsX6_sendHello_r1 ++ wsX6_sendHello_r2) ++ wsX60 ++ wsX20 ++ wsX30 ++ wsX70)
def wsX6_connect_r1 : List Cond := [Cond.fieldLink RX6 29 "TidePost$Traffic" "made" "I", Cond.fieldLink RX6 19 "TidePost$Traffic" "all" "[LTidePost$Connection;", Cond.fieldLink RX6 33 "TidePost$Connection" "callerNode" "I", Cond.fieldLink RX6 36 "TidePost$Connection" "calleeNode" "I", Cond.fieldLink RX6 39 "TidePost$Connection" "callee" "LTidePost$Callee;", Cond.fieldLink RX6 43 "TidePost$Callee" "buffer" "I", Cond.fieldLink RX6 48 "TidePost$Connection" "caller" "LTidePost$Caller;", Cond.fieldLink RX6 52 "TidePost$Traffic" "clock" "I", Cond.methodLink RX6 55 yX1_begin, Cond.instanceMethod yX1_begin, Cond.selects RX1 yX1_begin yX1_begin, Cond.initialized RX1, Cond.code yX1_begin cX1_begin 3 none, Cond.fieldLink RX1 18 "TidePost$Caller" "state" "I", Cond.fieldLink RX1 22 "TidePost$Caller" "window" "I", Cond.fieldLink RX1 25 "TidePost$Caller" "threshold" "I", Cond.fieldLink RX1 28 "TidePost$Caller" "room" "I", Cond.fieldLink RX1 31 "TidePost$Caller" "recover" "I", Cond.fieldLink RX1 12 "TidePost$Caller" "timing" "LTidePost$Timing;", Cond.fieldLink RX1 37 "TidePost$Timing" "timeout" "I", Cond.fieldLink RX1 40 "TidePost$Caller" "timer" "I", Cond.methodLink RX1 34 yX5_begin, Cond.instanceMethod yX5_begin, Cond.selects RX5 yX5_begin yX5_begin]
def wsX6_connect_r2 : List Cond := [Cond.initialized RX5, Cond.code yX5_begin cX5_begin 1 none, Cond.fieldLink RX5 9 "TidePost$Timing" "round" "I", Cond.fieldLink RX5 15 "TidePost$Timing" "swing" "I", Cond.fieldLink RX5 18 "TidePost$Timing" "timeout" "I", Cond.fieldLink RX5 21 "TidePost$Timing" "measured" "I", Cond.fieldLink RX5 24 "TidePost$Timing" "measuredAt" "I", Cond.methodLink RX6 61 yX6_sendHello, Cond.instanceMethod yX6_sendHello, Cond.selects RX6 yX6_sendHello yX6_sendHello, Cond.initialized RX6, Cond.code yX6_sendHello cX6_sendHello 4 none, Cond.methodLink RX6 168 yX4_of, Cond.static yX4_of, Cond.initialized RX4, Cond.code yX4_of cX4_of 4 (some .int), Cond.methodLink RX6 111 yX6_send, Cond.instanceMethod yX6_send, Cond.selects RX6 yX6_send yX6_send, Cond.code yX6_send cX6_send 6 none, Cond.fieldLink RX6 23 "TidePost$Traffic" "net" "LTidePost$Net;", Cond.fieldLink RX6 69 "TidePost$Traffic" "lost" "I", Cond.fieldLink RX6 97 "TidePost$Net" "firsts" "[I", Cond.fieldLink RX6 11 "TidePost$Traffic" "ways" "[LTidePost$Way;"]
def wsX6_connect_r3 : List Cond := [Cond.fieldLink RX6 188 "TidePost$Net" "rooms" "[I", Cond.methodLink RX6 181 yX3_linkTowards, Cond.instanceMethod yX3_linkTowards, Cond.selects RX3 yX3_linkTowards yX3_linkTowards, Cond.initialized RX3, Cond.code yX3_linkTowards cX3_linkTowards 6 (some .int), Cond.fieldLink RX3 30 "TidePost$Net" "distances" "[[I", Cond.fieldLink RX3 43 "TidePost$Net" "links" "I", Cond.fieldLink RX3 24 "TidePost$Net" "up" "[Z", Cond.fieldLink RX3 18 "TidePost$Net" "delays" "[I", Cond.methodLink RX3 46 yX3_farEnd, Cond.instanceMethod yX3_farEnd, Cond.selects RX3 yX3_farEnd yX3_farEnd, Cond.code yX3_farEnd cX3_farEnd 3 (some .int), Cond.fieldLink RX3 9 "TidePost$Net" "firsts" "[I", Cond.fieldLink RX3 15 "TidePost$Net" "seconds" "[I", Cond.methodLink RX6 185 yX4_hopsOf, Cond.static yX4_hopsOf, Cond.code yX4_hopsOf cX4_hopsOf 1 (some .int), Cond.methodLink RX6 191 yX7_join, Cond.instanceMethod yX7_join, Cond.selects RX7 yX7_join yX7_join, Cond.initialized RX7, Cond.code yX7_join cX7_join 3 (some .boolean)]
def wsX6_connect_r4 : List Cond := [Cond.fieldLink RX7 18 "TidePost$Way" "queued" "I", Cond.fieldLink RX7 9 "TidePost$Way" "queue" "[I", Cond.fieldLink RX7 22 "TidePost$Way" "head" "I"]
def wsX6_connect : List Cond := .code yX6_connect cX6_connect 6 (some .int) :: ((wsX6_connect_r1 ++ (wsX6_connect_r2 ++ (wsX6_connect_r3 ++ wsX6_connect_r4))) ++ wsX60 ++ wsX20 ++ wsX00 ++ wsX10 ++ wsX50 ++ wsX30 ++ wsX70)
def wsX7_drop : List Cond := .code yX7_drop cX7_drop 3 (some .int) :: ([.fieldLink RX7 18 "TidePost$Way" "queued" "I", .fieldLink RX7 37 "TidePost$Way" "flying" "I", .fieldLink RX7 15 "TidePost$Way" "flight" "[I"] ++ wsX70)
def wsX6_dropAll : List Cond := .code yX6_dropAll cX6_dropAll 3 (some .int) :: ([.fieldLink RX6 11 "TidePost$Traffic" "ways" "[LTidePost$Way;", .fieldLink RX6 69 "TidePost$Traffic" "lost" "I", .methodLink RX6 65 yX7_drop, .instanceMethod yX7_drop, .selects RX7 yX7_drop yX7_drop, .initialized RX7, .code yX7_drop cX7_drop 3 (some .int), .fieldLink RX7 18 "TidePost$Way" "queued" "I", .fieldLink RX7 37 "TidePost$Way" "flying" "I", .fieldLink RX7 15 "TidePost$Way" "flight" "[I"] ++ wsX60 ++ wsX70)
def wsJ9_floorMod_7cf53 : List Cond := .code yJ9_floorMod_7cf53 cJ9_floorMod_7cf53 3 (some .int) :: ([])
def wsX7_land : List Cond := .code yX7_land cX7_land 4 (some .int) :: ([.fieldLink RX7 15 "TidePost$Way" "flight" "[I", .fieldLink RX7 37 "TidePost$Way" "flying" "I", .methodLink RX7 28 yJ9_floorMod_7cf53, .static yJ9_floorMod_7cf53, .initialized RJ9, .code yJ9_floorMod_7cf53 cJ9_floorMod_7cf53 3 (some .int)] ++ wsX70)
def wsX6_sendThing_r1 : List Cond := [Cond.fieldLink RX6 19 "TidePost$Traffic" "all" "[LTidePost$Connection;", Cond.fieldLink RX6 48 "TidePost$Connection" "caller" "LTidePost$Caller;", Cond.fieldLink RX6 172 "TidePost$Caller" "given" "I", Cond.fieldLink RX6 33 "TidePost$Connection" "callerNode" "I", Cond.fieldLink RX6 36 "TidePost$Connection" "calleeNode" "I", Cond.methodLink RX6 168 yX4_of, Cond.static yX4_of, Cond.initialized RX4, Cond.code yX4_of cX4_of 4 (some .int), Cond.methodLink RX6 111 yX6_send, Cond.instanceMethod yX6_send, Cond.selects RX6 yX6_send yX6_send, Cond.initialized RX6, Cond.code yX6_send cX6_send 6 none, Cond.fieldLink RX6 23 "TidePost$Traffic" "net" "LTidePost$Net;", Cond.fieldLink RX6 69 "TidePost$Traffic" "lost" "I", Cond.fieldLink RX6 97 "TidePost$Net" "firsts" "[I", Cond.fieldLink RX6 11 "TidePost$Traffic" "ways" "[LTidePost$Way;", Cond.fieldLink RX6 188 "TidePost$Net" "rooms" "[I", Cond.methodLink RX6 181 yX3_linkTowards, Cond.instanceMethod yX3_linkTowards, Cond.selects RX3 yX3_linkTowards yX3_linkTowards, Cond.initialized RX3, Cond.code yX3_linkTowards cX3_linkTowards 6 (some .int)]
def wsX6_sendThing_r2 : List Cond := [Cond.fieldLink RX3 30 "TidePost$Net" "distances" "[[I", Cond.fieldLink RX3 43 "TidePost$Net" "links" "I", Cond.fieldLink RX3 24 "TidePost$Net" "up" "[Z", Cond.fieldLink RX3 18 "TidePost$Net" "delays" "[I", Cond.methodLink RX3 46 yX3_farEnd, Cond.instanceMethod yX3_farEnd, Cond.selects RX3 yX3_farEnd yX3_farEnd, Cond.code yX3_farEnd cX3_farEnd 3 (some .int), Cond.fieldLink RX3 9 "TidePost$Net" "firsts" "[I", Cond.fieldLink RX3 15 "TidePost$Net" "seconds" "[I", Cond.methodLink RX6 185 yX4_hopsOf, Cond.static yX4_hopsOf, Cond.code yX4_hopsOf cX4_hopsOf 1 (some .int), Cond.methodLink RX6 191 yX7_join, Cond.instanceMethod yX7_join, Cond.selects RX7 yX7_join yX7_join, Cond.initialized RX7, Cond.code yX7_join cX7_join 3 (some .boolean), Cond.fieldLink RX7 18 "TidePost$Way" "queued" "I", Cond.fieldLink RX7 9 "TidePost$Way" "queue" "[I", Cond.fieldLink RX7 22 "TidePost$Way" "head" "I"]
def wsX6_sendThing : List Cond := .code yX6_sendThing cX6_sendThing 6 none :: ((wsX6_sendThing_r1 ++ wsX6_sendThing_r2) ++ wsX60 ++ wsX20 ++ wsX10 ++ wsX30 ++ wsX70)
def wsX6_sendAnswer_r1 : List Cond := [Cond.fieldLink RX6 19 "TidePost$Traffic" "all" "[LTidePost$Connection;", Cond.fieldLink RX6 39 "TidePost$Connection" "callee" "LTidePost$Callee;", Cond.fieldLink RX6 175 "TidePost$Callee" "wanted" "I", Cond.fieldLink RX6 36 "TidePost$Connection" "calleeNode" "I", Cond.fieldLink RX6 33 "TidePost$Connection" "callerNode" "I", Cond.methodLink RX6 178 yX0_spare, Cond.instanceMethod yX0_spare, Cond.selects RX0 yX0_spare yX0_spare, Cond.initialized RX0, Cond.code yX0_spare cX0_spare 1 (some .int), Cond.fieldLink RX0 15 "TidePost$Callee" "read" "I", Cond.fieldLink RX0 19 "TidePost$Callee" "buffer" "I", Cond.fieldLink RX0 22 "TidePost$Callee" "wanted" "I", Cond.methodLink RX0 25 Lib.Math.max.name, Cond.static Lib.Math.max.name, Cond.initialized "java/lang/Math", Cond.code Lib.Math.max.name Lib.Math.max.code 2 (some .int), Cond.methodLink RX6 168 yX4_of, Cond.static yX4_of, Cond.initialized RX4, Cond.code yX4_of cX4_of 4 (some .int), Cond.methodLink RX6 111 yX6_send, Cond.instanceMethod yX6_send, Cond.selects RX6 yX6_send yX6_send]
def wsX6_sendAnswer_r2 : List Cond := [Cond.initialized RX6, Cond.code yX6_send cX6_send 6 none, Cond.fieldLink RX6 23 "TidePost$Traffic" "net" "LTidePost$Net;", Cond.fieldLink RX6 69 "TidePost$Traffic" "lost" "I", Cond.fieldLink RX6 97 "TidePost$Net" "firsts" "[I", Cond.fieldLink RX6 11 "TidePost$Traffic" "ways" "[LTidePost$Way;", Cond.fieldLink RX6 188 "TidePost$Net" "rooms" "[I", Cond.methodLink RX6 181 yX3_linkTowards, Cond.instanceMethod yX3_linkTowards, Cond.selects RX3 yX3_linkTowards yX3_linkTowards, Cond.initialized RX3, Cond.code yX3_linkTowards cX3_linkTowards 6 (some .int), Cond.fieldLink RX3 30 "TidePost$Net" "distances" "[[I", Cond.fieldLink RX3 43 "TidePost$Net" "links" "I", Cond.fieldLink RX3 24 "TidePost$Net" "up" "[Z", Cond.fieldLink RX3 18 "TidePost$Net" "delays" "[I", Cond.methodLink RX3 46 yX3_farEnd, Cond.instanceMethod yX3_farEnd, Cond.selects RX3 yX3_farEnd yX3_farEnd, Cond.code yX3_farEnd cX3_farEnd 3 (some .int), Cond.fieldLink RX3 9 "TidePost$Net" "firsts" "[I", Cond.fieldLink RX3 15 "TidePost$Net" "seconds" "[I", Cond.methodLink RX6 185 yX4_hopsOf, Cond.static yX4_hopsOf]
def wsX6_sendAnswer_r3 : List Cond := [Cond.code yX4_hopsOf cX4_hopsOf 1 (some .int), Cond.methodLink RX6 191 yX7_join, Cond.instanceMethod yX7_join, Cond.selects RX7 yX7_join yX7_join, Cond.initialized RX7, Cond.code yX7_join cX7_join 3 (some .boolean), Cond.fieldLink RX7 18 "TidePost$Way" "queued" "I", Cond.fieldLink RX7 9 "TidePost$Way" "queue" "[I", Cond.fieldLink RX7 22 "TidePost$Way" "head" "I"]
def wsX6_sendAnswer : List Cond := .code yX6_sendAnswer cX6_sendAnswer 5 none :: ((wsX6_sendAnswer_r1 ++ (wsX6_sendAnswer_r2 ++ wsX6_sendAnswer_r3)) ++ wsX60 ++ wsX20 ++ wsX00 ++ wsX30 ++ wsX70)
def wsX6_arrive_r1 : List Cond := [Cond.fieldLink RX6 29 "TidePost$Traffic" "made" "I", Cond.fieldLink RX6 19 "TidePost$Traffic" "all" "[LTidePost$Connection;", Cond.fieldLink RX6 33 "TidePost$Connection" "callerNode" "I", Cond.fieldLink RX6 36 "TidePost$Connection" "calleeNode" "I", Cond.fieldLink RX6 48 "TidePost$Connection" "caller" "LTidePost$Caller;", Cond.fieldLink RX6 52 "TidePost$Traffic" "clock" "I", Cond.fieldLink RX6 69 "TidePost$Traffic" "lost" "I", Cond.fieldLink RX6 39 "TidePost$Connection" "callee" "LTidePost$Callee;", Cond.methodLink RX6 103 yX4_connectionOf, Cond.static yX4_connectionOf, Cond.initialized RX4, Cond.code yX4_connectionOf cX4_connectionOf 1 (some .int), Cond.methodLink RX6 108 yX4_kindOf, Cond.static yX4_kindOf, Cond.code yX4_kindOf cX4_kindOf 1 (some .int), Cond.methodLink RX6 111 yX6_send, Cond.instanceMethod yX6_send, Cond.selects RX6 yX6_send yX6_send, Cond.initialized RX6, Cond.code yX6_send cX6_send 6 none, Cond.fieldLink RX6 23 "TidePost$Traffic" "net" "LTidePost$Net;", Cond.fieldLink RX6 97 "TidePost$Net" "firsts" "[I", Cond.fieldLink RX6 11 "TidePost$Traffic" "ways" "[LTidePost$Way;", Cond.fieldLink RX6 188 "TidePost$Net" "rooms" "[I"]
def wsX6_arrive_r2 : List Cond := [Cond.methodLink RX6 181 yX3_linkTowards, Cond.instanceMethod yX3_linkTowards, Cond.selects RX3 yX3_linkTowards yX3_linkTowards, Cond.initialized RX3, Cond.code yX3_linkTowards cX3_linkTowards 6 (some .int), Cond.fieldLink RX3 30 "TidePost$Net" "distances" "[[I", Cond.fieldLink RX3 43 "TidePost$Net" "links" "I", Cond.fieldLink RX3 24 "TidePost$Net" "up" "[Z", Cond.fieldLink RX3 18 "TidePost$Net" "delays" "[I", Cond.methodLink RX3 46 yX3_farEnd, Cond.instanceMethod yX3_farEnd, Cond.selects RX3 yX3_farEnd yX3_farEnd, Cond.code yX3_farEnd cX3_farEnd 3 (some .int), Cond.fieldLink RX3 9 "TidePost$Net" "firsts" "[I", Cond.fieldLink RX3 15 "TidePost$Net" "seconds" "[I", Cond.methodLink RX6 185 yX4_hopsOf, Cond.static yX4_hopsOf, Cond.code yX4_hopsOf cX4_hopsOf 1 (some .int), Cond.methodLink RX6 191 yX7_join, Cond.instanceMethod yX7_join, Cond.selects RX7 yX7_join yX7_join, Cond.initialized RX7, Cond.code yX7_join cX7_join 3 (some .boolean), Cond.fieldLink RX7 18 "TidePost$Way" "queued" "I"]
def wsX6_arrive_r3 : List Cond := [Cond.fieldLink RX7 9 "TidePost$Way" "queue" "[I", Cond.fieldLink RX7 22 "TidePost$Way" "head" "I", Cond.methodLink RX6 115 yX4_numberOf, Cond.static yX4_numberOf, Cond.code yX4_numberOf cX4_numberOf 1 (some .int), Cond.methodLink RX6 118 yX4_roomOf, Cond.static yX4_roomOf, Cond.code yX4_roomOf cX4_roomOf 1 (some .int), Cond.methodLink RX6 121 yX1_takeAnswer, Cond.instanceMethod yX1_takeAnswer, Cond.selects RX1 yX1_takeAnswer yX1_takeAnswer, Cond.initialized RX1, Cond.code yX1_takeAnswer cX1_takeAnswer 4 (some .boolean), Cond.fieldLink RX1 18 "TidePost$Caller" "state" "I", Cond.fieldLink RX1 64 "TidePost$Caller" "tries" "I", Cond.fieldLink RX1 40 "TidePost$Caller" "timer" "I", Cond.fieldLink RX1 53 "TidePost$Caller" "base" "I", Cond.fieldLink RX1 50 "TidePost$Caller" "next" "I", Cond.fieldLink RX1 28 "TidePost$Caller" "room" "I", Cond.methodLink RX1 67 yX1_advance, Cond.instanceMethod yX1_advance, Cond.selects RX1 yX1_advance yX1_advance, Cond.code yX1_advance cX1_advance 5 (some .boolean), Cond.fieldLink RX1 12 "TidePost$Caller" "timing" "LTidePost$Timing;"]
def wsX6_arrive_r4 : List Cond := [Cond.fieldLink RX1 78 "TidePost$Caller" "like" "I", Cond.fieldLink RX1 31 "TidePost$Caller" "recover" "I", Cond.fieldLink RX1 37 "TidePost$Timing" "timeout" "I", Cond.fieldLink RX1 47 "TidePost$Caller" "given" "I", Cond.methodLink RX1 75 yX5_answered, Cond.instanceMethod yX5_answered, Cond.selects RX5 yX5_answered yX5_answered, Cond.initialized RX5, Cond.code yX5_answered cX5_answered 5 none, Cond.fieldLink RX5 21 "TidePost$Timing" "measured" "I", Cond.fieldLink RX5 24 "TidePost$Timing" "measuredAt" "I", Cond.fieldLink RX5 9 "TidePost$Timing" "round" "I", Cond.fieldLink RX5 15 "TidePost$Timing" "swing" "I", Cond.methodLink RX5 27 Lib.Math.abs.name, Cond.static Lib.Math.abs.name, Cond.initialized "java/lang/Math", Cond.code Lib.Math.abs.name Lib.Math.abs.code 1 (some .int), Cond.methodLink RX5 33 Lib.Math.max.name, Cond.static Lib.Math.max.name, Cond.code Lib.Math.max.name Lib.Math.max.code 2 (some .int), Cond.methodLink RX5 37 Lib.Math.min.name, Cond.static Lib.Math.min.name, Cond.code Lib.Math.min.name Lib.Math.min.code 2 (some .int), Cond.fieldLink RX5 18 "TidePost$Timing" "timeout" "I"]
def wsX6_arrive_r5 : List Cond := [Cond.methodLink RX1 81 yX1_growWindow, Cond.instanceMethod yX1_growWindow, Cond.selects RX1 yX1_growWindow yX1_growWindow, Cond.code yX1_growWindow cX1_growWindow 2 none, Cond.fieldLink RX1 22 "TidePost$Caller" "window" "I", Cond.fieldLink RX1 25 "TidePost$Caller" "threshold" "I", Cond.methodLink RX1 84 Lib.Math.max.name, Cond.methodLink RX1 90 Lib.Math.min.name, Cond.methodLink RX1 71 yX1_repeated, Cond.instanceMethod yX1_repeated, Cond.selects RX1 yX1_repeated yX1_repeated, Cond.code yX1_repeated cX1_repeated 2 (some .boolean), Cond.methodLink RX1 93 yX1_startRecovery, Cond.instanceMethod yX1_startRecovery, Cond.selects RX1 yX1_startRecovery yX1_startRecovery, Cond.code yX1_startRecovery cX1_startRecovery 1 none, Cond.methodLink RX6 125 yX1_baseAgain, Cond.instanceMethod yX1_baseAgain, Cond.selects RX1 yX1_baseAgain yX1_baseAgain, Cond.code yX1_baseAgain cX1_baseAgain 1 (some .int), Cond.fieldLink RX1 99 "TidePost$Caller" "sentAgain" "I", Cond.methodLink RX1 102 yX5_sentTwice, Cond.instanceMethod yX5_sentTwice, Cond.selects RX5 yX5_sentTwice yX5_sentTwice]
def wsX6_arrive_r6 : List Cond := [Cond.code yX5_sentTwice cX5_sentTwice 2 none, Cond.methodLink RX6 128 yX6_sendThing, Cond.instanceMethod yX6_sendThing, Cond.selects RX6 yX6_sendThing yX6_sendThing, Cond.code yX6_sendThing cX6_sendThing 6 none, Cond.fieldLink RX6 172 "TidePost$Caller" "given" "I", Cond.methodLink RX6 168 yX4_of, Cond.static yX4_of, Cond.code yX4_of cX4_of 4 (some .int), Cond.methodLink RX6 131 yX0_take, Cond.instanceMethod yX0_take, Cond.selects RX0 yX0_take yX0_take, Cond.initialized RX0, Cond.code yX0_take cX0_take 3 (some .boolean), Cond.fieldLink RX0 22 "TidePost$Callee" "wanted" "I", Cond.fieldLink RX0 9 "TidePost$Callee" "held" "[Z", Cond.fieldLink RX0 15 "TidePost$Callee" "read" "I", Cond.fieldLink RX0 19 "TidePost$Callee" "buffer" "I", Cond.methodLink RX6 135 yX6_sendAnswer, Cond.instanceMethod yX6_sendAnswer, Cond.selects RX6 yX6_sendAnswer yX6_sendAnswer, Cond.code yX6_sendAnswer cX6_sendAnswer 5 none, Cond.fieldLink RX6 175 "TidePost$Callee" "wanted" "I", Cond.methodLink RX6 178 yX0_spare]
def wsX6_arrive_r7 : List Cond := [Cond.instanceMethod yX0_spare, Cond.selects RX0 yX0_spare yX0_spare, Cond.code yX0_spare cX0_spare 1 (some .int), Cond.methodLink RX0 25 Lib.Math.max.name]
def wsX6_arrive : List Cond := .code yX6_arrive cX6_arrive 8 none :: ((wsX6_arrive_r1 ++ (wsX6_arrive_r2 ++ (wsX6_arrive_r3 ++ (wsX6_arrive_r4 ++ (wsX6_arrive_r5 ++ (wsX6_arrive_r6 ++ wsX6_arrive_r7)))))) ++ wsX60 ++ wsX20 ++ wsX30 ++ wsX70 ++ wsX10 ++ wsX50 ++ wsX00)
def wsX6_letArrive_r1 : List Cond := [Cond.fieldLink RX6 23 "TidePost$Traffic" "net" "LTidePost$Net;", Cond.fieldLink RX6 84 "TidePost$Net" "links" "I", Cond.fieldLink RX6 11 "TidePost$Traffic" "ways" "[LTidePost$Way;", Cond.fieldLink RX6 52 "TidePost$Traffic" "clock" "I", Cond.fieldLink RX6 93 "TidePost$Net" "seconds" "[I", Cond.fieldLink RX6 97 "TidePost$Net" "firsts" "[I", Cond.methodLink RX6 89 yX7_land, Cond.instanceMethod yX7_land, Cond.selects RX7 yX7_land yX7_land, Cond.initialized RX7, Cond.code yX7_land cX7_land 4 (some .int), Cond.fieldLink RX7 15 "TidePost$Way" "flight" "[I", Cond.fieldLink RX7 37 "TidePost$Way" "flying" "I", Cond.methodLink RX7 28 yJ9_floorMod_7cf53, Cond.static yJ9_floorMod_7cf53, Cond.initialized RJ9, Cond.code yJ9_floorMod_7cf53 cJ9_floorMod_7cf53 3 (some .int), Cond.methodLink RX6 100 yX6_arrive, Cond.instanceMethod yX6_arrive, Cond.selects RX6 yX6_arrive yX6_arrive, Cond.initialized RX6, Cond.code yX6_arrive cX6_arrive 8 none, Cond.fieldLink RX6 29 "TidePost$Traffic" "made" "I", Cond.fieldLink RX6 19 "TidePost$Traffic" "all" "[LTidePost$Connection;"]
def wsX6_letArrive_r2 : List Cond := [Cond.fieldLink RX6 33 "TidePost$Connection" "callerNode" "I", Cond.fieldLink RX6 36 "TidePost$Connection" "calleeNode" "I", Cond.fieldLink RX6 48 "TidePost$Connection" "caller" "LTidePost$Caller;", Cond.fieldLink RX6 69 "TidePost$Traffic" "lost" "I", Cond.fieldLink RX6 39 "TidePost$Connection" "callee" "LTidePost$Callee;", Cond.methodLink RX6 103 yX4_connectionOf, Cond.static yX4_connectionOf, Cond.initialized RX4, Cond.code yX4_connectionOf cX4_connectionOf 1 (some .int), Cond.methodLink RX6 108 yX4_kindOf, Cond.static yX4_kindOf, Cond.code yX4_kindOf cX4_kindOf 1 (some .int), Cond.methodLink RX6 111 yX6_send, Cond.instanceMethod yX6_send, Cond.selects RX6 yX6_send yX6_send, Cond.code yX6_send cX6_send 6 none, Cond.fieldLink RX6 188 "TidePost$Net" "rooms" "[I", Cond.methodLink RX6 181 yX3_linkTowards, Cond.instanceMethod yX3_linkTowards, Cond.selects RX3 yX3_linkTowards yX3_linkTowards, Cond.initialized RX3, Cond.code yX3_linkTowards cX3_linkTowards 6 (some .int), Cond.fieldLink RX3 30 "TidePost$Net" "distances" "[[I", Cond.fieldLink RX3 43 "TidePost$Net" "links" "I"]
def wsX6_letArrive_r3 : List Cond := [Cond.fieldLink RX3 24 "TidePost$Net" "up" "[Z", Cond.fieldLink RX3 18 "TidePost$Net" "delays" "[I", Cond.methodLink RX3 46 yX3_farEnd, Cond.instanceMethod yX3_farEnd, Cond.selects RX3 yX3_farEnd yX3_farEnd, Cond.code yX3_farEnd cX3_farEnd 3 (some .int), Cond.fieldLink RX3 9 "TidePost$Net" "firsts" "[I", Cond.fieldLink RX3 15 "TidePost$Net" "seconds" "[I", Cond.methodLink RX6 185 yX4_hopsOf, Cond.static yX4_hopsOf, Cond.code yX4_hopsOf cX4_hopsOf 1 (some .int), Cond.methodLink RX6 191 yX7_join, Cond.instanceMethod yX7_join, Cond.selects RX7 yX7_join yX7_join, Cond.code yX7_join cX7_join 3 (some .boolean), Cond.fieldLink RX7 18 "TidePost$Way" "queued" "I", Cond.fieldLink RX7 9 "TidePost$Way" "queue" "[I", Cond.fieldLink RX7 22 "TidePost$Way" "head" "I", Cond.methodLink RX6 115 yX4_numberOf, Cond.static yX4_numberOf, Cond.code yX4_numberOf cX4_numberOf 1 (some .int), Cond.methodLink RX6 118 yX4_roomOf, Cond.static yX4_roomOf, Cond.code yX4_roomOf cX4_roomOf 1 (some .int)]
def wsX6_letArrive_r4 : List Cond := [Cond.methodLink RX6 121 yX1_takeAnswer, Cond.instanceMethod yX1_takeAnswer, Cond.selects RX1 yX1_takeAnswer yX1_takeAnswer, Cond.initialized RX1, Cond.code yX1_takeAnswer cX1_takeAnswer 4 (some .boolean), Cond.fieldLink RX1 18 "TidePost$Caller" "state" "I", Cond.fieldLink RX1 64 "TidePost$Caller" "tries" "I", Cond.fieldLink RX1 40 "TidePost$Caller" "timer" "I", Cond.fieldLink RX1 53 "TidePost$Caller" "base" "I", Cond.fieldLink RX1 50 "TidePost$Caller" "next" "I", Cond.fieldLink RX1 28 "TidePost$Caller" "room" "I", Cond.methodLink RX1 67 yX1_advance, Cond.instanceMethod yX1_advance, Cond.selects RX1 yX1_advance yX1_advance, Cond.code yX1_advance cX1_advance 5 (some .boolean), Cond.fieldLink RX1 12 "TidePost$Caller" "timing" "LTidePost$Timing;", Cond.fieldLink RX1 78 "TidePost$Caller" "like" "I", Cond.fieldLink RX1 31 "TidePost$Caller" "recover" "I", Cond.fieldLink RX1 37 "TidePost$Timing" "timeout" "I", Cond.fieldLink RX1 47 "TidePost$Caller" "given" "I", Cond.methodLink RX1 75 yX5_answered, Cond.instanceMethod yX5_answered, Cond.selects RX5 yX5_answered yX5_answered, Cond.initialized RX5]
def wsX6_letArrive_r5 : List Cond := [Cond.code yX5_answered cX5_answered 5 none, Cond.fieldLink RX5 21 "TidePost$Timing" "measured" "I", Cond.fieldLink RX5 24 "TidePost$Timing" "measuredAt" "I", Cond.fieldLink RX5 9 "TidePost$Timing" "round" "I", Cond.fieldLink RX5 15 "TidePost$Timing" "swing" "I", Cond.methodLink RX5 27 Lib.Math.abs.name, Cond.static Lib.Math.abs.name, Cond.initialized "java/lang/Math", Cond.code Lib.Math.abs.name Lib.Math.abs.code 1 (some .int), Cond.methodLink RX5 33 Lib.Math.max.name, Cond.static Lib.Math.max.name, Cond.code Lib.Math.max.name Lib.Math.max.code 2 (some .int), Cond.methodLink RX5 37 Lib.Math.min.name, Cond.static Lib.Math.min.name, Cond.code Lib.Math.min.name Lib.Math.min.code 2 (some .int), Cond.fieldLink RX5 18 "TidePost$Timing" "timeout" "I", Cond.methodLink RX1 81 yX1_growWindow, Cond.instanceMethod yX1_growWindow, Cond.selects RX1 yX1_growWindow yX1_growWindow, Cond.code yX1_growWindow cX1_growWindow 2 none, Cond.fieldLink RX1 22 "TidePost$Caller" "window" "I", Cond.fieldLink RX1 25 "TidePost$Caller" "threshold" "I", Cond.methodLink RX1 84 Lib.Math.max.name, Cond.methodLink RX1 90 Lib.Math.min.name]
def wsX6_letArrive_r6 : List Cond := [Cond.methodLink RX1 71 yX1_repeated, Cond.instanceMethod yX1_repeated, Cond.selects RX1 yX1_repeated yX1_repeated, Cond.code yX1_repeated cX1_repeated 2 (some .boolean), Cond.methodLink RX1 93 yX1_startRecovery, Cond.instanceMethod yX1_startRecovery, Cond.selects RX1 yX1_startRecovery yX1_startRecovery, Cond.code yX1_startRecovery cX1_startRecovery 1 none, Cond.methodLink RX6 125 yX1_baseAgain, Cond.instanceMethod yX1_baseAgain, Cond.selects RX1 yX1_baseAgain yX1_baseAgain, Cond.code yX1_baseAgain cX1_baseAgain 1 (some .int), Cond.fieldLink RX1 99 "TidePost$Caller" "sentAgain" "I", Cond.methodLink RX1 102 yX5_sentTwice, Cond.instanceMethod yX5_sentTwice, Cond.selects RX5 yX5_sentTwice yX5_sentTwice, Cond.code yX5_sentTwice cX5_sentTwice 2 none, Cond.methodLink RX6 128 yX6_sendThing, Cond.instanceMethod yX6_sendThing, Cond.selects RX6 yX6_sendThing yX6_sendThing, Cond.code yX6_sendThing cX6_sendThing 6 none, Cond.fieldLink RX6 172 "TidePost$Caller" "given" "I", Cond.methodLink RX6 168 yX4_of, Cond.static yX4_of]
def wsX6_letArrive_r7 : List Cond := [Cond.code yX4_of cX4_of 4 (some .int), Cond.methodLink RX6 131 yX0_take, Cond.instanceMethod yX0_take, Cond.selects RX0 yX0_take yX0_take, Cond.initialized RX0, Cond.code yX0_take cX0_take 3 (some .boolean), Cond.fieldLink RX0 22 "TidePost$Callee" "wanted" "I", Cond.fieldLink RX0 9 "TidePost$Callee" "held" "[Z", Cond.fieldLink RX0 15 "TidePost$Callee" "read" "I", Cond.fieldLink RX0 19 "TidePost$Callee" "buffer" "I", Cond.methodLink RX6 135 yX6_sendAnswer, Cond.instanceMethod yX6_sendAnswer, Cond.selects RX6 yX6_sendAnswer yX6_sendAnswer, Cond.code yX6_sendAnswer cX6_sendAnswer 5 none, Cond.fieldLink RX6 175 "TidePost$Callee" "wanted" "I", Cond.methodLink RX6 178 yX0_spare, Cond.instanceMethod yX0_spare, Cond.selects RX0 yX0_spare yX0_spare, Cond.code yX0_spare cX0_spare 1 (some .int), Cond.methodLink RX0 25 Lib.Math.max.name]
def wsX6_letArrive : List Cond := .code yX6_letArrive cX6_letArrive 4 none :: ((wsX6_letArrive_r1 ++ (wsX6_letArrive_r2 ++ (wsX6_letArrive_r3 ++ (wsX6_letArrive_r4 ++ (wsX6_letArrive_r5 ++ (wsX6_letArrive_r6 ++ wsX6_letArrive_r7)))))) ++ wsX60 ++ wsX30 ++ wsX70 ++ wsX20 ++ wsX10 ++ wsX50 ++ wsX00)
def wsX6_letTimersRunOut_r1 : List Cond := [Cond.fieldLink RX6 29 "TidePost$Traffic" "made" "I", Cond.fieldLink RX6 19 "TidePost$Traffic" "all" "[LTidePost$Connection;", Cond.fieldLink RX6 48 "TidePost$Connection" "caller" "LTidePost$Caller;", Cond.fieldLink RX6 138 "TidePost$Caller" "timer" "I", Cond.fieldLink RX6 52 "TidePost$Traffic" "clock" "I", Cond.fieldLink RX6 145 "TidePost$Caller" "state" "I", Cond.methodLink RX6 141 yX1_runOut, Cond.instanceMethod yX1_runOut, Cond.selects RX1 yX1_runOut yX1_runOut, Cond.initialized RX1, Cond.code yX1_runOut cX1_runOut 2 (some .boolean), Cond.fieldLink RX1 40 "TidePost$Caller" "timer" "I", Cond.fieldLink RX1 64 "TidePost$Caller" "tries" "I", Cond.fieldLink RX1 18 "TidePost$Caller" "state" "I", Cond.fieldLink RX1 12 "TidePost$Caller" "timing" "LTidePost$Timing;", Cond.fieldLink RX1 22 "TidePost$Caller" "window" "I", Cond.fieldLink RX1 78 "TidePost$Caller" "like" "I", Cond.fieldLink RX1 37 "TidePost$Timing" "timeout" "I", Cond.methodLink RX1 96 yX5_backOff, Cond.instanceMethod yX5_backOff, Cond.selects RX5 yX5_backOff yX5_backOff, Cond.initialized RX5, Cond.code yX5_backOff cX5_backOff 1 none, Cond.fieldLink RX5 18 "TidePost$Timing" "timeout" "I"]
def wsX6_letTimersRunOut_r2 : List Cond := [Cond.methodLink RX5 37 Lib.Math.min.name, Cond.static Lib.Math.min.name, Cond.initialized "java/lang/Math", Cond.code Lib.Math.min.name Lib.Math.min.code 2 (some .int), Cond.fieldLink RX5 21 "TidePost$Timing" "measured" "I", Cond.methodLink RX1 93 yX1_startRecovery, Cond.instanceMethod yX1_startRecovery, Cond.selects RX1 yX1_startRecovery yX1_startRecovery, Cond.code yX1_startRecovery cX1_startRecovery 1 none, Cond.fieldLink RX1 50 "TidePost$Caller" "next" "I", Cond.fieldLink RX1 31 "TidePost$Caller" "recover" "I", Cond.fieldLink RX1 53 "TidePost$Caller" "base" "I", Cond.methodLink RX1 84 Lib.Math.max.name, Cond.static Lib.Math.max.name, Cond.code Lib.Math.max.name Lib.Math.max.code 2 (some .int), Cond.fieldLink RX1 25 "TidePost$Caller" "threshold" "I", Cond.methodLink RX6 61 yX6_sendHello, Cond.instanceMethod yX6_sendHello, Cond.selects RX6 yX6_sendHello yX6_sendHello, Cond.initialized RX6, Cond.code yX6_sendHello cX6_sendHello 4 none, Cond.fieldLink RX6 33 "TidePost$Connection" "callerNode" "I", Cond.fieldLink RX6 36 "TidePost$Connection" "calleeNode" "I", Cond.methodLink RX6 168 yX4_of]
def wsX6_letTimersRunOut_r3 : List Cond := [Cond.static yX4_of, Cond.initialized RX4, Cond.code yX4_of cX4_of 4 (some .int), Cond.methodLink RX6 111 yX6_send, Cond.instanceMethod yX6_send, Cond.selects RX6 yX6_send yX6_send, Cond.code yX6_send cX6_send 6 none, Cond.fieldLink RX6 23 "TidePost$Traffic" "net" "LTidePost$Net;", Cond.fieldLink RX6 69 "TidePost$Traffic" "lost" "I", Cond.fieldLink RX6 97 "TidePost$Net" "firsts" "[I", Cond.fieldLink RX6 11 "TidePost$Traffic" "ways" "[LTidePost$Way;", Cond.fieldLink RX6 188 "TidePost$Net" "rooms" "[I", Cond.methodLink RX6 181 yX3_linkTowards, Cond.instanceMethod yX3_linkTowards, Cond.selects RX3 yX3_linkTowards yX3_linkTowards, Cond.initialized RX3, Cond.code yX3_linkTowards cX3_linkTowards 6 (some .int), Cond.fieldLink RX3 30 "TidePost$Net" "distances" "[[I", Cond.fieldLink RX3 43 "TidePost$Net" "links" "I", Cond.fieldLink RX3 24 "TidePost$Net" "up" "[Z", Cond.fieldLink RX3 18 "TidePost$Net" "delays" "[I", Cond.methodLink RX3 46 yX3_farEnd, Cond.instanceMethod yX3_farEnd, Cond.selects RX3 yX3_farEnd yX3_farEnd]
def wsX6_letTimersRunOut_r4 : List Cond := [Cond.code yX3_farEnd cX3_farEnd 3 (some .int), Cond.fieldLink RX3 9 "TidePost$Net" "firsts" "[I", Cond.fieldLink RX3 15 "TidePost$Net" "seconds" "[I", Cond.methodLink RX6 185 yX4_hopsOf, Cond.static yX4_hopsOf, Cond.code yX4_hopsOf cX4_hopsOf 1 (some .int), Cond.methodLink RX6 191 yX7_join, Cond.instanceMethod yX7_join, Cond.selects RX7 yX7_join yX7_join, Cond.initialized RX7, Cond.code yX7_join cX7_join 3 (some .boolean), Cond.fieldLink RX7 18 "TidePost$Way" "queued" "I", Cond.fieldLink RX7 9 "TidePost$Way" "queue" "[I", Cond.fieldLink RX7 22 "TidePost$Way" "head" "I", Cond.methodLink RX6 125 yX1_baseAgain, Cond.instanceMethod yX1_baseAgain, Cond.selects RX1 yX1_baseAgain yX1_baseAgain, Cond.code yX1_baseAgain cX1_baseAgain 1 (some .int), Cond.fieldLink RX1 99 "TidePost$Caller" "sentAgain" "I", Cond.methodLink RX1 102 yX5_sentTwice, Cond.instanceMethod yX5_sentTwice, Cond.selects RX5 yX5_sentTwice yX5_sentTwice, Cond.code yX5_sentTwice cX5_sentTwice 2 none, Cond.methodLink RX6 128 yX6_sendThing]
def wsX6_letTimersRunOut_r5 : List Cond := [Cond.instanceMethod yX6_sendThing, Cond.selects RX6 yX6_sendThing yX6_sendThing, Cond.code yX6_sendThing cX6_sendThing 6 none, Cond.fieldLink RX6 172 "TidePost$Caller" "given" "I"]
def wsX6_letTimersRunOut : List Cond := .code yX6_letTimersRunOut cX6_letTimersRunOut 3 none :: ((wsX6_letTimersRunOut_r1 ++ (wsX6_letTimersRunOut_r2 ++ (wsX6_letTimersRunOut_r3 ++ (wsX6_letTimersRunOut_r4 ++ wsX6_letTimersRunOut_r5)))) ++ wsX60 ++ wsX20 ++ wsX10 ++ wsX50 ++ wsX30 ++ wsX70)
def wsX6_letCallersSend_r1 : List Cond := [Cond.fieldLink RX6 29 "TidePost$Traffic" "made" "I", Cond.fieldLink RX6 19 "TidePost$Traffic" "all" "[LTidePost$Connection;", Cond.fieldLink RX6 48 "TidePost$Connection" "caller" "LTidePost$Caller;", Cond.fieldLink RX6 152 "TidePost$Caller" "next" "I", Cond.fieldLink RX6 52 "TidePost$Traffic" "clock" "I", Cond.methodLink RX6 148 yX1_maySend, Cond.instanceMethod yX1_maySend, Cond.selects RX1 yX1_maySend yX1_maySend, Cond.initialized RX1, Cond.code yX1_maySend cX1_maySend 3 (some .boolean), Cond.fieldLink RX1 50 "TidePost$Caller" "next" "I", Cond.fieldLink RX1 53 "TidePost$Caller" "base" "I", Cond.fieldLink RX1 18 "TidePost$Caller" "state" "I", Cond.fieldLink RX1 22 "TidePost$Caller" "window" "I", Cond.fieldLink RX1 47 "TidePost$Caller" "given" "I", Cond.fieldLink RX1 28 "TidePost$Caller" "room" "I", Cond.methodLink RX1 56 yX1_things, Cond.instanceMethod yX1_things, Cond.selects RX1 yX1_things yX1_things, Cond.code yX1_things cX1_things 1 (some .int), Cond.fieldLink RX1 43 "TidePost$Caller" "toldToClose" "Z", Cond.methodLink RX6 128 yX6_sendThing, Cond.instanceMethod yX6_sendThing, Cond.selects RX6 yX6_sendThing yX6_sendThing]
def wsX6_letCallersSend_r2 : List Cond := [Cond.initialized RX6, Cond.code yX6_sendThing cX6_sendThing 6 none, Cond.fieldLink RX6 172 "TidePost$Caller" "given" "I", Cond.fieldLink RX6 33 "TidePost$Connection" "callerNode" "I", Cond.fieldLink RX6 36 "TidePost$Connection" "calleeNode" "I", Cond.methodLink RX6 168 yX4_of, Cond.static yX4_of, Cond.initialized RX4, Cond.code yX4_of cX4_of 4 (some .int), Cond.methodLink RX6 111 yX6_send, Cond.instanceMethod yX6_send, Cond.selects RX6 yX6_send yX6_send, Cond.code yX6_send cX6_send 6 none, Cond.fieldLink RX6 23 "TidePost$Traffic" "net" "LTidePost$Net;", Cond.fieldLink RX6 69 "TidePost$Traffic" "lost" "I", Cond.fieldLink RX6 97 "TidePost$Net" "firsts" "[I", Cond.fieldLink RX6 11 "TidePost$Traffic" "ways" "[LTidePost$Way;", Cond.fieldLink RX6 188 "TidePost$Net" "rooms" "[I", Cond.methodLink RX6 181 yX3_linkTowards, Cond.instanceMethod yX3_linkTowards, Cond.selects RX3 yX3_linkTowards yX3_linkTowards, Cond.initialized RX3, Cond.code yX3_linkTowards cX3_linkTowards 6 (some .int), Cond.fieldLink RX3 30 "TidePost$Net" "distances" "[[I"]
def wsX6_letCallersSend_r3 : List Cond := [Cond.fieldLink RX3 43 "TidePost$Net" "links" "I", Cond.fieldLink RX3 24 "TidePost$Net" "up" "[Z", Cond.fieldLink RX3 18 "TidePost$Net" "delays" "[I", Cond.methodLink RX3 46 yX3_farEnd, Cond.instanceMethod yX3_farEnd, Cond.selects RX3 yX3_farEnd yX3_farEnd, Cond.code yX3_farEnd cX3_farEnd 3 (some .int), Cond.fieldLink RX3 9 "TidePost$Net" "firsts" "[I", Cond.fieldLink RX3 15 "TidePost$Net" "seconds" "[I", Cond.methodLink RX6 185 yX4_hopsOf, Cond.static yX4_hopsOf, Cond.code yX4_hopsOf cX4_hopsOf 1 (some .int), Cond.methodLink RX6 191 yX7_join, Cond.instanceMethod yX7_join, Cond.selects RX7 yX7_join yX7_join, Cond.initialized RX7, Cond.code yX7_join cX7_join 3 (some .boolean), Cond.fieldLink RX7 18 "TidePost$Way" "queued" "I", Cond.fieldLink RX7 9 "TidePost$Way" "queue" "[I", Cond.fieldLink RX7 22 "TidePost$Way" "head" "I", Cond.methodLink RX6 155 yX1_sent, Cond.instanceMethod yX1_sent, Cond.selects RX1 yX1_sent yX1_sent, Cond.code yX1_sent cX1_sent 2 none]
def wsX6_letCallersSend_r4 : List Cond := [Cond.fieldLink RX1 12 "TidePost$Caller" "timing" "LTidePost$Timing;", Cond.fieldLink RX1 40 "TidePost$Caller" "timer" "I", Cond.fieldLink RX1 37 "TidePost$Timing" "timeout" "I", Cond.methodLink RX1 60 yX5_sent, Cond.instanceMethod yX5_sent, Cond.selects RX5 yX5_sent yX5_sent, Cond.initialized RX5, Cond.code yX5_sent cX5_sent 3 none, Cond.fieldLink RX5 21 "TidePost$Timing" "measured" "I", Cond.fieldLink RX5 24 "TidePost$Timing" "measuredAt" "I"]
def wsX6_letCallersSend : List Cond := .code yX6_letCallersSend cX6_letCallersSend 4 none :: ((wsX6_letCallersSend_r1 ++ (wsX6_letCallersSend_r2 ++ (wsX6_letCallersSend_r3 ++ wsX6_letCallersSend_r4))) ++ wsX60 ++ wsX20 ++ wsX10 ++ wsX30 ++ wsX70 ++ wsX50)
def wsX7_takeOff : List Cond := .code yX7_takeOff cX7_takeOff 3 (some .boolean) :: ([.fieldLink RX7 18 "TidePost$Way" "queued" "I", .fieldLink RX7 9 "TidePost$Way" "queue" "[I", .fieldLink RX7 22 "TidePost$Way" "head" "I", .fieldLink RX7 25 "TidePost$Way" "toLose" "I", .fieldLink RX7 15 "TidePost$Way" "flight" "[I", .constant RX7 36 (262144), .fieldLink RX7 37 "TidePost$Way" "flying" "I", .fieldLink RX7 40 "TidePost$Way" "flown" "I", .methodLink RX7 28 yJ9_floorMod_7cf53, .static yJ9_floorMod_7cf53, .initialized RJ9, .code yJ9_floorMod_7cf53 cJ9_floorMod_7cf53 3 (some .int)] ++ wsX70)
def wsX6_letTakeOff : List Cond := .code yX6_letTakeOff cX6_letTakeOff 3 none :: ([.fieldLink RX6 23 "TidePost$Traffic" "net" "LTidePost$Net;", .fieldLink RX6 84 "TidePost$Net" "links" "I", .fieldLink RX6 158 "TidePost$Net" "up" "[Z", .fieldLink RX6 52 "TidePost$Traffic" "clock" "I", .fieldLink RX6 162 "TidePost$Net" "delays" "[I", .fieldLink RX6 69 "TidePost$Traffic" "lost" "I", .fieldLink RX6 11 "TidePost$Traffic" "ways" "[LTidePost$Way;", .methodLink RX6 165 yX7_takeOff, .instanceMethod yX7_takeOff, .selects RX7 yX7_takeOff yX7_takeOff, .initialized RX7, .code yX7_takeOff cX7_takeOff 3 (some .boolean), .fieldLink RX7 18 "TidePost$Way" "queued" "I", .fieldLink RX7 9 "TidePost$Way" "queue" "[I", .fieldLink RX7 22 "TidePost$Way" "head" "I", .fieldLink RX7 25 "TidePost$Way" "toLose" "I", .fieldLink RX7 15 "TidePost$Way" "flight" "[I", .constant RX7 36 (262144), .fieldLink RX7 37 "TidePost$Way" "flying" "I", .fieldLink RX7 40 "TidePost$Way" "flown" "I", .methodLink RX7 28 yJ9_floorMod_7cf53, .static yJ9_floorMod_7cf53, .initialized RJ9, .code yJ9_floorMod_7cf53 cJ9_floorMod_7cf53 3 (some .int)] ++ wsX60 ++ wsX30 ++ wsX70)
def wsX6_tick_r1 : List Cond := [Cond.fieldLink RX6 52 "TidePost$Traffic" "clock" "I", Cond.methodLink RX6 72 yX6_letArrive, Cond.instanceMethod yX6_letArrive, Cond.selects RX6 yX6_letArrive yX6_letArrive, Cond.initialized RX6, Cond.code yX6_letArrive cX6_letArrive 4 none, Cond.fieldLink RX6 23 "TidePost$Traffic" "net" "LTidePost$Net;", Cond.fieldLink RX6 84 "TidePost$Net" "links" "I", Cond.fieldLink RX6 11 "TidePost$Traffic" "ways" "[LTidePost$Way;", Cond.fieldLink RX6 93 "TidePost$Net" "seconds" "[I", Cond.fieldLink RX6 97 "TidePost$Net" "firsts" "[I", Cond.methodLink RX6 89 yX7_land, Cond.instanceMethod yX7_land, Cond.selects RX7 yX7_land yX7_land, Cond.initialized RX7, Cond.code yX7_land cX7_land 4 (some .int), Cond.fieldLink RX7 15 "TidePost$Way" "flight" "[I", Cond.fieldLink RX7 37 "TidePost$Way" "flying" "I", Cond.methodLink RX7 28 yJ9_floorMod_7cf53, Cond.static yJ9_floorMod_7cf53, Cond.initialized RJ9, Cond.code yJ9_floorMod_7cf53 cJ9_floorMod_7cf53 3 (some .int), Cond.methodLink RX6 100 yX6_arrive, Cond.instanceMethod yX6_arrive]
def wsX6_tick_r2 : List Cond := [Cond.selects RX6 yX6_arrive yX6_arrive, Cond.code yX6_arrive cX6_arrive 8 none, Cond.fieldLink RX6 29 "TidePost$Traffic" "made" "I", Cond.fieldLink RX6 19 "TidePost$Traffic" "all" "[LTidePost$Connection;", Cond.fieldLink RX6 33 "TidePost$Connection" "callerNode" "I", Cond.fieldLink RX6 36 "TidePost$Connection" "calleeNode" "I", Cond.fieldLink RX6 48 "TidePost$Connection" "caller" "LTidePost$Caller;", Cond.fieldLink RX6 69 "TidePost$Traffic" "lost" "I", Cond.fieldLink RX6 39 "TidePost$Connection" "callee" "LTidePost$Callee;", Cond.methodLink RX6 103 yX4_connectionOf, Cond.static yX4_connectionOf, Cond.initialized RX4, Cond.code yX4_connectionOf cX4_connectionOf 1 (some .int), Cond.methodLink RX6 108 yX4_kindOf, Cond.static yX4_kindOf, Cond.code yX4_kindOf cX4_kindOf 1 (some .int), Cond.methodLink RX6 111 yX6_send, Cond.instanceMethod yX6_send, Cond.selects RX6 yX6_send yX6_send, Cond.code yX6_send cX6_send 6 none, Cond.fieldLink RX6 188 "TidePost$Net" "rooms" "[I", Cond.methodLink RX6 181 yX3_linkTowards, Cond.instanceMethod yX3_linkTowards, Cond.selects RX3 yX3_linkTowards yX3_linkTowards]
def wsX6_tick_r3 : List Cond := [Cond.initialized RX3, Cond.code yX3_linkTowards cX3_linkTowards 6 (some .int), Cond.fieldLink RX3 30 "TidePost$Net" "distances" "[[I", Cond.fieldLink RX3 43 "TidePost$Net" "links" "I", Cond.fieldLink RX3 24 "TidePost$Net" "up" "[Z", Cond.fieldLink RX3 18 "TidePost$Net" "delays" "[I", Cond.methodLink RX3 46 yX3_farEnd, Cond.instanceMethod yX3_farEnd, Cond.selects RX3 yX3_farEnd yX3_farEnd, Cond.code yX3_farEnd cX3_farEnd 3 (some .int), Cond.fieldLink RX3 9 "TidePost$Net" "firsts" "[I", Cond.fieldLink RX3 15 "TidePost$Net" "seconds" "[I", Cond.methodLink RX6 185 yX4_hopsOf, Cond.static yX4_hopsOf, Cond.code yX4_hopsOf cX4_hopsOf 1 (some .int), Cond.methodLink RX6 191 yX7_join, Cond.instanceMethod yX7_join, Cond.selects RX7 yX7_join yX7_join, Cond.code yX7_join cX7_join 3 (some .boolean), Cond.fieldLink RX7 18 "TidePost$Way" "queued" "I", Cond.fieldLink RX7 9 "TidePost$Way" "queue" "[I", Cond.fieldLink RX7 22 "TidePost$Way" "head" "I", Cond.methodLink RX6 115 yX4_numberOf, Cond.static yX4_numberOf]
def wsX6_tick_r4 : List Cond := [Cond.code yX4_numberOf cX4_numberOf 1 (some .int), Cond.methodLink RX6 118 yX4_roomOf, Cond.static yX4_roomOf, Cond.code yX4_roomOf cX4_roomOf 1 (some .int), Cond.methodLink RX6 121 yX1_takeAnswer, Cond.instanceMethod yX1_takeAnswer, Cond.selects RX1 yX1_takeAnswer yX1_takeAnswer, Cond.initialized RX1, Cond.code yX1_takeAnswer cX1_takeAnswer 4 (some .boolean), Cond.fieldLink RX1 18 "TidePost$Caller" "state" "I", Cond.fieldLink RX1 64 "TidePost$Caller" "tries" "I", Cond.fieldLink RX1 40 "TidePost$Caller" "timer" "I", Cond.fieldLink RX1 53 "TidePost$Caller" "base" "I", Cond.fieldLink RX1 50 "TidePost$Caller" "next" "I", Cond.fieldLink RX1 28 "TidePost$Caller" "room" "I", Cond.methodLink RX1 67 yX1_advance, Cond.instanceMethod yX1_advance, Cond.selects RX1 yX1_advance yX1_advance, Cond.code yX1_advance cX1_advance 5 (some .boolean), Cond.fieldLink RX1 12 "TidePost$Caller" "timing" "LTidePost$Timing;", Cond.fieldLink RX1 78 "TidePost$Caller" "like" "I", Cond.fieldLink RX1 31 "TidePost$Caller" "recover" "I", Cond.fieldLink RX1 37 "TidePost$Timing" "timeout" "I", Cond.fieldLink RX1 47 "TidePost$Caller" "given" "I"]
def wsX6_tick_r5 : List Cond := [Cond.methodLink RX1 75 yX5_answered, Cond.instanceMethod yX5_answered, Cond.selects RX5 yX5_answered yX5_answered, Cond.initialized RX5, Cond.code yX5_answered cX5_answered 5 none, Cond.fieldLink RX5 21 "TidePost$Timing" "measured" "I", Cond.fieldLink RX5 24 "TidePost$Timing" "measuredAt" "I", Cond.fieldLink RX5 9 "TidePost$Timing" "round" "I", Cond.fieldLink RX5 15 "TidePost$Timing" "swing" "I", Cond.methodLink RX5 27 Lib.Math.abs.name, Cond.static Lib.Math.abs.name, Cond.initialized "java/lang/Math", Cond.code Lib.Math.abs.name Lib.Math.abs.code 1 (some .int), Cond.methodLink RX5 33 Lib.Math.max.name, Cond.static Lib.Math.max.name, Cond.code Lib.Math.max.name Lib.Math.max.code 2 (some .int), Cond.methodLink RX5 37 Lib.Math.min.name, Cond.static Lib.Math.min.name, Cond.code Lib.Math.min.name Lib.Math.min.code 2 (some .int), Cond.fieldLink RX5 18 "TidePost$Timing" "timeout" "I", Cond.methodLink RX1 81 yX1_growWindow, Cond.instanceMethod yX1_growWindow, Cond.selects RX1 yX1_growWindow yX1_growWindow, Cond.code yX1_growWindow cX1_growWindow 2 none]
def wsX6_tick_r6 : List Cond := [Cond.fieldLink RX1 22 "TidePost$Caller" "window" "I", Cond.fieldLink RX1 25 "TidePost$Caller" "threshold" "I", Cond.methodLink RX1 84 Lib.Math.max.name, Cond.methodLink RX1 90 Lib.Math.min.name, Cond.methodLink RX1 71 yX1_repeated, Cond.instanceMethod yX1_repeated, Cond.selects RX1 yX1_repeated yX1_repeated, Cond.code yX1_repeated cX1_repeated 2 (some .boolean), Cond.methodLink RX1 93 yX1_startRecovery, Cond.instanceMethod yX1_startRecovery, Cond.selects RX1 yX1_startRecovery yX1_startRecovery, Cond.code yX1_startRecovery cX1_startRecovery 1 none, Cond.methodLink RX6 125 yX1_baseAgain, Cond.instanceMethod yX1_baseAgain, Cond.selects RX1 yX1_baseAgain yX1_baseAgain, Cond.code yX1_baseAgain cX1_baseAgain 1 (some .int), Cond.fieldLink RX1 99 "TidePost$Caller" "sentAgain" "I", Cond.methodLink RX1 102 yX5_sentTwice, Cond.instanceMethod yX5_sentTwice, Cond.selects RX5 yX5_sentTwice yX5_sentTwice, Cond.code yX5_sentTwice cX5_sentTwice 2 none, Cond.methodLink RX6 128 yX6_sendThing, Cond.instanceMethod yX6_sendThing, Cond.selects RX6 yX6_sendThing yX6_sendThing]
def wsX6_tick_r7 : List Cond := [Cond.code yX6_sendThing cX6_sendThing 6 none, Cond.fieldLink RX6 172 "TidePost$Caller" "given" "I", Cond.methodLink RX6 168 yX4_of, Cond.static yX4_of, Cond.code yX4_of cX4_of 4 (some .int), Cond.methodLink RX6 131 yX0_take, Cond.instanceMethod yX0_take, Cond.selects RX0 yX0_take yX0_take, Cond.initialized RX0, Cond.code yX0_take cX0_take 3 (some .boolean), Cond.fieldLink RX0 22 "TidePost$Callee" "wanted" "I", Cond.fieldLink RX0 9 "TidePost$Callee" "held" "[Z", Cond.fieldLink RX0 15 "TidePost$Callee" "read" "I", Cond.fieldLink RX0 19 "TidePost$Callee" "buffer" "I", Cond.methodLink RX6 135 yX6_sendAnswer, Cond.instanceMethod yX6_sendAnswer, Cond.selects RX6 yX6_sendAnswer yX6_sendAnswer, Cond.code yX6_sendAnswer cX6_sendAnswer 5 none, Cond.fieldLink RX6 175 "TidePost$Callee" "wanted" "I", Cond.methodLink RX6 178 yX0_spare, Cond.instanceMethod yX0_spare, Cond.selects RX0 yX0_spare yX0_spare, Cond.code yX0_spare cX0_spare 1 (some .int), Cond.methodLink RX0 25 Lib.Math.max.name]
def wsX6_tick_r8 : List Cond := [Cond.methodLink RX6 75 yX6_letTimersRunOut, Cond.instanceMethod yX6_letTimersRunOut, Cond.selects RX6 yX6_letTimersRunOut yX6_letTimersRunOut, Cond.code yX6_letTimersRunOut cX6_letTimersRunOut 3 none, Cond.fieldLink RX6 138 "TidePost$Caller" "timer" "I", Cond.fieldLink RX6 145 "TidePost$Caller" "state" "I", Cond.methodLink RX6 141 yX1_runOut, Cond.instanceMethod yX1_runOut, Cond.selects RX1 yX1_runOut yX1_runOut, Cond.code yX1_runOut cX1_runOut 2 (some .boolean), Cond.methodLink RX1 96 yX5_backOff, Cond.instanceMethod yX5_backOff, Cond.selects RX5 yX5_backOff yX5_backOff, Cond.code yX5_backOff cX5_backOff 1 none, Cond.methodLink RX6 61 yX6_sendHello, Cond.instanceMethod yX6_sendHello, Cond.selects RX6 yX6_sendHello yX6_sendHello, Cond.code yX6_sendHello cX6_sendHello 4 none, Cond.methodLink RX6 78 yX6_letCallersSend, Cond.instanceMethod yX6_letCallersSend, Cond.selects RX6 yX6_letCallersSend yX6_letCallersSend, Cond.code yX6_letCallersSend cX6_letCallersSend 4 none, Cond.fieldLink RX6 152 "TidePost$Caller" "next" "I", Cond.methodLink RX6 148 yX1_maySend]
def wsX6_tick_r9 : List Cond := [Cond.instanceMethod yX1_maySend, Cond.selects RX1 yX1_maySend yX1_maySend, Cond.code yX1_maySend cX1_maySend 3 (some .boolean), Cond.methodLink RX1 56 yX1_things, Cond.instanceMethod yX1_things, Cond.selects RX1 yX1_things yX1_things, Cond.code yX1_things cX1_things 1 (some .int), Cond.fieldLink RX1 43 "TidePost$Caller" "toldToClose" "Z", Cond.methodLink RX6 155 yX1_sent, Cond.instanceMethod yX1_sent, Cond.selects RX1 yX1_sent yX1_sent, Cond.code yX1_sent cX1_sent 2 none, Cond.methodLink RX1 60 yX5_sent, Cond.instanceMethod yX5_sent, Cond.selects RX5 yX5_sent yX5_sent, Cond.code yX5_sent cX5_sent 3 none, Cond.methodLink RX6 81 yX6_letTakeOff, Cond.instanceMethod yX6_letTakeOff, Cond.selects RX6 yX6_letTakeOff yX6_letTakeOff, Cond.code yX6_letTakeOff cX6_letTakeOff 3 none, Cond.fieldLink RX6 158 "TidePost$Net" "up" "[Z", Cond.fieldLink RX6 162 "TidePost$Net" "delays" "[I", Cond.methodLink RX6 165 yX7_takeOff, Cond.instanceMethod yX7_takeOff]
def wsX6_tick_r10 : List Cond := [Cond.selects RX7 yX7_takeOff yX7_takeOff, Cond.code yX7_takeOff cX7_takeOff 3 (some .boolean), Cond.fieldLink RX7 25 "TidePost$Way" "toLose" "I", Cond.constant RX7 36 (262144), Cond.fieldLink RX7 40 "TidePost$Way" "flown" "I"]
def wsX6_tick : List Cond := .code yX6_tick cX6_tick 1 none :: ((wsX6_tick_r1 ++ (wsX6_tick_r2 ++ (wsX6_tick_r3 ++ (wsX6_tick_r4 ++ (wsX6_tick_r5 ++ (wsX6_tick_r6 ++ (wsX6_tick_r7 ++ (wsX6_tick_r8 ++ (wsX6_tick_r9 ++ wsX6_tick_r10))))))))) ++ wsX60 ++ wsX30 ++ wsX70 ++ wsX20 ++ wsX10 ++ wsX50 ++ wsX00)
def wsX7_copyFrom : List Cond := .code yX7_copyFrom cX7_copyFrom 2 none :: ([.fieldLink RX7 9 "TidePost$Way" "queue" "[I", .methodLink RX7 43 arraycopyName, .native arraycopyName, .static arraycopyName, .initialized "java/lang/System", .fieldLink RX7 22 "TidePost$Way" "head" "I", .fieldLink RX7 18 "TidePost$Way" "queued" "I", .fieldLink RX7 15 "TidePost$Way" "flight" "[I", .fieldLink RX7 37 "TidePost$Way" "flying" "I", .fieldLink RX7 40 "TidePost$Way" "flown" "I", .fieldLink RX7 25 "TidePost$Way" "toLose" "I"] ++ wsX70)
def wsX6_copyFrom_r1 : List Cond := [Cond.fieldLink RX6 23 "TidePost$Traffic" "net" "LTidePost$Net;", Cond.fieldLink RX6 84 "TidePost$Net" "links" "I", Cond.fieldLink RX6 11 "TidePost$Traffic" "ways" "[LTidePost$Way;", Cond.fieldLink RX6 29 "TidePost$Traffic" "made" "I", Cond.fieldLink RX6 19 "TidePost$Traffic" "all" "[LTidePost$Connection;", Cond.fieldLink RX6 52 "TidePost$Traffic" "clock" "I", Cond.fieldLink RX6 69 "TidePost$Traffic" "lost" "I", Cond.methodLink RX6 195 yX7_copyFrom, Cond.instanceMethod yX7_copyFrom, Cond.selects RX7 yX7_copyFrom yX7_copyFrom, Cond.initialized RX7, Cond.code yX7_copyFrom cX7_copyFrom 2 none, Cond.fieldLink RX7 9 "TidePost$Way" "queue" "[I", Cond.methodLink RX7 43 arraycopyName, Cond.native arraycopyName, Cond.static arraycopyName, Cond.initialized "java/lang/System", Cond.fieldLink RX7 22 "TidePost$Way" "head" "I", Cond.fieldLink RX7 18 "TidePost$Way" "queued" "I", Cond.fieldLink RX7 15 "TidePost$Way" "flight" "[I", Cond.fieldLink RX7 37 "TidePost$Way" "flying" "I", Cond.fieldLink RX7 40 "TidePost$Way" "flown" "I", Cond.fieldLink RX7 25 "TidePost$Way" "toLose" "I", Cond.methodLink RX6 199 yX2_copyFrom]
def wsX6_copyFrom_r2 : List Cond := [Cond.instanceMethod yX2_copyFrom, Cond.selects RX2 yX2_copyFrom yX2_copyFrom, Cond.initialized RX2, Cond.code yX2_copyFrom cX2_copyFrom 2 none, Cond.fieldLink RX2 39 "TidePost$Connection" "callerNode" "I", Cond.fieldLink RX2 42 "TidePost$Connection" "calleeNode" "I", Cond.fieldLink RX2 10 "TidePost$Connection" "caller" "LTidePost$Caller;", Cond.fieldLink RX2 19 "TidePost$Connection" "callee" "LTidePost$Callee;", Cond.methodLink RX2 45 yX1_copyFrom, Cond.instanceMethod yX1_copyFrom, Cond.selects RX1 yX1_copyFrom yX1_copyFrom, Cond.initialized RX1, Cond.code yX1_copyFrom cX1_copyFrom 2 none, Cond.fieldLink RX1 18 "TidePost$Caller" "state" "I", Cond.fieldLink RX1 47 "TidePost$Caller" "given" "I", Cond.fieldLink RX1 43 "TidePost$Caller" "toldToClose" "Z", Cond.fieldLink RX1 53 "TidePost$Caller" "base" "I", Cond.fieldLink RX1 50 "TidePost$Caller" "next" "I", Cond.fieldLink RX1 22 "TidePost$Caller" "window" "I", Cond.fieldLink RX1 25 "TidePost$Caller" "threshold" "I", Cond.fieldLink RX1 28 "TidePost$Caller" "room" "I", Cond.fieldLink RX1 78 "TidePost$Caller" "like" "I", Cond.fieldLink RX1 31 "TidePost$Caller" "recover" "I", Cond.fieldLink RX1 40 "TidePost$Caller" "timer" "I"]
def wsX6_copyFrom_r3 : List Cond := [Cond.fieldLink RX1 64 "TidePost$Caller" "tries" "I", Cond.fieldLink RX1 99 "TidePost$Caller" "sentAgain" "I", Cond.fieldLink RX1 12 "TidePost$Caller" "timing" "LTidePost$Timing;", Cond.methodLink RX1 106 yX5_copyFrom, Cond.instanceMethod yX5_copyFrom, Cond.selects RX5 yX5_copyFrom yX5_copyFrom, Cond.initialized RX5, Cond.code yX5_copyFrom cX5_copyFrom 2 none, Cond.fieldLink RX5 9 "TidePost$Timing" "round" "I", Cond.fieldLink RX5 15 "TidePost$Timing" "swing" "I", Cond.fieldLink RX5 18 "TidePost$Timing" "timeout" "I", Cond.fieldLink RX5 21 "TidePost$Timing" "measured" "I", Cond.fieldLink RX5 24 "TidePost$Timing" "measuredAt" "I", Cond.methodLink RX2 49 yX0_copyFrom, Cond.instanceMethod yX0_copyFrom, Cond.selects RX0 yX0_copyFrom yX0_copyFrom, Cond.initialized RX0, Cond.code yX0_copyFrom cX0_copyFrom 2 none, Cond.fieldLink RX0 19 "TidePost$Callee" "buffer" "I", Cond.fieldLink RX0 22 "TidePost$Callee" "wanted" "I", Cond.fieldLink RX0 15 "TidePost$Callee" "read" "I", Cond.fieldLink RX0 9 "TidePost$Callee" "held" "[Z", Cond.methodLink RX0 31 arraycopyName]
def wsX6_copyFrom : List Cond := .code yX6_copyFrom cX6_copyFrom 3 none :: ((wsX6_copyFrom_r1 ++ (wsX6_copyFrom_r2 ++ wsX6_copyFrom_r3)) ++ wsX60 ++ wsX30 ++ wsX70 ++ wsX20 ++ wsX10 ++ wsX50 ++ wsX00)
def wsX8_init_r1 : List Cond := [Cond.methodLink RX8 3 objectInit, Cond.instanceMethod objectInit, Cond.code objectInit ⟨#[0xb1]⟩ 1 none, Cond.classLink RX8 9 RX3, Cond.instantiable RX3 9, Cond.initialized RX3, Cond.fieldLink RX8 12 "TidePost" "net" "LTidePost$Net;", Cond.classLink RX8 16 RX6, Cond.instantiable RX6 6, Cond.initialized RX6, Cond.fieldLink RX8 21 "TidePost" "traffic" "LTidePost$Traffic;", Cond.fieldLink RX8 25 "TidePost" "ahead" "LTidePost$Traffic;", Cond.classLink RX8 28 "[[I", Cond.arrayClass .int, Cond.fieldLink RX8 30 "TidePost" "values" "[[I", Cond.instanceMethod yX3_init, Cond.code yX3_init cX3_init 1 none, Cond.methodLink RX3 3 objectInit, Cond.fieldLink RX3 9 "TidePost$Net" "firsts" "[I", Cond.fieldLink RX3 15 "TidePost$Net" "seconds" "[I", Cond.fieldLink RX3 18 "TidePost$Net" "delays" "[I", Cond.fieldLink RX3 21 "TidePost$Net" "rooms" "[I", Cond.arrayClass .boolean, Cond.fieldLink RX3 24 "TidePost$Net" "up" "[Z"]
def wsX8_init_r2 : List Cond := [Cond.classLink RX3 28 "[[I", Cond.fieldLink RX3 30 "TidePost$Net" "distances" "[[I", Cond.fieldLink RX3 33 "TidePost$Net" "trial" "[I", Cond.methodLink RX8 18 yX6_init, Cond.instanceMethod yX6_init, Cond.code yX6_init cX6_init 3 none, Cond.methodLink RX6 3 objectInit, Cond.classLink RX6 9 RX7, Cond.fieldLink RX6 11 "TidePost$Traffic" "ways" "[LTidePost$Way;", Cond.classLink RX6 17 RX2, Cond.fieldLink RX6 19 "TidePost$Traffic" "all" "[LTidePost$Connection;", Cond.fieldLink RX6 23 "TidePost$Traffic" "net" "LTidePost$Net;", Cond.instantiable RX7 7, Cond.initialized RX7, Cond.instantiable RX2 4, Cond.initialized RX2, Cond.methodLink RX6 27 yX7_init, Cond.instanceMethod yX7_init, Cond.code yX7_init cX7_init 2 none, Cond.methodLink RX7 3 objectInit, Cond.fieldLink RX7 9 "TidePost$Way" "queue" "[I", Cond.fieldLink RX7 15 "TidePost$Way" "flight" "[I", Cond.instanceMethod yX2_init, Cond.code yX2_init cX2_init 1 none]
def wsX8_init_r3 : List Cond := [Cond.methodLink RX2 1 objectInit, Cond.classLink RX2 7 RX1, Cond.instantiable RX1 14, Cond.initialized RX1, Cond.fieldLink RX2 10 "TidePost$Connection" "caller" "LTidePost$Caller;", Cond.classLink RX2 16 RX0, Cond.instantiable RX0 4, Cond.initialized RX0, Cond.fieldLink RX2 19 "TidePost$Connection" "callee" "LTidePost$Callee;", Cond.instanceMethod yX1_init, Cond.code yX1_init cX1_init 1 none, Cond.methodLink RX1 3 objectInit, Cond.classLink RX1 9 RX5, Cond.instantiable RX5 5, Cond.initialized RX5, Cond.fieldLink RX1 12 "TidePost$Caller" "timing" "LTidePost$Timing;", Cond.instanceMethod yX5_init, Cond.code yX5_init cX5_init 1 none, Cond.methodLink RX5 3 objectInit, Cond.instanceMethod yX0_init, Cond.code yX0_init cX0_init 1 none, Cond.methodLink RX0 3 objectInit, Cond.fieldLink RX0 9 "TidePost$Callee" "held" "[Z"]
def wsX8_init : List Cond := .code yX8_init cX8_init 1 none :: ((wsX8_init_r1 ++ (wsX8_init_r2 ++ wsX8_init_r3)) ++ wsX30 ++ wsX80 ++ wsX60 ++ wsX70 ++ wsX20 ++ wsX10 ++ wsX00 ++ wsX50)
def wsX8_addNode_r1 : List Cond := [Cond.classLink RX8 37 "java/lang/IllegalStateException", Cond.initialized "java/lang/IllegalStateException", Cond.fieldLink RX8 12 "TidePost" "net" "LTidePost$Net;", Cond.fieldLink RX8 33 "TidePost$Net" "nodes" "I", Cond.methodLink RX8 44 yX3_layNode, Cond.instanceMethod yX3_layNode, Cond.selects RX3 yX3_layNode yX3_layNode, Cond.initialized RX3, Cond.code yX3_layNode cX3_layNode 1 (some .int), Cond.fieldLink RX3 36 "TidePost$Net" "nodes" "I", Cond.methodLink RX3 40 yX3_measureRoutes, Cond.instanceMethod yX3_measureRoutes, Cond.selects RX3 yX3_measureRoutes yX3_measureRoutes, Cond.code yX3_measureRoutes cX3_measureRoutes 2 none, Cond.fieldLink RX3 30 "TidePost$Net" "distances" "[[I", Cond.methodLink RX3 50 yX3_spread, Cond.instanceMethod yX3_spread, Cond.selects RX3 yX3_spread yX3_spread, Cond.code yX3_spread cX3_spread 9 none, Cond.fieldLink RX3 43 "TidePost$Net" "links" "I", Cond.fieldLink RX3 24 "TidePost$Net" "up" "[Z", Cond.fieldLink RX3 9 "TidePost$Net" "firsts" "[I", Cond.fieldLink RX3 15 "TidePost$Net" "seconds" "[I", Cond.fieldLink RX3 18 "TidePost$Net" "delays" "[I"]
def wsX8_addNode_r2 : List Cond := [Cond.methodLink RX3 54 yX3_shorten, Cond.static yX3_shorten, Cond.code yX3_shorten cX3_shorten 4 (some .boolean)]
def wsX8_addNode : List Cond := .code yX8_addNode cX8_addNode 1 (some .int) :: ((wsX8_addNode_r1 ++ wsX8_addNode_r2) ++ wsX80 ++ wsX30 ++ (vx_atS RX8 41 "java/lang/IllegalStateException" ["java/lang/RuntimeException", "java/lang/Exception"]).filter goodWord)
def wsX8_checkNode : List Cond := .code yX8_checkNode cX8_checkNode 2 none :: ([.classLink RX8 297 "java/lang/IndexOutOfBoundsException", .initialized "java/lang/IndexOutOfBoundsException", .fieldLink RX8 12 "TidePost" "net" "LTidePost$Net;", .fieldLink RX8 33 "TidePost$Net" "nodes" "I"] ++ wsX80 ++ wsX30 ++ (vx_atS RX8 301 "java/lang/IndexOutOfBoundsException" ["java/lang/RuntimeException", "java/lang/Exception"]).filter goodWord)
def wsX8_checkRange : List Cond := .code yX8_checkRange cX8_checkRange 3 none :: ([.classLink RX8 52 "java/lang/IllegalArgumentException", .initialized "java/lang/IllegalArgumentException"] ++ (vx_atS RX8 56 "java/lang/IllegalArgumentException" ["java/lang/RuntimeException", "java/lang/Exception"]).filter goodWord)
def wsX8_addLink_r1 : List Cond := [Cond.classLink RX8 52 "java/lang/IllegalArgumentException", Cond.initialized "java/lang/IllegalArgumentException", Cond.classLink RX8 37 "java/lang/IllegalStateException", Cond.initialized "java/lang/IllegalStateException", Cond.fieldLink RX8 12 "TidePost" "net" "LTidePost$Net;", Cond.fieldLink RX8 61 "TidePost$Net" "links" "I", Cond.methodLink RX8 48 yX8_checkNode, Cond.instanceMethod yX8_checkNode, Cond.selects RX8 yX8_checkNode yX8_checkNode, Cond.initialized RX8, Cond.code yX8_checkNode cX8_checkNode 2 none, Cond.classLink RX8 297 "java/lang/IndexOutOfBoundsException", Cond.initialized "java/lang/IndexOutOfBoundsException", Cond.fieldLink RX8 33 "TidePost$Net" "nodes" "I", Cond.methodLink RX8 57 yX8_checkRange, Cond.static yX8_checkRange, Cond.code yX8_checkRange cX8_checkRange 3 none, Cond.methodLink RX8 64 yX3_joins, Cond.instanceMethod yX3_joins, Cond.selects RX3 yX3_joins yX3_joins, Cond.initialized RX3, Cond.code yX3_joins cX3_joins 4 (some .boolean), Cond.fieldLink RX3 43 "TidePost$Net" "links" "I", Cond.methodLink RX3 46 yX3_farEnd]
def wsX8_addLink_r2 : List Cond := [Cond.instanceMethod yX3_farEnd, Cond.selects RX3 yX3_farEnd yX3_farEnd, Cond.code yX3_farEnd cX3_farEnd 3 (some .int), Cond.fieldLink RX3 9 "TidePost$Net" "firsts" "[I", Cond.fieldLink RX3 15 "TidePost$Net" "seconds" "[I", Cond.methodLink RX8 70 yX3_layLink, Cond.instanceMethod yX3_layLink, Cond.selects RX3 yX3_layLink yX3_layLink, Cond.code yX3_layLink cX3_layLink 6 (some .int), Cond.fieldLink RX3 18 "TidePost$Net" "delays" "[I", Cond.fieldLink RX3 21 "TidePost$Net" "rooms" "[I", Cond.fieldLink RX3 24 "TidePost$Net" "up" "[Z", Cond.methodLink RX3 40 yX3_measureRoutes, Cond.instanceMethod yX3_measureRoutes, Cond.selects RX3 yX3_measureRoutes yX3_measureRoutes, Cond.code yX3_measureRoutes cX3_measureRoutes 2 none, Cond.fieldLink RX3 36 "TidePost$Net" "nodes" "I", Cond.fieldLink RX3 30 "TidePost$Net" "distances" "[[I", Cond.methodLink RX3 50 yX3_spread, Cond.instanceMethod yX3_spread, Cond.selects RX3 yX3_spread yX3_spread, Cond.code yX3_spread cX3_spread 9 none, Cond.methodLink RX3 54 yX3_shorten, Cond.static yX3_shorten]
def wsX8_addLink_r3 : List Cond := [Cond.code yX3_shorten cX3_shorten 4 (some .boolean)]
def wsX8_addLink : List Cond := .code yX8_addLink cX8_addLink 5 (some .int) :: ((wsX8_addLink_r1 ++ (wsX8_addLink_r2 ++ wsX8_addLink_r3)) ++ wsX80 ++ wsX30 ++ (vx_atS RX8 56 "java/lang/IllegalArgumentException" ["java/lang/RuntimeException", "java/lang/Exception"]).filter goodWord ++ (vx_atS RX8 41 "java/lang/IllegalStateException" ["java/lang/RuntimeException", "java/lang/Exception"]).filter goodWord ++ (vx_atS RX8 301 "java/lang/IndexOutOfBoundsException" ["java/lang/RuntimeException", "java/lang/Exception"]).filter goodWord)
def wsX8_checkLink : List Cond := .code yX8_checkLink cX8_checkLink 2 none :: ([.classLink RX8 297 "java/lang/IndexOutOfBoundsException", .initialized "java/lang/IndexOutOfBoundsException", .fieldLink RX8 12 "TidePost" "net" "LTidePost$Net;", .fieldLink RX8 61 "TidePost$Net" "links" "I"] ++ wsX80 ++ wsX30 ++ (vx_atS RX8 301 "java/lang/IndexOutOfBoundsException" ["java/lang/RuntimeException", "java/lang/Exception"]).filter goodWord)
def wsX8_turn_r1 : List Cond := [Cond.fieldLink RX8 12 "TidePost" "net" "LTidePost$Net;", Cond.fieldLink RX8 80 "TidePost$Net" "up" "[Z", Cond.fieldLink RX8 21 "TidePost" "traffic" "LTidePost$Traffic;", Cond.methodLink RX8 74 yX8_checkLink, Cond.instanceMethod yX8_checkLink, Cond.selects RX8 yX8_checkLink yX8_checkLink, Cond.initialized RX8, Cond.code yX8_checkLink cX8_checkLink 2 none, Cond.classLink RX8 297 "java/lang/IndexOutOfBoundsException", Cond.initialized "java/lang/IndexOutOfBoundsException", Cond.fieldLink RX8 61 "TidePost$Net" "links" "I", Cond.methodLink RX8 77 yX3_flip, Cond.instanceMethod yX3_flip, Cond.selects RX3 yX3_flip yX3_flip, Cond.initialized RX3, Cond.code yX3_flip cX3_flip 2 none, Cond.fieldLink RX3 24 "TidePost$Net" "up" "[Z", Cond.methodLink RX3 40 yX3_measureRoutes, Cond.instanceMethod yX3_measureRoutes, Cond.selects RX3 yX3_measureRoutes yX3_measureRoutes, Cond.code yX3_measureRoutes cX3_measureRoutes 2 none, Cond.fieldLink RX3 36 "TidePost$Net" "nodes" "I", Cond.fieldLink RX3 30 "TidePost$Net" "distances" "[[I", Cond.methodLink RX3 50 yX3_spread]
def wsX8_turn_r2 : List Cond := [Cond.instanceMethod yX3_spread, Cond.selects RX3 yX3_spread yX3_spread, Cond.code yX3_spread cX3_spread 9 none, Cond.fieldLink RX3 43 "TidePost$Net" "links" "I", Cond.fieldLink RX3 9 "TidePost$Net" "firsts" "[I", Cond.fieldLink RX3 15 "TidePost$Net" "seconds" "[I", Cond.fieldLink RX3 18 "TidePost$Net" "delays" "[I", Cond.methodLink RX3 54 yX3_shorten, Cond.static yX3_shorten, Cond.code yX3_shorten cX3_shorten 4 (some .boolean), Cond.methodLink RX8 84 yX6_dropAll, Cond.instanceMethod yX6_dropAll, Cond.selects RX6 yX6_dropAll yX6_dropAll, Cond.initialized RX6, Cond.code yX6_dropAll cX6_dropAll 3 (some .int), Cond.fieldLink RX6 11 "TidePost$Traffic" "ways" "[LTidePost$Way;", Cond.fieldLink RX6 69 "TidePost$Traffic" "lost" "I", Cond.methodLink RX6 65 yX7_drop, Cond.instanceMethod yX7_drop, Cond.selects RX7 yX7_drop yX7_drop, Cond.initialized RX7, Cond.code yX7_drop cX7_drop 3 (some .int), Cond.fieldLink RX7 18 "TidePost$Way" "queued" "I", Cond.fieldLink RX7 37 "TidePost$Way" "flying" "I"]
def wsX8_turn_r3 : List Cond := [Cond.fieldLink RX7 15 "TidePost$Way" "flight" "[I"]
def wsX8_turn : List Cond := .code yX8_turn cX8_turn 2 (some .int) :: ((wsX8_turn_r1 ++ (wsX8_turn_r2 ++ wsX8_turn_r3)) ++ wsX80 ++ wsX30 ++ wsX60 ++ wsX70 ++ (vx_atS RX8 301 "java/lang/IndexOutOfBoundsException" ["java/lang/RuntimeException", "java/lang/Exception"]).filter goodWord)
def wsX8_wayOf : List Cond := .code yX8_wayOf cX8_wayOf 3 (some (.object "TidePost$Way")) :: ([.classLink RX8 297 "java/lang/IndexOutOfBoundsException", .initialized "java/lang/IndexOutOfBoundsException", .fieldLink RX8 21 "TidePost" "traffic" "LTidePost$Traffic;", .fieldLink RX8 189 "TidePost$Traffic" "ways" "[LTidePost$Way;", .methodLink RX8 74 yX8_checkLink, .instanceMethod yX8_checkLink, .selects RX8 yX8_checkLink yX8_checkLink, .initialized RX8, .code yX8_checkLink cX8_checkLink 2 none, .fieldLink RX8 12 "TidePost" "net" "LTidePost$Net;", .fieldLink RX8 61 "TidePost$Net" "links" "I"] ++ wsX80 ++ wsX60 ++ wsX30 ++ (vx_atS RX8 301 "java/lang/IndexOutOfBoundsException" ["java/lang/RuntimeException", "java/lang/Exception"]).filter goodWord)
def wsX8_lose : List Cond := .code yX8_lose cX8_lose 6 (some .int) :: ([.fieldLink RX8 92 "TidePost$Way" "toLose" "I", .methodLink RX8 88 yX8_wayOf, .instanceMethod yX8_wayOf, .selects RX8 yX8_wayOf yX8_wayOf, .initialized RX8, .code yX8_wayOf cX8_wayOf 3 (some (.object "TidePost$Way")), .classLink RX8 297 "java/lang/IndexOutOfBoundsException", .initialized "java/lang/IndexOutOfBoundsException", .fieldLink RX8 21 "TidePost" "traffic" "LTidePost$Traffic;", .fieldLink RX8 189 "TidePost$Traffic" "ways" "[LTidePost$Way;", .methodLink RX8 74 yX8_checkLink, .instanceMethod yX8_checkLink, .selects RX8 yX8_checkLink yX8_checkLink, .code yX8_checkLink cX8_checkLink 2 none, .fieldLink RX8 12 "TidePost" "net" "LTidePost$Net;", .fieldLink RX8 61 "TidePost$Net" "links" "I", .methodLink RX8 57 yX8_checkRange, .static yX8_checkRange, .code yX8_checkRange cX8_checkRange 3 none, .classLink RX8 52 "java/lang/IllegalArgumentException", .initialized "java/lang/IllegalArgumentException"] ++ wsX70 ++ wsX80 ++ wsX60 ++ wsX30 ++ (vx_atS RX8 301 "java/lang/IndexOutOfBoundsException" ["java/lang/RuntimeException", "java/lang/Exception"]).filter goodWord ++ (vx_atS RX8 56 "java/lang/IllegalArgumentException" ["java/lang/RuntimeException", "java/lang/Exception"]).filter goodWord)
def wsX8_call_r1 : List Cond := [Cond.classLink RX8 52 "java/lang/IllegalArgumentException", Cond.initialized "java/lang/IllegalArgumentException", Cond.classLink RX8 37 "java/lang/IllegalStateException", Cond.initialized "java/lang/IllegalStateException", Cond.fieldLink RX8 21 "TidePost" "traffic" "LTidePost$Traffic;", Cond.fieldLink RX8 99 "TidePost$Traffic" "made" "I", Cond.methodLink RX8 48 yX8_checkNode, Cond.instanceMethod yX8_checkNode, Cond.selects RX8 yX8_checkNode yX8_checkNode, Cond.initialized RX8, Cond.code yX8_checkNode cX8_checkNode 2 none, Cond.classLink RX8 297 "java/lang/IndexOutOfBoundsException", Cond.initialized "java/lang/IndexOutOfBoundsException", Cond.fieldLink RX8 12 "TidePost" "net" "LTidePost$Net;", Cond.fieldLink RX8 33 "TidePost$Net" "nodes" "I", Cond.methodLink RX8 57 yX8_checkRange, Cond.static yX8_checkRange, Cond.code yX8_checkRange cX8_checkRange 3 none, Cond.methodLink RX8 104 yX6_connect, Cond.instanceMethod yX6_connect, Cond.selects RX6 yX6_connect yX6_connect, Cond.initialized RX6, Cond.code yX6_connect cX6_connect 6 (some .int), Cond.fieldLink RX6 29 "TidePost$Traffic" "made" "I"]
def wsX8_call_r2 : List Cond := [Cond.fieldLink RX6 19 "TidePost$Traffic" "all" "[LTidePost$Connection;", Cond.fieldLink RX6 33 "TidePost$Connection" "callerNode" "I", Cond.fieldLink RX6 36 "TidePost$Connection" "calleeNode" "I", Cond.fieldLink RX6 39 "TidePost$Connection" "callee" "LTidePost$Callee;", Cond.fieldLink RX6 43 "TidePost$Callee" "buffer" "I", Cond.fieldLink RX6 48 "TidePost$Connection" "caller" "LTidePost$Caller;", Cond.fieldLink RX6 52 "TidePost$Traffic" "clock" "I", Cond.methodLink RX6 55 yX1_begin, Cond.instanceMethod yX1_begin, Cond.selects RX1 yX1_begin yX1_begin, Cond.initialized RX1, Cond.code yX1_begin cX1_begin 3 none, Cond.fieldLink RX1 18 "TidePost$Caller" "state" "I", Cond.fieldLink RX1 22 "TidePost$Caller" "window" "I", Cond.fieldLink RX1 25 "TidePost$Caller" "threshold" "I", Cond.fieldLink RX1 28 "TidePost$Caller" "room" "I", Cond.fieldLink RX1 31 "TidePost$Caller" "recover" "I", Cond.fieldLink RX1 12 "TidePost$Caller" "timing" "LTidePost$Timing;", Cond.fieldLink RX1 37 "TidePost$Timing" "timeout" "I", Cond.fieldLink RX1 40 "TidePost$Caller" "timer" "I", Cond.methodLink RX1 34 yX5_begin, Cond.instanceMethod yX5_begin, Cond.selects RX5 yX5_begin yX5_begin, Cond.initialized RX5]
def wsX8_call_r3 : List Cond := [Cond.code yX5_begin cX5_begin 1 none, Cond.fieldLink RX5 9 "TidePost$Timing" "round" "I", Cond.fieldLink RX5 15 "TidePost$Timing" "swing" "I", Cond.fieldLink RX5 18 "TidePost$Timing" "timeout" "I", Cond.fieldLink RX5 21 "TidePost$Timing" "measured" "I", Cond.fieldLink RX5 24 "TidePost$Timing" "measuredAt" "I", Cond.methodLink RX6 61 yX6_sendHello, Cond.instanceMethod yX6_sendHello, Cond.selects RX6 yX6_sendHello yX6_sendHello, Cond.code yX6_sendHello cX6_sendHello 4 none, Cond.methodLink RX6 168 yX4_of, Cond.static yX4_of, Cond.initialized RX4, Cond.code yX4_of cX4_of 4 (some .int), Cond.methodLink RX6 111 yX6_send, Cond.instanceMethod yX6_send, Cond.selects RX6 yX6_send yX6_send, Cond.code yX6_send cX6_send 6 none, Cond.fieldLink RX6 23 "TidePost$Traffic" "net" "LTidePost$Net;", Cond.fieldLink RX6 69 "TidePost$Traffic" "lost" "I", Cond.fieldLink RX6 97 "TidePost$Net" "firsts" "[I", Cond.fieldLink RX6 11 "TidePost$Traffic" "ways" "[LTidePost$Way;", Cond.fieldLink RX6 188 "TidePost$Net" "rooms" "[I", Cond.methodLink RX6 181 yX3_linkTowards]
def wsX8_call_r4 : List Cond := [Cond.instanceMethod yX3_linkTowards, Cond.selects RX3 yX3_linkTowards yX3_linkTowards, Cond.initialized RX3, Cond.code yX3_linkTowards cX3_linkTowards 6 (some .int), Cond.fieldLink RX3 30 "TidePost$Net" "distances" "[[I", Cond.fieldLink RX3 43 "TidePost$Net" "links" "I", Cond.fieldLink RX3 24 "TidePost$Net" "up" "[Z", Cond.fieldLink RX3 18 "TidePost$Net" "delays" "[I", Cond.methodLink RX3 46 yX3_farEnd, Cond.instanceMethod yX3_farEnd, Cond.selects RX3 yX3_farEnd yX3_farEnd, Cond.code yX3_farEnd cX3_farEnd 3 (some .int), Cond.fieldLink RX3 9 "TidePost$Net" "firsts" "[I", Cond.fieldLink RX3 15 "TidePost$Net" "seconds" "[I", Cond.methodLink RX6 185 yX4_hopsOf, Cond.static yX4_hopsOf, Cond.code yX4_hopsOf cX4_hopsOf 1 (some .int), Cond.methodLink RX6 191 yX7_join, Cond.instanceMethod yX7_join, Cond.selects RX7 yX7_join yX7_join, Cond.initialized RX7, Cond.code yX7_join cX7_join 3 (some .boolean), Cond.fieldLink RX7 18 "TidePost$Way" "queued" "I", Cond.fieldLink RX7 9 "TidePost$Way" "queue" "[I"]
def wsX8_call_r5 : List Cond := [Cond.fieldLink RX7 22 "TidePost$Way" "head" "I"]
def wsX8_call : List Cond := .code yX8_call cX8_call 4 (some .int) :: ((wsX8_call_r1 ++ (wsX8_call_r2 ++ (wsX8_call_r3 ++ (wsX8_call_r4 ++ wsX8_call_r5)))) ++ wsX80 ++ wsX60 ++ wsX30 ++ wsX20 ++ wsX00 ++ wsX10 ++ wsX50 ++ wsX70 ++ (vx_atS RX8 56 "java/lang/IllegalArgumentException" ["java/lang/RuntimeException", "java/lang/Exception"]).filter goodWord ++ (vx_atS RX8 41 "java/lang/IllegalStateException" ["java/lang/RuntimeException", "java/lang/Exception"]).filter goodWord ++ (vx_atS RX8 301 "java/lang/IndexOutOfBoundsException" ["java/lang/RuntimeException", "java/lang/Exception"]).filter goodWord)
def wsX8_connectionOf : List Cond := .code yX8_connectionOf cX8_connectionOf 2 (some (.object "TidePost$Connection")) :: ([.classLink RX8 297 "java/lang/IndexOutOfBoundsException", .initialized "java/lang/IndexOutOfBoundsException", .fieldLink RX8 21 "TidePost" "traffic" "LTidePost$Traffic;", .fieldLink RX8 99 "TidePost$Traffic" "made" "I", .fieldLink RX8 247 "TidePost$Traffic" "all" "[LTidePost$Connection;"] ++ wsX80 ++ wsX60 ++ (vx_atS RX8 301 "java/lang/IndexOutOfBoundsException" ["java/lang/RuntimeException", "java/lang/Exception"]).filter goodWord)
def wsX8_callerOf : List Cond := .code yX8_callerOf cX8_callerOf 2 (some (.object "TidePost$Caller")) :: ([.fieldLink RX8 251 "TidePost$Connection" "caller" "LTidePost$Caller;", .methodLink RX8 133 yX8_connectionOf, .instanceMethod yX8_connectionOf, .selects RX8 yX8_connectionOf yX8_connectionOf, .initialized RX8, .code yX8_connectionOf cX8_connectionOf 2 (some (.object "TidePost$Connection")), .classLink RX8 297 "java/lang/IndexOutOfBoundsException", .initialized "java/lang/IndexOutOfBoundsException", .fieldLink RX8 21 "TidePost" "traffic" "LTidePost$Traffic;", .fieldLink RX8 99 "TidePost$Traffic" "made" "I", .fieldLink RX8 247 "TidePost$Traffic" "all" "[LTidePost$Connection;"] ++ wsX20 ++ wsX80 ++ wsX60 ++ (vx_atS RX8 301 "java/lang/IndexOutOfBoundsException" ["java/lang/RuntimeException", "java/lang/Exception"]).filter goodWord)
def wsX8_checkTakesThings : List Cond := .code yX8_checkTakesThings cX8_checkTakesThings 1 none :: ([.classLink RX8 37 "java/lang/IllegalStateException", .initialized "java/lang/IllegalStateException", .fieldLink RX8 193 "TidePost$Caller" "state" "I", .fieldLink RX8 123 "TidePost$Caller" "toldToClose" "Z"] ++ wsX10 ++ (vx_atS RX8 41 "java/lang/IllegalStateException" ["java/lang/RuntimeException", "java/lang/Exception"]).filter goodWord)
def wsX8_give_r1 : List Cond := [Cond.classLink RX8 37 "java/lang/IllegalStateException", Cond.initialized "java/lang/IllegalStateException", Cond.fieldLink RX8 116 "TidePost$Caller" "given" "I", Cond.fieldLink RX8 30 "TidePost" "values" "[[I", Cond.methodLink RX8 108 yX8_callerOf, Cond.instanceMethod yX8_callerOf, Cond.selects RX8 yX8_callerOf yX8_callerOf, Cond.initialized RX8, Cond.code yX8_callerOf cX8_callerOf 2 (some (.object "TidePost$Caller")), Cond.fieldLink RX8 251 "TidePost$Connection" "caller" "LTidePost$Caller;", Cond.methodLink RX8 133 yX8_connectionOf, Cond.instanceMethod yX8_connectionOf, Cond.selects RX8 yX8_connectionOf yX8_connectionOf, Cond.code yX8_connectionOf cX8_connectionOf 2 (some (.object "TidePost$Connection")), Cond.classLink RX8 297 "java/lang/IndexOutOfBoundsException", Cond.initialized "java/lang/IndexOutOfBoundsException", Cond.fieldLink RX8 21 "TidePost" "traffic" "LTidePost$Traffic;", Cond.fieldLink RX8 99 "TidePost$Traffic" "made" "I", Cond.fieldLink RX8 247 "TidePost$Traffic" "all" "[LTidePost$Connection;", Cond.methodLink RX8 57 yX8_checkRange, Cond.static yX8_checkRange, Cond.code yX8_checkRange cX8_checkRange 3 none, Cond.classLink RX8 52 "java/lang/IllegalArgumentException", Cond.initialized "java/lang/IllegalArgumentException"]
def wsX8_give_r2 : List Cond := [Cond.methodLink RX8 112 yX8_checkTakesThings, Cond.static yX8_checkTakesThings, Cond.code yX8_checkTakesThings cX8_checkTakesThings 1 none, Cond.fieldLink RX8 193 "TidePost$Caller" "state" "I", Cond.fieldLink RX8 123 "TidePost$Caller" "toldToClose" "Z"]
def wsX8_give : List Cond := .code yX8_give cX8_give 6 (some .int) :: ((wsX8_give_r1 ++ wsX8_give_r2) ++ wsX10 ++ wsX80 ++ wsX20 ++ wsX60 ++ (vx_atS RX8 41 "java/lang/IllegalStateException" ["java/lang/RuntimeException", "java/lang/Exception"]).filter goodWord ++ (vx_atS RX8 301 "java/lang/IndexOutOfBoundsException" ["java/lang/RuntimeException", "java/lang/Exception"]).filter goodWord ++ (vx_atS RX8 56 "java/lang/IllegalArgumentException" ["java/lang/RuntimeException", "java/lang/Exception"]).filter goodWord)
def wsX8_close_r1 : List Cond := [Cond.fieldLink RX8 123 "TidePost$Caller" "toldToClose" "Z", Cond.fieldLink RX8 130 "TidePost$Caller" "base" "I", Cond.methodLink RX8 108 yX8_callerOf, Cond.instanceMethod yX8_callerOf, Cond.selects RX8 yX8_callerOf yX8_callerOf, Cond.initialized RX8, Cond.code yX8_callerOf cX8_callerOf 2 (some (.object "TidePost$Caller")), Cond.fieldLink RX8 251 "TidePost$Connection" "caller" "LTidePost$Caller;", Cond.methodLink RX8 133 yX8_connectionOf, Cond.instanceMethod yX8_connectionOf, Cond.selects RX8 yX8_connectionOf yX8_connectionOf, Cond.code yX8_connectionOf cX8_connectionOf 2 (some (.object "TidePost$Connection")), Cond.classLink RX8 297 "java/lang/IndexOutOfBoundsException", Cond.initialized "java/lang/IndexOutOfBoundsException", Cond.fieldLink RX8 21 "TidePost" "traffic" "LTidePost$Traffic;", Cond.fieldLink RX8 99 "TidePost$Traffic" "made" "I", Cond.fieldLink RX8 247 "TidePost$Traffic" "all" "[LTidePost$Connection;", Cond.methodLink RX8 112 yX8_checkTakesThings, Cond.static yX8_checkTakesThings, Cond.code yX8_checkTakesThings cX8_checkTakesThings 1 none, Cond.classLink RX8 37 "java/lang/IllegalStateException", Cond.initialized "java/lang/IllegalStateException", Cond.fieldLink RX8 193 "TidePost$Caller" "state" "I", Cond.methodLink RX8 127 yX1_things]
def wsX8_close_r2 : List Cond := [Cond.instanceMethod yX1_things, Cond.selects RX1 yX1_things yX1_things, Cond.initialized RX1, Cond.code yX1_things cX1_things 1 (some .int), Cond.fieldLink RX1 43 "TidePost$Caller" "toldToClose" "Z", Cond.fieldLink RX1 47 "TidePost$Caller" "given" "I"]
def wsX8_close : List Cond := .code yX8_close cX8_close 3 (some .int) :: ((wsX8_close_r1 ++ wsX8_close_r2) ++ wsX10 ++ wsX20 ++ wsX80 ++ wsX60 ++ (vx_atS RX8 301 "java/lang/IndexOutOfBoundsException" ["java/lang/RuntimeException", "java/lang/Exception"]).filter goodWord ++ (vx_atS RX8 41 "java/lang/IllegalStateException" ["java/lang/RuntimeException", "java/lang/Exception"]).filter goodWord)
def wsX8_read_r1 : List Cond := [Cond.classLink RX8 37 "java/lang/IllegalStateException", Cond.initialized "java/lang/IllegalStateException", Cond.methodLink RX8 142 Lib.Math.min.name, Cond.static Lib.Math.min.name, Cond.initialized "java/lang/Math", Cond.code Lib.Math.min.name Lib.Math.min.code 2 (some .int), Cond.fieldLink RX8 150 "TidePost$Connection" "callee" "LTidePost$Callee;", Cond.fieldLink RX8 159 "TidePost$Callee" "read" "I", Cond.fieldLink RX8 30 "TidePost" "values" "[[I", Cond.fieldLink RX8 21 "TidePost" "traffic" "LTidePost$Traffic;", Cond.methodLink RX8 133 yX8_connectionOf, Cond.instanceMethod yX8_connectionOf, Cond.selects RX8 yX8_connectionOf yX8_connectionOf, Cond.initialized RX8, Cond.code yX8_connectionOf cX8_connectionOf 2 (some (.object "TidePost$Connection")), Cond.classLink RX8 297 "java/lang/IndexOutOfBoundsException", Cond.initialized "java/lang/IndexOutOfBoundsException", Cond.fieldLink RX8 99 "TidePost$Traffic" "made" "I", Cond.fieldLink RX8 247 "TidePost$Traffic" "all" "[LTidePost$Connection;", Cond.methodLink RX8 57 yX8_checkRange, Cond.static yX8_checkRange, Cond.code yX8_checkRange cX8_checkRange 3 none, Cond.classLink RX8 52 "java/lang/IllegalArgumentException", Cond.initialized "java/lang/IllegalArgumentException"]
def wsX8_read_r2 : List Cond := [Cond.methodLink RX8 137 yX2_unread, Cond.instanceMethod yX2_unread, Cond.selects RX2 yX2_unread yX2_unread, Cond.initialized RX2, Cond.code yX2_unread cX2_unread 1 (some .int), Cond.fieldLink RX2 19 "TidePost$Connection" "callee" "LTidePost$Callee;", Cond.fieldLink RX2 23 "TidePost$Callee" "wanted" "I", Cond.fieldLink RX2 10 "TidePost$Connection" "caller" "LTidePost$Caller;", Cond.fieldLink RX2 27 "TidePost$Caller" "given" "I", Cond.methodLink RX2 30 Lib.Math.min.name, Cond.fieldLink RX2 36 "TidePost$Callee" "read" "I", Cond.methodLink RX8 154 yX0_spare, Cond.instanceMethod yX0_spare, Cond.selects RX0 yX0_spare yX0_spare, Cond.initialized RX0, Cond.code yX0_spare cX0_spare 1 (some .int), Cond.fieldLink RX0 15 "TidePost$Callee" "read" "I", Cond.fieldLink RX0 19 "TidePost$Callee" "buffer" "I", Cond.fieldLink RX0 22 "TidePost$Callee" "wanted" "I", Cond.methodLink RX0 25 Lib.Math.max.name, Cond.static Lib.Math.max.name, Cond.code Lib.Math.max.name Lib.Math.max.code 2 (some .int), Cond.methodLink RX8 162 yX6_sendAnswer, Cond.instanceMethod yX6_sendAnswer]
def wsX8_read_r3 : List Cond := [Cond.selects RX6 yX6_sendAnswer yX6_sendAnswer, Cond.initialized RX6, Cond.code yX6_sendAnswer cX6_sendAnswer 5 none, Cond.fieldLink RX6 19 "TidePost$Traffic" "all" "[LTidePost$Connection;", Cond.fieldLink RX6 39 "TidePost$Connection" "callee" "LTidePost$Callee;", Cond.fieldLink RX6 175 "TidePost$Callee" "wanted" "I", Cond.fieldLink RX6 36 "TidePost$Connection" "calleeNode" "I", Cond.fieldLink RX6 33 "TidePost$Connection" "callerNode" "I", Cond.methodLink RX6 178 yX0_spare, Cond.methodLink RX6 168 yX4_of, Cond.static yX4_of, Cond.initialized RX4, Cond.code yX4_of cX4_of 4 (some .int), Cond.methodLink RX6 111 yX6_send, Cond.instanceMethod yX6_send, Cond.selects RX6 yX6_send yX6_send, Cond.code yX6_send cX6_send 6 none, Cond.fieldLink RX6 23 "TidePost$Traffic" "net" "LTidePost$Net;", Cond.fieldLink RX6 69 "TidePost$Traffic" "lost" "I", Cond.fieldLink RX6 97 "TidePost$Net" "firsts" "[I", Cond.fieldLink RX6 11 "TidePost$Traffic" "ways" "[LTidePost$Way;", Cond.fieldLink RX6 188 "TidePost$Net" "rooms" "[I", Cond.methodLink RX6 181 yX3_linkTowards, Cond.instanceMethod yX3_linkTowards]
def wsX8_read_r4 : List Cond := [Cond.selects RX3 yX3_linkTowards yX3_linkTowards, Cond.initialized RX3, Cond.code yX3_linkTowards cX3_linkTowards 6 (some .int), Cond.fieldLink RX3 30 "TidePost$Net" "distances" "[[I", Cond.fieldLink RX3 43 "TidePost$Net" "links" "I", Cond.fieldLink RX3 24 "TidePost$Net" "up" "[Z", Cond.fieldLink RX3 18 "TidePost$Net" "delays" "[I", Cond.methodLink RX3 46 yX3_farEnd, Cond.instanceMethod yX3_farEnd, Cond.selects RX3 yX3_farEnd yX3_farEnd, Cond.code yX3_farEnd cX3_farEnd 3 (some .int), Cond.fieldLink RX3 9 "TidePost$Net" "firsts" "[I", Cond.fieldLink RX3 15 "TidePost$Net" "seconds" "[I", Cond.methodLink RX6 185 yX4_hopsOf, Cond.static yX4_hopsOf, Cond.code yX4_hopsOf cX4_hopsOf 1 (some .int), Cond.methodLink RX6 191 yX7_join, Cond.instanceMethod yX7_join, Cond.selects RX7 yX7_join yX7_join, Cond.initialized RX7, Cond.code yX7_join cX7_join 3 (some .boolean), Cond.fieldLink RX7 18 "TidePost$Way" "queued" "I", Cond.fieldLink RX7 9 "TidePost$Way" "queue" "[I", Cond.fieldLink RX7 22 "TidePost$Way" "head" "I"]
def wsX8_read : List Cond := .code yX8_read cX8_read 9 (some .int) :: ((wsX8_read_r1 ++ (wsX8_read_r2 ++ (wsX8_read_r3 ++ wsX8_read_r4))) ++ wsX20 ++ wsX00 ++ wsX80 ++ wsX60 ++ wsX10 ++ wsX30 ++ wsX70 ++ (vx_atS RX8 41 "java/lang/IllegalStateException" ["java/lang/RuntimeException", "java/lang/Exception"]).filter goodWord ++ (vx_atS RX8 301 "java/lang/IndexOutOfBoundsException" ["java/lang/RuntimeException", "java/lang/Exception"]).filter goodWord ++ (vx_atS RX8 56 "java/lang/IllegalArgumentException" ["java/lang/RuntimeException", "java/lang/Exception"]).filter goodWord)
def wsX8_pass_r1 : List Cond := [Cond.fieldLink RX8 21 "TidePost" "traffic" "LTidePost$Traffic;", Cond.fieldLink RX8 168 "TidePost$Traffic" "clock" "I", Cond.methodLink RX8 57 yX8_checkRange, Cond.static yX8_checkRange, Cond.initialized RX8, Cond.code yX8_checkRange cX8_checkRange 3 none, Cond.classLink RX8 52 "java/lang/IllegalArgumentException", Cond.initialized "java/lang/IllegalArgumentException", Cond.methodLink RX8 165 yX6_tick, Cond.instanceMethod yX6_tick, Cond.selects RX6 yX6_tick yX6_tick, Cond.initialized RX6, Cond.code yX6_tick cX6_tick 1 none, Cond.fieldLink RX6 52 "TidePost$Traffic" "clock" "I", Cond.methodLink RX6 72 yX6_letArrive, Cond.instanceMethod yX6_letArrive, Cond.selects RX6 yX6_letArrive yX6_letArrive, Cond.code yX6_letArrive cX6_letArrive 4 none, Cond.fieldLink RX6 23 "TidePost$Traffic" "net" "LTidePost$Net;", Cond.fieldLink RX6 84 "TidePost$Net" "links" "I", Cond.fieldLink RX6 11 "TidePost$Traffic" "ways" "[LTidePost$Way;", Cond.fieldLink RX6 93 "TidePost$Net" "seconds" "[I", Cond.fieldLink RX6 97 "TidePost$Net" "firsts" "[I", Cond.methodLink RX6 89 yX7_land]
def wsX8_pass_r2 : List Cond := [Cond.instanceMethod yX7_land, Cond.selects RX7 yX7_land yX7_land, Cond.initialized RX7, Cond.code yX7_land cX7_land 4 (some .int), Cond.fieldLink RX7 15 "TidePost$Way" "flight" "[I", Cond.fieldLink RX7 37 "TidePost$Way" "flying" "I", Cond.methodLink RX7 28 yJ9_floorMod_7cf53, Cond.static yJ9_floorMod_7cf53, Cond.initialized RJ9, Cond.code yJ9_floorMod_7cf53 cJ9_floorMod_7cf53 3 (some .int), Cond.methodLink RX6 100 yX6_arrive, Cond.instanceMethod yX6_arrive, Cond.selects RX6 yX6_arrive yX6_arrive, Cond.code yX6_arrive cX6_arrive 8 none, Cond.fieldLink RX6 29 "TidePost$Traffic" "made" "I", Cond.fieldLink RX6 19 "TidePost$Traffic" "all" "[LTidePost$Connection;", Cond.fieldLink RX6 33 "TidePost$Connection" "callerNode" "I", Cond.fieldLink RX6 36 "TidePost$Connection" "calleeNode" "I", Cond.fieldLink RX6 48 "TidePost$Connection" "caller" "LTidePost$Caller;", Cond.fieldLink RX6 69 "TidePost$Traffic" "lost" "I", Cond.fieldLink RX6 39 "TidePost$Connection" "callee" "LTidePost$Callee;", Cond.methodLink RX6 103 yX4_connectionOf, Cond.static yX4_connectionOf, Cond.initialized RX4]
def wsX8_pass_r3 : List Cond := [Cond.code yX4_connectionOf cX4_connectionOf 1 (some .int), Cond.methodLink RX6 108 yX4_kindOf, Cond.static yX4_kindOf, Cond.code yX4_kindOf cX4_kindOf 1 (some .int), Cond.methodLink RX6 111 yX6_send, Cond.instanceMethod yX6_send, Cond.selects RX6 yX6_send yX6_send, Cond.code yX6_send cX6_send 6 none, Cond.fieldLink RX6 188 "TidePost$Net" "rooms" "[I", Cond.methodLink RX6 181 yX3_linkTowards, Cond.instanceMethod yX3_linkTowards, Cond.selects RX3 yX3_linkTowards yX3_linkTowards, Cond.initialized RX3, Cond.code yX3_linkTowards cX3_linkTowards 6 (some .int), Cond.fieldLink RX3 30 "TidePost$Net" "distances" "[[I", Cond.fieldLink RX3 43 "TidePost$Net" "links" "I", Cond.fieldLink RX3 24 "TidePost$Net" "up" "[Z", Cond.fieldLink RX3 18 "TidePost$Net" "delays" "[I", Cond.methodLink RX3 46 yX3_farEnd, Cond.instanceMethod yX3_farEnd, Cond.selects RX3 yX3_farEnd yX3_farEnd, Cond.code yX3_farEnd cX3_farEnd 3 (some .int), Cond.fieldLink RX3 9 "TidePost$Net" "firsts" "[I", Cond.fieldLink RX3 15 "TidePost$Net" "seconds" "[I"]
def wsX8_pass_r4 : List Cond := [Cond.methodLink RX6 185 yX4_hopsOf, Cond.static yX4_hopsOf, Cond.code yX4_hopsOf cX4_hopsOf 1 (some .int), Cond.methodLink RX6 191 yX7_join, Cond.instanceMethod yX7_join, Cond.selects RX7 yX7_join yX7_join, Cond.code yX7_join cX7_join 3 (some .boolean), Cond.fieldLink RX7 18 "TidePost$Way" "queued" "I", Cond.fieldLink RX7 9 "TidePost$Way" "queue" "[I", Cond.fieldLink RX7 22 "TidePost$Way" "head" "I", Cond.methodLink RX6 115 yX4_numberOf, Cond.static yX4_numberOf, Cond.code yX4_numberOf cX4_numberOf 1 (some .int), Cond.methodLink RX6 118 yX4_roomOf, Cond.static yX4_roomOf, Cond.code yX4_roomOf cX4_roomOf 1 (some .int), Cond.methodLink RX6 121 yX1_takeAnswer, Cond.instanceMethod yX1_takeAnswer, Cond.selects RX1 yX1_takeAnswer yX1_takeAnswer, Cond.initialized RX1, Cond.code yX1_takeAnswer cX1_takeAnswer 4 (some .boolean), Cond.fieldLink RX1 18 "TidePost$Caller" "state" "I", Cond.fieldLink RX1 64 "TidePost$Caller" "tries" "I", Cond.fieldLink RX1 40 "TidePost$Caller" "timer" "I"]
def wsX8_pass_r5 : List Cond := [Cond.fieldLink RX1 53 "TidePost$Caller" "base" "I", Cond.fieldLink RX1 50 "TidePost$Caller" "next" "I", Cond.fieldLink RX1 28 "TidePost$Caller" "room" "I", Cond.methodLink RX1 67 yX1_advance, Cond.instanceMethod yX1_advance, Cond.selects RX1 yX1_advance yX1_advance, Cond.code yX1_advance cX1_advance 5 (some .boolean), Cond.fieldLink RX1 12 "TidePost$Caller" "timing" "LTidePost$Timing;", Cond.fieldLink RX1 78 "TidePost$Caller" "like" "I", Cond.fieldLink RX1 31 "TidePost$Caller" "recover" "I", Cond.fieldLink RX1 37 "TidePost$Timing" "timeout" "I", Cond.fieldLink RX1 47 "TidePost$Caller" "given" "I", Cond.methodLink RX1 75 yX5_answered, Cond.instanceMethod yX5_answered, Cond.selects RX5 yX5_answered yX5_answered, Cond.initialized RX5, Cond.code yX5_answered cX5_answered 5 none, Cond.fieldLink RX5 21 "TidePost$Timing" "measured" "I", Cond.fieldLink RX5 24 "TidePost$Timing" "measuredAt" "I", Cond.fieldLink RX5 9 "TidePost$Timing" "round" "I", Cond.fieldLink RX5 15 "TidePost$Timing" "swing" "I", Cond.methodLink RX5 27 Lib.Math.abs.name, Cond.static Lib.Math.abs.name, Cond.initialized "java/lang/Math"]
def wsX8_pass_r6 : List Cond := [Cond.code Lib.Math.abs.name Lib.Math.abs.code 1 (some .int), Cond.methodLink RX5 33 Lib.Math.max.name, Cond.static Lib.Math.max.name, Cond.code Lib.Math.max.name Lib.Math.max.code 2 (some .int), Cond.methodLink RX5 37 Lib.Math.min.name, Cond.static Lib.Math.min.name, Cond.code Lib.Math.min.name Lib.Math.min.code 2 (some .int), Cond.fieldLink RX5 18 "TidePost$Timing" "timeout" "I", Cond.methodLink RX1 81 yX1_growWindow, Cond.instanceMethod yX1_growWindow, Cond.selects RX1 yX1_growWindow yX1_growWindow, Cond.code yX1_growWindow cX1_growWindow 2 none, Cond.fieldLink RX1 22 "TidePost$Caller" "window" "I", Cond.fieldLink RX1 25 "TidePost$Caller" "threshold" "I", Cond.methodLink RX1 84 Lib.Math.max.name, Cond.methodLink RX1 90 Lib.Math.min.name, Cond.methodLink RX1 71 yX1_repeated, Cond.instanceMethod yX1_repeated, Cond.selects RX1 yX1_repeated yX1_repeated, Cond.code yX1_repeated cX1_repeated 2 (some .boolean), Cond.methodLink RX1 93 yX1_startRecovery, Cond.instanceMethod yX1_startRecovery, Cond.selects RX1 yX1_startRecovery yX1_startRecovery, Cond.code yX1_startRecovery cX1_startRecovery 1 none]
def wsX8_pass_r7 : List Cond := [Cond.methodLink RX6 125 yX1_baseAgain, Cond.instanceMethod yX1_baseAgain, Cond.selects RX1 yX1_baseAgain yX1_baseAgain, Cond.code yX1_baseAgain cX1_baseAgain 1 (some .int), Cond.fieldLink RX1 99 "TidePost$Caller" "sentAgain" "I", Cond.methodLink RX1 102 yX5_sentTwice, Cond.instanceMethod yX5_sentTwice, Cond.selects RX5 yX5_sentTwice yX5_sentTwice, Cond.code yX5_sentTwice cX5_sentTwice 2 none, Cond.methodLink RX6 128 yX6_sendThing, Cond.instanceMethod yX6_sendThing, Cond.selects RX6 yX6_sendThing yX6_sendThing, Cond.code yX6_sendThing cX6_sendThing 6 none, Cond.fieldLink RX6 172 "TidePost$Caller" "given" "I", Cond.methodLink RX6 168 yX4_of, Cond.static yX4_of, Cond.code yX4_of cX4_of 4 (some .int), Cond.methodLink RX6 131 yX0_take, Cond.instanceMethod yX0_take, Cond.selects RX0 yX0_take yX0_take, Cond.initialized RX0, Cond.code yX0_take cX0_take 3 (some .boolean), Cond.fieldLink RX0 22 "TidePost$Callee" "wanted" "I", Cond.fieldLink RX0 9 "TidePost$Callee" "held" "[Z"]
def wsX8_pass_r8 : List Cond := [Cond.fieldLink RX0 15 "TidePost$Callee" "read" "I", Cond.fieldLink RX0 19 "TidePost$Callee" "buffer" "I", Cond.methodLink RX6 135 yX6_sendAnswer, Cond.instanceMethod yX6_sendAnswer, Cond.selects RX6 yX6_sendAnswer yX6_sendAnswer, Cond.code yX6_sendAnswer cX6_sendAnswer 5 none, Cond.fieldLink RX6 175 "TidePost$Callee" "wanted" "I", Cond.methodLink RX6 178 yX0_spare, Cond.instanceMethod yX0_spare, Cond.selects RX0 yX0_spare yX0_spare, Cond.code yX0_spare cX0_spare 1 (some .int), Cond.methodLink RX0 25 Lib.Math.max.name, Cond.methodLink RX6 75 yX6_letTimersRunOut, Cond.instanceMethod yX6_letTimersRunOut, Cond.selects RX6 yX6_letTimersRunOut yX6_letTimersRunOut, Cond.code yX6_letTimersRunOut cX6_letTimersRunOut 3 none, Cond.fieldLink RX6 138 "TidePost$Caller" "timer" "I", Cond.fieldLink RX6 145 "TidePost$Caller" "state" "I", Cond.methodLink RX6 141 yX1_runOut, Cond.instanceMethod yX1_runOut, Cond.selects RX1 yX1_runOut yX1_runOut, Cond.code yX1_runOut cX1_runOut 2 (some .boolean), Cond.methodLink RX1 96 yX5_backOff, Cond.instanceMethod yX5_backOff]
def wsX8_pass_r9 : List Cond := [Cond.selects RX5 yX5_backOff yX5_backOff, Cond.code yX5_backOff cX5_backOff 1 none, Cond.methodLink RX6 61 yX6_sendHello, Cond.instanceMethod yX6_sendHello, Cond.selects RX6 yX6_sendHello yX6_sendHello, Cond.code yX6_sendHello cX6_sendHello 4 none, Cond.methodLink RX6 78 yX6_letCallersSend, Cond.instanceMethod yX6_letCallersSend, Cond.selects RX6 yX6_letCallersSend yX6_letCallersSend, Cond.code yX6_letCallersSend cX6_letCallersSend 4 none, Cond.fieldLink RX6 152 "TidePost$Caller" "next" "I", Cond.methodLink RX6 148 yX1_maySend, Cond.instanceMethod yX1_maySend, Cond.selects RX1 yX1_maySend yX1_maySend, Cond.code yX1_maySend cX1_maySend 3 (some .boolean), Cond.methodLink RX1 56 yX1_things, Cond.instanceMethod yX1_things, Cond.selects RX1 yX1_things yX1_things, Cond.code yX1_things cX1_things 1 (some .int), Cond.fieldLink RX1 43 "TidePost$Caller" "toldToClose" "Z", Cond.methodLink RX6 155 yX1_sent, Cond.instanceMethod yX1_sent, Cond.selects RX1 yX1_sent yX1_sent, Cond.code yX1_sent cX1_sent 2 none]
def wsX8_pass_r10 : List Cond := [Cond.methodLink RX1 60 yX5_sent, Cond.instanceMethod yX5_sent, Cond.selects RX5 yX5_sent yX5_sent, Cond.code yX5_sent cX5_sent 3 none, Cond.methodLink RX6 81 yX6_letTakeOff, Cond.instanceMethod yX6_letTakeOff, Cond.selects RX6 yX6_letTakeOff yX6_letTakeOff, Cond.code yX6_letTakeOff cX6_letTakeOff 3 none, Cond.fieldLink RX6 158 "TidePost$Net" "up" "[Z", Cond.fieldLink RX6 162 "TidePost$Net" "delays" "[I", Cond.methodLink RX6 165 yX7_takeOff, Cond.instanceMethod yX7_takeOff, Cond.selects RX7 yX7_takeOff yX7_takeOff, Cond.code yX7_takeOff cX7_takeOff 3 (some .boolean), Cond.fieldLink RX7 25 "TidePost$Way" "toLose" "I", Cond.constant RX7 36 (262144), Cond.fieldLink RX7 40 "TidePost$Way" "flown" "I"]
def wsX8_pass : List Cond := .code yX8_pass cX8_pass 3 (some .int) :: ((wsX8_pass_r1 ++ (wsX8_pass_r2 ++ (wsX8_pass_r3 ++ (wsX8_pass_r4 ++ (wsX8_pass_r5 ++ (wsX8_pass_r6 ++ (wsX8_pass_r7 ++ (wsX8_pass_r8 ++ (wsX8_pass_r9 ++ wsX8_pass_r10))))))))) ++ wsX80 ++ wsX60 ++ wsX30 ++ wsX70 ++ wsX20 ++ wsX10 ++ wsX50 ++ wsX00 ++ (vx_atS RX8 56 "java/lang/IllegalArgumentException" ["java/lang/RuntimeException", "java/lang/Exception"]).filter goodWord)
def wsX8_clock : List Cond := .code yX8_clock cX8_clock 1 (some .int) :: ([.fieldLink RX8 21 "TidePost" "traffic" "LTidePost$Traffic;", .fieldLink RX8 168 "TidePost$Traffic" "clock" "I"] ++ wsX80 ++ wsX60)
def wsX8_nodes : List Cond := .code yX8_nodes cX8_nodes 1 (some .int) :: ([.fieldLink RX8 12 "TidePost" "net" "LTidePost$Net;", .fieldLink RX8 33 "TidePost$Net" "nodes" "I"] ++ wsX80 ++ wsX30)
def wsX8_links : List Cond := .code yX8_links cX8_links 1 (some .int) :: ([.fieldLink RX8 12 "TidePost" "net" "LTidePost$Net;", .fieldLink RX8 61 "TidePost$Net" "links" "I"] ++ wsX80 ++ wsX30)
def wsX8_isUp : List Cond := .code yX8_isUp cX8_isUp 2 (some .boolean) :: ([.fieldLink RX8 12 "TidePost" "net" "LTidePost$Net;", .fieldLink RX8 80 "TidePost$Net" "up" "[Z", .methodLink RX8 74 yX8_checkLink, .instanceMethod yX8_checkLink, .selects RX8 yX8_checkLink yX8_checkLink, .initialized RX8, .code yX8_checkLink cX8_checkLink 2 none, .classLink RX8 297 "java/lang/IndexOutOfBoundsException", .initialized "java/lang/IndexOutOfBoundsException", .fieldLink RX8 61 "TidePost$Net" "links" "I"] ++ wsX80 ++ wsX30 ++ (vx_atS RX8 301 "java/lang/IndexOutOfBoundsException" ["java/lang/RuntimeException", "java/lang/Exception"]).filter goodWord)
def wsX8_distance : List Cond := .code yX8_distance cX8_distance 3 (some .int) :: ([.fieldLink RX8 12 "TidePost" "net" "LTidePost$Net;", .fieldLink RX8 171 "TidePost$Net" "distances" "[[I", .methodLink RX8 48 yX8_checkNode, .instanceMethod yX8_checkNode, .selects RX8 yX8_checkNode yX8_checkNode, .initialized RX8, .code yX8_checkNode cX8_checkNode 2 none, .classLink RX8 297 "java/lang/IndexOutOfBoundsException", .initialized "java/lang/IndexOutOfBoundsException", .fieldLink RX8 33 "TidePost$Net" "nodes" "I"] ++ wsX80 ++ wsX30 ++ (vx_atS RX8 301 "java/lang/IndexOutOfBoundsException" ["java/lang/RuntimeException", "java/lang/Exception"]).filter goodWord)
def wsX8_nextLink : List Cond := .code yX8_nextLink cX8_nextLink 3 (some .int) :: ([.fieldLink RX8 12 "TidePost" "net" "LTidePost$Net;", .methodLink RX8 48 yX8_checkNode, .instanceMethod yX8_checkNode, .selects RX8 yX8_checkNode yX8_checkNode, .initialized RX8, .code yX8_checkNode cX8_checkNode 2 none, .classLink RX8 297 "java/lang/IndexOutOfBoundsException", .initialized "java/lang/IndexOutOfBoundsException", .fieldLink RX8 33 "TidePost$Net" "nodes" "I", .methodLink RX8 174 yX3_linkTowards, .instanceMethod yX3_linkTowards, .selects RX3 yX3_linkTowards yX3_linkTowards, .initialized RX3, .code yX3_linkTowards cX3_linkTowards 6 (some .int), .fieldLink RX3 30 "TidePost$Net" "distances" "[[I", .fieldLink RX3 43 "TidePost$Net" "links" "I", .fieldLink RX3 24 "TidePost$Net" "up" "[Z", .fieldLink RX3 18 "TidePost$Net" "delays" "[I", .methodLink RX3 46 yX3_farEnd, .instanceMethod yX3_farEnd, .selects RX3 yX3_farEnd yX3_farEnd, .code yX3_farEnd cX3_farEnd 3 (some .int), .fieldLink RX3 9 "TidePost$Net" "firsts" "[I", .fieldLink RX3 15 "TidePost$Net" "seconds" "[I"] ++ wsX80 ++ wsX30 ++ (vx_atS RX8 301 "java/lang/IndexOutOfBoundsException" ["java/lang/RuntimeException", "java/lang/Exception"]).filter goodWord)
def wsX8_queued : List Cond := .code yX8_queued cX8_queued 3 (some .int) :: ([.fieldLink RX8 177 "TidePost$Way" "queued" "I", .methodLink RX8 88 yX8_wayOf, .instanceMethod yX8_wayOf, .selects RX8 yX8_wayOf yX8_wayOf, .initialized RX8, .code yX8_wayOf cX8_wayOf 3 (some (.object "TidePost$Way")), .classLink RX8 297 "java/lang/IndexOutOfBoundsException", .initialized "java/lang/IndexOutOfBoundsException", .fieldLink RX8 21 "TidePost" "traffic" "LTidePost$Traffic;", .fieldLink RX8 189 "TidePost$Traffic" "ways" "[LTidePost$Way;", .methodLink RX8 74 yX8_checkLink, .instanceMethod yX8_checkLink, .selects RX8 yX8_checkLink yX8_checkLink, .code yX8_checkLink cX8_checkLink 2 none, .fieldLink RX8 12 "TidePost" "net" "LTidePost$Net;", .fieldLink RX8 61 "TidePost$Net" "links" "I"] ++ wsX70 ++ wsX80 ++ wsX60 ++ wsX30 ++ (vx_atS RX8 301 "java/lang/IndexOutOfBoundsException" ["java/lang/RuntimeException", "java/lang/Exception"]).filter goodWord)
def wsX8_flying : List Cond := .code yX8_flying cX8_flying 3 (some .int) :: ([.fieldLink RX8 180 "TidePost$Way" "flying" "I", .methodLink RX8 88 yX8_wayOf, .instanceMethod yX8_wayOf, .selects RX8 yX8_wayOf yX8_wayOf, .initialized RX8, .code yX8_wayOf cX8_wayOf 3 (some (.object "TidePost$Way")), .classLink RX8 297 "java/lang/IndexOutOfBoundsException", .initialized "java/lang/IndexOutOfBoundsException", .fieldLink RX8 21 "TidePost" "traffic" "LTidePost$Traffic;", .fieldLink RX8 189 "TidePost$Traffic" "ways" "[LTidePost$Way;", .methodLink RX8 74 yX8_checkLink, .instanceMethod yX8_checkLink, .selects RX8 yX8_checkLink yX8_checkLink, .code yX8_checkLink cX8_checkLink 2 none, .fieldLink RX8 12 "TidePost" "net" "LTidePost$Net;", .fieldLink RX8 61 "TidePost$Net" "links" "I"] ++ wsX70 ++ wsX80 ++ wsX60 ++ wsX30 ++ (vx_atS RX8 301 "java/lang/IndexOutOfBoundsException" ["java/lang/RuntimeException", "java/lang/Exception"]).filter goodWord)
def wsX8_lost : List Cond := .code yX8_lost cX8_lost 1 (some .int) :: ([.fieldLink RX8 21 "TidePost" "traffic" "LTidePost$Traffic;", .fieldLink RX8 186 "TidePost$Traffic" "lost" "I"] ++ wsX80 ++ wsX60)
def wsX8_underWay : List Cond := .code yX8_underWay cX8_underWay 3 (some .int) :: ([.fieldLink RX8 12 "TidePost" "net" "LTidePost$Net;", .fieldLink RX8 61 "TidePost$Net" "links" "I", .fieldLink RX8 21 "TidePost" "traffic" "LTidePost$Traffic;", .fieldLink RX8 189 "TidePost$Traffic" "ways" "[LTidePost$Way;", .fieldLink RX8 177 "TidePost$Way" "queued" "I", .fieldLink RX8 180 "TidePost$Way" "flying" "I"] ++ wsX80 ++ wsX30 ++ wsX60 ++ wsX70)
def wsX8_connections : List Cond := .code yX8_connections cX8_connections 1 (some .int) :: ([.fieldLink RX8 21 "TidePost" "traffic" "LTidePost$Traffic;", .fieldLink RX8 99 "TidePost$Traffic" "made" "I"] ++ wsX80 ++ wsX60)
def wsX8_stateOf : List Cond := .code yX8_stateOf cX8_stateOf 2 (some .int) :: ([.fieldLink RX8 193 "TidePost$Caller" "state" "I", .methodLink RX8 108 yX8_callerOf, .instanceMethod yX8_callerOf, .selects RX8 yX8_callerOf yX8_callerOf, .initialized RX8, .code yX8_callerOf cX8_callerOf 2 (some (.object "TidePost$Caller")), .fieldLink RX8 251 "TidePost$Connection" "caller" "LTidePost$Caller;", .methodLink RX8 133 yX8_connectionOf, .instanceMethod yX8_connectionOf, .selects RX8 yX8_connectionOf yX8_connectionOf, .code yX8_connectionOf cX8_connectionOf 2 (some (.object "TidePost$Connection")), .classLink RX8 297 "java/lang/IndexOutOfBoundsException", .initialized "java/lang/IndexOutOfBoundsException", .fieldLink RX8 21 "TidePost" "traffic" "LTidePost$Traffic;", .fieldLink RX8 99 "TidePost$Traffic" "made" "I", .fieldLink RX8 247 "TidePost$Traffic" "all" "[LTidePost$Connection;"] ++ wsX10 ++ wsX20 ++ wsX80 ++ wsX60 ++ (vx_atS RX8 301 "java/lang/IndexOutOfBoundsException" ["java/lang/RuntimeException", "java/lang/Exception"]).filter goodWord)
def wsX8_given : List Cond := .code yX8_given cX8_given 2 (some .int) :: ([.fieldLink RX8 116 "TidePost$Caller" "given" "I", .methodLink RX8 108 yX8_callerOf, .instanceMethod yX8_callerOf, .selects RX8 yX8_callerOf yX8_callerOf, .initialized RX8, .code yX8_callerOf cX8_callerOf 2 (some (.object "TidePost$Caller")), .fieldLink RX8 251 "TidePost$Connection" "caller" "LTidePost$Caller;", .methodLink RX8 133 yX8_connectionOf, .instanceMethod yX8_connectionOf, .selects RX8 yX8_connectionOf yX8_connectionOf, .code yX8_connectionOf cX8_connectionOf 2 (some (.object "TidePost$Connection")), .classLink RX8 297 "java/lang/IndexOutOfBoundsException", .initialized "java/lang/IndexOutOfBoundsException", .fieldLink RX8 21 "TidePost" "traffic" "LTidePost$Traffic;", .fieldLink RX8 99 "TidePost$Traffic" "made" "I", .fieldLink RX8 247 "TidePost$Traffic" "all" "[LTidePost$Connection;"] ++ wsX10 ++ wsX20 ++ wsX80 ++ wsX60 ++ (vx_atS RX8 301 "java/lang/IndexOutOfBoundsException" ["java/lang/RuntimeException", "java/lang/Exception"]).filter goodWord)
def wsX8_base : List Cond := .code yX8_base cX8_base 2 (some .int) :: ([.fieldLink RX8 130 "TidePost$Caller" "base" "I", .methodLink RX8 108 yX8_callerOf, .instanceMethod yX8_callerOf, .selects RX8 yX8_callerOf yX8_callerOf, .initialized RX8, .code yX8_callerOf cX8_callerOf 2 (some (.object "TidePost$Caller")), .fieldLink RX8 251 "TidePost$Connection" "caller" "LTidePost$Caller;", .methodLink RX8 133 yX8_connectionOf, .instanceMethod yX8_connectionOf, .selects RX8 yX8_connectionOf yX8_connectionOf, .code yX8_connectionOf cX8_connectionOf 2 (some (.object "TidePost$Connection")), .classLink RX8 297 "java/lang/IndexOutOfBoundsException", .initialized "java/lang/IndexOutOfBoundsException", .fieldLink RX8 21 "TidePost" "traffic" "LTidePost$Traffic;", .fieldLink RX8 99 "TidePost$Traffic" "made" "I", .fieldLink RX8 247 "TidePost$Traffic" "all" "[LTidePost$Connection;"] ++ wsX10 ++ wsX20 ++ wsX80 ++ wsX60 ++ (vx_atS RX8 301 "java/lang/IndexOutOfBoundsException" ["java/lang/RuntimeException", "java/lang/Exception"]).filter goodWord)
def wsX8_next : List Cond := .code yX8_next cX8_next 2 (some .int) :: ([.fieldLink RX8 196 "TidePost$Caller" "next" "I", .methodLink RX8 108 yX8_callerOf, .instanceMethod yX8_callerOf, .selects RX8 yX8_callerOf yX8_callerOf, .initialized RX8, .code yX8_callerOf cX8_callerOf 2 (some (.object "TidePost$Caller")), .fieldLink RX8 251 "TidePost$Connection" "caller" "LTidePost$Caller;", .methodLink RX8 133 yX8_connectionOf, .instanceMethod yX8_connectionOf, .selects RX8 yX8_connectionOf yX8_connectionOf, .code yX8_connectionOf cX8_connectionOf 2 (some (.object "TidePost$Connection")), .classLink RX8 297 "java/lang/IndexOutOfBoundsException", .initialized "java/lang/IndexOutOfBoundsException", .fieldLink RX8 21 "TidePost" "traffic" "LTidePost$Traffic;", .fieldLink RX8 99 "TidePost$Traffic" "made" "I", .fieldLink RX8 247 "TidePost$Traffic" "all" "[LTidePost$Connection;"] ++ wsX10 ++ wsX20 ++ wsX80 ++ wsX60 ++ (vx_atS RX8 301 "java/lang/IndexOutOfBoundsException" ["java/lang/RuntimeException", "java/lang/Exception"]).filter goodWord)
def wsX8_window : List Cond := .code yX8_window cX8_window 2 (some .int) :: ([.fieldLink RX8 199 "TidePost$Caller" "window" "I", .methodLink RX8 108 yX8_callerOf, .instanceMethod yX8_callerOf, .selects RX8 yX8_callerOf yX8_callerOf, .initialized RX8, .code yX8_callerOf cX8_callerOf 2 (some (.object "TidePost$Caller")), .fieldLink RX8 251 "TidePost$Connection" "caller" "LTidePost$Caller;", .methodLink RX8 133 yX8_connectionOf, .instanceMethod yX8_connectionOf, .selects RX8 yX8_connectionOf yX8_connectionOf, .code yX8_connectionOf cX8_connectionOf 2 (some (.object "TidePost$Connection")), .classLink RX8 297 "java/lang/IndexOutOfBoundsException", .initialized "java/lang/IndexOutOfBoundsException", .fieldLink RX8 21 "TidePost" "traffic" "LTidePost$Traffic;", .fieldLink RX8 99 "TidePost$Traffic" "made" "I", .fieldLink RX8 247 "TidePost$Traffic" "all" "[LTidePost$Connection;"] ++ wsX10 ++ wsX20 ++ wsX80 ++ wsX60 ++ (vx_atS RX8 301 "java/lang/IndexOutOfBoundsException" ["java/lang/RuntimeException", "java/lang/Exception"]).filter goodWord)
def wsX8_recover : List Cond := .code yX8_recover cX8_recover 2 (some .int) :: ([.fieldLink RX8 211 "TidePost$Caller" "recover" "I", .methodLink RX8 108 yX8_callerOf, .instanceMethod yX8_callerOf, .selects RX8 yX8_callerOf yX8_callerOf, .initialized RX8, .code yX8_callerOf cX8_callerOf 2 (some (.object "TidePost$Caller")), .fieldLink RX8 251 "TidePost$Connection" "caller" "LTidePost$Caller;", .methodLink RX8 133 yX8_connectionOf, .instanceMethod yX8_connectionOf, .selects RX8 yX8_connectionOf yX8_connectionOf, .code yX8_connectionOf cX8_connectionOf 2 (some (.object "TidePost$Connection")), .classLink RX8 297 "java/lang/IndexOutOfBoundsException", .initialized "java/lang/IndexOutOfBoundsException", .fieldLink RX8 21 "TidePost" "traffic" "LTidePost$Traffic;", .fieldLink RX8 99 "TidePost$Traffic" "made" "I", .fieldLink RX8 247 "TidePost$Traffic" "all" "[LTidePost$Connection;"] ++ wsX10 ++ wsX20 ++ wsX80 ++ wsX60 ++ (vx_atS RX8 301 "java/lang/IndexOutOfBoundsException" ["java/lang/RuntimeException", "java/lang/Exception"]).filter goodWord)
def wsX8_timeout : List Cond := .code yX8_timeout cX8_timeout 2 (some .int) :: ([.fieldLink RX8 214 "TidePost$Caller" "timing" "LTidePost$Timing;", .fieldLink RX8 226 "TidePost$Timing" "timeout" "I", .methodLink RX8 108 yX8_callerOf, .instanceMethod yX8_callerOf, .selects RX8 yX8_callerOf yX8_callerOf, .initialized RX8, .code yX8_callerOf cX8_callerOf 2 (some (.object "TidePost$Caller")), .fieldLink RX8 251 "TidePost$Connection" "caller" "LTidePost$Caller;", .methodLink RX8 133 yX8_connectionOf, .instanceMethod yX8_connectionOf, .selects RX8 yX8_connectionOf yX8_connectionOf, .code yX8_connectionOf cX8_connectionOf 2 (some (.object "TidePost$Connection")), .classLink RX8 297 "java/lang/IndexOutOfBoundsException", .initialized "java/lang/IndexOutOfBoundsException", .fieldLink RX8 21 "TidePost" "traffic" "LTidePost$Traffic;", .fieldLink RX8 99 "TidePost$Traffic" "made" "I", .fieldLink RX8 247 "TidePost$Traffic" "all" "[LTidePost$Connection;"] ++ wsX10 ++ wsX50 ++ wsX20 ++ wsX80 ++ wsX60 ++ (vx_atS RX8 301 "java/lang/IndexOutOfBoundsException" ["java/lang/RuntimeException", "java/lang/Exception"]).filter goodWord)
def wsX8_timer : List Cond := .code yX8_timer cX8_timer 2 (some .int) :: ([.fieldLink RX8 229 "TidePost$Caller" "timer" "I", .methodLink RX8 108 yX8_callerOf, .instanceMethod yX8_callerOf, .selects RX8 yX8_callerOf yX8_callerOf, .initialized RX8, .code yX8_callerOf cX8_callerOf 2 (some (.object "TidePost$Caller")), .fieldLink RX8 251 "TidePost$Connection" "caller" "LTidePost$Caller;", .methodLink RX8 133 yX8_connectionOf, .instanceMethod yX8_connectionOf, .selects RX8 yX8_connectionOf yX8_connectionOf, .code yX8_connectionOf cX8_connectionOf 2 (some (.object "TidePost$Connection")), .classLink RX8 297 "java/lang/IndexOutOfBoundsException", .initialized "java/lang/IndexOutOfBoundsException", .fieldLink RX8 21 "TidePost" "traffic" "LTidePost$Traffic;", .fieldLink RX8 99 "TidePost$Traffic" "made" "I", .fieldLink RX8 247 "TidePost$Traffic" "all" "[LTidePost$Connection;"] ++ wsX10 ++ wsX20 ++ wsX80 ++ wsX60 ++ (vx_atS RX8 301 "java/lang/IndexOutOfBoundsException" ["java/lang/RuntimeException", "java/lang/Exception"]).filter goodWord)
def wsX8_measured : List Cond := .code yX8_measured cX8_measured 2 (some .int) :: ([.fieldLink RX8 214 "TidePost$Caller" "timing" "LTidePost$Timing;", .fieldLink RX8 232 "TidePost$Timing" "measured" "I", .methodLink RX8 108 yX8_callerOf, .instanceMethod yX8_callerOf, .selects RX8 yX8_callerOf yX8_callerOf, .initialized RX8, .code yX8_callerOf cX8_callerOf 2 (some (.object "TidePost$Caller")), .fieldLink RX8 251 "TidePost$Connection" "caller" "LTidePost$Caller;", .methodLink RX8 133 yX8_connectionOf, .instanceMethod yX8_connectionOf, .selects RX8 yX8_connectionOf yX8_connectionOf, .code yX8_connectionOf cX8_connectionOf 2 (some (.object "TidePost$Connection")), .classLink RX8 297 "java/lang/IndexOutOfBoundsException", .initialized "java/lang/IndexOutOfBoundsException", .fieldLink RX8 21 "TidePost" "traffic" "LTidePost$Traffic;", .fieldLink RX8 99 "TidePost$Traffic" "made" "I", .fieldLink RX8 247 "TidePost$Traffic" "all" "[LTidePost$Connection;"] ++ wsX10 ++ wsX50 ++ wsX20 ++ wsX80 ++ wsX60 ++ (vx_atS RX8 301 "java/lang/IndexOutOfBoundsException" ["java/lang/RuntimeException", "java/lang/Exception"]).filter goodWord)
def wsX8_tries : List Cond := .code yX8_tries cX8_tries 2 (some .int) :: ([.fieldLink RX8 235 "TidePost$Caller" "tries" "I", .methodLink RX8 108 yX8_callerOf, .instanceMethod yX8_callerOf, .selects RX8 yX8_callerOf yX8_callerOf, .initialized RX8, .code yX8_callerOf cX8_callerOf 2 (some (.object "TidePost$Caller")), .fieldLink RX8 251 "TidePost$Connection" "caller" "LTidePost$Caller;", .methodLink RX8 133 yX8_connectionOf, .instanceMethod yX8_connectionOf, .selects RX8 yX8_connectionOf yX8_connectionOf, .code yX8_connectionOf cX8_connectionOf 2 (some (.object "TidePost$Connection")), .classLink RX8 297 "java/lang/IndexOutOfBoundsException", .initialized "java/lang/IndexOutOfBoundsException", .fieldLink RX8 21 "TidePost" "traffic" "LTidePost$Traffic;", .fieldLink RX8 99 "TidePost$Traffic" "made" "I", .fieldLink RX8 247 "TidePost$Traffic" "all" "[LTidePost$Connection;"] ++ wsX10 ++ wsX20 ++ wsX80 ++ wsX60 ++ (vx_atS RX8 301 "java/lang/IndexOutOfBoundsException" ["java/lang/RuntimeException", "java/lang/Exception"]).filter goodWord)
def wsX8_wanted : List Cond := .code yX8_wanted cX8_wanted 2 (some .int) :: ([.fieldLink RX8 150 "TidePost$Connection" "callee" "LTidePost$Callee;", .fieldLink RX8 241 "TidePost$Callee" "wanted" "I", .methodLink RX8 133 yX8_connectionOf, .instanceMethod yX8_connectionOf, .selects RX8 yX8_connectionOf yX8_connectionOf, .initialized RX8, .code yX8_connectionOf cX8_connectionOf 2 (some (.object "TidePost$Connection")), .classLink RX8 297 "java/lang/IndexOutOfBoundsException", .initialized "java/lang/IndexOutOfBoundsException", .fieldLink RX8 21 "TidePost" "traffic" "LTidePost$Traffic;", .fieldLink RX8 99 "TidePost$Traffic" "made" "I", .fieldLink RX8 247 "TidePost$Traffic" "all" "[LTidePost$Connection;"] ++ wsX20 ++ wsX00 ++ wsX80 ++ wsX60 ++ (vx_atS RX8 301 "java/lang/IndexOutOfBoundsException" ["java/lang/RuntimeException", "java/lang/Exception"]).filter goodWord)
def wsX8_holds : List Cond := .code yX8_holds cX8_holds 4 (some .boolean) :: ([.fieldLink RX8 150 "TidePost$Connection" "callee" "LTidePost$Callee;", .fieldLink RX8 244 "TidePost$Callee" "held" "[Z", .methodLink RX8 133 yX8_connectionOf, .instanceMethod yX8_connectionOf, .selects RX8 yX8_connectionOf yX8_connectionOf, .initialized RX8, .code yX8_connectionOf cX8_connectionOf 2 (some (.object "TidePost$Connection")), .classLink RX8 297 "java/lang/IndexOutOfBoundsException", .initialized "java/lang/IndexOutOfBoundsException", .fieldLink RX8 21 "TidePost" "traffic" "LTidePost$Traffic;", .fieldLink RX8 99 "TidePost$Traffic" "made" "I", .fieldLink RX8 247 "TidePost$Traffic" "all" "[LTidePost$Connection;"] ++ wsX20 ++ wsX00 ++ wsX80 ++ wsX60 ++ (vx_atS RX8 301 "java/lang/IndexOutOfBoundsException" ["java/lang/RuntimeException", "java/lang/Exception"]).filter goodWord)
def wsX8_readable : List Cond := .code yX8_readable cX8_readable 2 (some .int) :: ([.methodLink RX8 133 yX8_connectionOf, .instanceMethod yX8_connectionOf, .selects RX8 yX8_connectionOf yX8_connectionOf, .initialized RX8, .code yX8_connectionOf cX8_connectionOf 2 (some (.object "TidePost$Connection")), .classLink RX8 297 "java/lang/IndexOutOfBoundsException", .initialized "java/lang/IndexOutOfBoundsException", .fieldLink RX8 21 "TidePost" "traffic" "LTidePost$Traffic;", .fieldLink RX8 99 "TidePost$Traffic" "made" "I", .fieldLink RX8 247 "TidePost$Traffic" "all" "[LTidePost$Connection;", .methodLink RX8 137 yX2_unread, .instanceMethod yX2_unread, .selects RX2 yX2_unread yX2_unread, .initialized RX2, .code yX2_unread cX2_unread 1 (some .int), .fieldLink RX2 19 "TidePost$Connection" "callee" "LTidePost$Callee;", .fieldLink RX2 23 "TidePost$Callee" "wanted" "I", .fieldLink RX2 10 "TidePost$Connection" "caller" "LTidePost$Caller;", .fieldLink RX2 27 "TidePost$Caller" "given" "I", .methodLink RX2 30 Lib.Math.min.name, .static Lib.Math.min.name, .initialized "java/lang/Math", .code Lib.Math.min.name Lib.Math.min.code 2 (some .int), .fieldLink RX2 36 "TidePost$Callee" "read" "I"] ++ wsX80 ++ wsX60 ++ wsX20 ++ wsX00 ++ wsX10 ++ (vx_atS RX8 301 "java/lang/IndexOutOfBoundsException" ["java/lang/RuntimeException", "java/lang/Exception"]).filter goodWord)
def wsX8_hasRead : List Cond := .code yX8_hasRead cX8_hasRead 2 (some .int) :: ([.fieldLink RX8 150 "TidePost$Connection" "callee" "LTidePost$Callee;", .fieldLink RX8 159 "TidePost$Callee" "read" "I", .methodLink RX8 133 yX8_connectionOf, .instanceMethod yX8_connectionOf, .selects RX8 yX8_connectionOf yX8_connectionOf, .initialized RX8, .code yX8_connectionOf cX8_connectionOf 2 (some (.object "TidePost$Connection")), .classLink RX8 297 "java/lang/IndexOutOfBoundsException", .initialized "java/lang/IndexOutOfBoundsException", .fieldLink RX8 21 "TidePost" "traffic" "LTidePost$Traffic;", .fieldLink RX8 99 "TidePost$Traffic" "made" "I", .fieldLink RX8 247 "TidePost$Traffic" "all" "[LTidePost$Connection;"] ++ wsX20 ++ wsX00 ++ wsX80 ++ wsX60 ++ (vx_atS RX8 301 "java/lang/IndexOutOfBoundsException" ["java/lang/RuntimeException", "java/lang/Exception"]).filter goodWord)
def wsX8_lostIn_r1 : List Cond := [Cond.fieldLink RX8 25 "TidePost" "ahead" "LTidePost$Traffic;", Cond.fieldLink RX8 21 "TidePost" "traffic" "LTidePost$Traffic;", Cond.fieldLink RX8 186 "TidePost$Traffic" "lost" "I", Cond.methodLink RX8 57 yX8_checkRange, Cond.static yX8_checkRange, Cond.initialized RX8, Cond.code yX8_checkRange cX8_checkRange 3 none, Cond.classLink RX8 52 "java/lang/IllegalArgumentException", Cond.initialized "java/lang/IllegalArgumentException", Cond.methodLink RX8 255 yX6_copyFrom, Cond.instanceMethod yX6_copyFrom, Cond.selects RX6 yX6_copyFrom yX6_copyFrom, Cond.initialized RX6, Cond.code yX6_copyFrom cX6_copyFrom 3 none, Cond.fieldLink RX6 23 "TidePost$Traffic" "net" "LTidePost$Net;", Cond.fieldLink RX6 84 "TidePost$Net" "links" "I", Cond.fieldLink RX6 11 "TidePost$Traffic" "ways" "[LTidePost$Way;", Cond.fieldLink RX6 29 "TidePost$Traffic" "made" "I", Cond.fieldLink RX6 19 "TidePost$Traffic" "all" "[LTidePost$Connection;", Cond.fieldLink RX6 52 "TidePost$Traffic" "clock" "I", Cond.fieldLink RX6 69 "TidePost$Traffic" "lost" "I", Cond.methodLink RX6 195 yX7_copyFrom, Cond.instanceMethod yX7_copyFrom, Cond.selects RX7 yX7_copyFrom yX7_copyFrom]
def wsX8_lostIn_r2 : List Cond := [Cond.initialized RX7, Cond.code yX7_copyFrom cX7_copyFrom 2 none, Cond.fieldLink RX7 9 "TidePost$Way" "queue" "[I", Cond.methodLink RX7 43 arraycopyName, Cond.native arraycopyName, Cond.static arraycopyName, Cond.initialized "java/lang/System", Cond.fieldLink RX7 22 "TidePost$Way" "head" "I", Cond.fieldLink RX7 18 "TidePost$Way" "queued" "I", Cond.fieldLink RX7 15 "TidePost$Way" "flight" "[I", Cond.fieldLink RX7 37 "TidePost$Way" "flying" "I", Cond.fieldLink RX7 40 "TidePost$Way" "flown" "I", Cond.fieldLink RX7 25 "TidePost$Way" "toLose" "I", Cond.methodLink RX6 199 yX2_copyFrom, Cond.instanceMethod yX2_copyFrom, Cond.selects RX2 yX2_copyFrom yX2_copyFrom, Cond.initialized RX2, Cond.code yX2_copyFrom cX2_copyFrom 2 none, Cond.fieldLink RX2 39 "TidePost$Connection" "callerNode" "I", Cond.fieldLink RX2 42 "TidePost$Connection" "calleeNode" "I", Cond.fieldLink RX2 10 "TidePost$Connection" "caller" "LTidePost$Caller;", Cond.fieldLink RX2 19 "TidePost$Connection" "callee" "LTidePost$Callee;", Cond.methodLink RX2 45 yX1_copyFrom, Cond.instanceMethod yX1_copyFrom]
def wsX8_lostIn_r3 : List Cond := [Cond.selects RX1 yX1_copyFrom yX1_copyFrom, Cond.initialized RX1, Cond.code yX1_copyFrom cX1_copyFrom 2 none, Cond.fieldLink RX1 18 "TidePost$Caller" "state" "I", Cond.fieldLink RX1 47 "TidePost$Caller" "given" "I", Cond.fieldLink RX1 43 "TidePost$Caller" "toldToClose" "Z", Cond.fieldLink RX1 53 "TidePost$Caller" "base" "I", Cond.fieldLink RX1 50 "TidePost$Caller" "next" "I", Cond.fieldLink RX1 22 "TidePost$Caller" "window" "I", Cond.fieldLink RX1 25 "TidePost$Caller" "threshold" "I", Cond.fieldLink RX1 28 "TidePost$Caller" "room" "I", Cond.fieldLink RX1 78 "TidePost$Caller" "like" "I", Cond.fieldLink RX1 31 "TidePost$Caller" "recover" "I", Cond.fieldLink RX1 40 "TidePost$Caller" "timer" "I", Cond.fieldLink RX1 64 "TidePost$Caller" "tries" "I", Cond.fieldLink RX1 99 "TidePost$Caller" "sentAgain" "I", Cond.fieldLink RX1 12 "TidePost$Caller" "timing" "LTidePost$Timing;", Cond.methodLink RX1 106 yX5_copyFrom, Cond.instanceMethod yX5_copyFrom, Cond.selects RX5 yX5_copyFrom yX5_copyFrom, Cond.initialized RX5, Cond.code yX5_copyFrom cX5_copyFrom 2 none, Cond.fieldLink RX5 9 "TidePost$Timing" "round" "I", Cond.fieldLink RX5 15 "TidePost$Timing" "swing" "I"]
def wsX8_lostIn_r4 : List Cond := [Cond.fieldLink RX5 18 "TidePost$Timing" "timeout" "I", Cond.fieldLink RX5 21 "TidePost$Timing" "measured" "I", Cond.fieldLink RX5 24 "TidePost$Timing" "measuredAt" "I", Cond.methodLink RX2 49 yX0_copyFrom, Cond.instanceMethod yX0_copyFrom, Cond.selects RX0 yX0_copyFrom yX0_copyFrom, Cond.initialized RX0, Cond.code yX0_copyFrom cX0_copyFrom 2 none, Cond.fieldLink RX0 19 "TidePost$Callee" "buffer" "I", Cond.fieldLink RX0 22 "TidePost$Callee" "wanted" "I", Cond.fieldLink RX0 15 "TidePost$Callee" "read" "I", Cond.fieldLink RX0 9 "TidePost$Callee" "held" "[Z", Cond.methodLink RX0 31 arraycopyName, Cond.methodLink RX8 165 yX6_tick, Cond.instanceMethod yX6_tick, Cond.selects RX6 yX6_tick yX6_tick, Cond.code yX6_tick cX6_tick 1 none, Cond.methodLink RX6 72 yX6_letArrive, Cond.instanceMethod yX6_letArrive, Cond.selects RX6 yX6_letArrive yX6_letArrive, Cond.code yX6_letArrive cX6_letArrive 4 none, Cond.fieldLink RX6 93 "TidePost$Net" "seconds" "[I", Cond.fieldLink RX6 97 "TidePost$Net" "firsts" "[I", Cond.methodLink RX6 89 yX7_land]
def wsX8_lostIn_r5 : List Cond := [Cond.instanceMethod yX7_land, Cond.selects RX7 yX7_land yX7_land, Cond.code yX7_land cX7_land 4 (some .int), Cond.methodLink RX7 28 yJ9_floorMod_7cf53, Cond.static yJ9_floorMod_7cf53, Cond.initialized RJ9, Cond.code yJ9_floorMod_7cf53 cJ9_floorMod_7cf53 3 (some .int), Cond.methodLink RX6 100 yX6_arrive, Cond.instanceMethod yX6_arrive, Cond.selects RX6 yX6_arrive yX6_arrive, Cond.code yX6_arrive cX6_arrive 8 none, Cond.fieldLink RX6 33 "TidePost$Connection" "callerNode" "I", Cond.fieldLink RX6 36 "TidePost$Connection" "calleeNode" "I", Cond.fieldLink RX6 48 "TidePost$Connection" "caller" "LTidePost$Caller;", Cond.fieldLink RX6 39 "TidePost$Connection" "callee" "LTidePost$Callee;", Cond.methodLink RX6 103 yX4_connectionOf, Cond.static yX4_connectionOf, Cond.initialized RX4, Cond.code yX4_connectionOf cX4_connectionOf 1 (some .int), Cond.methodLink RX6 108 yX4_kindOf, Cond.static yX4_kindOf, Cond.code yX4_kindOf cX4_kindOf 1 (some .int), Cond.methodLink RX6 111 yX6_send, Cond.instanceMethod yX6_send]
def wsX8_lostIn_r6 : List Cond := [Cond.selects RX6 yX6_send yX6_send, Cond.code yX6_send cX6_send 6 none, Cond.fieldLink RX6 188 "TidePost$Net" "rooms" "[I", Cond.methodLink RX6 181 yX3_linkTowards, Cond.instanceMethod yX3_linkTowards, Cond.selects RX3 yX3_linkTowards yX3_linkTowards, Cond.initialized RX3, Cond.code yX3_linkTowards cX3_linkTowards 6 (some .int), Cond.fieldLink RX3 30 "TidePost$Net" "distances" "[[I", Cond.fieldLink RX3 43 "TidePost$Net" "links" "I", Cond.fieldLink RX3 24 "TidePost$Net" "up" "[Z", Cond.fieldLink RX3 18 "TidePost$Net" "delays" "[I", Cond.methodLink RX3 46 yX3_farEnd, Cond.instanceMethod yX3_farEnd, Cond.selects RX3 yX3_farEnd yX3_farEnd, Cond.code yX3_farEnd cX3_farEnd 3 (some .int), Cond.fieldLink RX3 9 "TidePost$Net" "firsts" "[I", Cond.fieldLink RX3 15 "TidePost$Net" "seconds" "[I", Cond.methodLink RX6 185 yX4_hopsOf, Cond.static yX4_hopsOf, Cond.code yX4_hopsOf cX4_hopsOf 1 (some .int), Cond.methodLink RX6 191 yX7_join, Cond.instanceMethod yX7_join, Cond.selects RX7 yX7_join yX7_join]
def wsX8_lostIn_r7 : List Cond := [Cond.code yX7_join cX7_join 3 (some .boolean), Cond.methodLink RX6 115 yX4_numberOf, Cond.static yX4_numberOf, Cond.code yX4_numberOf cX4_numberOf 1 (some .int), Cond.methodLink RX6 118 yX4_roomOf, Cond.static yX4_roomOf, Cond.code yX4_roomOf cX4_roomOf 1 (some .int), Cond.methodLink RX6 121 yX1_takeAnswer, Cond.instanceMethod yX1_takeAnswer, Cond.selects RX1 yX1_takeAnswer yX1_takeAnswer, Cond.code yX1_takeAnswer cX1_takeAnswer 4 (some .boolean), Cond.methodLink RX1 67 yX1_advance, Cond.instanceMethod yX1_advance, Cond.selects RX1 yX1_advance yX1_advance, Cond.code yX1_advance cX1_advance 5 (some .boolean), Cond.fieldLink RX1 37 "TidePost$Timing" "timeout" "I", Cond.methodLink RX1 75 yX5_answered, Cond.instanceMethod yX5_answered, Cond.selects RX5 yX5_answered yX5_answered, Cond.code yX5_answered cX5_answered 5 none, Cond.methodLink RX5 27 Lib.Math.abs.name, Cond.static Lib.Math.abs.name, Cond.initialized "java/lang/Math", Cond.code Lib.Math.abs.name Lib.Math.abs.code 1 (some .int)]
def wsX8_lostIn_r8 : List Cond := [Cond.methodLink RX5 33 Lib.Math.max.name, Cond.static Lib.Math.max.name, Cond.code Lib.Math.max.name Lib.Math.max.code 2 (some .int), Cond.methodLink RX5 37 Lib.Math.min.name, Cond.static Lib.Math.min.name, Cond.code Lib.Math.min.name Lib.Math.min.code 2 (some .int), Cond.methodLink RX1 81 yX1_growWindow, Cond.instanceMethod yX1_growWindow, Cond.selects RX1 yX1_growWindow yX1_growWindow, Cond.code yX1_growWindow cX1_growWindow 2 none, Cond.methodLink RX1 84 Lib.Math.max.name, Cond.methodLink RX1 90 Lib.Math.min.name, Cond.methodLink RX1 71 yX1_repeated, Cond.instanceMethod yX1_repeated, Cond.selects RX1 yX1_repeated yX1_repeated, Cond.code yX1_repeated cX1_repeated 2 (some .boolean), Cond.methodLink RX1 93 yX1_startRecovery, Cond.instanceMethod yX1_startRecovery, Cond.selects RX1 yX1_startRecovery yX1_startRecovery, Cond.code yX1_startRecovery cX1_startRecovery 1 none, Cond.methodLink RX6 125 yX1_baseAgain, Cond.instanceMethod yX1_baseAgain, Cond.selects RX1 yX1_baseAgain yX1_baseAgain, Cond.code yX1_baseAgain cX1_baseAgain 1 (some .int)]
def wsX8_lostIn_r9 : List Cond := [Cond.methodLink RX1 102 yX5_sentTwice, Cond.instanceMethod yX5_sentTwice, Cond.selects RX5 yX5_sentTwice yX5_sentTwice, Cond.code yX5_sentTwice cX5_sentTwice 2 none, Cond.methodLink RX6 128 yX6_sendThing, Cond.instanceMethod yX6_sendThing, Cond.selects RX6 yX6_sendThing yX6_sendThing, Cond.code yX6_sendThing cX6_sendThing 6 none, Cond.fieldLink RX6 172 "TidePost$Caller" "given" "I", Cond.methodLink RX6 168 yX4_of, Cond.static yX4_of, Cond.code yX4_of cX4_of 4 (some .int), Cond.methodLink RX6 131 yX0_take, Cond.instanceMethod yX0_take, Cond.selects RX0 yX0_take yX0_take, Cond.code yX0_take cX0_take 3 (some .boolean), Cond.methodLink RX6 135 yX6_sendAnswer, Cond.instanceMethod yX6_sendAnswer, Cond.selects RX6 yX6_sendAnswer yX6_sendAnswer, Cond.code yX6_sendAnswer cX6_sendAnswer 5 none, Cond.fieldLink RX6 175 "TidePost$Callee" "wanted" "I", Cond.methodLink RX6 178 yX0_spare, Cond.instanceMethod yX0_spare, Cond.selects RX0 yX0_spare yX0_spare]
def wsX8_lostIn_r10 : List Cond := [Cond.code yX0_spare cX0_spare 1 (some .int), Cond.methodLink RX0 25 Lib.Math.max.name, Cond.methodLink RX6 75 yX6_letTimersRunOut, Cond.instanceMethod yX6_letTimersRunOut, Cond.selects RX6 yX6_letTimersRunOut yX6_letTimersRunOut, Cond.code yX6_letTimersRunOut cX6_letTimersRunOut 3 none, Cond.fieldLink RX6 138 "TidePost$Caller" "timer" "I", Cond.fieldLink RX6 145 "TidePost$Caller" "state" "I", Cond.methodLink RX6 141 yX1_runOut, Cond.instanceMethod yX1_runOut, Cond.selects RX1 yX1_runOut yX1_runOut, Cond.code yX1_runOut cX1_runOut 2 (some .boolean), Cond.methodLink RX1 96 yX5_backOff, Cond.instanceMethod yX5_backOff, Cond.selects RX5 yX5_backOff yX5_backOff, Cond.code yX5_backOff cX5_backOff 1 none, Cond.methodLink RX6 61 yX6_sendHello, Cond.instanceMethod yX6_sendHello, Cond.selects RX6 yX6_sendHello yX6_sendHello, Cond.code yX6_sendHello cX6_sendHello 4 none, Cond.methodLink RX6 78 yX6_letCallersSend, Cond.instanceMethod yX6_letCallersSend, Cond.selects RX6 yX6_letCallersSend yX6_letCallersSend, Cond.code yX6_letCallersSend cX6_letCallersSend 4 none]
def wsX8_lostIn_r11 : List Cond := [Cond.fieldLink RX6 152 "TidePost$Caller" "next" "I", Cond.methodLink RX6 148 yX1_maySend, Cond.instanceMethod yX1_maySend, Cond.selects RX1 yX1_maySend yX1_maySend, Cond.code yX1_maySend cX1_maySend 3 (some .boolean), Cond.methodLink RX1 56 yX1_things, Cond.instanceMethod yX1_things, Cond.selects RX1 yX1_things yX1_things, Cond.code yX1_things cX1_things 1 (some .int), Cond.methodLink RX6 155 yX1_sent, Cond.instanceMethod yX1_sent, Cond.selects RX1 yX1_sent yX1_sent, Cond.code yX1_sent cX1_sent 2 none, Cond.methodLink RX1 60 yX5_sent, Cond.instanceMethod yX5_sent, Cond.selects RX5 yX5_sent yX5_sent, Cond.code yX5_sent cX5_sent 3 none, Cond.methodLink RX6 81 yX6_letTakeOff, Cond.instanceMethod yX6_letTakeOff, Cond.selects RX6 yX6_letTakeOff yX6_letTakeOff, Cond.code yX6_letTakeOff cX6_letTakeOff 3 none, Cond.fieldLink RX6 158 "TidePost$Net" "up" "[Z", Cond.fieldLink RX6 162 "TidePost$Net" "delays" "[I", Cond.methodLink RX6 165 yX7_takeOff]
def wsX8_lostIn_r12 : List Cond := [Cond.instanceMethod yX7_takeOff, Cond.selects RX7 yX7_takeOff yX7_takeOff, Cond.code yX7_takeOff cX7_takeOff 3 (some .boolean), Cond.constant RX7 36 (262144)]
def wsX8_lostIn : List Cond := .code yX8_lostIn cX8_lostIn 3 (some .int) :: ((wsX8_lostIn_r1 ++ (wsX8_lostIn_r2 ++ (wsX8_lostIn_r3 ++ (wsX8_lostIn_r4 ++ (wsX8_lostIn_r5 ++ (wsX8_lostIn_r6 ++ (wsX8_lostIn_r7 ++ (wsX8_lostIn_r8 ++ (wsX8_lostIn_r9 ++ (wsX8_lostIn_r10 ++ (wsX8_lostIn_r11 ++ wsX8_lostIn_r12))))))))))) ++ wsX80 ++ wsX60 ++ wsX30 ++ wsX70 ++ wsX20 ++ wsX10 ++ wsX50 ++ wsX00 ++ (vx_atS RX8 56 "java/lang/IllegalArgumentException" ["java/lang/RuntimeException", "java/lang/Exception"]).filter goodWord)
def wsX8_digestOfLink : List Cond := .code yX8_digestOfLink cX8_digestOfLink 8 (some .long) :: ([.constantLong RX8 269 (31), .fieldLink RX8 12 "TidePost" "net" "LTidePost$Net;", .fieldLink RX8 80 "TidePost$Net" "up" "[Z", .fieldLink RX8 21 "TidePost" "traffic" "LTidePost$Traffic;", .fieldLink RX8 189 "TidePost$Traffic" "ways" "[LTidePost$Way;", .fieldLink RX8 177 "TidePost$Way" "queued" "I", .fieldLink RX8 180 "TidePost$Way" "flying" "I", .fieldLink RX8 183 "TidePost$Way" "flown" "I"] ++ wsX80 ++ wsX30 ++ wsX60 ++ wsX70)
def wsX8_digestOfCaller : List Cond := .code yX8_digestOfCaller cX8_digestOfCaller 5 (some .long) :: ([.constantLong RX8 269 (31), .fieldLink RX8 193 "TidePost$Caller" "state" "I", .fieldLink RX8 116 "TidePost$Caller" "given" "I", .fieldLink RX8 130 "TidePost$Caller" "base" "I", .fieldLink RX8 196 "TidePost$Caller" "next" "I", .fieldLink RX8 199 "TidePost$Caller" "window" "I", .fieldLink RX8 202 "TidePost$Caller" "threshold" "I", .fieldLink RX8 205 "TidePost$Caller" "room" "I", .fieldLink RX8 208 "TidePost$Caller" "like" "I", .fieldLink RX8 211 "TidePost$Caller" "recover" "I", .fieldLink RX8 214 "TidePost$Caller" "timing" "LTidePost$Timing;", .fieldLink RX8 218 "TidePost$Timing" "round" "I", .fieldLink RX8 223 "TidePost$Timing" "swing" "I", .fieldLink RX8 226 "TidePost$Timing" "timeout" "I", .fieldLink RX8 229 "TidePost$Caller" "timer" "I", .fieldLink RX8 232 "TidePost$Timing" "measured" "I", .fieldLink RX8 235 "TidePost$Caller" "tries" "I", .fieldLink RX8 238 "TidePost$Caller" "sentAgain" "I"] ++ wsX10 ++ wsX50)
def wsX8_digestOfCallee : List Cond := .code yX8_digestOfCallee cX8_digestOfCallee 5 (some .long) :: ([.constantLong RX8 269 (31), .fieldLink RX8 150 "TidePost$Connection" "callee" "LTidePost$Callee;", .fieldLink RX8 241 "TidePost$Callee" "wanted" "I", .fieldLink RX8 159 "TidePost$Callee" "read" "I", .methodLink RX8 137 yX2_unread, .instanceMethod yX2_unread, .selects RX2 yX2_unread yX2_unread, .initialized RX2, .code yX2_unread cX2_unread 1 (some .int), .fieldLink RX2 19 "TidePost$Connection" "callee" "LTidePost$Callee;", .fieldLink RX2 23 "TidePost$Callee" "wanted" "I", .fieldLink RX2 10 "TidePost$Connection" "caller" "LTidePost$Caller;", .fieldLink RX2 27 "TidePost$Caller" "given" "I", .methodLink RX2 30 Lib.Math.min.name, .static Lib.Math.min.name, .initialized "java/lang/Math", .code Lib.Math.min.name Lib.Math.min.code 2 (some .int), .fieldLink RX2 36 "TidePost$Callee" "read" "I"] ++ wsX20 ++ wsX00 ++ wsX10)
def wsX8_digest_r1 : List Cond := [Cond.constantLong RX8 267 (58043), Cond.constantLong RX8 269 (31), Cond.fieldLink RX8 12 "TidePost" "net" "LTidePost$Net;", Cond.fieldLink RX8 61 "TidePost$Net" "links" "I", Cond.fieldLink RX8 21 "TidePost" "traffic" "LTidePost$Traffic;", Cond.fieldLink RX8 99 "TidePost$Traffic" "made" "I", Cond.fieldLink RX8 247 "TidePost$Traffic" "all" "[LTidePost$Connection;", Cond.fieldLink RX8 251 "TidePost$Connection" "caller" "LTidePost$Caller;", Cond.fieldLink RX8 33 "TidePost$Net" "nodes" "I", Cond.fieldLink RX8 171 "TidePost$Net" "distances" "[[I", Cond.methodLink RX8 271 yX8_clock, Cond.instanceMethod yX8_clock, Cond.selects RX8 yX8_clock yX8_clock, Cond.initialized RX8, Cond.code yX8_clock cX8_clock 1 (some .int), Cond.fieldLink RX8 168 "TidePost$Traffic" "clock" "I", Cond.methodLink RX8 273 yX8_nodes, Cond.instanceMethod yX8_nodes, Cond.selects RX8 yX8_nodes yX8_nodes, Cond.code yX8_nodes cX8_nodes 1 (some .int), Cond.methodLink RX8 275 yX8_links, Cond.instanceMethod yX8_links, Cond.selects RX8 yX8_links yX8_links, Cond.code yX8_links cX8_links 1 (some .int)]
def wsX8_digest_r2 : List Cond := [Cond.methodLink RX8 277 yX8_lost, Cond.instanceMethod yX8_lost, Cond.selects RX8 yX8_lost yX8_lost, Cond.code yX8_lost cX8_lost 1 (some .int), Cond.fieldLink RX8 186 "TidePost$Traffic" "lost" "I", Cond.methodLink RX8 279 yX8_underWay, Cond.instanceMethod yX8_underWay, Cond.selects RX8 yX8_underWay yX8_underWay, Cond.code yX8_underWay cX8_underWay 3 (some .int), Cond.fieldLink RX8 189 "TidePost$Traffic" "ways" "[LTidePost$Way;", Cond.fieldLink RX8 177 "TidePost$Way" "queued" "I", Cond.fieldLink RX8 180 "TidePost$Way" "flying" "I", Cond.methodLink RX8 282 yX8_connections, Cond.instanceMethod yX8_connections, Cond.selects RX8 yX8_connections yX8_connections, Cond.code yX8_connections cX8_connections 1 (some .int), Cond.methodLink RX8 285 yX8_digestOfLink, Cond.instanceMethod yX8_digestOfLink, Cond.selects RX8 yX8_digestOfLink yX8_digestOfLink, Cond.code yX8_digestOfLink cX8_digestOfLink 8 (some .long), Cond.fieldLink RX8 80 "TidePost$Net" "up" "[Z", Cond.fieldLink RX8 183 "TidePost$Way" "flown" "I", Cond.methodLink RX8 289 yX8_digestOfCaller, Cond.static yX8_digestOfCaller]
def wsX8_digest_r3 : List Cond := [Cond.code yX8_digestOfCaller cX8_digestOfCaller 5 (some .long), Cond.fieldLink RX8 193 "TidePost$Caller" "state" "I", Cond.fieldLink RX8 116 "TidePost$Caller" "given" "I", Cond.fieldLink RX8 130 "TidePost$Caller" "base" "I", Cond.fieldLink RX8 196 "TidePost$Caller" "next" "I", Cond.fieldLink RX8 199 "TidePost$Caller" "window" "I", Cond.fieldLink RX8 202 "TidePost$Caller" "threshold" "I", Cond.fieldLink RX8 205 "TidePost$Caller" "room" "I", Cond.fieldLink RX8 208 "TidePost$Caller" "like" "I", Cond.fieldLink RX8 211 "TidePost$Caller" "recover" "I", Cond.fieldLink RX8 214 "TidePost$Caller" "timing" "LTidePost$Timing;", Cond.fieldLink RX8 218 "TidePost$Timing" "round" "I", Cond.fieldLink RX8 223 "TidePost$Timing" "swing" "I", Cond.fieldLink RX8 226 "TidePost$Timing" "timeout" "I", Cond.fieldLink RX8 229 "TidePost$Caller" "timer" "I", Cond.fieldLink RX8 232 "TidePost$Timing" "measured" "I", Cond.fieldLink RX8 235 "TidePost$Caller" "tries" "I", Cond.fieldLink RX8 238 "TidePost$Caller" "sentAgain" "I", Cond.methodLink RX8 293 yX8_digestOfCallee, Cond.static yX8_digestOfCallee, Cond.code yX8_digestOfCallee cX8_digestOfCallee 5 (some .long), Cond.fieldLink RX8 150 "TidePost$Connection" "callee" "LTidePost$Callee;", Cond.fieldLink RX8 241 "TidePost$Callee" "wanted" "I", Cond.fieldLink RX8 159 "TidePost$Callee" "read" "I"]
def wsX8_digest_r4 : List Cond := [Cond.methodLink RX8 137 yX2_unread, Cond.instanceMethod yX2_unread, Cond.selects RX2 yX2_unread yX2_unread, Cond.initialized RX2, Cond.code yX2_unread cX2_unread 1 (some .int), Cond.fieldLink RX2 19 "TidePost$Connection" "callee" "LTidePost$Callee;", Cond.fieldLink RX2 23 "TidePost$Callee" "wanted" "I", Cond.fieldLink RX2 10 "TidePost$Connection" "caller" "LTidePost$Caller;", Cond.fieldLink RX2 27 "TidePost$Caller" "given" "I", Cond.methodLink RX2 30 Lib.Math.min.name, Cond.static Lib.Math.min.name, Cond.initialized "java/lang/Math", Cond.code Lib.Math.min.name Lib.Math.min.code 2 (some .int), Cond.fieldLink RX2 36 "TidePost$Callee" "read" "I"]
def wsX8_digest : List Cond := .code yX8_digest cX8_digest 4 (some .long) :: ((wsX8_digest_r1 ++ (wsX8_digest_r2 ++ (wsX8_digest_r3 ++ wsX8_digest_r4))) ++ wsX80 ++ wsX30 ++ wsX60 ++ wsX20 ++ wsX70 ++ wsX10 ++ wsX50 ++ wsX00)
def wsJ9_abs_0f7a4 : List Cond := .code yJ9_abs_0f7a4 cJ9_abs_0f7a4 1 (some .int) :: ([])
def wsJ9_max_7cf53 : List Cond := .code yJ9_max_7cf53 cJ9_max_7cf53 2 (some .int) :: ([])
def wsJ9_min_7cf53 : List Cond := .code yJ9_min_7cf53 cJ9_min_7cf53 2 (some .int) :: ([])
def wsL_below : List Cond := .code yL_below cL_below 2 (some .int) :: ([.constant RL 7 (2147483647)])
def wsL_cell : List Cond := .code yL_cell cL_cell 2 (some .int) :: ([.constant RL 8 (790386105)])
def wsL_act_r1 : List Cond := [Cond.classLink RL 94 "java/lang/IndexOutOfBoundsException", Cond.classLink RL 96 "java/lang/IllegalArgumentException", Cond.classLink RL 98 "java/lang/IllegalStateException", Cond.methodLink RL 45 Lib.Math.max.name, Cond.static Lib.Math.max.name, Cond.initialized "java/lang/Math", Cond.code Lib.Math.max.name Lib.Math.max.code 2 (some .int), Cond.methodLink RL 73 Lib.Math.min.name, Cond.static Lib.Math.min.name, Cond.code Lib.Math.min.name Lib.Math.min.code 2 (some .int), Cond.methodLink RL 42 yX8_connections, Cond.instanceMethod yX8_connections, Cond.selects RX8 yX8_connections yX8_connections, Cond.initialized RX8, Cond.code yX8_connections cX8_connections 1 (some .int), Cond.fieldLink RX8 21 "TidePost" "traffic" "LTidePost$Traffic;", Cond.fieldLink RX8 99 "TidePost$Traffic" "made" "I", Cond.methodLink RL 18 yL_below, Cond.static yL_below, Cond.initialized RL, Cond.code yL_below cL_below 2 (some .int), Cond.constant RL 7 (2147483647), Cond.methodLink RL 50 yX8_clock, Cond.instanceMethod yX8_clock]
def wsL_act_r2 : List Cond := [Cond.selects RX8 yX8_clock yX8_clock, Cond.code yX8_clock cX8_clock 1 (some .int), Cond.fieldLink RX8 168 "TidePost$Traffic" "clock" "I", Cond.methodLink RL 53 yX8_addLink, Cond.instanceMethod yX8_addLink, Cond.selects RX8 yX8_addLink yX8_addLink, Cond.code yX8_addLink cX8_addLink 5 (some .int), Cond.classLink RX8 52 "java/lang/IllegalArgumentException", Cond.initialized "java/lang/IllegalArgumentException", Cond.classLink RX8 37 "java/lang/IllegalStateException", Cond.initialized "java/lang/IllegalStateException", Cond.fieldLink RX8 12 "TidePost" "net" "LTidePost$Net;", Cond.fieldLink RX8 61 "TidePost$Net" "links" "I", Cond.methodLink RX8 48 yX8_checkNode, Cond.instanceMethod yX8_checkNode, Cond.selects RX8 yX8_checkNode yX8_checkNode, Cond.code yX8_checkNode cX8_checkNode 2 none, Cond.classLink RX8 297 "java/lang/IndexOutOfBoundsException", Cond.initialized "java/lang/IndexOutOfBoundsException", Cond.fieldLink RX8 33 "TidePost$Net" "nodes" "I", Cond.methodLink RX8 57 yX8_checkRange, Cond.static yX8_checkRange, Cond.code yX8_checkRange cX8_checkRange 3 none, Cond.methodLink RX8 64 yX3_joins]
def wsL_act_r3 : List Cond := [Cond.instanceMethod yX3_joins, Cond.selects RX3 yX3_joins yX3_joins, Cond.initialized RX3, Cond.code yX3_joins cX3_joins 4 (some .boolean), Cond.fieldLink RX3 43 "TidePost$Net" "links" "I", Cond.methodLink RX3 46 yX3_farEnd, Cond.instanceMethod yX3_farEnd, Cond.selects RX3 yX3_farEnd yX3_farEnd, Cond.code yX3_farEnd cX3_farEnd 3 (some .int), Cond.fieldLink RX3 9 "TidePost$Net" "firsts" "[I", Cond.fieldLink RX3 15 "TidePost$Net" "seconds" "[I", Cond.methodLink RX8 70 yX3_layLink, Cond.instanceMethod yX3_layLink, Cond.selects RX3 yX3_layLink yX3_layLink, Cond.code yX3_layLink cX3_layLink 6 (some .int), Cond.fieldLink RX3 18 "TidePost$Net" "delays" "[I", Cond.fieldLink RX3 21 "TidePost$Net" "rooms" "[I", Cond.fieldLink RX3 24 "TidePost$Net" "up" "[Z", Cond.methodLink RX3 40 yX3_measureRoutes, Cond.instanceMethod yX3_measureRoutes, Cond.selects RX3 yX3_measureRoutes yX3_measureRoutes, Cond.code yX3_measureRoutes cX3_measureRoutes 2 none, Cond.fieldLink RX3 36 "TidePost$Net" "nodes" "I", Cond.fieldLink RX3 30 "TidePost$Net" "distances" "[[I"]
def wsL_act_r4 : List Cond := [Cond.methodLink RX3 50 yX3_spread, Cond.instanceMethod yX3_spread, Cond.selects RX3 yX3_spread yX3_spread, Cond.code yX3_spread cX3_spread 9 none, Cond.methodLink RX3 54 yX3_shorten, Cond.static yX3_shorten, Cond.code yX3_shorten cX3_shorten 4 (some .boolean), Cond.methodLink RL 57 yX8_call, Cond.instanceMethod yX8_call, Cond.selects RX8 yX8_call yX8_call, Cond.code yX8_call cX8_call 4 (some .int), Cond.methodLink RX8 104 yX6_connect, Cond.instanceMethod yX6_connect, Cond.selects RX6 yX6_connect yX6_connect, Cond.initialized RX6, Cond.code yX6_connect cX6_connect 6 (some .int), Cond.fieldLink RX6 29 "TidePost$Traffic" "made" "I", Cond.fieldLink RX6 19 "TidePost$Traffic" "all" "[LTidePost$Connection;", Cond.fieldLink RX6 33 "TidePost$Connection" "callerNode" "I", Cond.fieldLink RX6 36 "TidePost$Connection" "calleeNode" "I", Cond.fieldLink RX6 39 "TidePost$Connection" "callee" "LTidePost$Callee;", Cond.fieldLink RX6 43 "TidePost$Callee" "buffer" "I", Cond.fieldLink RX6 48 "TidePost$Connection" "caller" "LTidePost$Caller;", Cond.fieldLink RX6 52 "TidePost$Traffic" "clock" "I"]
def wsL_act_r5 : List Cond := [Cond.methodLink RX6 55 yX1_begin, Cond.instanceMethod yX1_begin, Cond.selects RX1 yX1_begin yX1_begin, Cond.initialized RX1, Cond.code yX1_begin cX1_begin 3 none, Cond.fieldLink RX1 18 "TidePost$Caller" "state" "I", Cond.fieldLink RX1 22 "TidePost$Caller" "window" "I", Cond.fieldLink RX1 25 "TidePost$Caller" "threshold" "I", Cond.fieldLink RX1 28 "TidePost$Caller" "room" "I", Cond.fieldLink RX1 31 "TidePost$Caller" "recover" "I", Cond.fieldLink RX1 12 "TidePost$Caller" "timing" "LTidePost$Timing;", Cond.fieldLink RX1 37 "TidePost$Timing" "timeout" "I", Cond.fieldLink RX1 40 "TidePost$Caller" "timer" "I", Cond.methodLink RX1 34 yX5_begin, Cond.instanceMethod yX5_begin, Cond.selects RX5 yX5_begin yX5_begin, Cond.initialized RX5, Cond.code yX5_begin cX5_begin 1 none, Cond.fieldLink RX5 9 "TidePost$Timing" "round" "I", Cond.fieldLink RX5 15 "TidePost$Timing" "swing" "I", Cond.fieldLink RX5 18 "TidePost$Timing" "timeout" "I", Cond.fieldLink RX5 21 "TidePost$Timing" "measured" "I", Cond.fieldLink RX5 24 "TidePost$Timing" "measuredAt" "I", Cond.methodLink RX6 61 yX6_sendHello]
def wsL_act_r6 : List Cond := [Cond.instanceMethod yX6_sendHello, Cond.selects RX6 yX6_sendHello yX6_sendHello, Cond.code yX6_sendHello cX6_sendHello 4 none, Cond.methodLink RX6 168 yX4_of, Cond.static yX4_of, Cond.initialized RX4, Cond.code yX4_of cX4_of 4 (some .int), Cond.methodLink RX6 111 yX6_send, Cond.instanceMethod yX6_send, Cond.selects RX6 yX6_send yX6_send, Cond.code yX6_send cX6_send 6 none, Cond.fieldLink RX6 23 "TidePost$Traffic" "net" "LTidePost$Net;", Cond.fieldLink RX6 69 "TidePost$Traffic" "lost" "I", Cond.fieldLink RX6 97 "TidePost$Net" "firsts" "[I", Cond.fieldLink RX6 11 "TidePost$Traffic" "ways" "[LTidePost$Way;", Cond.fieldLink RX6 188 "TidePost$Net" "rooms" "[I", Cond.methodLink RX6 181 yX3_linkTowards, Cond.instanceMethod yX3_linkTowards, Cond.selects RX3 yX3_linkTowards yX3_linkTowards, Cond.code yX3_linkTowards cX3_linkTowards 6 (some .int), Cond.methodLink RX6 185 yX4_hopsOf, Cond.static yX4_hopsOf, Cond.code yX4_hopsOf cX4_hopsOf 1 (some .int), Cond.methodLink RX6 191 yX7_join]
def wsL_act_r7 : List Cond := [Cond.instanceMethod yX7_join, Cond.selects RX7 yX7_join yX7_join, Cond.initialized RX7, Cond.code yX7_join cX7_join 3 (some .boolean), Cond.fieldLink RX7 18 "TidePost$Way" "queued" "I", Cond.fieldLink RX7 9 "TidePost$Way" "queue" "[I", Cond.fieldLink RX7 22 "TidePost$Way" "head" "I", Cond.methodLink RL 61 yX8_given, Cond.instanceMethod yX8_given, Cond.selects RX8 yX8_given yX8_given, Cond.code yX8_given cX8_given 2 (some .int), Cond.fieldLink RX8 116 "TidePost$Caller" "given" "I", Cond.methodLink RX8 108 yX8_callerOf, Cond.instanceMethod yX8_callerOf, Cond.selects RX8 yX8_callerOf yX8_callerOf, Cond.code yX8_callerOf cX8_callerOf 2 (some (.object "TidePost$Caller")), Cond.fieldLink RX8 251 "TidePost$Connection" "caller" "LTidePost$Caller;", Cond.methodLink RX8 133 yX8_connectionOf, Cond.instanceMethod yX8_connectionOf, Cond.selects RX8 yX8_connectionOf yX8_connectionOf, Cond.code yX8_connectionOf cX8_connectionOf 2 (some (.object "TidePost$Connection")), Cond.fieldLink RX8 247 "TidePost$Traffic" "all" "[LTidePost$Connection;", Cond.methodLink RL 64 yX8_give, Cond.instanceMethod yX8_give]
def wsL_act_r8 : List Cond := [Cond.selects RX8 yX8_give yX8_give, Cond.code yX8_give cX8_give 6 (some .int), Cond.fieldLink RX8 30 "TidePost" "values" "[[I", Cond.methodLink RX8 112 yX8_checkTakesThings, Cond.static yX8_checkTakesThings, Cond.code yX8_checkTakesThings cX8_checkTakesThings 1 none, Cond.fieldLink RX8 193 "TidePost$Caller" "state" "I", Cond.fieldLink RX8 123 "TidePost$Caller" "toldToClose" "Z", Cond.methodLink RL 67 yX8_close, Cond.instanceMethod yX8_close, Cond.selects RX8 yX8_close yX8_close, Cond.code yX8_close cX8_close 3 (some .int), Cond.fieldLink RX8 130 "TidePost$Caller" "base" "I", Cond.methodLink RX8 127 yX1_things, Cond.instanceMethod yX1_things, Cond.selects RX1 yX1_things yX1_things, Cond.code yX1_things cX1_things 1 (some .int), Cond.fieldLink RX1 43 "TidePost$Caller" "toldToClose" "Z", Cond.fieldLink RX1 47 "TidePost$Caller" "given" "I", Cond.methodLink RL 70 yX8_readable, Cond.instanceMethod yX8_readable, Cond.selects RX8 yX8_readable yX8_readable, Cond.code yX8_readable cX8_readable 2 (some .int), Cond.methodLink RX8 137 yX2_unread]
def wsL_act_r9 : List Cond := [Cond.instanceMethod yX2_unread, Cond.selects RX2 yX2_unread yX2_unread, Cond.initialized RX2, Cond.code yX2_unread cX2_unread 1 (some .int), Cond.fieldLink RX2 19 "TidePost$Connection" "callee" "LTidePost$Callee;", Cond.fieldLink RX2 23 "TidePost$Callee" "wanted" "I", Cond.fieldLink RX2 10 "TidePost$Connection" "caller" "LTidePost$Caller;", Cond.fieldLink RX2 27 "TidePost$Caller" "given" "I", Cond.methodLink RX2 30 Lib.Math.min.name, Cond.fieldLink RX2 36 "TidePost$Callee" "read" "I", Cond.methodLink RL 76 yX8_read, Cond.instanceMethod yX8_read, Cond.selects RX8 yX8_read yX8_read, Cond.code yX8_read cX8_read 9 (some .int), Cond.methodLink RX8 142 Lib.Math.min.name, Cond.fieldLink RX8 150 "TidePost$Connection" "callee" "LTidePost$Callee;", Cond.fieldLink RX8 159 "TidePost$Callee" "read" "I", Cond.methodLink RX8 154 yX0_spare, Cond.instanceMethod yX0_spare, Cond.selects RX0 yX0_spare yX0_spare, Cond.initialized RX0, Cond.code yX0_spare cX0_spare 1 (some .int), Cond.fieldLink RX0 15 "TidePost$Callee" "read" "I", Cond.fieldLink RX0 19 "TidePost$Callee" "buffer" "I"]
def wsL_act_r10 : List Cond := [Cond.fieldLink RX0 22 "TidePost$Callee" "wanted" "I", Cond.methodLink RX0 25 Lib.Math.max.name, Cond.methodLink RX8 162 yX6_sendAnswer, Cond.instanceMethod yX6_sendAnswer, Cond.selects RX6 yX6_sendAnswer yX6_sendAnswer, Cond.code yX6_sendAnswer cX6_sendAnswer 5 none, Cond.fieldLink RX6 175 "TidePost$Callee" "wanted" "I", Cond.methodLink RX6 178 yX0_spare, Cond.methodLink RL 79 yX8_hasRead, Cond.instanceMethod yX8_hasRead, Cond.selects RX8 yX8_hasRead yX8_hasRead, Cond.code yX8_hasRead cX8_hasRead 2 (some .int), Cond.methodLink RL 82 yX8_links, Cond.instanceMethod yX8_links, Cond.selects RX8 yX8_links yX8_links, Cond.code yX8_links cX8_links 1 (some .int), Cond.methodLink RL 85 yX8_turn, Cond.instanceMethod yX8_turn, Cond.selects RX8 yX8_turn yX8_turn, Cond.code yX8_turn cX8_turn 2 (some .int), Cond.fieldLink RX8 80 "TidePost$Net" "up" "[Z", Cond.methodLink RX8 74 yX8_checkLink, Cond.instanceMethod yX8_checkLink, Cond.selects RX8 yX8_checkLink yX8_checkLink]
def wsL_act_r11 : List Cond := [Cond.code yX8_checkLink cX8_checkLink 2 none, Cond.methodLink RX8 77 yX3_flip, Cond.instanceMethod yX3_flip, Cond.selects RX3 yX3_flip yX3_flip, Cond.code yX3_flip cX3_flip 2 none, Cond.methodLink RX8 84 yX6_dropAll, Cond.instanceMethod yX6_dropAll, Cond.selects RX6 yX6_dropAll yX6_dropAll, Cond.code yX6_dropAll cX6_dropAll 3 (some .int), Cond.methodLink RX6 65 yX7_drop, Cond.instanceMethod yX7_drop, Cond.selects RX7 yX7_drop yX7_drop, Cond.code yX7_drop cX7_drop 3 (some .int), Cond.fieldLink RX7 37 "TidePost$Way" "flying" "I", Cond.fieldLink RX7 15 "TidePost$Way" "flight" "[I", Cond.methodLink RL 88 yX8_lose, Cond.instanceMethod yX8_lose, Cond.selects RX8 yX8_lose yX8_lose, Cond.code yX8_lose cX8_lose 6 (some .int), Cond.fieldLink RX8 92 "TidePost$Way" "toLose" "I", Cond.methodLink RX8 88 yX8_wayOf, Cond.instanceMethod yX8_wayOf, Cond.selects RX8 yX8_wayOf yX8_wayOf, Cond.code yX8_wayOf cX8_wayOf 3 (some (.object "TidePost$Way"))]
def wsL_act_r12 : List Cond := [Cond.fieldLink RX8 189 "TidePost$Traffic" "ways" "[LTidePost$Way;", Cond.methodLink RL 91 yX8_pass, Cond.instanceMethod yX8_pass, Cond.selects RX8 yX8_pass yX8_pass, Cond.code yX8_pass cX8_pass 3 (some .int), Cond.methodLink RX8 165 yX6_tick, Cond.instanceMethod yX6_tick, Cond.selects RX6 yX6_tick yX6_tick, Cond.code yX6_tick cX6_tick 1 none, Cond.methodLink RX6 72 yX6_letArrive, Cond.instanceMethod yX6_letArrive, Cond.selects RX6 yX6_letArrive yX6_letArrive, Cond.code yX6_letArrive cX6_letArrive 4 none, Cond.fieldLink RX6 84 "TidePost$Net" "links" "I", Cond.fieldLink RX6 93 "TidePost$Net" "seconds" "[I", Cond.methodLink RX6 89 yX7_land, Cond.instanceMethod yX7_land, Cond.selects RX7 yX7_land yX7_land, Cond.code yX7_land cX7_land 4 (some .int), Cond.methodLink RX7 28 yJ9_floorMod_7cf53, Cond.static yJ9_floorMod_7cf53, Cond.initialized RJ9, Cond.code yJ9_floorMod_7cf53 cJ9_floorMod_7cf53 3 (some .int), Cond.methodLink RX6 100 yX6_arrive]
def wsL_act_r13 : List Cond := [Cond.instanceMethod yX6_arrive, Cond.selects RX6 yX6_arrive yX6_arrive, Cond.code yX6_arrive cX6_arrive 8 none, Cond.methodLink RX6 103 yX4_connectionOf, Cond.static yX4_connectionOf, Cond.code yX4_connectionOf cX4_connectionOf 1 (some .int), Cond.methodLink RX6 108 yX4_kindOf, Cond.static yX4_kindOf, Cond.code yX4_kindOf cX4_kindOf 1 (some .int), Cond.methodLink RX6 115 yX4_numberOf, Cond.static yX4_numberOf, Cond.code yX4_numberOf cX4_numberOf 1 (some .int), Cond.methodLink RX6 118 yX4_roomOf, Cond.static yX4_roomOf, Cond.code yX4_roomOf cX4_roomOf 1 (some .int), Cond.methodLink RX6 121 yX1_takeAnswer, Cond.instanceMethod yX1_takeAnswer, Cond.selects RX1 yX1_takeAnswer yX1_takeAnswer, Cond.code yX1_takeAnswer cX1_takeAnswer 4 (some .boolean), Cond.fieldLink RX1 64 "TidePost$Caller" "tries" "I", Cond.fieldLink RX1 53 "TidePost$Caller" "base" "I", Cond.fieldLink RX1 50 "TidePost$Caller" "next" "I", Cond.methodLink RX1 67 yX1_advance, Cond.instanceMethod yX1_advance]
def wsL_act_r14 : List Cond := [Cond.selects RX1 yX1_advance yX1_advance, Cond.code yX1_advance cX1_advance 5 (some .boolean), Cond.fieldLink RX1 78 "TidePost$Caller" "like" "I", Cond.methodLink RX1 75 yX5_answered, Cond.instanceMethod yX5_answered, Cond.selects RX5 yX5_answered yX5_answered, Cond.code yX5_answered cX5_answered 5 none, Cond.methodLink RX5 27 Lib.Math.abs.name, Cond.static Lib.Math.abs.name, Cond.code Lib.Math.abs.name Lib.Math.abs.code 1 (some .int), Cond.methodLink RX5 33 Lib.Math.max.name, Cond.methodLink RX5 37 Lib.Math.min.name, Cond.methodLink RX1 81 yX1_growWindow, Cond.instanceMethod yX1_growWindow, Cond.selects RX1 yX1_growWindow yX1_growWindow, Cond.code yX1_growWindow cX1_growWindow 2 none, Cond.methodLink RX1 84 Lib.Math.max.name, Cond.methodLink RX1 90 Lib.Math.min.name, Cond.methodLink RX1 71 yX1_repeated, Cond.instanceMethod yX1_repeated, Cond.selects RX1 yX1_repeated yX1_repeated, Cond.code yX1_repeated cX1_repeated 2 (some .boolean), Cond.methodLink RX1 93 yX1_startRecovery, Cond.instanceMethod yX1_startRecovery]
def wsL_act_r15 : List Cond := [Cond.selects RX1 yX1_startRecovery yX1_startRecovery, Cond.code yX1_startRecovery cX1_startRecovery 1 none, Cond.methodLink RX6 125 yX1_baseAgain, Cond.instanceMethod yX1_baseAgain, Cond.selects RX1 yX1_baseAgain yX1_baseAgain, Cond.code yX1_baseAgain cX1_baseAgain 1 (some .int), Cond.fieldLink RX1 99 "TidePost$Caller" "sentAgain" "I", Cond.methodLink RX1 102 yX5_sentTwice, Cond.instanceMethod yX5_sentTwice, Cond.selects RX5 yX5_sentTwice yX5_sentTwice, Cond.code yX5_sentTwice cX5_sentTwice 2 none, Cond.methodLink RX6 128 yX6_sendThing, Cond.instanceMethod yX6_sendThing, Cond.selects RX6 yX6_sendThing yX6_sendThing, Cond.code yX6_sendThing cX6_sendThing 6 none, Cond.fieldLink RX6 172 "TidePost$Caller" "given" "I", Cond.methodLink RX6 131 yX0_take, Cond.instanceMethod yX0_take, Cond.selects RX0 yX0_take yX0_take, Cond.code yX0_take cX0_take 3 (some .boolean), Cond.fieldLink RX0 9 "TidePost$Callee" "held" "[Z", Cond.methodLink RX6 135 yX6_sendAnswer, Cond.methodLink RX6 75 yX6_letTimersRunOut, Cond.instanceMethod yX6_letTimersRunOut]
def wsL_act_r16 : List Cond := [Cond.selects RX6 yX6_letTimersRunOut yX6_letTimersRunOut, Cond.code yX6_letTimersRunOut cX6_letTimersRunOut 3 none, Cond.fieldLink RX6 138 "TidePost$Caller" "timer" "I", Cond.fieldLink RX6 145 "TidePost$Caller" "state" "I", Cond.methodLink RX6 141 yX1_runOut, Cond.instanceMethod yX1_runOut, Cond.selects RX1 yX1_runOut yX1_runOut, Cond.code yX1_runOut cX1_runOut 2 (some .boolean), Cond.methodLink RX1 96 yX5_backOff, Cond.instanceMethod yX5_backOff, Cond.selects RX5 yX5_backOff yX5_backOff, Cond.code yX5_backOff cX5_backOff 1 none, Cond.methodLink RX6 78 yX6_letCallersSend, Cond.instanceMethod yX6_letCallersSend, Cond.selects RX6 yX6_letCallersSend yX6_letCallersSend, Cond.code yX6_letCallersSend cX6_letCallersSend 4 none, Cond.fieldLink RX6 152 "TidePost$Caller" "next" "I", Cond.methodLink RX6 148 yX1_maySend, Cond.instanceMethod yX1_maySend, Cond.selects RX1 yX1_maySend yX1_maySend, Cond.code yX1_maySend cX1_maySend 3 (some .boolean), Cond.methodLink RX1 56 yX1_things, Cond.methodLink RX6 155 yX1_sent, Cond.instanceMethod yX1_sent]
def wsL_act_r17 : List Cond := [Cond.selects RX1 yX1_sent yX1_sent, Cond.code yX1_sent cX1_sent 2 none, Cond.methodLink RX1 60 yX5_sent, Cond.instanceMethod yX5_sent, Cond.selects RX5 yX5_sent yX5_sent, Cond.code yX5_sent cX5_sent 3 none, Cond.methodLink RX6 81 yX6_letTakeOff, Cond.instanceMethod yX6_letTakeOff, Cond.selects RX6 yX6_letTakeOff yX6_letTakeOff, Cond.code yX6_letTakeOff cX6_letTakeOff 3 none, Cond.fieldLink RX6 158 "TidePost$Net" "up" "[Z", Cond.fieldLink RX6 162 "TidePost$Net" "delays" "[I", Cond.methodLink RX6 165 yX7_takeOff, Cond.instanceMethod yX7_takeOff, Cond.selects RX7 yX7_takeOff yX7_takeOff, Cond.code yX7_takeOff cX7_takeOff 3 (some .boolean), Cond.fieldLink RX7 25 "TidePost$Way" "toLose" "I", Cond.constant RX7 36 (262144), Cond.fieldLink RX7 40 "TidePost$Way" "flown" "I"]
def wsL_act : List Cond := .codeWith yL_act cL_act 14 (some .boolean) [(41, 301, 441, 94), (302, 331, 441, 94), (332, 430, 441, 94), (431, 438, 441, 94), (41, 301, 458, 96), (302, 331, 458, 96), (332, 430, 458, 96), (431, 438, 458, 96), (41, 301, 475, 98), (302, 331, 475, 98), (332, 430, 475, 98), (431, 438, 475, 98)] :: ((wsL_act_r1 ++ (wsL_act_r2 ++ (wsL_act_r3 ++ (wsL_act_r4 ++ (wsL_act_r5 ++ (wsL_act_r6 ++ (wsL_act_r7 ++ (wsL_act_r8 ++ (wsL_act_r9 ++ (wsL_act_r10 ++ (wsL_act_r11 ++ (wsL_act_r12 ++ (wsL_act_r13 ++ (wsL_act_r14 ++ (wsL_act_r15 ++ (wsL_act_r16 ++ wsL_act_r17)))))))))))))))) ++ wsX80 ++ wsX60 ++ wsX30 ++ wsX20 ++ wsX00 ++ wsX10 ++ wsX50 ++ wsX70 ++ (vx_atS RX8 56 "java/lang/IllegalArgumentException" ["java/lang/RuntimeException", "java/lang/Exception"]).filter goodWord ++ (vx_atS RX8 41 "java/lang/IllegalStateException" ["java/lang/RuntimeException", "java/lang/Exception"]).filter goodWord ++ (vx_atS RX8 301 "java/lang/IndexOutOfBoundsException" ["java/lang/RuntimeException", "java/lang/Exception"]).filter goodWord)
def wsL_isSound_r1 : List Cond := [Cond.methodLink RL 42 yX8_connections, Cond.instanceMethod yX8_connections, Cond.selects RX8 yX8_connections yX8_connections, Cond.initialized RX8, Cond.code yX8_connections cX8_connections 1 (some .int), Cond.fieldLink RX8 21 "TidePost" "traffic" "LTidePost$Traffic;", Cond.fieldLink RX8 99 "TidePost$Traffic" "made" "I", Cond.methodLink RL 100 yX8_stateOf, Cond.instanceMethod yX8_stateOf, Cond.selects RX8 yX8_stateOf yX8_stateOf, Cond.code yX8_stateOf cX8_stateOf 2 (some .int), Cond.fieldLink RX8 193 "TidePost$Caller" "state" "I", Cond.methodLink RX8 108 yX8_callerOf, Cond.instanceMethod yX8_callerOf, Cond.selects RX8 yX8_callerOf yX8_callerOf, Cond.code yX8_callerOf cX8_callerOf 2 (some (.object "TidePost$Caller")), Cond.fieldLink RX8 251 "TidePost$Connection" "caller" "LTidePost$Caller;", Cond.methodLink RX8 133 yX8_connectionOf, Cond.instanceMethod yX8_connectionOf, Cond.selects RX8 yX8_connectionOf yX8_connectionOf, Cond.code yX8_connectionOf cX8_connectionOf 2 (some (.object "TidePost$Connection")), Cond.classLink RX8 297 "java/lang/IndexOutOfBoundsException", Cond.initialized "java/lang/IndexOutOfBoundsException", Cond.fieldLink RX8 247 "TidePost$Traffic" "all" "[LTidePost$Connection;"]
def wsL_isSound_r2 : List Cond := [Cond.methodLink RL 103 yX8_base, Cond.instanceMethod yX8_base, Cond.selects RX8 yX8_base yX8_base, Cond.code yX8_base cX8_base 2 (some .int), Cond.fieldLink RX8 130 "TidePost$Caller" "base" "I", Cond.methodLink RL 106 yX8_wanted, Cond.instanceMethod yX8_wanted, Cond.selects RX8 yX8_wanted yX8_wanted, Cond.code yX8_wanted cX8_wanted 2 (some .int), Cond.fieldLink RX8 150 "TidePost$Connection" "callee" "LTidePost$Callee;", Cond.fieldLink RX8 241 "TidePost$Callee" "wanted" "I", Cond.methodLink RL 109 yX8_next, Cond.instanceMethod yX8_next, Cond.selects RX8 yX8_next yX8_next, Cond.code yX8_next cX8_next 2 (some .int), Cond.fieldLink RX8 196 "TidePost$Caller" "next" "I", Cond.methodLink RL 61 yX8_given, Cond.instanceMethod yX8_given, Cond.selects RX8 yX8_given yX8_given, Cond.code yX8_given cX8_given 2 (some .int), Cond.fieldLink RX8 116 "TidePost$Caller" "given" "I", Cond.methodLink RL 79 yX8_hasRead, Cond.instanceMethod yX8_hasRead, Cond.selects RX8 yX8_hasRead yX8_hasRead]
def wsL_isSound_r3 : List Cond := [Cond.code yX8_hasRead cX8_hasRead 2 (some .int), Cond.fieldLink RX8 159 "TidePost$Callee" "read" "I", Cond.methodLink RL 70 yX8_readable, Cond.instanceMethod yX8_readable, Cond.selects RX8 yX8_readable yX8_readable, Cond.code yX8_readable cX8_readable 2 (some .int), Cond.methodLink RX8 137 yX2_unread, Cond.instanceMethod yX2_unread, Cond.selects RX2 yX2_unread yX2_unread, Cond.initialized RX2, Cond.code yX2_unread cX2_unread 1 (some .int), Cond.fieldLink RX2 19 "TidePost$Connection" "callee" "LTidePost$Callee;", Cond.fieldLink RX2 23 "TidePost$Callee" "wanted" "I", Cond.fieldLink RX2 10 "TidePost$Connection" "caller" "LTidePost$Caller;", Cond.fieldLink RX2 27 "TidePost$Caller" "given" "I", Cond.methodLink RX2 30 Lib.Math.min.name, Cond.static Lib.Math.min.name, Cond.initialized "java/lang/Math", Cond.code Lib.Math.min.name Lib.Math.min.code 2 (some .int), Cond.fieldLink RX2 36 "TidePost$Callee" "read" "I", Cond.methodLink RL 112 yX8_window, Cond.instanceMethod yX8_window, Cond.selects RX8 yX8_window yX8_window, Cond.code yX8_window cX8_window 2 (some .int)]
def wsL_isSound_r4 : List Cond := [Cond.fieldLink RX8 199 "TidePost$Caller" "window" "I", Cond.methodLink RL 115 yX8_timeout, Cond.instanceMethod yX8_timeout, Cond.selects RX8 yX8_timeout yX8_timeout, Cond.code yX8_timeout cX8_timeout 2 (some .int), Cond.fieldLink RX8 214 "TidePost$Caller" "timing" "LTidePost$Timing;", Cond.fieldLink RX8 226 "TidePost$Timing" "timeout" "I", Cond.methodLink RL 118 yX8_tries, Cond.instanceMethod yX8_tries, Cond.selects RX8 yX8_tries yX8_tries, Cond.code yX8_tries cX8_tries 2 (some .int), Cond.fieldLink RX8 235 "TidePost$Caller" "tries" "I", Cond.methodLink RL 121 yX8_timer, Cond.instanceMethod yX8_timer, Cond.selects RX8 yX8_timer yX8_timer, Cond.code yX8_timer cX8_timer 2 (some .int), Cond.fieldLink RX8 229 "TidePost$Caller" "timer" "I", Cond.methodLink RL 50 yX8_clock, Cond.instanceMethod yX8_clock, Cond.selects RX8 yX8_clock yX8_clock, Cond.code yX8_clock cX8_clock 1 (some .int), Cond.fieldLink RX8 168 "TidePost$Traffic" "clock" "I", Cond.methodLink RL 124 yX8_measured, Cond.instanceMethod yX8_measured]
def wsL_isSound_r5 : List Cond := [Cond.selects RX8 yX8_measured yX8_measured, Cond.code yX8_measured cX8_measured 2 (some .int), Cond.fieldLink RX8 232 "TidePost$Timing" "measured" "I", Cond.methodLink RL 127 yX8_recover, Cond.instanceMethod yX8_recover, Cond.selects RX8 yX8_recover yX8_recover, Cond.code yX8_recover cX8_recover 2 (some .int), Cond.fieldLink RX8 211 "TidePost$Caller" "recover" "I", Cond.methodLink RL 130 yX8_holds, Cond.instanceMethod yX8_holds, Cond.selects RX8 yX8_holds yX8_holds, Cond.code yX8_holds cX8_holds 4 (some .boolean), Cond.fieldLink RX8 244 "TidePost$Callee" "held" "[Z", Cond.methodLink RL 82 yX8_links, Cond.instanceMethod yX8_links, Cond.selects RX8 yX8_links yX8_links, Cond.code yX8_links cX8_links 1 (some .int), Cond.fieldLink RX8 12 "TidePost" "net" "LTidePost$Net;", Cond.fieldLink RX8 61 "TidePost$Net" "links" "I", Cond.methodLink RL 134 yX8_queued, Cond.instanceMethod yX8_queued, Cond.selects RX8 yX8_queued yX8_queued, Cond.code yX8_queued cX8_queued 3 (some .int), Cond.fieldLink RX8 177 "TidePost$Way" "queued" "I"]
def wsL_isSound_r6 : List Cond := [Cond.methodLink RX8 88 yX8_wayOf, Cond.instanceMethod yX8_wayOf, Cond.selects RX8 yX8_wayOf yX8_wayOf, Cond.code yX8_wayOf cX8_wayOf 3 (some (.object "TidePost$Way")), Cond.fieldLink RX8 189 "TidePost$Traffic" "ways" "[LTidePost$Way;", Cond.methodLink RX8 74 yX8_checkLink, Cond.instanceMethod yX8_checkLink, Cond.selects RX8 yX8_checkLink yX8_checkLink, Cond.code yX8_checkLink cX8_checkLink 2 none, Cond.methodLink RL 137 yX8_flying, Cond.instanceMethod yX8_flying, Cond.selects RX8 yX8_flying yX8_flying, Cond.code yX8_flying cX8_flying 3 (some .int), Cond.fieldLink RX8 180 "TidePost$Way" "flying" "I", Cond.methodLink RL 140 yX8_isUp, Cond.instanceMethod yX8_isUp, Cond.selects RX8 yX8_isUp yX8_isUp, Cond.code yX8_isUp cX8_isUp 2 (some .boolean), Cond.fieldLink RX8 80 "TidePost$Net" "up" "[Z", Cond.methodLink RL 144 yX8_nextLink, Cond.instanceMethod yX8_nextLink, Cond.selects RX8 yX8_nextLink yX8_nextLink, Cond.code yX8_nextLink cX8_nextLink 3 (some .int), Cond.methodLink RX8 48 yX8_checkNode]
def wsL_isSound_r7 : List Cond := [Cond.instanceMethod yX8_checkNode, Cond.selects RX8 yX8_checkNode yX8_checkNode, Cond.code yX8_checkNode cX8_checkNode 2 none, Cond.fieldLink RX8 33 "TidePost$Net" "nodes" "I", Cond.methodLink RX8 174 yX3_linkTowards, Cond.instanceMethod yX3_linkTowards, Cond.selects RX3 yX3_linkTowards yX3_linkTowards, Cond.initialized RX3, Cond.code yX3_linkTowards cX3_linkTowards 6 (some .int), Cond.fieldLink RX3 30 "TidePost$Net" "distances" "[[I", Cond.fieldLink RX3 43 "TidePost$Net" "links" "I", Cond.fieldLink RX3 24 "TidePost$Net" "up" "[Z", Cond.fieldLink RX3 18 "TidePost$Net" "delays" "[I", Cond.methodLink RX3 46 yX3_farEnd, Cond.instanceMethod yX3_farEnd, Cond.selects RX3 yX3_farEnd yX3_farEnd, Cond.code yX3_farEnd cX3_farEnd 3 (some .int), Cond.fieldLink RX3 9 "TidePost$Net" "firsts" "[I", Cond.fieldLink RX3 15 "TidePost$Net" "seconds" "[I", Cond.methodLink RL 147 yX8_distance, Cond.instanceMethod yX8_distance, Cond.selects RX8 yX8_distance yX8_distance, Cond.code yX8_distance cX8_distance 3 (some .int), Cond.fieldLink RX8 171 "TidePost$Net" "distances" "[[I"]
def wsL_isSound_r8 : List Cond := [Cond.methodLink RL 150 yX8_underWay, Cond.instanceMethod yX8_underWay, Cond.selects RX8 yX8_underWay yX8_underWay, Cond.code yX8_underWay cX8_underWay 3 (some .int)]
def wsL_isSound : List Cond := .code yL_isSound cL_isSound 6 (some .boolean) :: ((wsL_isSound_r1 ++ (wsL_isSound_r2 ++ (wsL_isSound_r3 ++ (wsL_isSound_r4 ++ (wsL_isSound_r5 ++ (wsL_isSound_r6 ++ (wsL_isSound_r7 ++ wsL_isSound_r8))))))) ++ wsX80 ++ wsX60 ++ wsX10 ++ wsX20 ++ wsX00 ++ wsX50 ++ wsX30 ++ wsX70 ++ (vx_atS RX8 301 "java/lang/IndexOutOfBoundsException" ["java/lang/RuntimeException", "java/lang/Exception"]).filter goodWord)
abbrev vwCl : List vw_C := [(RX0, TX0, 4), (RX1, TX1, 14), (RX2, TX2, 4), (RX3, TX3, 9), (RX5, TX5, 5), (RX6, TX6, 6), (RX7, TX7, 7), (RX8, TX8, 4)]
end
section
/-! The world of one TidePost: its 234 cells (and two rows of the law's own), each at a fixed place; what changes is ints alone.
w = (addresses, launch, array classes, class numbers, slot numbers); τ i k: the int in slot (or element) k of the cell i. -/
abbrev TS : Type := Nat → Nat → Int32
abbrev WPar : Type := (Nat → Nat) × Launch × (Nat → ClassId) × (Nat → ClassId) × (Nat → Nat → Nat)
abbrev Cxt : Type := Program × Env × Room × State × MethodId × Array Value × List Frame × Method × Code × (State → Prop) × Nat
def tp_N : Nat := 236
def tp_kd (i : Nat) : Nat :=
  if i < 17 then (if i = 0 then 7 else if i = 1 then 3 else if i < 6 then 11 else if i = 6 then 12 else if i = 7 then 14 else 13)
  else if i < 227 then (let j := (i - 17) % 105
    if j = 0 then 5 else if j = 1 then 15 else if j = 2 then 16
    else if j < 75 then (if j % 3 = 0 then 6 else if j % 3 = 1 then 8 else 9)
    else if j % 5 = 0 then 2 else if j % 5 = 1 then 1 else if j % 5 = 2 then 4 else if j % 5 = 3 then 0 else 10)
  else if i = 227 then 17 else if i < 234 then 18 else 19
def tp_rs (f : Nat → Option Nat) : vp_A → Prop := fun _ => True
/-- what the cell i holds -/
def tp_E (w : WPar) (i : Nat) (f : Nat → Int32) : va_E := match tp_kd i with
  | 0 => .inr (0, [.int (f 0), .int (f 1), .int (f 2), .ref (w.1 (i + 1))])
  | 1 => .inr (1, [.int (f 0), .int (f 1), .int (f 2), .int (f 3), .int (f 4), .int (f 5), .int (f 6), .int (f 7), .int (f 8), .int (f 9), .int (f 10), .int (f 11), .int (f 12), .ref (w.1 (i + 1))])
  | 2 => .inr (2, [.int (f 0), .int (f 1), .ref (w.1 (i + 1)), .ref (w.1 (i + 3))])
  | 3 => .inr (3, [.int (f 0), .int (f 1), .ref (w.1 2), .ref (w.1 3), .ref (w.1 4), .ref (w.1 5), .ref (w.1 6), .ref (w.1 7), .ref (w.1 16)])
  | 4 => .inr (4, [.int (f 0), .int (f 1), .int (f 2), .int (f 3), .int (f 4)])
  | 5 => .inr (5, [.ref (w.1 1), .ref (w.1 (i + 1)), .ref (w.1 (i + 2)), .int (f 3), .int (f 4), .int (f 5)])
  | 6 => .inr (6, [.ref (w.1 (i + 1)), .int (f 1), .int (f 2), .ref (w.1 (i + 2)), .int (f 4), .int (f 5), .int (f 6)])
  | 7 => .inr (7, [.ref (w.1 1), .ref (w.1 17), .ref (w.1 122), .ref (w.1 227)])
  | 8 => .inl (w.2.2.1 0, 20, .inl f)
  | 9 => .inl (w.2.2.1 0, 10, .inl f)
  | 10 => .inl (w.2.2.1 1, 201, .inl f)
  | 11 => .inl (w.2.2.1 0, 12, .inl f)
  | 12 => .inl (w.2.2.1 1, 12, .inl f)
  | 13 => .inl (w.2.2.1 0, 8, .inl f)
  | 14 => .inl (w.2.2.1 4, 8, .inr (.inr (.inr (.inr (fun j => if j < 8 then some (w.1 (8 + j)) else none)))))
  | 15 => .inl (w.2.2.1 2, 24, .inr (.inr (.inr (.inr (fun j => if j < 24 then some (w.1 (i + 2 + 3 * j)) else none)))))
  | 16 => .inl (w.2.2.1 3, 6, .inr (.inr (.inr (.inr (fun j => if j < 6 then some (w.1 (i + 73 + 5 * j)) else none)))))
  | 17 => .inl (w.2.2.1 4, 6, .inr (.inr (.inr (.inr (fun j => if j < 6 then some (w.1 (228 + j)) else none)))))
  | 18 => .inl (w.2.2.1 0, 200, .inl f)
  | _ => .inl (w.2.2.1 0, 6, .inl f)
abbrev tp_tys (w : WPar) : List (ClassId × FieldType) := [(w.2.2.1 0, .int), (w.2.2.1 1, .boolean), (w.2.2.1 2, .object "TidePost$Way"), (w.2.2.1 3, .object "TidePost$Connection"), (w.2.2.1 4, .array .int)]
def tp_W (w : WPar) (τ : TS) : va_W := (List.range tp_N).map (fun i => (w.1 i, tp_E w i (τ i)))
abbrev tp_D (w : WPar) : va_G := (w.2.2.2.1, w.2.2.2.2)
def tp_inj (w : WPar) : Prop := ∀ i j, i < tp_N → j < tp_N → w.1 i = w.1 j → i = j
def tp_A (w : WPar) (sz : Nat) : Nat → Prop := fun q => (∃ i, i < tp_N ∧ q = w.1 i) ∨ sz ≤ q
/-- the cell i holds the row f -/
def tp_rw (τ : TS) (i : Nat) (f : Nat → Int32) : TS := fun a => if a = i then f else τ a
/-- slot k of the cell i holds v -/
def tp_up (τ : TS) (i k : Nat) (v : Int32) : TS := tp_rw τ i (upd (τ i) k v)
theorem tp_at {w : WPar} {τ : TS} {i : Nat} (hi : i < tp_N) : (tp_W w τ)[i]? = some (w.1 i, tp_E w i (τ i)) := by
  simp [tp_W, List.getElem?_map, List.getElem?_range hi]
theorem tp_set {w : WPar} {τ : TS} {i : Nat} (f : Nat → Int32) (hi : i < tp_N) : (tp_W w τ).set i (w.1 i, tp_E w i f) = tp_W w (tp_rw τ i f) := by
  apply List.ext_getElem?
  intro j
  rw [List.getElem?_set]
  by_cases hj : j < tp_N
  · by_cases e : i = j
    · subst e
      rw [tp_at hi]
      simp [tp_W, tp_rw, hi]
    · rw [if_neg e, tp_at hj, tp_at hj]
      simp [tp_rw, Ne.symm e]
  · have h1 : ∀ τ' : TS, (tp_W w τ')[j]? = none := fun τ' => List.getElem?_eq_none (by simp [tp_W]; omega)
    rw [h1, h1, if_neg (by omega)]
theorem tp_Dd {w : WPar} {τ : TS} {sz : Nat} (h : tp_inj w) : va_D (tp_A w sz) (tp_W w τ) := by
  have hk : ∀ (k : Nat) (q : Nat × va_E), (tp_W w τ)[k]? = some q → k < tp_N ∧ q.1 = w.1 k := fun k q hq => by
    have hl : k < tp_N := by
      rcases Nat.lt_or_ge k tp_N with h2 | h2
      · exact h2
      · rw [List.getElem?_eq_none (by simp [tp_W]; omega)] at hq
        cases hq
    rw [tp_at hl] at hq
    cases hq
    exact ⟨hl, rfl⟩
  refine ⟨fun i j p q hi hj hpq => ?_, fun k q hq => ?_⟩
  · obtain ⟨h1, h2⟩ := hk i p hi
    obtain ⟨h3, h4⟩ := hk j q hj
    exact h i j h1 h3 (by rw [← h2, ← h4, hpq])
  · obtain ⟨h1, h2⟩ := hk k q hq
    exact Or.inl ⟨k, h1, h2⟩
theorem tp_same {w : WPar} {sz sz' : Nat} (h : sz ≤ sz') : ∀ q, tp_A w sz' q → tp_A w sz q := fun q hq => hq.elim Or.inl (fun h2 => Or.inr (Nat.le_trans h h2))
theorem tp_old {w : WPar} {sz0 sz : Nat} : ∀ q, q < sz → tp_A w sz q → tp_A w sz0 q := fun q hq h => h.elim Or.inl (fun h2 => absurd hq (Nat.not_lt.mpr h2))

theorem tE0 {w : WPar} {i : Nat} {f : Nat → Int32} (h : tp_kd i = 0) : tp_E w i f = .inr (0, [.int (f 0), .int (f 1), .int (f 2), .ref (w.1 (i + 1))]) := by simp only [tp_E, h]
theorem tS0_0 {w : WPar} {i : Nat} {f : Nat → Int32} (h : tp_kd i = 0) (v : Int32) : ((.inr (0, List.set [.int (f 0), .int (f 1), .int (f 2), .ref (w.1 (i + 1))] 0 (.int v))) : va_E) = tp_E w i (upd f 0 v) := by rw [tE0 h]; simp [upd, List.set]
theorem tS0_1 {w : WPar} {i : Nat} {f : Nat → Int32} (h : tp_kd i = 0) (v : Int32) : ((.inr (0, List.set [.int (f 0), .int (f 1), .int (f 2), .ref (w.1 (i + 1))] 1 (.int v))) : va_E) = tp_E w i (upd f 1 v) := by rw [tE0 h]; simp [upd, List.set]
theorem tS0_2 {w : WPar} {i : Nat} {f : Nat → Int32} (h : tp_kd i = 0) (v : Int32) : ((.inr (0, List.set [.int (f 0), .int (f 1), .int (f 2), .ref (w.1 (i + 1))] 2 (.int v))) : va_E) = tp_E w i (upd f 2 v) := by rw [tE0 h]; simp [upd, List.set]
theorem tE1 {w : WPar} {i : Nat} {f : Nat → Int32} (h : tp_kd i = 1) : tp_E w i f = .inr (1, [.int (f 0), .int (f 1), .int (f 2), .int (f 3), .int (f 4), .int (f 5), .int (f 6), .int (f 7), .int (f 8), .int (f 9), .int (f 10), .int (f 11), .int (f 12), .ref (w.1 (i + 1))]) := by simp only [tp_E, h]
theorem tS1_0 {w : WPar} {i : Nat} {f : Nat → Int32} (h : tp_kd i = 1) (v : Int32) : ((.inr (1, List.set [.int (f 0), .int (f 1), .int (f 2), .int (f 3), .int (f 4), .int (f 5), .int (f 6), .int (f 7), .int (f 8), .int (f 9), .int (f 10), .int (f 11), .int (f 12), .ref (w.1 (i + 1))] 0 (.int v))) : va_E) = tp_E w i (upd f 0 v) := by rw [tE1 h]; simp [upd, List.set]
theorem tS1_1 {w : WPar} {i : Nat} {f : Nat → Int32} (h : tp_kd i = 1) (v : Int32) : ((.inr (1, List.set [.int (f 0), .int (f 1), .int (f 2), .int (f 3), .int (f 4), .int (f 5), .int (f 6), .int (f 7), .int (f 8), .int (f 9), .int (f 10), .int (f 11), .int (f 12), .ref (w.1 (i + 1))] 1 (.int v))) : va_E) = tp_E w i (upd f 1 v) := by rw [tE1 h]; simp [upd, List.set]
theorem tS1_2 {w : WPar} {i : Nat} {f : Nat → Int32} (h : tp_kd i = 1) (v : Int32) : ((.inr (1, List.set [.int (f 0), .int (f 1), .int (f 2), .int (f 3), .int (f 4), .int (f 5), .int (f 6), .int (f 7), .int (f 8), .int (f 9), .int (f 10), .int (f 11), .int (f 12), .ref (w.1 (i + 1))] 2 (.int v))) : va_E) = tp_E w i (upd f 2 v) := by rw [tE1 h]; simp [upd, List.set]
theorem tS1_3 {w : WPar} {i : Nat} {f : Nat → Int32} (h : tp_kd i = 1) (v : Int32) : ((.inr (1, List.set [.int (f 0), .int (f 1), .int (f 2), .int (f 3), .int (f 4), .int (f 5), .int (f 6), .int (f 7), .int (f 8), .int (f 9), .int (f 10), .int (f 11), .int (f 12), .ref (w.1 (i + 1))] 3 (.int v))) : va_E) = tp_E w i (upd f 3 v) := by rw [tE1 h]; simp [upd, List.set]
theorem tS1_4 {w : WPar} {i : Nat} {f : Nat → Int32} (h : tp_kd i = 1) (v : Int32) : ((.inr (1, List.set [.int (f 0), .int (f 1), .int (f 2), .int (f 3), .int (f 4), .int (f 5), .int (f 6), .int (f 7), .int (f 8), .int (f 9), .int (f 10), .int (f 11), .int (f 12), .ref (w.1 (i + 1))] 4 (.int v))) : va_E) = tp_E w i (upd f 4 v) := by rw [tE1 h]; simp [upd, List.set]
theorem tS1_5 {w : WPar} {i : Nat} {f : Nat → Int32} (h : tp_kd i = 1) (v : Int32) : ((.inr (1, List.set [.int (f 0), .int (f 1), .int (f 2), .int (f 3), .int (f 4), .int (f 5), .int (f 6), .int (f 7), .int (f 8), .int (f 9), .int (f 10), .int (f 11), .int (f 12), .ref (w.1 (i + 1))] 5 (.int v))) : va_E) = tp_E w i (upd f 5 v) := by rw [tE1 h]; simp [upd, List.set]
theorem tS1_6 {w : WPar} {i : Nat} {f : Nat → Int32} (h : tp_kd i = 1) (v : Int32) : ((.inr (1, List.set [.int (f 0), .int (f 1), .int (f 2), .int (f 3), .int (f 4), .int (f 5), .int (f 6), .int (f 7), .int (f 8), .int (f 9), .int (f 10), .int (f 11), .int (f 12), .ref (w.1 (i + 1))] 6 (.int v))) : va_E) = tp_E w i (upd f 6 v) := by rw [tE1 h]; simp [upd, List.set]
theorem tS1_7 {w : WPar} {i : Nat} {f : Nat → Int32} (h : tp_kd i = 1) (v : Int32) : ((.inr (1, List.set [.int (f 0), .int (f 1), .int (f 2), .int (f 3), .int (f 4), .int (f 5), .int (f 6), .int (f 7), .int (f 8), .int (f 9), .int (f 10), .int (f 11), .int (f 12), .ref (w.1 (i + 1))] 7 (.int v))) : va_E) = tp_E w i (upd f 7 v) := by rw [tE1 h]; simp [upd, List.set]
theorem tS1_8 {w : WPar} {i : Nat} {f : Nat → Int32} (h : tp_kd i = 1) (v : Int32) : ((.inr (1, List.set [.int (f 0), .int (f 1), .int (f 2), .int (f 3), .int (f 4), .int (f 5), .int (f 6), .int (f 7), .int (f 8), .int (f 9), .int (f 10), .int (f 11), .int (f 12), .ref (w.1 (i + 1))] 8 (.int v))) : va_E) = tp_E w i (upd f 8 v) := by rw [tE1 h]; simp [upd, List.set]
theorem tS1_9 {w : WPar} {i : Nat} {f : Nat → Int32} (h : tp_kd i = 1) (v : Int32) : ((.inr (1, List.set [.int (f 0), .int (f 1), .int (f 2), .int (f 3), .int (f 4), .int (f 5), .int (f 6), .int (f 7), .int (f 8), .int (f 9), .int (f 10), .int (f 11), .int (f 12), .ref (w.1 (i + 1))] 9 (.int v))) : va_E) = tp_E w i (upd f 9 v) := by rw [tE1 h]; simp [upd, List.set]
theorem tS1_10 {w : WPar} {i : Nat} {f : Nat → Int32} (h : tp_kd i = 1) (v : Int32) : ((.inr (1, List.set [.int (f 0), .int (f 1), .int (f 2), .int (f 3), .int (f 4), .int (f 5), .int (f 6), .int (f 7), .int (f 8), .int (f 9), .int (f 10), .int (f 11), .int (f 12), .ref (w.1 (i + 1))] 10 (.int v))) : va_E) = tp_E w i (upd f 10 v) := by rw [tE1 h]; simp [upd, List.set]
theorem tS1_11 {w : WPar} {i : Nat} {f : Nat → Int32} (h : tp_kd i = 1) (v : Int32) : ((.inr (1, List.set [.int (f 0), .int (f 1), .int (f 2), .int (f 3), .int (f 4), .int (f 5), .int (f 6), .int (f 7), .int (f 8), .int (f 9), .int (f 10), .int (f 11), .int (f 12), .ref (w.1 (i + 1))] 11 (.int v))) : va_E) = tp_E w i (upd f 11 v) := by rw [tE1 h]; simp [upd, List.set]
theorem tS1_12 {w : WPar} {i : Nat} {f : Nat → Int32} (h : tp_kd i = 1) (v : Int32) : ((.inr (1, List.set [.int (f 0), .int (f 1), .int (f 2), .int (f 3), .int (f 4), .int (f 5), .int (f 6), .int (f 7), .int (f 8), .int (f 9), .int (f 10), .int (f 11), .int (f 12), .ref (w.1 (i + 1))] 12 (.int v))) : va_E) = tp_E w i (upd f 12 v) := by rw [tE1 h]; simp [upd, List.set]
theorem tE2 {w : WPar} {i : Nat} {f : Nat → Int32} (h : tp_kd i = 2) : tp_E w i f = .inr (2, [.int (f 0), .int (f 1), .ref (w.1 (i + 1)), .ref (w.1 (i + 3))]) := by simp only [tp_E, h]
theorem tS2_0 {w : WPar} {i : Nat} {f : Nat → Int32} (h : tp_kd i = 2) (v : Int32) : ((.inr (2, List.set [.int (f 0), .int (f 1), .ref (w.1 (i + 1)), .ref (w.1 (i + 3))] 0 (.int v))) : va_E) = tp_E w i (upd f 0 v) := by rw [tE2 h]; simp [upd, List.set]
theorem tS2_1 {w : WPar} {i : Nat} {f : Nat → Int32} (h : tp_kd i = 2) (v : Int32) : ((.inr (2, List.set [.int (f 0), .int (f 1), .ref (w.1 (i + 1)), .ref (w.1 (i + 3))] 1 (.int v))) : va_E) = tp_E w i (upd f 1 v) := by rw [tE2 h]; simp [upd, List.set]
theorem tE3 {w : WPar} {i : Nat} {f : Nat → Int32} (h : tp_kd i = 3) : tp_E w i f = .inr (3, [.int (f 0), .int (f 1), .ref (w.1 2), .ref (w.1 3), .ref (w.1 4), .ref (w.1 5), .ref (w.1 6), .ref (w.1 7), .ref (w.1 16)]) := by simp only [tp_E, h]
theorem tS3_0 {w : WPar} {i : Nat} {f : Nat → Int32} (h : tp_kd i = 3) (v : Int32) : ((.inr (3, List.set [.int (f 0), .int (f 1), .ref (w.1 2), .ref (w.1 3), .ref (w.1 4), .ref (w.1 5), .ref (w.1 6), .ref (w.1 7), .ref (w.1 16)] 0 (.int v))) : va_E) = tp_E w i (upd f 0 v) := by rw [tE3 h]; simp [upd, List.set]
theorem tS3_1 {w : WPar} {i : Nat} {f : Nat → Int32} (h : tp_kd i = 3) (v : Int32) : ((.inr (3, List.set [.int (f 0), .int (f 1), .ref (w.1 2), .ref (w.1 3), .ref (w.1 4), .ref (w.1 5), .ref (w.1 6), .ref (w.1 7), .ref (w.1 16)] 1 (.int v))) : va_E) = tp_E w i (upd f 1 v) := by rw [tE3 h]; simp [upd, List.set]
theorem tE4 {w : WPar} {i : Nat} {f : Nat → Int32} (h : tp_kd i = 4) : tp_E w i f = .inr (4, [.int (f 0), .int (f 1), .int (f 2), .int (f 3), .int (f 4)]) := by simp only [tp_E, h]
theorem tS4_0 {w : WPar} {i : Nat} {f : Nat → Int32} (h : tp_kd i = 4) (v : Int32) : ((.inr (4, List.set [.int (f 0), .int (f 1), .int (f 2), .int (f 3), .int (f 4)] 0 (.int v))) : va_E) = tp_E w i (upd f 0 v) := by rw [tE4 h]; simp [upd, List.set]
theorem tS4_1 {w : WPar} {i : Nat} {f : Nat → Int32} (h : tp_kd i = 4) (v : Int32) : ((.inr (4, List.set [.int (f 0), .int (f 1), .int (f 2), .int (f 3), .int (f 4)] 1 (.int v))) : va_E) = tp_E w i (upd f 1 v) := by rw [tE4 h]; simp [upd, List.set]
theorem tS4_2 {w : WPar} {i : Nat} {f : Nat → Int32} (h : tp_kd i = 4) (v : Int32) : ((.inr (4, List.set [.int (f 0), .int (f 1), .int (f 2), .int (f 3), .int (f 4)] 2 (.int v))) : va_E) = tp_E w i (upd f 2 v) := by rw [tE4 h]; simp [upd, List.set]
theorem tS4_3 {w : WPar} {i : Nat} {f : Nat → Int32} (h : tp_kd i = 4) (v : Int32) : ((.inr (4, List.set [.int (f 0), .int (f 1), .int (f 2), .int (f 3), .int (f 4)] 3 (.int v))) : va_E) = tp_E w i (upd f 3 v) := by rw [tE4 h]; simp [upd, List.set]
theorem tS4_4 {w : WPar} {i : Nat} {f : Nat → Int32} (h : tp_kd i = 4) (v : Int32) : ((.inr (4, List.set [.int (f 0), .int (f 1), .int (f 2), .int (f 3), .int (f 4)] 4 (.int v))) : va_E) = tp_E w i (upd f 4 v) := by rw [tE4 h]; simp [upd, List.set]
theorem tE5 {w : WPar} {i : Nat} {f : Nat → Int32} (h : tp_kd i = 5) : tp_E w i f = .inr (5, [.ref (w.1 1), .ref (w.1 (i + 1)), .ref (w.1 (i + 2)), .int (f 3), .int (f 4), .int (f 5)]) := by simp only [tp_E, h]
theorem tS5_3 {w : WPar} {i : Nat} {f : Nat → Int32} (h : tp_kd i = 5) (v : Int32) : ((.inr (5, List.set [.ref (w.1 1), .ref (w.1 (i + 1)), .ref (w.1 (i + 2)), .int (f 3), .int (f 4), .int (f 5)] 3 (.int v))) : va_E) = tp_E w i (upd f 3 v) := by rw [tE5 h]; simp [upd, List.set]
theorem tS5_4 {w : WPar} {i : Nat} {f : Nat → Int32} (h : tp_kd i = 5) (v : Int32) : ((.inr (5, List.set [.ref (w.1 1), .ref (w.1 (i + 1)), .ref (w.1 (i + 2)), .int (f 3), .int (f 4), .int (f 5)] 4 (.int v))) : va_E) = tp_E w i (upd f 4 v) := by rw [tE5 h]; simp [upd, List.set]
theorem tS5_5 {w : WPar} {i : Nat} {f : Nat → Int32} (h : tp_kd i = 5) (v : Int32) : ((.inr (5, List.set [.ref (w.1 1), .ref (w.1 (i + 1)), .ref (w.1 (i + 2)), .int (f 3), .int (f 4), .int (f 5)] 5 (.int v))) : va_E) = tp_E w i (upd f 5 v) := by rw [tE5 h]; simp [upd, List.set]
theorem tE6 {w : WPar} {i : Nat} {f : Nat → Int32} (h : tp_kd i = 6) : tp_E w i f = .inr (6, [.ref (w.1 (i + 1)), .int (f 1), .int (f 2), .ref (w.1 (i + 2)), .int (f 4), .int (f 5), .int (f 6)]) := by simp only [tp_E, h]
theorem tS6_1 {w : WPar} {i : Nat} {f : Nat → Int32} (h : tp_kd i = 6) (v : Int32) : ((.inr (6, List.set [.ref (w.1 (i + 1)), .int (f 1), .int (f 2), .ref (w.1 (i + 2)), .int (f 4), .int (f 5), .int (f 6)] 1 (.int v))) : va_E) = tp_E w i (upd f 1 v) := by rw [tE6 h]; simp [upd, List.set]
theorem tS6_2 {w : WPar} {i : Nat} {f : Nat → Int32} (h : tp_kd i = 6) (v : Int32) : ((.inr (6, List.set [.ref (w.1 (i + 1)), .int (f 1), .int (f 2), .ref (w.1 (i + 2)), .int (f 4), .int (f 5), .int (f 6)] 2 (.int v))) : va_E) = tp_E w i (upd f 2 v) := by rw [tE6 h]; simp [upd, List.set]
theorem tS6_4 {w : WPar} {i : Nat} {f : Nat → Int32} (h : tp_kd i = 6) (v : Int32) : ((.inr (6, List.set [.ref (w.1 (i + 1)), .int (f 1), .int (f 2), .ref (w.1 (i + 2)), .int (f 4), .int (f 5), .int (f 6)] 4 (.int v))) : va_E) = tp_E w i (upd f 4 v) := by rw [tE6 h]; simp [upd, List.set]
theorem tS6_5 {w : WPar} {i : Nat} {f : Nat → Int32} (h : tp_kd i = 6) (v : Int32) : ((.inr (6, List.set [.ref (w.1 (i + 1)), .int (f 1), .int (f 2), .ref (w.1 (i + 2)), .int (f 4), .int (f 5), .int (f 6)] 5 (.int v))) : va_E) = tp_E w i (upd f 5 v) := by rw [tE6 h]; simp [upd, List.set]
theorem tS6_6 {w : WPar} {i : Nat} {f : Nat → Int32} (h : tp_kd i = 6) (v : Int32) : ((.inr (6, List.set [.ref (w.1 (i + 1)), .int (f 1), .int (f 2), .ref (w.1 (i + 2)), .int (f 4), .int (f 5), .int (f 6)] 6 (.int v))) : va_E) = tp_E w i (upd f 6 v) := by rw [tE6 h]; simp [upd, List.set]
theorem tE7 {w : WPar} {i : Nat} {f : Nat → Int32} (h : tp_kd i = 7) : tp_E w i f = .inr (7, [.ref (w.1 1), .ref (w.1 17), .ref (w.1 122), .ref (w.1 227)]) := by simp only [tp_E, h]
theorem tE8 {w : WPar} {i : Nat} {f : Nat → Int32} (h : tp_kd i = 8) : tp_E w i f = .inl (w.2.2.1 0, 20, .inl f) := by simp only [tp_E, h]
theorem tE9 {w : WPar} {i : Nat} {f : Nat → Int32} (h : tp_kd i = 9) : tp_E w i f = .inl (w.2.2.1 0, 10, .inl f) := by simp only [tp_E, h]
theorem tE10 {w : WPar} {i : Nat} {f : Nat → Int32} (h : tp_kd i = 10) : tp_E w i f = .inl (w.2.2.1 1, 201, .inl f) := by simp only [tp_E, h]
theorem tE11 {w : WPar} {i : Nat} {f : Nat → Int32} (h : tp_kd i = 11) : tp_E w i f = .inl (w.2.2.1 0, 12, .inl f) := by simp only [tp_E, h]
theorem tE12 {w : WPar} {i : Nat} {f : Nat → Int32} (h : tp_kd i = 12) : tp_E w i f = .inl (w.2.2.1 1, 12, .inl f) := by simp only [tp_E, h]
theorem tE13 {w : WPar} {i : Nat} {f : Nat → Int32} (h : tp_kd i = 13) : tp_E w i f = .inl (w.2.2.1 0, 8, .inl f) := by simp only [tp_E, h]
theorem tE18 {w : WPar} {i : Nat} {f : Nat → Int32} (h : tp_kd i = 18) : tp_E w i f = .inl (w.2.2.1 0, 200, .inl f) := by simp only [tp_E, h]
theorem tE19 {w : WPar} {i : Nat} {f : Nat → Int32} (h : tp_kd i = 19) : tp_E w i f = .inl (w.2.2.1 0, 6, .inl f) := by simp only [tp_E, h]
theorem tE14 {w : WPar} {i : Nat} {f : Nat → Int32} (h : tp_kd i = 14) : tp_E w i f = .inl (w.2.2.1 4, 8, .inr (.inr (.inr (.inr (fun j => if j < 8 then some (w.1 (8 + j)) else none))))) := by simp only [tp_E, h]
theorem tE15 {w : WPar} {i : Nat} {f : Nat → Int32} (h : tp_kd i = 15) : tp_E w i f = .inl (w.2.2.1 2, 24, .inr (.inr (.inr (.inr (fun j => if j < 24 then some (w.1 (i + 2 + 3 * j)) else none))))) := by simp only [tp_E, h]
theorem tE16 {w : WPar} {i : Nat} {f : Nat → Int32} (h : tp_kd i = 16) : tp_E w i f = .inl (w.2.2.1 3, 6, .inr (.inr (.inr (.inr (fun j => if j < 6 then some (w.1 (i + 73 + 5 * j)) else none))))) := by simp only [tp_E, h]
theorem tE17 {w : WPar} {i : Nat} {f : Nat → Int32} (h : tp_kd i = 17) : tp_E w i f = .inl (w.2.2.1 4, 6, .inr (.inr (.inr (.inr (fun j => if j < 6 then some (w.1 (228 + j)) else none))))) := by simp only [tp_E, h]
abbrev tp_is (i k : Nat) : Prop := tp_kd i = k ∧ i < tp_N
theorem tR0_3 {i : Nat} (h : tp_is i 0) : tp_is (i + 1) 10 := by
  have h0 : ∀ j : Fin 236, tp_kd j.val = 0 → tp_kd (j.val + 1) = 10 ∧ j.val + 1 < 236 := by decide +kernel
  exact h0 ⟨i, h.2⟩ h.1
theorem tR1_13 {i : Nat} (h : tp_is i 1) : tp_is (i + 1) 4 := by
  have h0 : ∀ j : Fin 236, tp_kd j.val = 1 → tp_kd (j.val + 1) = 4 ∧ j.val + 1 < 236 := by decide +kernel
  exact h0 ⟨i, h.2⟩ h.1
theorem tR2_2 {i : Nat} (h : tp_is i 2) : tp_is (i + 1) 1 := by
  have h0 : ∀ j : Fin 236, tp_kd j.val = 2 → tp_kd (j.val + 1) = 1 ∧ j.val + 1 < 236 := by decide +kernel
  exact h0 ⟨i, h.2⟩ h.1
theorem tR2_3 {i : Nat} (h : tp_is i 2) : tp_is (i + 3) 0 := by
  have h0 : ∀ j : Fin 236, tp_kd j.val = 2 → tp_kd (j.val + 3) = 0 ∧ j.val + 3 < 236 := by decide +kernel
  exact h0 ⟨i, h.2⟩ h.1
theorem tR3_2 : tp_is 2 11 := by unfold tp_is; decide +kernel
theorem tR3_3 : tp_is 3 11 := by unfold tp_is; decide +kernel
theorem tR3_4 : tp_is 4 11 := by unfold tp_is; decide +kernel
theorem tR3_5 : tp_is 5 11 := by unfold tp_is; decide +kernel
theorem tR3_6 : tp_is 6 12 := by unfold tp_is; decide +kernel
theorem tR3_7 : tp_is 7 14 := by unfold tp_is; decide +kernel
theorem tR3_8 : tp_is 16 13 := by unfold tp_is; decide +kernel
theorem tR5_0 : tp_is 1 3 := by unfold tp_is; decide +kernel
theorem tR5_1 {i : Nat} (h : tp_is i 5) : tp_is (i + 1) 15 := by
  have h0 : ∀ j : Fin 236, tp_kd j.val = 5 → tp_kd (j.val + 1) = 15 ∧ j.val + 1 < 236 := by decide +kernel
  exact h0 ⟨i, h.2⟩ h.1
theorem tR5_2 {i : Nat} (h : tp_is i 5) : tp_is (i + 2) 16 := by
  have h0 : ∀ j : Fin 236, tp_kd j.val = 5 → tp_kd (j.val + 2) = 16 ∧ j.val + 2 < 236 := by decide +kernel
  exact h0 ⟨i, h.2⟩ h.1
theorem tR6_0 {i : Nat} (h : tp_is i 6) : tp_is (i + 1) 8 := by
  have h0 : ∀ j : Fin 236, tp_kd j.val = 6 → tp_kd (j.val + 1) = 8 ∧ j.val + 1 < 236 := by decide +kernel
  exact h0 ⟨i, h.2⟩ h.1
theorem tR6_3 {i : Nat} (h : tp_is i 6) : tp_is (i + 2) 9 := by
  have h0 : ∀ j : Fin 236, tp_kd j.val = 6 → tp_kd (j.val + 2) = 9 ∧ j.val + 2 < 236 := by decide +kernel
  exact h0 ⟨i, h.2⟩ h.1
theorem tR7_0 : tp_is 1 3 := by unfold tp_is; decide +kernel
theorem tR7_1 : tp_is 17 5 := by unfold tp_is; decide +kernel
theorem tR7_2 : tp_is 122 5 := by unfold tp_is; decide +kernel
theorem tR7_3 : tp_is 227 17 := by unfold tp_is; decide +kernel
theorem tR14 {i j : Nat} (h : tp_is i 14) (hj : j < 8) : tp_is (8 + j) 13 := by
  have h0 : ∀ x : Fin 236, ∀ y : Fin 8, tp_kd x.val = 14 → tp_kd (8 + y.val) = 13 ∧ 8 + y.val < 236 := by decide +kernel
  exact h0 ⟨i, h.2⟩ ⟨j, hj⟩ h.1
theorem tR15 {i j : Nat} (h : tp_is i 15) (hj : j < 24) : tp_is (i + 2 + 3 * j) 6 := by
  have h0 : ∀ x : Fin 236, ∀ y : Fin 24, tp_kd x.val = 15 → tp_kd (x.val + 2 + 3 * y.val) = 6 ∧ x.val + 2 + 3 * y.val < 236 := by decide +kernel
  exact h0 ⟨i, h.2⟩ ⟨j, hj⟩ h.1
theorem tR16 {i j : Nat} (h : tp_is i 16) (hj : j < 6) : tp_is (i + 73 + 5 * j) 2 := by
  have h0 : ∀ x : Fin 236, ∀ y : Fin 6, tp_kd x.val = 16 → tp_kd (x.val + 73 + 5 * y.val) = 2 ∧ x.val + 73 + 5 * y.val < 236 := by decide +kernel
  exact h0 ⟨i, h.2⟩ ⟨j, hj⟩ h.1
theorem tR17 {i j : Nat} (h : tp_is i 17) (hj : j < 6) : tp_is (228 + j) 18 := by
  have h0 : ∀ x : Fin 236, ∀ y : Fin 6, tp_kd x.val = 17 → tp_kd (228 + y.val) = 18 ∧ 228 + y.val < 236 := by decide +kernel
  exact h0 ⟨i, h.2⟩ ⟨j, hj⟩ h.1
/-- the machine, at pc with the locals ls and the stack st, in the world τ, comes to an end as the method's post says -/
def Zt (w : WPar) (g : Cxt) (τ : TS) (k : Nat × Nat) (pc : Nat) (ls : List (Nat × Value)) (st : List Value) : Prop := match g with
  | (p, e, R, s, m, args, below, meth, c, Q, nL) => ∀ (H : Heap) (locs : List Loc) (la : Array Slot), lv_has la nL ls → va_P (tp_D w) vwCl (tp_W w τ) H → va_S (tp_A w s.heap.size) s.heap H locs → W p w.2.1 e R s m args below meth c H locs k.1 k.2 Q (F0 m pc la st)
def Cok (w : WPar) (g : Cxt) (cc : ByteArray) (own : String) (Ts : List Cond) (n F L Ce Sl : Nat) : Prop := match g with
  | (p, _, R, s, m, args, _, meth, c, _, nL) => p.tables.exec = Jvm.exec ∧ c.code = cc ∧ c.maxLocals = n ∧ s.vm.findClass own = some m.cls ∧ (∀ x ∈ Ts, x.before args s = true) ∧ va_K (tp_D w) vwCl (tp_tys w) s ∧ tp_inj w ∧ nL = n ∧ R.frames = F ∧ R.locals = L ∧ R.cells = Ce ∧ R.slots = Sl ∧ meth.locks = false
section ZT
variable {w : WPar} {g : Cxt} {τ : TS} {k : Nat × Nat} {pc : Nat} {ls : List (Nat × Value)} {st : List Value} {cc : ByteArray} {own : String} {Ts : List Cond} {n F L Ce Sl : Nat}
theorem z_iconst (C : Cok w g cc own Ts n F L Ce Sl) {q : Int} (v : Int32) (hv : Int32.ofInt q = v) (hdg : decode cc pc = .ok (.iconst q, 1)) (kk : Zt w g τ k (pc + 1) ls (.int v :: st)) : Zt w g τ k pc ls (st) := by
  obtain ⟨p, e, R, s, m, args, below, meth, c, Q, nL⟩ := g
  obtain ⟨hx, hb, -⟩ := C
  exact fun H locs la hl hP hS => lv_iconst hx hb hdg hv (kk H locs la hl hP hS)
theorem z_bipush (C : Cok w g cc own Ts n F L Ce Sl) {q : Int} (v : Int32) (hv : (Int8.ofInt q).toInt32 = v) (hdg : decode cc pc = .ok (.bipush q, 2)) (kk : Zt w g τ k (pc + 2) ls (.int v :: st)) : Zt w g τ k pc ls (st) := by
  obtain ⟨p, e, R, s, m, args, below, meth, c, Q, nL⟩ := g
  obtain ⟨hx, hb, -⟩ := C
  exact fun H locs la hl hP hS => lv_bipush hx hb hdg hv (kk H locs la hl hP hS)
theorem z_sipush (C : Cok w g cc own Ts n F L Ce Sl) {q : Int} (v : Int32) (hv : (Int16.ofInt q).toInt32 = v) (hdg : decode cc pc = .ok (.sipush q, 3)) (kk : Zt w g τ k (pc + 3) ls (.int v :: st)) : Zt w g τ k pc ls (st) := by
  obtain ⟨p, e, R, s, m, args, below, meth, c, Q, nL⟩ := g
  obtain ⟨hx, hb, -⟩ := C
  exact fun H locs la hl hP hS => lv_sipush hx hb hdg hv (kk H locs la hl hP hS)
theorem z_iload_n (C : Cok w g cc own Ts n F L Ce Sl) {j : Fin 4} {x : Int32} (q : Nat) (hq : ls[q]? = some ((j : Nat), .int x)) (hdg : decode cc pc = .ok (.iload_n j, 1)) (kk : Zt w g τ k (pc + 1) ls (.int x :: st)) : Zt w g τ k pc ls (st) := by
  obtain ⟨p, e, R, s, m, args, below, meth, c, Q, nL⟩ := g
  obtain ⟨hx, hb, -⟩ := C
  exact fun H locs la hl hP hS => lv_iload_n hx hb hdg rfl (lv_at hl q hq) (kk H locs la hl hP hS)
theorem z_iload (C : Cok w g cc own Ts n F L Ce Sl) {j : Nat} {x : Int32} (q : Nat) (hq : ls[q]? = some (j, .int x)) (hdg : decode cc pc = .ok (.iload j, 2)) (kk : Zt w g τ k (pc + 2) ls (.int x :: st)) : Zt w g τ k pc ls (st) := by
  obtain ⟨p, e, R, s, m, args, below, meth, c, Q, nL⟩ := g
  obtain ⟨hx, hb, -⟩ := C
  exact fun H locs la hl hP hS => lv_iload hx hb hdg (lv_at hl q hq) (kk H locs la hl hP hS)
theorem z_lload_n (C : Cok w g cc own Ts n F L Ce Sl) {j : Fin 4} {x : Int64} (q : Nat) (hq : ls[q]? = some ((j : Nat), .long x)) (hdg : decode cc pc = .ok (.lload_n j, 1)) (kk : Zt w g τ k (pc + 1) ls (.long x :: st)) : Zt w g τ k pc ls (st) := by
  obtain ⟨p, e, R, s, m, args, below, meth, c, Q, nL⟩ := g
  obtain ⟨hx, hb, -⟩ := C
  exact fun H locs la hl hP hS => lv_lload_n hx hb hdg rfl (lv_at hl q hq) (kk H locs la hl hP hS)
theorem z_lload (C : Cok w g cc own Ts n F L Ce Sl) {j : Nat} {x : Int64} (q : Nat) (hq : ls[q]? = some (j, .long x)) (hdg : decode cc pc = .ok (.lload j, 2)) (kk : Zt w g τ k (pc + 2) ls (.long x :: st)) : Zt w g τ k pc ls (st) := by
  obtain ⟨p, e, R, s, m, args, below, meth, c, Q, nL⟩ := g
  obtain ⟨hx, hb, -⟩ := C
  exact fun H locs la hl hP hS => lv_lload hx hb hdg (lv_at hl q hq) (kk H locs la hl hP hS)
theorem z_aload_n (C : Cok w g cc own Ts n F L Ce Sl) {j : Fin 4} {x : Nat} (q : Nat) (hq : ls[q]? = some ((j : Nat), .ref x)) (hdg : decode cc pc = .ok (.aload_n j, 1)) (kk : Zt w g τ k (pc + 1) ls (.ref x :: st)) : Zt w g τ k pc ls (st) := by
  obtain ⟨p, e, R, s, m, args, below, meth, c, Q, nL⟩ := g
  obtain ⟨hx, hb, -⟩ := C
  exact fun H locs la hl hP hS => lv_aload_n hx hb hdg rfl (lv_at hl q hq) (kk H locs la hl hP hS)
theorem z_aload (C : Cok w g cc own Ts n F L Ce Sl) {j : Nat} {x : Nat} (q : Nat) (hq : ls[q]? = some (j, .ref x)) (hdg : decode cc pc = .ok (.aload j, 2)) (kk : Zt w g τ k (pc + 2) ls (.ref x :: st)) : Zt w g τ k pc ls (st) := by
  obtain ⟨p, e, R, s, m, args, below, meth, c, Q, nL⟩ := g
  obtain ⟨hx, hb, -⟩ := C
  exact fun H locs la hl hP hS => lv_aload hx hb hdg (lv_at hl q hq) (kk H locs la hl hP hS)
theorem z_istore_n (C : Cok w g cc own Ts n F L Ce Sl) {j : Fin 4} {x : Int32} (ls2 : List (Nat × Value)) (hdg : decode cc pc = .ok (.istore_n j, 1)) (hn : (j : Nat) < n) (hl2 : ((j : Nat), Value.int x) :: ls.filter (fun q => !(q.1 == (j : Nat)) && !(q.1 + 1 == (j : Nat) && q.2.category == 2)) = ls2) (kk : Zt w g τ k (pc + 1) ls2 st) : Zt w g τ k pc ls (.int x :: st) := by
  obtain ⟨p, e, R, s, m, args, below, meth, c, Q, nL⟩ := g
  obtain ⟨hx, hb, -, -, -, -, -, hnL, -⟩ := C
  exact fun H locs la hl hP hS => lv_istore_n hx hb hdg rfl hl (by rw [hnL]; exact hn) hl2 (fun la2 hl3 => kk H locs la2 hl3 hP hS)
theorem z_istore (C : Cok w g cc own Ts n F L Ce Sl) {j : Nat} {x : Int32} (ls2 : List (Nat × Value)) (hdg : decode cc pc = .ok (.istore j, 2)) (hn : j < n) (hl2 : (j, Value.int x) :: ls.filter (fun q => !(q.1 == j) && !(q.1 + 1 == j && q.2.category == 2)) = ls2) (kk : Zt w g τ k (pc + 2) ls2 st) : Zt w g τ k pc ls (.int x :: st) := by
  obtain ⟨p, e, R, s, m, args, below, meth, c, Q, nL⟩ := g
  obtain ⟨hx, hb, -, -, -, -, -, hnL, -⟩ := C
  exact fun H locs la hl hP hS => lv_istore hx hb hdg hl (by rw [hnL]; exact hn) hl2 (fun la2 hl3 => kk H locs la2 hl3 hP hS)
theorem z_astore_n (C : Cok w g cc own Ts n F L Ce Sl) {j : Fin 4} {x : Nat} (ls2 : List (Nat × Value)) (hdg : decode cc pc = .ok (.astore_n j, 1)) (hn : (j : Nat) < n) (hl2 : ((j : Nat), Value.ref x) :: ls.filter (fun q => !(q.1 == (j : Nat)) && !(q.1 + 1 == (j : Nat) && q.2.category == 2)) = ls2) (kk : Zt w g τ k (pc + 1) ls2 st) : Zt w g τ k pc ls (.ref x :: st) := by
  obtain ⟨p, e, R, s, m, args, below, meth, c, Q, nL⟩ := g
  obtain ⟨hx, hb, -, -, -, -, -, hnL, -⟩ := C
  exact fun H locs la hl hP hS => lv_astore_n hx hb hdg rfl hl (by rw [hnL]; exact hn) hl2 (fun la2 hl3 => kk H locs la2 hl3 hP hS)
theorem z_astore (C : Cok w g cc own Ts n F L Ce Sl) {j : Nat} {x : Nat} (ls2 : List (Nat × Value)) (hdg : decode cc pc = .ok (.astore j, 2)) (hn : j < n) (hl2 : (j, Value.ref x) :: ls.filter (fun q => !(q.1 == j) && !(q.1 + 1 == j && q.2.category == 2)) = ls2) (kk : Zt w g τ k (pc + 2) ls2 st) : Zt w g τ k pc ls (.ref x :: st) := by
  obtain ⟨p, e, R, s, m, args, below, meth, c, Q, nL⟩ := g
  obtain ⟨hx, hb, -, -, -, -, -, hnL, -⟩ := C
  exact fun H locs la hl hP hS => lv_astore hx hb hdg hl (by rw [hnL]; exact hn) hl2 (fun la2 hl3 => kk H locs la2 hl3 hP hS)
theorem z_lstore_n (C : Cok w g cc own Ts n F L Ce Sl) {j : Fin 4} {x : Int64} (ls2 : List (Nat × Value)) (hdg : decode cc pc = .ok (.lstore_n j, 1)) (hn : (j : Nat) + 1 < n) (hl2 : ((j : Nat), Value.long x) :: ls.filter (fun q => !(q.1 == (j : Nat)) && (!(q.1 == (j : Nat) + 1) && !(q.1 + 1 == (j : Nat) && q.2.category == 2))) = ls2) (kk : Zt w g τ k (pc + 1) ls2 st) : Zt w g τ k pc ls (.long x :: st) := by
  obtain ⟨p, e, R, s, m, args, below, meth, c, Q, nL⟩ := g
  obtain ⟨hx, hb, -, -, -, -, -, hnL, -⟩ := C
  exact fun H locs la hl hP hS => lv_lstore_n hx hb hdg rfl hl (by rw [hnL]; exact hn) hl2 (fun la2 hl3 => kk H locs la2 hl3 hP hS)
theorem z_lstore (C : Cok w g cc own Ts n F L Ce Sl) {j : Nat} {x : Int64} (ls2 : List (Nat × Value)) (hdg : decode cc pc = .ok (.lstore j, 2)) (hn : j + 1 < n) (hl2 : (j, Value.long x) :: ls.filter (fun q => !(q.1 == j) && (!(q.1 == j + 1) && !(q.1 + 1 == j && q.2.category == 2))) = ls2) (kk : Zt w g τ k (pc + 2) ls2 st) : Zt w g τ k pc ls (.long x :: st) := by
  obtain ⟨p, e, R, s, m, args, below, meth, c, Q, nL⟩ := g
  obtain ⟨hx, hb, -, -, -, -, -, hnL, -⟩ := C
  exact fun H locs la hl hP hS => lv_lstore hx hb hdg hl (by rw [hnL]; exact hn) hl2 (fun la2 hl3 => kk H locs la2 hl3 hP hS)
theorem z_iinc (C : Cok w g cc own Ts n F L Ce Sl) {j : Nat} {d : Int} {x : Int32} (q : Nat) (v : Int32) (ls2 : List (Nat × Value)) (hdg : decode cc pc = .ok (.iinc j d, 3)) (hq : ls[q]? = some (j, .int x)) (hv : x + Int32.ofInt d = v) (hn : j < n) (hl2 : (j, Value.int v) :: ls.filter (fun q => !(q.1 == j) && !(q.1 + 1 == j && q.2.category == 2)) = ls2) (kk : Zt w g τ k (pc + 3) ls2 st) : Zt w g τ k pc ls st := by
  obtain ⟨p, e, R, s, m, args, below, meth, c, Q, nL⟩ := g
  obtain ⟨hx, hb, -, -, -, -, -, hnL, -⟩ := C
  exact fun H locs la hl hP hS => lv_iinc hx hb hdg hl hq hv (by rw [hnL]; exact hn) hl2 (fun la2 hl3 => kk H locs la2 hl3 hP hS)
theorem z_iadd (C : Cok w g cc own Ts n F L Ce Sl) {x y : Int32} (hdg : decode cc pc = .ok (.iadd, 1)) (kk : Zt w g τ k (pc + 1) ls (.int (x + y) :: st)) : Zt w g τ k pc ls (.int y :: .int x :: st) := by
  obtain ⟨p, e, R, s, m, args, below, meth, c, Q, nL⟩ := g
  obtain ⟨hx, hb, -⟩ := C
  exact fun H locs la hl hP hS => lv_iadd hx hb hdg (kk H locs la hl hP hS)
theorem z_isub (C : Cok w g cc own Ts n F L Ce Sl) {x y : Int32} (hdg : decode cc pc = .ok (.isub, 1)) (kk : Zt w g τ k (pc + 1) ls (.int (x - y) :: st)) : Zt w g τ k pc ls (.int y :: .int x :: st) := by
  obtain ⟨p, e, R, s, m, args, below, meth, c, Q, nL⟩ := g
  obtain ⟨hx, hb, -⟩ := C
  exact fun H locs la hl hP hS => lv_isub hx hb hdg (kk H locs la hl hP hS)
theorem z_imul (C : Cok w g cc own Ts n F L Ce Sl) {x y : Int32} (hdg : decode cc pc = .ok (.imul, 1)) (kk : Zt w g τ k (pc + 1) ls (.int (x * y) :: st)) : Zt w g τ k pc ls (.int y :: .int x :: st) := by
  obtain ⟨p, e, R, s, m, args, below, meth, c, Q, nL⟩ := g
  obtain ⟨hx, hb, -⟩ := C
  exact fun H locs la hl hP hS => lv_imul hx hb hdg (kk H locs la hl hP hS)
theorem z_iand (C : Cok w g cc own Ts n F L Ce Sl) {x y : Int32} (hdg : decode cc pc = .ok (.iand, 1)) (kk : Zt w g τ k (pc + 1) ls (.int (x &&& y) :: st)) : Zt w g τ k pc ls (.int y :: .int x :: st) := by
  obtain ⟨p, e, R, s, m, args, below, meth, c, Q, nL⟩ := g
  obtain ⟨hx, hb, -⟩ := C
  exact fun H locs la hl hP hS => lv_iand hx hb hdg (kk H locs la hl hP hS)
theorem z_ior (C : Cok w g cc own Ts n F L Ce Sl) {x y : Int32} (hdg : decode cc pc = .ok (.ior, 1)) (kk : Zt w g τ k (pc + 1) ls (.int (x ||| y) :: st)) : Zt w g τ k pc ls (.int y :: .int x :: st) := by
  obtain ⟨p, e, R, s, m, args, below, meth, c, Q, nL⟩ := g
  obtain ⟨hx, hb, -⟩ := C
  exact fun H locs la hl hP hS => lv_ior hx hb hdg (kk H locs la hl hP hS)
theorem z_ixor (C : Cok w g cc own Ts n F L Ce Sl) {x y : Int32} (hdg : decode cc pc = .ok (.ixor, 1)) (kk : Zt w g τ k (pc + 1) ls (.int (x ^^^ y) :: st)) : Zt w g τ k pc ls (.int y :: .int x :: st) := by
  obtain ⟨p, e, R, s, m, args, below, meth, c, Q, nL⟩ := g
  obtain ⟨hx, hb, -⟩ := C
  exact fun H locs la hl hP hS => lv_ixor hx hb hdg (kk H locs la hl hP hS)
theorem z_ishl (C : Cok w g cc own Ts n F L Ce Sl) {x y : Int32} (hdg : decode cc pc = .ok (.ishl, 1)) (kk : Zt w g τ k (pc + 1) ls (.int (x <<< (y &&& 31)) :: st)) : Zt w g τ k pc ls (.int y :: .int x :: st) := by
  obtain ⟨p, e, R, s, m, args, below, meth, c, Q, nL⟩ := g
  obtain ⟨hx, hb, -⟩ := C
  exact fun H locs la hl hP hS => lv_ishl hx hb hdg (kk H locs la hl hP hS)
theorem z_ishr (C : Cok w g cc own Ts n F L Ce Sl) {x y : Int32} (hdg : decode cc pc = .ok (.ishr, 1)) (kk : Zt w g τ k (pc + 1) ls (.int (x >>> (y &&& 31)) :: st)) : Zt w g τ k pc ls (.int y :: .int x :: st) := by
  obtain ⟨p, e, R, s, m, args, below, meth, c, Q, nL⟩ := g
  obtain ⟨hx, hb, -⟩ := C
  exact fun H locs la hl hP hS => lv_ishr hx hb hdg (kk H locs la hl hP hS)
theorem z_idiv (C : Cok w g cc own Ts n F L Ce Sl) {x y : Int32} (hy : ¬ y = 0) (hdg : decode cc pc = .ok (.idiv, 1)) (kk : Zt w g τ k (pc + 1) ls (.int (x / y) :: st)) : Zt w g τ k pc ls (.int y :: .int x :: st) := by
  obtain ⟨p, e, R, s, m, args, below, meth, c, Q, nL⟩ := g
  obtain ⟨hx, hb, -⟩ := C
  exact fun H locs la hl hP hS => lv_idiv hx hb hdg hy (kk H locs la hl hP hS)
theorem z_irem (C : Cok w g cc own Ts n F L Ce Sl) {x y : Int32} (hy : ¬ y = 0) (hdg : decode cc pc = .ok (.irem, 1)) (kk : Zt w g τ k (pc + 1) ls (.int (x - x / y * y) :: st)) : Zt w g τ k pc ls (.int y :: .int x :: st) := by
  obtain ⟨p, e, R, s, m, args, below, meth, c, Q, nL⟩ := g
  obtain ⟨hx, hb, -⟩ := C
  exact fun H locs la hl hP hS => lv_irem hx hb hdg hy (kk H locs la hl hP hS)
theorem z_ineg (C : Cok w g cc own Ts n F L Ce Sl) {x : Int32} (hdg : decode cc pc = .ok (.ineg, 1)) (kk : Zt w g τ k (pc + 1) ls (.int (-x) :: st)) : Zt w g τ k pc ls (.int x :: st) := by
  obtain ⟨p, e, R, s, m, args, below, meth, c, Q, nL⟩ := g
  obtain ⟨hx, hb, -⟩ := C
  exact fun H locs la hl hP hS => lv_ineg hx hb hdg (kk H locs la hl hP hS)
theorem z_ladd (C : Cok w g cc own Ts n F L Ce Sl) {x y : Int64} (hdg : decode cc pc = .ok (.ladd, 1)) (kk : Zt w g τ k (pc + 1) ls (.long (x + y) :: st)) : Zt w g τ k pc ls (.long y :: .long x :: st) := by
  obtain ⟨p, e, R, s, m, args, below, meth, c, Q, nL⟩ := g
  obtain ⟨hx, hb, -⟩ := C
  exact fun H locs la hl hP hS => lv_ladd hx hb hdg (kk H locs la hl hP hS)
theorem z_lmul (C : Cok w g cc own Ts n F L Ce Sl) {x y : Int64} (hdg : decode cc pc = .ok (.lmul, 1)) (kk : Zt w g τ k (pc + 1) ls (.long (x * y) :: st)) : Zt w g τ k pc ls (.long y :: .long x :: st) := by
  obtain ⟨p, e, R, s, m, args, below, meth, c, Q, nL⟩ := g
  obtain ⟨hx, hb, -⟩ := C
  exact fun H locs la hl hP hS => lv_lmul hx hb hdg (kk H locs la hl hP hS)
theorem z_lsub (C : Cok w g cc own Ts n F L Ce Sl) {x y : Int64} (hdg : decode cc pc = .ok (.lsub, 1)) (kk : Zt w g τ k (pc + 1) ls (.long (x - y) :: st)) : Zt w g τ k pc ls (.long y :: .long x :: st) := by
  obtain ⟨p, e, R, s, m, args, below, meth, c, Q, nL⟩ := g
  obtain ⟨hx, hb, -⟩ := C
  exact fun H locs la hl hP hS => lv_lsub hx hb hdg (kk H locs la hl hP hS)
theorem z_i2l (C : Cok w g cc own Ts n F L Ce Sl) {x : Int32} (hdg : decode cc pc = .ok (.i2l, 1)) (kk : Zt w g τ k (pc + 1) ls (.long x.toInt64 :: st)) : Zt w g τ k pc ls (.int x :: st) := by
  obtain ⟨p, e, R, s, m, args, below, meth, c, Q, nL⟩ := g
  obtain ⟨hx, hb, -⟩ := C
  exact fun H locs la hl hP hS => lv_i2l hx hb hdg rfl (kk H locs la hl hP hS)
theorem z_lcmp (C : Cok w g cc own Ts n F L Ce Sl) {x y : Int64} (hdg : decode cc pc = .ok (.lcmp, 1)) (kk : Zt w g τ k (pc + 1) ls (.int (lg_cmp x y) :: st)) : Zt w g τ k pc ls (.long y :: .long x :: st) := by
  obtain ⟨p, e, R, s, m, args, below, meth, c, Q, nL⟩ := g
  obtain ⟨hx, hb, -⟩ := C
  exact fun H locs la hl hP hS => W.lcmp hx hb hdg (kk H locs la hl hP hS)
theorem z_dup (C : Cok w g cc own Ts n F L Ce Sl) {v : Value} (hv : v.category = 1) (hdg : decode cc pc = .ok (.dup, 1)) (kk : Zt w g τ k (pc + 1) ls (v :: v :: st)) : Zt w g τ k pc ls (v :: st) := by
  obtain ⟨p, e, R, s, m, args, below, meth, c, Q, nL⟩ := g
  obtain ⟨hx, hb, -⟩ := C
  exact fun H locs la hl hP hS => lv_dup hx hb hdg hv (kk H locs la hl hP hS)
theorem z_dup_x1 (C : Cok w g cc own Ts n F L Ce Sl) {v u : Value} (hv : v.category = 1) (hu : u.category = 1) (hdg : decode cc pc = .ok (.dup_x1, 1)) (kk : Zt w g τ k (pc + 1) ls (v :: u :: v :: st)) : Zt w g τ k pc ls (v :: u :: st) := by
  obtain ⟨p, e, R, s, m, args, below, meth, c, Q, nL⟩ := g
  obtain ⟨hx, hb, -⟩ := C
  exact fun H locs la hl hP hS => lv_dup_x1 hx hb hdg hv hu (kk H locs la hl hP hS)
theorem z_dup2 (C : Cok w g cc own Ts n F L Ce Sl) {v u : Value} (hv : v.category = 1) (hu : u.category = 1) (hdg : decode cc pc = .ok (.dup2, 1)) (kk : Zt w g τ k (pc + 1) ls (v :: u :: v :: u :: st)) : Zt w g τ k pc ls (v :: u :: st) := by
  obtain ⟨p, e, R, s, m, args, below, meth, c, Q, nL⟩ := g
  obtain ⟨hx, hb, -⟩ := C
  exact fun H locs la hl hP hS => lv_dup2_11 hx hb hdg hv hu (kk H locs la hl hP hS)
theorem z_pop (C : Cok w g cc own Ts n F L Ce Sl) {v : Value} (hv : v.category = 1) (hdg : decode cc pc = .ok (.pop, 1)) (kk : Zt w g τ k (pc + 1) ls (st)) : Zt w g τ k pc ls (v :: st) := by
  obtain ⟨p, e, R, s, m, args, below, meth, c, Q, nL⟩ := g
  obtain ⟨hx, hb, -⟩ := C
  exact fun H locs la hl hP hS => lv_pop hx hb hdg hv (kk H locs la hl hP hS)
theorem z_ldc (C : Cok w g cc own Ts n F L Ce Sl) {index : Nat} (v : Int32) (hc : Cond.constant own index v ∈ Ts) (hdg : decode cc pc = .ok (.ldc index, 2)) (kk : Zt w g τ k (pc + 2) ls (.int v :: st)) : Zt w g τ k pc ls st := by
  obtain ⟨p, e, R, s, m, args, below, meth, c, Q, nL⟩ := g
  obtain ⟨hx, hb, hml, hown, hts, -⟩ := C
  exact fun H locs la hl hP hS => lv_ldc hx hb hown (hts _ hc) hdg (kk H locs la hl hP hS)
theorem z_ldcw (C : Cok w g cc own Ts n F L Ce Sl) {index : Nat} (v : Int32) (hc : Cond.constant own index v ∈ Ts) (hdg : decode cc pc = .ok (.ldc_w index, 3)) (kk : Zt w g τ k (pc + 3) ls (.int v :: st)) : Zt w g τ k pc ls st := by
  obtain ⟨p, e, R, s, m, args, below, meth, c, Q, nL⟩ := g
  obtain ⟨hx, hb, hml, hown, hts, -⟩ := C
  exact fun H locs la hl hP hS => lv_ldcw hx hb hown (hts _ hc) hdg (kk H locs la hl hP hS)
theorem z_ldc2 (C : Cok w g cc own Ts n F L Ce Sl) {index : Nat} (v : Int64) (hc : Cond.constantLong own index v ∈ Ts) (hdg : decode cc pc = .ok (.ldc2_w index, 3)) (kk : Zt w g τ k (pc + 3) ls (.long v :: st)) : Zt w g τ k pc ls st := by
  obtain ⟨p, e, R, s, m, args, below, meth, c, Q, nL⟩ := g
  obtain ⟨hx, hb, hml, hown, hts, -⟩ := C
  exact fun H locs la hl hP hS => lv_ldc2 hx hb hown (hts _ hc) hdg (kk H locs la hl hP hS)
theorem z_icmp_eq (C : Cok w g cc own Ts n F L Ce Sl) {x y : Int32} {off : Int} {tgt : Nat} (hdg : decode cc pc = .ok (.if_icmp .eq off, 3)) (ht : (pc : Int) + off = (tgt : Int)) (kt : x = y → Zt w g τ k tgt ls st) (kf : ¬ x = y → Zt w g τ k (pc + 3) ls st) : Zt w g τ k pc ls (.int y :: .int x :: st) := by
  obtain ⟨p, e, R, s, m, args, below, meth, c, Q, nL⟩ := g
  obtain ⟨hx, hb, -⟩ := C
  exact fun H locs la hl hP hS => lv_icmp_eq hx hb hdg ht (fun h => kt h H locs la hl hP hS) (fun h => kf h H locs la hl hP hS)
theorem z_if_eq (C : Cok w g cc own Ts n F L Ce Sl) {x : Int32} {off : Int} {tgt : Nat} (hdg : decode cc pc = .ok (.ifCond .eq off, 3)) (ht : (pc : Int) + off = (tgt : Int)) (kt : x = 0 → Zt w g τ k tgt ls st) (kf : ¬ x = 0 → Zt w g τ k (pc + 3) ls st) : Zt w g τ k pc ls (.int x :: st) := by
  obtain ⟨p, e, R, s, m, args, below, meth, c, Q, nL⟩ := g
  obtain ⟨hx, hb, -⟩ := C
  exact fun H locs la hl hP hS => lv_if_eq hx hb hdg ht (fun h => kt h H locs la hl hP hS) (fun h => kf h H locs la hl hP hS)
theorem z_icmp_ne (C : Cok w g cc own Ts n F L Ce Sl) {x y : Int32} {off : Int} {tgt : Nat} (hdg : decode cc pc = .ok (.if_icmp .ne off, 3)) (ht : (pc : Int) + off = (tgt : Int)) (kt : ¬ x = y → Zt w g τ k tgt ls st) (kf : x = y → Zt w g τ k (pc + 3) ls st) : Zt w g τ k pc ls (.int y :: .int x :: st) := by
  obtain ⟨p, e, R, s, m, args, below, meth, c, Q, nL⟩ := g
  obtain ⟨hx, hb, -⟩ := C
  exact fun H locs la hl hP hS => lv_icmp_ne hx hb hdg ht (fun h => kt h H locs la hl hP hS) (fun h => kf h H locs la hl hP hS)
theorem z_if_ne (C : Cok w g cc own Ts n F L Ce Sl) {x : Int32} {off : Int} {tgt : Nat} (hdg : decode cc pc = .ok (.ifCond .ne off, 3)) (ht : (pc : Int) + off = (tgt : Int)) (kt : ¬ x = 0 → Zt w g τ k tgt ls st) (kf : x = 0 → Zt w g τ k (pc + 3) ls st) : Zt w g τ k pc ls (.int x :: st) := by
  obtain ⟨p, e, R, s, m, args, below, meth, c, Q, nL⟩ := g
  obtain ⟨hx, hb, -⟩ := C
  exact fun H locs la hl hP hS => lv_if_ne hx hb hdg ht (fun h => kt h H locs la hl hP hS) (fun h => kf h H locs la hl hP hS)
theorem z_icmp_lt (C : Cok w g cc own Ts n F L Ce Sl) {x y : Int32} {off : Int} {tgt : Nat} (hdg : decode cc pc = .ok (.if_icmp .lt off, 3)) (ht : (pc : Int) + off = (tgt : Int)) (kt : x < y → Zt w g τ k tgt ls st) (kf : ¬ x < y → Zt w g τ k (pc + 3) ls st) : Zt w g τ k pc ls (.int y :: .int x :: st) := by
  obtain ⟨p, e, R, s, m, args, below, meth, c, Q, nL⟩ := g
  obtain ⟨hx, hb, -⟩ := C
  exact fun H locs la hl hP hS => lv_icmp_lt hx hb hdg ht (fun h => kt h H locs la hl hP hS) (fun h => kf h H locs la hl hP hS)
theorem z_if_lt (C : Cok w g cc own Ts n F L Ce Sl) {x : Int32} {off : Int} {tgt : Nat} (hdg : decode cc pc = .ok (.ifCond .lt off, 3)) (ht : (pc : Int) + off = (tgt : Int)) (kt : x < 0 → Zt w g τ k tgt ls st) (kf : ¬ x < 0 → Zt w g τ k (pc + 3) ls st) : Zt w g τ k pc ls (.int x :: st) := by
  obtain ⟨p, e, R, s, m, args, below, meth, c, Q, nL⟩ := g
  obtain ⟨hx, hb, -⟩ := C
  exact fun H locs la hl hP hS => lv_if_lt hx hb hdg ht (fun h => kt h H locs la hl hP hS) (fun h => kf h H locs la hl hP hS)
theorem z_icmp_ge (C : Cok w g cc own Ts n F L Ce Sl) {x y : Int32} {off : Int} {tgt : Nat} (hdg : decode cc pc = .ok (.if_icmp .ge off, 3)) (ht : (pc : Int) + off = (tgt : Int)) (kt : y ≤ x → Zt w g τ k tgt ls st) (kf : ¬ y ≤ x → Zt w g τ k (pc + 3) ls st) : Zt w g τ k pc ls (.int y :: .int x :: st) := by
  obtain ⟨p, e, R, s, m, args, below, meth, c, Q, nL⟩ := g
  obtain ⟨hx, hb, -⟩ := C
  exact fun H locs la hl hP hS => lv_icmp_ge hx hb hdg ht (fun h => kt h H locs la hl hP hS) (fun h => kf h H locs la hl hP hS)
theorem z_if_ge (C : Cok w g cc own Ts n F L Ce Sl) {x : Int32} {off : Int} {tgt : Nat} (hdg : decode cc pc = .ok (.ifCond .ge off, 3)) (ht : (pc : Int) + off = (tgt : Int)) (kt : 0 ≤ x → Zt w g τ k tgt ls st) (kf : ¬ 0 ≤ x → Zt w g τ k (pc + 3) ls st) : Zt w g τ k pc ls (.int x :: st) := by
  obtain ⟨p, e, R, s, m, args, below, meth, c, Q, nL⟩ := g
  obtain ⟨hx, hb, -⟩ := C
  exact fun H locs la hl hP hS => lv_if_ge hx hb hdg ht (fun h => kt h H locs la hl hP hS) (fun h => kf h H locs la hl hP hS)
theorem z_icmp_gt (C : Cok w g cc own Ts n F L Ce Sl) {x y : Int32} {off : Int} {tgt : Nat} (hdg : decode cc pc = .ok (.if_icmp .gt off, 3)) (ht : (pc : Int) + off = (tgt : Int)) (kt : y < x → Zt w g τ k tgt ls st) (kf : ¬ y < x → Zt w g τ k (pc + 3) ls st) : Zt w g τ k pc ls (.int y :: .int x :: st) := by
  obtain ⟨p, e, R, s, m, args, below, meth, c, Q, nL⟩ := g
  obtain ⟨hx, hb, -⟩ := C
  exact fun H locs la hl hP hS => lv_icmp_gt hx hb hdg ht (fun h => kt h H locs la hl hP hS) (fun h => kf h H locs la hl hP hS)
theorem z_if_gt (C : Cok w g cc own Ts n F L Ce Sl) {x : Int32} {off : Int} {tgt : Nat} (hdg : decode cc pc = .ok (.ifCond .gt off, 3)) (ht : (pc : Int) + off = (tgt : Int)) (kt : 0 < x → Zt w g τ k tgt ls st) (kf : ¬ 0 < x → Zt w g τ k (pc + 3) ls st) : Zt w g τ k pc ls (.int x :: st) := by
  obtain ⟨p, e, R, s, m, args, below, meth, c, Q, nL⟩ := g
  obtain ⟨hx, hb, -⟩ := C
  exact fun H locs la hl hP hS => lv_if_gt hx hb hdg ht (fun h => kt h H locs la hl hP hS) (fun h => kf h H locs la hl hP hS)
theorem z_icmp_le (C : Cok w g cc own Ts n F L Ce Sl) {x y : Int32} {off : Int} {tgt : Nat} (hdg : decode cc pc = .ok (.if_icmp .le off, 3)) (ht : (pc : Int) + off = (tgt : Int)) (kt : x ≤ y → Zt w g τ k tgt ls st) (kf : ¬ x ≤ y → Zt w g τ k (pc + 3) ls st) : Zt w g τ k pc ls (.int y :: .int x :: st) := by
  obtain ⟨p, e, R, s, m, args, below, meth, c, Q, nL⟩ := g
  obtain ⟨hx, hb, -⟩ := C
  exact fun H locs la hl hP hS => lv_icmp_le hx hb hdg ht (fun h => kt h H locs la hl hP hS) (fun h => kf h H locs la hl hP hS)
theorem z_if_le (C : Cok w g cc own Ts n F L Ce Sl) {x : Int32} {off : Int} {tgt : Nat} (hdg : decode cc pc = .ok (.ifCond .le off, 3)) (ht : (pc : Int) + off = (tgt : Int)) (kt : x ≤ 0 → Zt w g τ k tgt ls st) (kf : ¬ x ≤ 0 → Zt w g τ k (pc + 3) ls st) : Zt w g τ k pc ls (.int x :: st) := by
  obtain ⟨p, e, R, s, m, args, below, meth, c, Q, nL⟩ := g
  obtain ⟨hx, hb, -⟩ := C
  exact fun H locs la hl hP hS => lv_if_le hx hb hdg ht (fun h => kt h H locs la hl hP hS) (fun h => kf h H locs la hl hP hS)
theorem z_goto (C : Cok w g cc own Ts n F L Ce Sl) {off : Int} {tgt : Nat} (hdg : decode cc pc = .ok (.goto off, 3)) (ht : (pc : Int) + off = (tgt : Int)) (kk : Zt w g τ k tgt ls st) : Zt w g τ k pc ls st := by
  obtain ⟨p, e, R, s, m, args, below, meth, c, Q, nL⟩ := g
  obtain ⟨hx, hb, -⟩ := C
  exact fun H locs la hl hP hS => lv_goto hx hb hdg ht (kk H locs la hl hP hS)
theorem z_sub (ks : List Nat) (ls2 : List (Nat × Value)) (h2 : lv_pick ls ks = ls2) (kk : Zt w g τ k pc ls2 st) : Zt w g τ k pc ls st := by
  obtain ⟨p, e, R, s, m, args, below, meth, c, Q, nL⟩ := g
  exact fun H locs la hl hP hS => kk H locs la (lv_sub hl ks h2) hP hS
theorem z_top {x : Int32} (kk : ∀ y : Int32, y = x → Zt w g τ k pc ls (.int y :: st)) : Zt w g τ k pc ls (.int x :: st) := kk x rfl
theorem z_topl {x : Int64} (kk : ∀ y : Int64, y = x → Zt w g τ k pc ls (.long y :: st)) : Zt w g τ k pc ls (.long x :: st) := kk x rfl
theorem z_widen (k2 : Nat × Nat) (h1 : k.1 ≤ k2.1) (h2 : k.2 ≤ k2.2) (kk : Zt w g τ k2 pc ls st) : Zt w g τ k pc ls st := by
  obtain ⟨p, e, R, s, m, args, below, meth, c, Q, nL⟩ := g
  exact fun H locs la hl hP hS => W.widen h1 h2 (kk H locs la hl hP hS)
theorem z_get (C : Cok w g cc own Ts n F L Ce Sl) {ref Cn : String} {T : u_T} {N ci index i : Nat} (hi : i < tp_N) (q : Nat) {fs : List Value} {v : Value} (hE : tp_E w i (τ i) = .inr (ci, fs)) (hin : ∀ x ∈ u_ws Cn T N, x ∈ Ts) (hc : vwCl[ci]? = some (Cn, T, N)) (hq : q < N) (hlink : Cond.fieldLink own index ref (T q).2.1 (T q).2.2.1 ∈ Ts) (hsame : ref = (T q).1) (hv : fs[q]? = some v) (hdg : decode cc pc = .ok (.getfield index, 3)) (kk : Zt w g τ k (pc + 3) ls (v :: st)) : Zt w g τ k pc ls (.ref (w.1 i) :: st) := by
  obtain ⟨p, e, R, s, m, args, below, meth, c, Q, nL⟩ := g
  obtain ⟨hx, hb, hml, hown, hts, hK, hj, -⟩ := C
  exact fun H locs la hl hP hS => va_get hx hb hts hin hown hK hP i (by rw [tp_at hi, hE]) hc q hq (hts _ hlink) (fun x h => by rw [hsame]; exact h) hv hdg (kk H locs la hl hP hS)
theorem z_put (C : Cok w g cc own Ts n F L Ce Sl) {ref Cn : String} {T : u_T} {N ci index i : Nat} (hi : i < tp_N) (q : Nat) {fs : List Value} {v : Int32} {ty : FieldType} (hE : tp_E w i (τ i) = .inr (ci, fs)) (hS2 : ((.inr (ci, fs.set q (.int v))) : va_E) = tp_E w i (upd (τ i) q v)) (hin : ∀ x ∈ u_ws Cn T N, x ∈ Ts) (ty0 : Nat → FieldType) (hty : ∀ j, j < N → parseFieldDescriptor (T j).2.2.1 = some (ty0 j)) (hnm : ∀ a, a < N → ∀ b, b < N → a ≠ b → (T a).2.1 ≠ (T b).2.1) (hc : vwCl[ci]? = some (Cn, T, N)) (hq : q < N) (hlink : Cond.fieldLink own index ref (T q).2.1 (T q).2.2.1 ∈ Ts) (hsame : ref = (T q).1) (hfin : (T q).2.2.2 = false) (hd : parseFieldDescriptor (T q).2.2.1 = some ty) (hn : narrow ty (.int v) = .int v) (hfit : fits ty (.int v) = true) (hlen : q < fs.length) (hdg : decode cc pc = .ok (.putfield index, 3)) (kk : ∀ τ2 : TS, τ2 = tp_up τ i q v → Zt w g τ2 k (pc + 3) ls st) : Zt w g τ k pc ls (.int v :: .ref (w.1 i) :: st) := by
  obtain ⟨p, e, R, s, m, args, below, meth, c, Q, nL⟩ := g
  obtain ⟨hx, hb, hml, hown, hts, hK, hj, -⟩ := C
  exact fun H locs la hl hP hS => va_put hx hb hts hin ty0 hty hnm hown hK hP (tp_Dd hj) hS i (by rw [tp_at hi, hE]) hc q hq (hts _ hlink) (fun x h => by rw [hsame]; exact h) hfin hd hn hfit hlen hdg (fun H1 locs1 hP1 _ hS1 => by
    rw [hS2, tp_set _ hi] at hP1
    exact kk _ rfl H1 locs1 la hl hP1 hS1)
theorem z_iald (C : Cok w g cc own Ts n F L Ce Sl) {i N : Nat} {x : Int32} (hi : i < tp_N) (hE : tp_E w i (τ i) = .inl (w.2.2.1 0, N, .inl (τ i))) (hx2 : vp_in x N) (hdg : decode cc pc = .ok (.iaload, 1)) (kk : Zt w g τ k (pc + 1) ls (.int (τ i x.toNatClampNeg) :: st)) : Zt w g τ k pc ls (.int x :: .ref (w.1 i) :: st) := by
  obtain ⟨p, e, R, s, m, args, below, meth, c, Q, nL⟩ := g
  obtain ⟨hx, hb, hml, hown, hts, hK, hj, -⟩ := C
  exact fun H locs la hl hP hS => va_iald hx hb hK hP i 0 (by rw [tp_at hi, hE]) rfl hx2 hdg (kk H locs la hl hP hS)
theorem z_zald (C : Cok w g cc own Ts n F L Ce Sl) {i N : Nat} {x : Int32} (hi : i < tp_N) (hE : tp_E w i (τ i) = .inl (w.2.2.1 1, N, .inl (τ i))) (hx2 : vp_in x N) (hdg : decode cc pc = .ok (.baload, 1)) (kk : Zt w g τ k (pc + 1) ls (.int (τ i x.toNatClampNeg) :: st)) : Zt w g τ k pc ls (.int x :: .ref (w.1 i) :: st) := by
  obtain ⟨p, e, R, s, m, args, below, meth, c, Q, nL⟩ := g
  obtain ⟨hx, hb, hml, hown, hts, hK, hj, -⟩ := C
  exact fun H locs la hl hP hS => va_zald hx hb hK hP i 1 (by rw [tp_at hi, hE]) rfl hx2 hdg (kk H locs la hl hP hS)
theorem z_iast (C : Cok w g cc own Ts n F L Ce Sl) {i N : Nat} {x v : Int32} (hi : i < tp_N) (hE : ∀ f, tp_E w i f = .inl (w.2.2.1 0, N, .inl f)) (hx2 : vp_in x N) (hdg : decode cc pc = .ok (.iastore, 1)) (kk : ∀ τ2 : TS, τ2 = tp_up τ i x.toNatClampNeg v → Zt w g τ2 k (pc + 1) ls st) : Zt w g τ k pc ls (.int v :: .int x :: .ref (w.1 i) :: st) := by
  obtain ⟨p, e, R, s, m, args, below, meth, c, Q, nL⟩ := g
  obtain ⟨hx, hb, hml, hown, hts, hK, hj, -⟩ := C
  exact fun H locs la hl hP hS => va_iast hx hb hK hP (tp_Dd hj) hS i 0 (by rw [tp_at hi, hE]) rfl hx2 hdg (fun H1 locs1 hP1 _ hS1 => by
    rw [← hE, tp_set _ hi] at hP1
    exact kk _ rfl H1 locs1 la hl hP1 hS1)
theorem z_zast (C : Cok w g cc own Ts n F L Ce Sl) {i N : Nat} {x v : Int32} (hi : i < tp_N) (hE : ∀ f, tp_E w i f = .inl (w.2.2.1 1, N, .inl f)) (hx2 : vp_in x N) (hv : vp_nar .boolean v = v) (hdg : decode cc pc = .ok (.bastore, 1)) (kk : ∀ τ2 : TS, τ2 = tp_up τ i x.toNatClampNeg v → Zt w g τ2 k (pc + 1) ls st) : Zt w g τ k pc ls (.int v :: .int x :: .ref (w.1 i) :: st) := by
  obtain ⟨p, e, R, s, m, args, below, meth, c, Q, nL⟩ := g
  obtain ⟨hx, hb, hml, hown, hts, hK, hj, -⟩ := C
  exact fun H locs la hl hP hS => va_zast hx hb hK hP (tp_Dd hj) hS i 1 (by rw [tp_at hi, hE]) rfl hx2 hdg (fun H1 locs1 hP1 _ hS1 => by
    rw [hv, ← hE, tp_set _ hi] at hP1
    exact kk _ rfl H1 locs1 la hl hP1 hS1)
theorem z_aald_q2 (C : Cok w g cc own Ts n F L Ce Sl) {i N b : Nat} {f : Nat → Option Nat} {x : Int32} (hi : i < tp_N) (hE : tp_E w i (τ i) = .inl (w.2.2.1 2, N, .inr (.inr (.inr (.inr f))))) (hx2 : vp_in x N) (hf : f x.toNatClampNeg = some b) (hdg : decode cc pc = .ok (.aaload, 1)) (kk : Zt w g τ k (pc + 1) ls (.ref b :: st)) : Zt w g τ k pc ls (.int x :: .ref (w.1 i) :: st) := by
  obtain ⟨p, e, R, s, m, args, below, meth, c, Q, nL⟩ := g
  obtain ⟨hx, hb, hml, hown, hts, hK, hj, -⟩ := C
  exact fun H locs la hl hP hS => va_aldq hx hb hK hP i 2 (by rw [tp_at hi, hE]) rfl hx2 hdg (by rw [hf]; exact kk H locs la hl hP hS)
theorem z_aald_q3 (C : Cok w g cc own Ts n F L Ce Sl) {i N b : Nat} {f : Nat → Option Nat} {x : Int32} (hi : i < tp_N) (hE : tp_E w i (τ i) = .inl (w.2.2.1 3, N, .inr (.inr (.inr (.inr f))))) (hx2 : vp_in x N) (hf : f x.toNatClampNeg = some b) (hdg : decode cc pc = .ok (.aaload, 1)) (kk : Zt w g τ k (pc + 1) ls (.ref b :: st)) : Zt w g τ k pc ls (.int x :: .ref (w.1 i) :: st) := by
  obtain ⟨p, e, R, s, m, args, below, meth, c, Q, nL⟩ := g
  obtain ⟨hx, hb, hml, hown, hts, hK, hj, -⟩ := C
  exact fun H locs la hl hP hS => va_aldq hx hb hK hP i 3 (by rw [tp_at hi, hE]) rfl hx2 hdg (by rw [hf]; exact kk H locs la hl hP hS)
theorem z_alen (C : Cok w g cc own Ts n F L Ce Sl) {i : Nat} {cA : ClassId} {x : vp_A} {ty : FieldType} (t0 : Nat) (v : Int32) (hi : i < tp_N) (hE : tp_E w i (τ i) = .inl (cA, x)) (ht : (tp_tys w)[t0]? = some (cA, ty)) (hv : Int32.ofNat x.1 = v) (hdg : decode cc pc = .ok (.arraylength, 1)) (kk : Zt w g τ k (pc + 1) ls (.int v :: st)) : Zt w g τ k pc ls (.ref (w.1 i) :: st) := by
  obtain ⟨p, e, R, s, m, args, below, meth, c, Q, nL⟩ := g
  obtain ⟨hx, hb, hml, hown, hts, hK, hj, -⟩ := C
  exact fun H locs la hl hP hS => va_alen hx hb hK hP i t0 (by rw [tp_at hi, hE]) ht hv hdg (kk H locs la hl hP hS)
theorem z_max (C : Cok w g cc own Ts n F L Ce Sl) {index : Nat} {x y : Int32} (h1 : Cond.methodLink own index Lib.Math.max.name ∈ Ts) (h2 : Cond.static Lib.Math.max.name ∈ Ts) (h3 : Cond.initialized "java/lang/Math" ∈ Ts) (h4 : Cond.code Lib.Math.max.name Lib.Math.max.code 2 (some .int) ∈ Ts) (hF : 1 ≤ F) (hL : (st.map fun v => v.category).sum + 13 ≤ L) (hk1 : k.1 ≤ Ce) (hk2 : k.2 ≤ Sl) (hdg : decode cc pc = .ok (.invokestatic index, 3)) (kk : Zt w g τ k (pc + 3) ls (.int (if x < y then y else x) :: st)) : Zt w g τ k pc ls (.int y :: .int x :: st) := by
  obtain ⟨p, e, R, s, m, args, below, meth, c, Q, nL⟩ := g
  obtain ⟨hx, hb, hml, hown, hts, hK, hj, hnL, rF, rL, rC, rS, -⟩ := C
  subst rF rL rC rS hnL
  exact fun H locs la hl hP hS => va_mmax hx hb (by rw [hml]; exact hl.1.symm) hown (hts _ h1) (hts _ h2) (hts _ h3) (hts _ h4) hF hL hk1 hk2 hdg (kk H locs la hl hP hS)
theorem z_min (C : Cok w g cc own Ts n F L Ce Sl) {index : Nat} {x y : Int32} (h1 : Cond.methodLink own index Lib.Math.min.name ∈ Ts) (h2 : Cond.static Lib.Math.min.name ∈ Ts) (h3 : Cond.initialized "java/lang/Math" ∈ Ts) (h4 : Cond.code Lib.Math.min.name Lib.Math.min.code 2 (some .int) ∈ Ts) (hF : 1 ≤ F) (hL : (st.map fun v => v.category).sum + 13 ≤ L) (hk1 : k.1 ≤ Ce) (hk2 : k.2 ≤ Sl) (hdg : decode cc pc = .ok (.invokestatic index, 3)) (kk : Zt w g τ k (pc + 3) ls (.int (if y < x then y else x) :: st)) : Zt w g τ k pc ls (.int y :: .int x :: st) := by
  obtain ⟨p, e, R, s, m, args, below, meth, c, Q, nL⟩ := g
  obtain ⟨hx, hb, hml, hown, hts, hK, hj, hnL, rF, rL, rC, rS, -⟩ := C
  subst rF rL rC rS hnL
  exact fun H locs la hl hP hS => va_mmin hx hb (by rw [hml]; exact hl.1.symm) hown (hts _ h1) (hts _ h2) (hts _ h3) (hts _ h4) hF hL hk1 hk2 hdg (kk H locs la hl hP hS)
theorem z_abs (C : Cok w g cc own Ts n F L Ce Sl) {index : Nat} {x : Int32} (h1 : Cond.methodLink own index Lib.Math.abs.name ∈ Ts) (h2 : Cond.static Lib.Math.abs.name ∈ Ts) (h3 : Cond.initialized "java/lang/Math" ∈ Ts) (h4 : Cond.code Lib.Math.abs.name Lib.Math.abs.code 1 (some .int) ∈ Ts) (hF : 1 ≤ F) (hL : (st.map fun v => v.category).sum + 13 ≤ L) (hk1 : k.1 ≤ Ce) (hk2 : k.2 ≤ Sl) (hdg : decode cc pc = .ok (.invokestatic index, 3)) (kk : Zt w g τ k (pc + 3) ls (.int (if 0 ≤ x then x else 0 - x) :: st)) : Zt w g τ k pc ls (.int x :: st) := by
  obtain ⟨p, e, R, s, m, args, below, meth, c, Q, nL⟩ := g
  obtain ⟨hx, hb, hml, hown, hts, hK, hj, hnL, rF, rL, rC, rS, -⟩ := C
  subst rF rL rC rS hnL
  exact fun H locs la hl hP hS => va_mabs hx hb (by rw [hml]; exact hl.1.symm) hown (hts _ h1) (hts _ h2) (hts _ h3) (hts _ h4) hF hL hk1 hk2 hdg (kk H locs la hl hP hS)
theorem va_ald2 {p : Program} {l : Launch} {e : Env} {R : Room} {s : State} {m : MethodId} {args : Array Value} {below : List Frame} {meth : Method} {c : Code} {H : Heap} {locs : List Loc} {cells slots : Nat} {Q : State → Prop} {cc : ByteArray} {pc : Nat} {la : Array Slot} {rest : List Value} {D : va_G} {cl : List vw_C} {a : Nat} {tys : List (ClassId × FieldType)} {ws : va_W} (hexec : p.tables.exec = Jvm.exec) (hb : c.code = cc) (hK : va_K D cl tys s) (hP : va_P D cl ws H) (q0 t0 : Nat) {cA : ClassId} {N : Nat} {f : Nat → Option Nat} (ha : ws[q0]? = some (a, .inl (cA, N, .inr (.inr (.inr (.inr f)))))) (ht : tys[t0]? = some (cA, .array .int)) {i : Int32} (hin : vp_in i N) (hdg : decode cc pc = .ok (.aaload, 1))
    (kk : W p l e R s m args below meth c H locs cells slots Q (F0 m (pc + 1) la (va_rf (f i.toNatClampNeg) :: rest))) : W p l e R s m args below meth c H locs cells slots Q (F0 m pc la (.int i :: .ref a :: rest)) := by
  have hlt : i.toNatClampNeg < N := Nat.not_le.mp fun q => hin (Or.inr q)
  exact W.aald (v := va_rf (f i.toNatClampNeg)) (ty := .array .int) hexec hb (hP q0 _ ha) ((hK.2 t0 _ ht).1 N (fun j => va_rf (f j))) rfl (fun q => by cases q) (by show ¬ (i < 0 ∨ (arrV _ _ _).slots.size ≤ _); rw [arrV_size]; exact hin) (by show (arrV _ _ _).slots[_]? = _; rw [arrV_read _ _ hlt]) rfl rfl hdg kk
theorem z_aald_q4 (C : Cok w g cc own Ts n F L Ce Sl) {i N b : Nat} {f : Nat → Option Nat} {x : Int32} (hi : i < tp_N) (hE : tp_E w i (τ i) = .inl (w.2.2.1 4, N, .inr (.inr (.inr (.inr f))))) (hx2 : vp_in x N) (hf : f x.toNatClampNeg = some b) (hdg : decode cc pc = .ok (.aaload, 1)) (kk : Zt w g τ k (pc + 1) ls (.ref b :: st)) : Zt w g τ k pc ls (.int x :: .ref (w.1 i) :: st) := by
  obtain ⟨p, e, R, s, m, args, below, meth, c, Q, nL⟩ := g
  obtain ⟨hx, hb, hml, hown, hts, hK, hj, -⟩ := C
  exact fun H locs la hl hP hS => va_ald2 hx hb hK hP i 4 (by rw [tp_at hi, hE]) rfl hx2 hdg (by rw [hf]; exact kk H locs la hl hP hS)
theorem z_copy (C : Cok w g cc own Ts n F L Ce Sl) {index i j t N M : Nat} {ty : FieldType} {sp dp x : Int32} (hi : i < tp_N) (hj2 : j < tp_N) (hEi : ∀ f, tp_E w i f = .inl (w.2.2.1 t, N, .inl f)) (hEj : ∀ f, tp_E w j f = .inl (w.2.2.1 t, M, .inl f)) (ht : (tp_tys w)[t]? = some (w.2.2.1 t, ty)) (hprim : refKind ty = false) (h1 : ¬ sp < 0) (h2 : ¬ dp < 0) (h3 : ¬ x < 0) (h4 : sp.toNatClampNeg + x.toNatClampNeg ≤ N) (h5 : dp.toNatClampNeg + x.toNatClampNeg ≤ M) (hfit : ∀ q, q < x.toNatClampNeg → fits ty (.int (τ i (sp.toNatClampNeg + q))) = true)
    (a1 : Cond.methodLink own index arraycopyName ∈ Ts) (a2 : Cond.native arraycopyName ∈ Ts) (a3 : Cond.static arraycopyName ∈ Ts) (a4 : Cond.initialized "java/lang/System" ∈ Ts) (hF : 1 ≤ F) (hL : (st.map fun v => v.category).sum + (nativeFrameWords "java/lang/System" "arraycopy" 5 + 11) ≤ L) (hdg : decode cc pc = .ok (.invokestatic index, 3))
    (kk : ∀ τ2 : TS, τ2 = tp_rw τ j (va_cpy (τ i) (τ j) sp.toNatClampNeg dp.toNatClampNeg x.toNatClampNeg) → Zt w g τ2 k (pc + 3) ls st) : Zt w g τ k pc ls (.int x :: .int dp :: .ref (w.1 j) :: .int sp :: .ref (w.1 i) :: st) := by
  obtain ⟨p, e, R, s, m, args, below, meth, c, Q, nL⟩ := g
  obtain ⟨hx, hb, hml, hown, hts, hK, hj, hnL, rF, rL, rC, rS, -⟩ := C
  subst rF rL rC rS hnL
  exact fun H locs la hl hP hS => va_copyi hx hb (by rw [hml]; exact hl.1.symm) hown (hts _ a1) (hts _ a2) (hts _ a3) (hts _ a4) hK hP (tp_Dd hj) hS i j t t (by rw [tp_at hi, hEi]) (by rw [tp_at hj2, hEj]) ht ht hprim h1 h2 h3 h4 h5 hfit hF hL hdg (fun H1 locs1 hP1 _ hS1 => by
    rw [← hEj, tp_set _ hj2] at hP1
    exact kk _ rfl H1 locs1 la hl hP1 hS1)
theorem tp_lt {x : Int32} {N : Nat} (h : vp_in x N) : x.toNatClampNeg < N := Nat.lt_of_not_le (fun h2 => h (Or.inr h2))
/-- a truth value -/
def tp_z (v : Int32) : Prop := narrow .boolean (.int v) = .int v ∧ fits .boolean (.int v) = true ∧ vp_nar .boolean v = v
theorem tp_z0 : tp_z 0 := ⟨rfl, rfl, rfl⟩
theorem tp_z1 : tp_z 1 := ⟨rfl, rfl, rfl⟩
end ZT
end
section
/-- a contract's start: the heap of this size, the world τ -/
def tp_Pre (w : WPar) (τ : TS) (sz : Nat) : State → Prop := fun U => U.heap.size = sz ∧ va_P (tp_D w) vwCl (tp_W w τ) U.heap ∧ va_K (tp_D w) vwCl (tp_tys w) U ∧ tp_inj w
/-- .. and its end -/
def tp_B (w : WPar) : TS → State → Prop := fun τ t => va_P (tp_D w) vwCl (tp_W w τ) t.heap ∧ va_K (tp_D w) vwCl (tp_tys w) t
def MI (w : WPar) (y : MethodName) (ws : List Cond) (F L : Nat) (As : List Value) (τ : TS) (K : TS → Int32 → Prop) : Prop := ∀ sz, Met w.2.1 y ws { frames := F, cells := 0, slots := 0, locals := L } (va_Pc As (tp_Pre w τ sz)) (va_Qi (fun r τ2 => K τ2 r) (tp_B w) (tp_A w sz)) 0 0 (tp_A w sz)
def ML (w : WPar) (y : MethodName) (ws : List Cond) (F L : Nat) (As : List Value) (τ : TS) (K : TS → Int64 → Prop) : Prop := ∀ sz, Met w.2.1 y ws { frames := F, cells := 0, slots := 0, locals := L } (va_Pc As (tp_Pre w τ sz)) (va_Ql (fun r τ2 => K τ2 r) (tp_B w) (tp_A w sz)) 0 0 (tp_A w sz)
def MV (w : WPar) (y : MethodName) (ws : List Cond) (F L : Nat) (As : List Value) (τ : TS) (K : TS → Prop) : Prop := ∀ sz, Met w.2.1 y ws { frames := F, cells := 0, slots := 0, locals := L } (va_Pc As (tp_Pre w τ sz)) (va_Qv K (tp_B w) (tp_A w sz)) 0 0 (tp_A w sz)
/-- how a method's own end is reached -/
def RI (w : WPar) (g : Cxt) (cc : ByteArray) (K : TS → Int32 → Prop) : Prop := ∀ (τ : TS) (pc : Nat) (ls : List (Nat × Value)) (v : Int32), decode cc pc = .ok (.ireturn, 1) → K τ v → Zt w g τ (0, 0) pc ls [.int v]
def RZ (w : WPar) (g : Cxt) (cc : ByteArray) (K : TS → Int32 → Prop) : Prop := ∀ (τ : TS) (pc : Nat) (ls : List (Nat × Value)) (v : Int32), decode cc pc = .ok (.ireturn, 1) → narrow .boolean (.int v) = .int v → K τ v → Zt w g τ (0, 0) pc ls [.int v]
def RL9 (w : WPar) (g : Cxt) (cc : ByteArray) (K : TS → Int64 → Prop) : Prop := ∀ (τ : TS) (pc : Nat) (ls : List (Nat × Value)) (v : Int64), decode cc pc = .ok (.lreturn, 1) → K τ v → Zt w g τ (0, 0) pc ls [.long v]
def RV (w : WPar) (g : Cxt) (cc : ByteArray) (K : TS → Prop) : Prop := ∀ (τ : TS) (pc : Nat) (ls : List (Nat × Value)), decode cc pc = .ok (.return_, 1) → K τ → Zt w g τ (0, 0) pc ls []
theorem tp_blind {w : WPar} {τ : TS} {sz : Nat} {As : List Value} : FrameBlind (va_Pc As (tp_Pre w τ sz)) := fun a U g mk q => by
  obtain ⟨q0, q1, q2, q3, q4⟩ := q
  exact ⟨q0, q1, q2, va_K.moved (u := U) (U := U.calling g mk a) (Vm.Alike.refl U.vm) q3, q4⟩

theorem tp_enterI {w : WPar} {y : MethodName} {ws ws2 : List Cond} {cc : ByteArray} {maxL F L : Nat} {own : String} {As : List Value} {τ : TS} {K : TS → Int32 → Prop} (hy : plainName y.cls = true) (hcls : y.cls = own) (hw : ws = Cond.code y cc maxL (some .int) :: ws2) (hle : (lg_sl As).length ≤ maxL)
    (body : ∀ g : Cxt, Cok w g cc own ws maxL F L 0 0 → RI w g cc K → Zt w g τ (0, 0) 0 (lv_args 0 As) []) : MI w y ws F L As τ K := by
  intro sz
  refine Met.ofW hy hw ?_
  intro p e s m args below meth c s₁ B hml hv
  obtain ⟨rfl, hsz, hP, hK, hj⟩ := hv
  subst hsz
  have hts := atoms_spec (ws := ws) B.pre
  have hown : s.vm.findClass own = some m.cls := by rw [← hcls]; exact findClass_of_methodNamed B.named
  have hR : RI w (p, e, ({ frames := F, cells := 0, slots := 0, locals := L } : Room), s, m, As.toArray, below, meth, c, MQ below (va_Qi (fun r τ2 => K τ2 r) (tp_B w) (tp_A w s.heap.size)) As.toArray s 0 0 (tp_A w s.heap.size), maxL) cc K := by
    intro τ2 pc ls v hdg hKv
    exact fun H locs la hl hP2 hS => W.iret B.exec B.bytes B.returns (fun t ht hW => ⟨⟨v, τ2, rfl, hKv, by rw [ht]; exact hP2, va_K.moved hW.alike hK⟩, hS.F ht⟩) hS.2.2 hdg B.notSynchronized
  have hZ := body (p, e, ({ frames := F, cells := 0, slots := 0, locals := L } : Room), s, m, As.toArray, below, meth, c, MQ below (va_Qi (fun r τ2 => K τ2 r) (tp_B w) (tp_A w s.heap.size)) As.toArray s 0 0 (tp_A w s.heap.size), maxL) ⟨B.exec, B.bytes, hml, hown, hts, hK, hj, rfl, rfl, rfl, rfl, rfl, B.notSynchronized⟩ hR
  rw [lg_entry_eq]
  exact hZ s.heap [] _ (lv_entry As hle) hP va_S.rf
theorem tp_enterV {w : WPar} {y : MethodName} {ws ws2 : List Cond} {cc : ByteArray} {maxL F L : Nat} {own : String} {As : List Value} {τ : TS} {K : TS → Prop} (hy : plainName y.cls = true) (hcls : y.cls = own) (hw : ws = Cond.code y cc maxL (none) :: ws2) (hle : (lg_sl As).length ≤ maxL)
    (body : ∀ g : Cxt, Cok w g cc own ws maxL F L 0 0 → RV w g cc K → Zt w g τ (0, 0) 0 (lv_args 0 As) []) : MV w y ws F L As τ K := by
  intro sz
  refine Met.ofW hy hw ?_
  intro p e s m args below meth c s₁ B hml hv
  obtain ⟨rfl, hsz, hP, hK, hj⟩ := hv
  subst hsz
  have hts := atoms_spec (ws := ws) B.pre
  have hown : s.vm.findClass own = some m.cls := by rw [← hcls]; exact findClass_of_methodNamed B.named
  have hR : RV w (p, e, ({ frames := F, cells := 0, slots := 0, locals := L } : Room), s, m, As.toArray, below, meth, c, MQ below (va_Qv K (tp_B w) (tp_A w s.heap.size)) As.toArray s 0 0 (tp_A w s.heap.size), maxL) cc K := by
    intro τ2 pc ls hdg hKv
    exact fun H locs la hl hP2 hS => W.vret B.exec B.bytes B.returns (fun t ht hW => ⟨⟨τ2, rfl, hKv, by rw [ht]; exact hP2, va_K.moved hW.alike hK⟩, hS.F ht⟩) hS.2.2 hdg B.notSynchronized
  have hZ := body (p, e, ({ frames := F, cells := 0, slots := 0, locals := L } : Room), s, m, As.toArray, below, meth, c, MQ below (va_Qv K (tp_B w) (tp_A w s.heap.size)) As.toArray s 0 0 (tp_A w s.heap.size), maxL) ⟨B.exec, B.bytes, hml, hown, hts, hK, hj, rfl, rfl, rfl, rfl, rfl, B.notSynchronized⟩ hR
  rw [lg_entry_eq]
  exact hZ s.heap [] _ (lv_entry As hle) hP va_S.rf
theorem tp_enterL {w : WPar} {y : MethodName} {ws ws2 : List Cond} {cc : ByteArray} {maxL F L : Nat} {own : String} {As : List Value} {τ : TS} {K : TS → Int64 → Prop} (hy : plainName y.cls = true) (hcls : y.cls = own) (hw : ws = Cond.code y cc maxL (some .long) :: ws2) (hle : (lg_sl As).length ≤ maxL)
    (body : ∀ g : Cxt, Cok w g cc own ws maxL F L 0 0 → RL9 w g cc K → Zt w g τ (0, 0) 0 (lv_args 0 As) []) : ML w y ws F L As τ K := by
  intro sz
  refine Met.ofW hy hw ?_
  intro p e s m args below meth c s₁ B hml hv
  obtain ⟨rfl, hsz, hP, hK, hj⟩ := hv
  subst hsz
  have hts := atoms_spec (ws := ws) B.pre
  have hown : s.vm.findClass own = some m.cls := by rw [← hcls]; exact findClass_of_methodNamed B.named
  have hR : RL9 w (p, e, ({ frames := F, cells := 0, slots := 0, locals := L } : Room), s, m, As.toArray, below, meth, c, MQ below (va_Ql (fun r τ2 => K τ2 r) (tp_B w) (tp_A w s.heap.size)) As.toArray s 0 0 (tp_A w s.heap.size), maxL) cc K := by
    intro τ2 pc ls v hdg hKv
    exact fun H locs la hl hP2 hS => W.lret B.exec B.bytes B.returns (fun t ht hW => ⟨⟨v, τ2, rfl, hKv, by rw [ht]; exact hP2, va_K.moved hW.alike hK⟩, hS.F ht⟩) hS.2.2 hdg B.notSynchronized
  have hZ := body (p, e, ({ frames := F, cells := 0, slots := 0, locals := L } : Room), s, m, As.toArray, below, meth, c, MQ below (va_Ql (fun r τ2 => K τ2 r) (tp_B w) (tp_A w s.heap.size)) As.toArray s 0 0 (tp_A w s.heap.size), maxL) ⟨B.exec, B.bytes, hml, hown, hts, hK, hj, rfl, rfl, rfl, rfl, rfl, B.notSynchronized⟩ hR
  rw [lg_entry_eq]
  exact hZ s.heap [] _ (lv_entry As hle) hP va_S.rf
theorem tp_enterZ {w : WPar} {y : MethodName} {ws ws2 : List Cond} {cc : ByteArray} {maxL F L : Nat} {own : String} {As : List Value} {τ : TS} {K : TS → Int32 → Prop} (hy : plainName y.cls = true) (hcls : y.cls = own) (hw : ws = Cond.code y cc maxL (some .boolean) :: ws2) (hle : (lg_sl As).length ≤ maxL)
    (body : ∀ g : Cxt, Cok w g cc own ws maxL F L 0 0 → RZ w g cc K → Zt w g τ (0, 0) 0 (lv_args 0 As) []) : MI w y ws F L As τ K := by
  intro sz
  refine Met.ofW hy hw ?_
  intro p e s m args below meth c s₁ B hml hv
  obtain ⟨rfl, hsz, hP, hK, hj⟩ := hv
  subst hsz
  have hts := atoms_spec (ws := ws) B.pre
  have hown : s.vm.findClass own = some m.cls := by rw [← hcls]; exact findClass_of_methodNamed B.named
  have hR : RZ w (p, e, ({ frames := F, cells := 0, slots := 0, locals := L } : Room), s, m, As.toArray, below, meth, c, MQ below (va_Qi (fun r τ2 => K τ2 r) (tp_B w) (tp_A w s.heap.size)) As.toArray s 0 0 (tp_A w s.heap.size), maxL) cc K := by
    intro τ2 pc ls v hdg hnar hKv
    exact fun H locs la hl hP2 hS => W.zret B.exec B.bytes B.returns hnar (fun t ht hW => ⟨⟨v, τ2, rfl, hKv, by rw [ht]; exact hP2, va_K.moved hW.alike hK⟩, hS.F ht⟩) hS.2.2 hdg B.notSynchronized
  have hZ := body (p, e, ({ frames := F, cells := 0, slots := 0, locals := L } : Room), s, m, As.toArray, below, meth, c, MQ below (va_Qi (fun r τ2 => K τ2 r) (tp_B w) (tp_A w s.heap.size)) As.toArray s 0 0 (tp_A w s.heap.size), maxL) ⟨B.exec, B.bytes, hml, hown, hts, hK, hj, rfl, rfl, rfl, rfl, rfl, B.notSynchronized⟩ hR
  rw [lg_entry_eq]
  exact hZ s.heap [] _ (lv_entry As hle) hP va_S.rf
theorem tp_enterIF {w : WPar} {y : MethodName} {ws ws2 : List Cond} {cc : ByteArray} {maxL F L : Nat} {own : String} {As : List Value} {τ : TS} {K : TS → Int32 → Prop} (hy : plainFor y = true) (hcls : y.cls = own) (hw : ws = Cond.code y cc maxL (some .int) :: ws2) (hle : (lg_sl As).length ≤ maxL)
    (body : ∀ g : Cxt, Cok w g cc own ws maxL F L 0 0 → RI w g cc K → Zt w g τ (0, 0) 0 (lv_args 0 As) []) : MI w y ws F L As τ K := by
  intro sz
  refine va_MetF hy hw ?_
  intro p e s m args below meth c s₁ B hml hv
  obtain ⟨rfl, hsz, hP, hK, hj⟩ := hv
  subst hsz
  have hts := atoms_spec (ws := ws) B.pre
  have hown : s.vm.findClass own = some m.cls := by rw [← hcls]; exact findClass_of_methodNamed B.named
  have hR : RI w (p, e, ({ frames := F, cells := 0, slots := 0, locals := L } : Room), s, m, As.toArray, below, meth, c, MQ below (va_Qi (fun r τ2 => K τ2 r) (tp_B w) (tp_A w s.heap.size)) As.toArray s 0 0 (tp_A w s.heap.size), maxL) cc K := by
    intro τ2 pc ls v hdg hKv
    exact fun H locs la hl hP2 hS => W.iret B.exec B.bytes B.returns (fun t ht hW => ⟨⟨v, τ2, rfl, hKv, by rw [ht]; exact hP2, va_K.moved hW.alike hK⟩, hS.F ht⟩) hS.2.2 hdg B.notSynchronized
  have hZ := body (p, e, ({ frames := F, cells := 0, slots := 0, locals := L } : Room), s, m, As.toArray, below, meth, c, MQ below (va_Qi (fun r τ2 => K τ2 r) (tp_B w) (tp_A w s.heap.size)) As.toArray s 0 0 (tp_A w s.heap.size), maxL) ⟨B.exec, B.bytes, hml, hown, hts, hK, hj, rfl, rfl, rfl, rfl, rfl, B.notSynchronized⟩ hR
  rw [lg_entry_eq]
  exact hZ s.heap [] _ (lv_entry As hle) hP va_S.rf
section CT
variable {w : WPar} {g : Cxt} {τ : TS} {k : Nat × Nat} {pc : Nat} {ls : List (Nat × Value)} {st : List Value} {cc : ByteArray} {own : String} {Ts : List Cond} {n F L Ce Sl : Nat} {y : MethodName} {ws ws2 : List Cond} {bytes : ByteArray} {maxL F1 L1 index : Nat} {As : List Value} {rt : Option FieldType}
theorem zv_i (C : Cok w g cc own Ts n F L Ce Sl) {Cn : String} {i ci N : Nat} {T : u_T} {fs : List Value} {K : TS → Int32 → Prop} (hM : MI w y ws F1 L1 (.ref (w.1 i) :: As) τ K) (hi : i < tp_N) (hE : tp_E w i (τ i) = .inr (ci, fs)) (hc : vwCl[ci]? = some (Cn, T, N)) (nP : Nat) (hG : GoodIn Ts (wsV own index Cn y ws)) (hw : ws = Cond.code y bytes maxL (rt) :: ws2) (hd : y.cls = Cn ∧ y.cls ≠ "java/lang/invoke/MethodHandle" ∧ y.cls ≠ "java/lang/invoke/VarHandle" ∧ (parseMethodDescriptor y.desc).map (fun d => d.parameters.length) = some nP) (hR : F1 + 1 ≤ F ∧ 8 + (maxL + 11) + L1 ≤ L) (hn : As.length = nP) (hst : 0 + (st.map fun v => v.category).sum ≤ 8) (hk : k.1 ≤ Ce ∧ k.2 ≤ Sl) {st0 : List Value} (hs0 : st0 = As.reverse ++ .ref (w.1 i) :: st) (hdg : decode cc pc = .ok (.invokevirtual index, 3))
    (kk : ∀ (r : Int32) (τ2 : TS), K τ2 r → Zt w g τ2 k (pc + 3) ls (.int r :: st)) : Zt w g τ k pc ls st0 := by
  subst hs0
  obtain ⟨p, e, R, s, m, args, below, meth, c, Q, nL⟩ := g
  obtain ⟨hx, hb, hml, hown, hts, hK, hj, hnL, rF, rL, rC, rS, -⟩ := C
  subst rF rL rC rS hnL
  intro H locs la hl hP hS
  refine va_calli (va_runV (As := As) (rest := st) ⟨hx, hb, hml, hown, hts⟩ (hM H.size) (cwV nP hts hG hw rfl rfl hd hR) ⟨tp_blind, va_recv hK hP hc (q0 := i) (by rw [tp_at hi, hE]), fun U hU hW => ⟨rfl, by rw [hU], by rw [hU]; exact hP, va_K.moved hW.alike hK, hj⟩⟩ rfl hn hl.1 rfl (by simpa using hst) hdg ⟨by simpa using hk.1, by simpa using hk.2⟩) hS (fun q hq h => tp_old q hq h) (fun q h => tp_same hS.1 q h) (fun r τ2 t H1 locs1 ht hvm hw2 hB hz1 hk1 hS1 => ?_)
  obtain ⟨hP1, hK1⟩ := hB
  rw [ht] at hP1
  exact kk r τ2 hw2 H1 locs1 la hl hP1 hS1
theorem zs_i (C : Cok w g cc own Ts n F L Ce Sl) {K : TS → Int32 → Prop} (hM : MI w y ws F1 L1 As τ K) (nP : Nat) (hG : GoodIn Ts (va_wsS own index y ws)) (hw : ws = Cond.code y bytes maxL (rt) :: ws2) (hd : y.cls ≠ "java/lang/invoke/MethodHandle" ∧ y.cls ≠ "java/lang/invoke/VarHandle" ∧ (parseMethodDescriptor y.desc).map (fun d => d.parameters.length) = some nP) (hR : F1 + 1 ≤ F ∧ 8 + (maxL + 11) + L1 ≤ L) (hn : As.length = nP) (hst : 0 + (st.map fun v => v.category).sum ≤ 8) (hk : k.1 ≤ Ce ∧ k.2 ≤ Sl) {st0 : List Value} (hs0 : st0 = As.reverse ++ st) (hdg : decode cc pc = .ok (.invokestatic index, 3))
    (kk : ∀ (r : Int32) (τ2 : TS), K τ2 r → Zt w g τ2 k (pc + 3) ls (.int r :: st)) : Zt w g τ k pc ls st0 := by
  subst hs0
  obtain ⟨p, e, R, s, m, args, below, meth, c, Q, nL⟩ := g
  obtain ⟨hx, hb, hml, hown, hts, hK, hj, hnL, rF, rL, rC, rS, -⟩ := C
  subst rF rL rC rS hnL
  intro H locs la hl hP hS
  refine va_calli (va_runS (As := As) (rest := st) ⟨hx, hb, hml, hown, hts⟩ (hM H.size) (va_cwS nP hts hG hw rfl rfl hd hR) ⟨tp_blind, fun U hU hW => ⟨rfl, by rw [hU], by rw [hU]; exact hP, va_K.moved hW.alike hK, hj⟩⟩ rfl hn hl.1 rfl (by simpa using hst) hdg ⟨by simpa using hk.1, by simpa using hk.2⟩) hS (fun q hq h => tp_old q hq h) (fun q h => tp_same hS.1 q h) (fun r τ2 t H1 locs1 ht hvm hw2 hB hz1 hk1 hS1 => ?_)
  obtain ⟨hP1, hK1⟩ := hB
  rw [ht] at hP1
  exact kk r τ2 hw2 H1 locs1 la hl hP1 hS1
theorem zv_l (C : Cok w g cc own Ts n F L Ce Sl) {Cn : String} {i ci N : Nat} {T : u_T} {fs : List Value} {K : TS → Int64 → Prop} (hM : ML w y ws F1 L1 (.ref (w.1 i) :: As) τ K) (hi : i < tp_N) (hE : tp_E w i (τ i) = .inr (ci, fs)) (hc : vwCl[ci]? = some (Cn, T, N)) (nP : Nat) (hG : GoodIn Ts (wsV own index Cn y ws)) (hw : ws = Cond.code y bytes maxL (some .long) :: ws2) (hd : y.cls = Cn ∧ y.cls ≠ "java/lang/invoke/MethodHandle" ∧ y.cls ≠ "java/lang/invoke/VarHandle" ∧ (parseMethodDescriptor y.desc).map (fun d => d.parameters.length) = some nP) (hR : F1 + 1 ≤ F ∧ 8 + (maxL + 11) + L1 ≤ L) (hn : As.length = nP) (hst : 0 + (st.map fun v => v.category).sum ≤ 8) (hk : k.1 ≤ Ce ∧ k.2 ≤ Sl) {st0 : List Value} (hs0 : st0 = As.reverse ++ .ref (w.1 i) :: st) (hdg : decode cc pc = .ok (.invokevirtual index, 3))
    (kk : ∀ (r : Int64) (τ2 : TS), K τ2 r → Zt w g τ2 k (pc + 3) ls (.long r :: st)) : Zt w g τ k pc ls st0 := by
  subst hs0
  obtain ⟨p, e, R, s, m, args, below, meth, c, Q, nL⟩ := g
  obtain ⟨hx, hb, hml, hown, hts, hK, hj, hnL, rF, rL, rC, rS, -⟩ := C
  subst rF rL rC rS hnL
  intro H locs la hl hP hS
  refine va_calll (va_runV (As := As) (rest := st) ⟨hx, hb, hml, hown, hts⟩ (hM H.size) (cwV nP hts hG hw rfl rfl hd hR) ⟨tp_blind, va_recv hK hP hc (q0 := i) (by rw [tp_at hi, hE]), fun U hU hW => ⟨rfl, by rw [hU], by rw [hU]; exact hP, va_K.moved hW.alike hK, hj⟩⟩ rfl hn hl.1 rfl (by simpa using hst) hdg ⟨by simpa using hk.1, by simpa using hk.2⟩) hS (fun q hq h => tp_old q hq h) (fun q h => tp_same hS.1 q h) (fun r τ2 t H1 locs1 ht hvm hw2 hB hz1 hk1 hS1 => ?_)
  obtain ⟨hP1, hK1⟩ := hB
  rw [ht] at hP1
  exact kk r τ2 hw2 H1 locs1 la hl hP1 hS1
theorem zs_l (C : Cok w g cc own Ts n F L Ce Sl) {K : TS → Int64 → Prop} (hM : ML w y ws F1 L1 As τ K) (nP : Nat) (hG : GoodIn Ts (va_wsS own index y ws)) (hw : ws = Cond.code y bytes maxL (some .long) :: ws2) (hd : y.cls ≠ "java/lang/invoke/MethodHandle" ∧ y.cls ≠ "java/lang/invoke/VarHandle" ∧ (parseMethodDescriptor y.desc).map (fun d => d.parameters.length) = some nP) (hR : F1 + 1 ≤ F ∧ 8 + (maxL + 11) + L1 ≤ L) (hn : As.length = nP) (hst : 0 + (st.map fun v => v.category).sum ≤ 8) (hk : k.1 ≤ Ce ∧ k.2 ≤ Sl) {st0 : List Value} (hs0 : st0 = As.reverse ++ st) (hdg : decode cc pc = .ok (.invokestatic index, 3))
    (kk : ∀ (r : Int64) (τ2 : TS), K τ2 r → Zt w g τ2 k (pc + 3) ls (.long r :: st)) : Zt w g τ k pc ls st0 := by
  subst hs0
  obtain ⟨p, e, R, s, m, args, below, meth, c, Q, nL⟩ := g
  obtain ⟨hx, hb, hml, hown, hts, hK, hj, hnL, rF, rL, rC, rS, -⟩ := C
  subst rF rL rC rS hnL
  intro H locs la hl hP hS
  refine va_calll (va_runS (As := As) (rest := st) ⟨hx, hb, hml, hown, hts⟩ (hM H.size) (va_cwS nP hts hG hw rfl rfl hd hR) ⟨tp_blind, fun U hU hW => ⟨rfl, by rw [hU], by rw [hU]; exact hP, va_K.moved hW.alike hK, hj⟩⟩ rfl hn hl.1 rfl (by simpa using hst) hdg ⟨by simpa using hk.1, by simpa using hk.2⟩) hS (fun q hq h => tp_old q hq h) (fun q h => tp_same hS.1 q h) (fun r τ2 t H1 locs1 ht hvm hw2 hB hz1 hk1 hS1 => ?_)
  obtain ⟨hP1, hK1⟩ := hB
  rw [ht] at hP1
  exact kk r τ2 hw2 H1 locs1 la hl hP1 hS1
theorem zv_v (C : Cok w g cc own Ts n F L Ce Sl) {Cn : String} {i ci N : Nat} {T : u_T} {fs : List Value} {K : TS → Prop} (hM : MV w y ws F1 L1 (.ref (w.1 i) :: As) τ K) (hi : i < tp_N) (hE : tp_E w i (τ i) = .inr (ci, fs)) (hc : vwCl[ci]? = some (Cn, T, N)) (nP : Nat) (hG : GoodIn Ts (wsV own index Cn y ws)) (hw : ws = Cond.code y bytes maxL (none) :: ws2) (hd : y.cls = Cn ∧ y.cls ≠ "java/lang/invoke/MethodHandle" ∧ y.cls ≠ "java/lang/invoke/VarHandle" ∧ (parseMethodDescriptor y.desc).map (fun d => d.parameters.length) = some nP) (hR : F1 + 1 ≤ F ∧ 8 + (maxL + 11) + L1 ≤ L) (hn : As.length = nP) (hst : 0 + (st.map fun v => v.category).sum ≤ 8) (hk : k.1 ≤ Ce ∧ k.2 ≤ Sl) {st0 : List Value} (hs0 : st0 = As.reverse ++ .ref (w.1 i) :: st) (hdg : decode cc pc = .ok (.invokevirtual index, 3))
    (kk : ∀ (τ2 : TS), K τ2 → Zt w g τ2 k (pc + 3) ls st) : Zt w g τ k pc ls st0 := by
  subst hs0
  obtain ⟨p, e, R, s, m, args, below, meth, c, Q, nL⟩ := g
  obtain ⟨hx, hb, hml, hown, hts, hK, hj, hnL, rF, rL, rC, rS, -⟩ := C
  subst rF rL rC rS hnL
  intro H locs la hl hP hS
  refine va_callv (va_runV (As := As) (rest := st) ⟨hx, hb, hml, hown, hts⟩ (hM H.size) (cwV nP hts hG hw rfl rfl hd hR) ⟨tp_blind, va_recv hK hP hc (q0 := i) (by rw [tp_at hi, hE]), fun U hU hW => ⟨rfl, by rw [hU], by rw [hU]; exact hP, va_K.moved hW.alike hK, hj⟩⟩ rfl hn hl.1 rfl (by simpa using hst) hdg ⟨by simpa using hk.1, by simpa using hk.2⟩) hS (fun q hq h => tp_old q hq h) (fun q h => tp_same hS.1 q h) (fun τ2 t H1 locs1 ht hvm hw2 hB hz1 hk1 hS1 => ?_)
  obtain ⟨hP1, hK1⟩ := hB
  rw [ht] at hP1
  exact kk τ2 hw2 H1 locs1 la hl hP1 hS1
theorem zs_v (C : Cok w g cc own Ts n F L Ce Sl) {K : TS → Prop} (hM : MV w y ws F1 L1 As τ K) (nP : Nat) (hG : GoodIn Ts (va_wsS own index y ws)) (hw : ws = Cond.code y bytes maxL (none) :: ws2) (hd : y.cls ≠ "java/lang/invoke/MethodHandle" ∧ y.cls ≠ "java/lang/invoke/VarHandle" ∧ (parseMethodDescriptor y.desc).map (fun d => d.parameters.length) = some nP) (hR : F1 + 1 ≤ F ∧ 8 + (maxL + 11) + L1 ≤ L) (hn : As.length = nP) (hst : 0 + (st.map fun v => v.category).sum ≤ 8) (hk : k.1 ≤ Ce ∧ k.2 ≤ Sl) {st0 : List Value} (hs0 : st0 = As.reverse ++ st) (hdg : decode cc pc = .ok (.invokestatic index, 3))
    (kk : ∀ (τ2 : TS), K τ2 → Zt w g τ2 k (pc + 3) ls st) : Zt w g τ k pc ls st0 := by
  subst hs0
  obtain ⟨p, e, R, s, m, args, below, meth, c, Q, nL⟩ := g
  obtain ⟨hx, hb, hml, hown, hts, hK, hj, hnL, rF, rL, rC, rS, -⟩ := C
  subst rF rL rC rS hnL
  intro H locs la hl hP hS
  refine va_callv (va_runS (As := As) (rest := st) ⟨hx, hb, hml, hown, hts⟩ (hM H.size) (va_cwS nP hts hG hw rfl rfl hd hR) ⟨tp_blind, fun U hU hW => ⟨rfl, by rw [hU], by rw [hU]; exact hP, va_K.moved hW.alike hK, hj⟩⟩ rfl hn hl.1 rfl (by simpa using hst) hdg ⟨by simpa using hk.1, by simpa using hk.2⟩) hS (fun q hq h => tp_old q hq h) (fun q h => tp_same hS.1 q h) (fun τ2 t H1 locs1 ht hvm hw2 hB hz1 hk1 hS1 => ?_)
  obtain ⟨hP1, hK1⟩ := hB
  rw [ht] at hP1
  exact kk τ2 hw2 H1 locs1 la hl hP1 hS1
end CT
end
section
theorem dX0_init_0 : decode cX0_init 0 = .ok (.aload_n 0, 1) := by decide +kernel
theorem dX0_init_1 : decode cX0_init 1 = .ok (.invokespecial 3, 3) := by decide +kernel
theorem dX0_init_4 : decode cX0_init 4 = .ok (.aload_n 0, 1) := by decide +kernel
theorem dX0_init_5 : decode cX0_init 5 = .ok (.sipush 201, 3) := by decide +kernel
theorem dX0_init_8 : decode cX0_init 8 = .ok (.newarray .boolean, 2) := by decide +kernel
theorem dX0_init_10 : decode cX0_init 10 = .ok (.putfield 9, 3) := by decide +kernel
theorem dX0_init_13 : decode cX0_init 13 = .ok (.return_, 1) := by decide +kernel
theorem dX0_spare_0 : decode cX0_spare 0 = .ok (.iconst 0, 1) := by decide +kernel
theorem dX0_spare_1 : decode cX0_spare 1 = .ok (.aload_n 0, 1) := by decide +kernel
theorem dX0_spare_2 : decode cX0_spare 2 = .ok (.getfield 15, 3) := by decide +kernel
theorem dX0_spare_5 : decode cX0_spare 5 = .ok (.aload_n 0, 1) := by decide +kernel
theorem dX0_spare_6 : decode cX0_spare 6 = .ok (.getfield 19, 3) := by decide +kernel
theorem dX0_spare_9 : decode cX0_spare 9 = .ok (.iadd, 1) := by decide +kernel
theorem dX0_spare_10 : decode cX0_spare 10 = .ok (.aload_n 0, 1) := by decide +kernel
theorem dX0_spare_11 : decode cX0_spare 11 = .ok (.getfield 22, 3) := by decide +kernel
theorem dX0_spare_14 : decode cX0_spare 14 = .ok (.isub, 1) := by decide +kernel
theorem dX0_spare_15 : decode cX0_spare 15 = .ok (.invokestatic 25, 3) := by decide +kernel
theorem dX0_spare_18 : decode cX0_spare 18 = .ok (.ireturn, 1) := by decide +kernel
theorem dX0_take_0 : decode cX0_take 0 = .ok (.iload_n 1, 1) := by decide +kernel
theorem dX0_take_1 : decode cX0_take 1 = .ok (.aload_n 0, 1) := by decide +kernel
theorem dX0_take_2 : decode cX0_take 2 = .ok (.getfield 22, 3) := by decide +kernel
theorem dX0_take_5 : decode cX0_take 5 = .ok (.if_icmp .lt 21, 3) := by decide +kernel
theorem dX0_take_8 : decode cX0_take 8 = .ok (.iload_n 1, 1) := by decide +kernel
theorem dX0_take_9 : decode cX0_take 9 = .ok (.aload_n 0, 1) := by decide +kernel
theorem dX0_take_10 : decode cX0_take 10 = .ok (.getfield 9, 3) := by decide +kernel
theorem dX0_take_13 : decode cX0_take 13 = .ok (.arraylength, 1) := by decide +kernel
theorem dX0_take_14 : decode cX0_take 14 = .ok (.if_icmp .ge 12, 3) := by decide +kernel
theorem dX0_take_17 : decode cX0_take 17 = .ok (.aload_n 0, 1) := by decide +kernel
theorem dX0_take_18 : decode cX0_take 18 = .ok (.getfield 9, 3) := by decide +kernel
theorem dX0_take_21 : decode cX0_take 21 = .ok (.iload_n 1, 1) := by decide +kernel
theorem dX0_take_22 : decode cX0_take 22 = .ok (.baload, 1) := by decide +kernel
theorem dX0_take_23 : decode cX0_take 23 = .ok (.ifCond .eq 5, 3) := by decide +kernel
theorem dX0_take_26 : decode cX0_take 26 = .ok (.iconst 1, 1) := by decide +kernel
theorem dX0_take_27 : decode cX0_take 27 = .ok (.ireturn, 1) := by decide +kernel
theorem dX0_take_28 : decode cX0_take 28 = .ok (.iload_n 2, 1) := by decide +kernel
theorem dX0_take_29 : decode cX0_take 29 = .ok (.ifCond .eq 18, 3) := by decide +kernel
theorem dX0_take_32 : decode cX0_take 32 = .ok (.iload_n 1, 1) := by decide +kernel
theorem dX0_take_33 : decode cX0_take 33 = .ok (.aload_n 0, 1) := by decide +kernel
theorem dX0_take_34 : decode cX0_take 34 = .ok (.getfield 15, 3) := by decide +kernel
theorem dX0_take_37 : decode cX0_take 37 = .ok (.aload_n 0, 1) := by decide +kernel
theorem dX0_take_38 : decode cX0_take 38 = .ok (.getfield 19, 3) := by decide +kernel
theorem dX0_take_41 : decode cX0_take 41 = .ok (.iadd, 1) := by decide +kernel
theorem dX0_take_42 : decode cX0_take 42 = .ok (.if_icmp .lt 5, 3) := by decide +kernel
theorem dX0_take_45 : decode cX0_take 45 = .ok (.iconst 0, 1) := by decide +kernel
theorem dX0_take_46 : decode cX0_take 46 = .ok (.ireturn, 1) := by decide +kernel
theorem dX0_take_47 : decode cX0_take 47 = .ok (.aload_n 0, 1) := by decide +kernel
theorem dX0_take_48 : decode cX0_take 48 = .ok (.getfield 9, 3) := by decide +kernel
theorem dX0_take_51 : decode cX0_take 51 = .ok (.iload_n 1, 1) := by decide +kernel
theorem dX0_take_52 : decode cX0_take 52 = .ok (.iconst 1, 1) := by decide +kernel
theorem dX0_take_53 : decode cX0_take 53 = .ok (.bastore, 1) := by decide +kernel
theorem dX0_take_54 : decode cX0_take 54 = .ok (.aload_n 0, 1) := by decide +kernel
theorem dX0_take_55 : decode cX0_take 55 = .ok (.getfield 22, 3) := by decide +kernel
theorem dX0_take_58 : decode cX0_take 58 = .ok (.aload_n 0, 1) := by decide +kernel
theorem dX0_take_59 : decode cX0_take 59 = .ok (.getfield 9, 3) := by decide +kernel
theorem dX0_take_62 : decode cX0_take 62 = .ok (.arraylength, 1) := by decide +kernel
theorem dX0_take_63 : decode cX0_take 63 = .ok (.if_icmp .ge 38, 3) := by decide +kernel
theorem dX0_take_66 : decode cX0_take 66 = .ok (.aload_n 0, 1) := by decide +kernel
theorem dX0_take_67 : decode cX0_take 67 = .ok (.getfield 9, 3) := by decide +kernel
theorem dX0_take_70 : decode cX0_take 70 = .ok (.aload_n 0, 1) := by decide +kernel
theorem dX0_take_71 : decode cX0_take 71 = .ok (.getfield 22, 3) := by decide +kernel
theorem dX0_take_74 : decode cX0_take 74 = .ok (.baload, 1) := by decide +kernel
theorem dX0_take_75 : decode cX0_take 75 = .ok (.ifCond .eq 26, 3) := by decide +kernel
theorem dX0_take_78 : decode cX0_take 78 = .ok (.aload_n 0, 1) := by decide +kernel
theorem dX0_take_79 : decode cX0_take 79 = .ok (.getfield 9, 3) := by decide +kernel
theorem dX0_take_82 : decode cX0_take 82 = .ok (.aload_n 0, 1) := by decide +kernel
theorem dX0_take_83 : decode cX0_take 83 = .ok (.getfield 22, 3) := by decide +kernel
theorem dX0_take_86 : decode cX0_take 86 = .ok (.iconst 0, 1) := by decide +kernel
theorem dX0_take_87 : decode cX0_take 87 = .ok (.bastore, 1) := by decide +kernel
theorem dX0_take_88 : decode cX0_take 88 = .ok (.aload_n 0, 1) := by decide +kernel
theorem dX0_take_89 : decode cX0_take 89 = .ok (.dup, 1) := by decide +kernel
theorem dX0_take_90 : decode cX0_take 90 = .ok (.getfield 22, 3) := by decide +kernel
theorem dX0_take_93 : decode cX0_take 93 = .ok (.iconst 1, 1) := by decide +kernel
theorem dX0_take_94 : decode cX0_take 94 = .ok (.iadd, 1) := by decide +kernel
theorem dX0_take_95 : decode cX0_take 95 = .ok (.putfield 22, 3) := by decide +kernel
theorem dX0_take_98 : decode cX0_take 98 = .ok (.goto (-44), 3) := by decide +kernel
theorem dX0_take_101 : decode cX0_take 101 = .ok (.iconst 1, 1) := by decide +kernel
theorem dX0_take_102 : decode cX0_take 102 = .ok (.ireturn, 1) := by decide +kernel
theorem dX0_copyFrom_0 : decode cX0_copyFrom 0 = .ok (.aload_n 0, 1) := by decide +kernel
theorem dX0_copyFrom_1 : decode cX0_copyFrom 1 = .ok (.aload_n 1, 1) := by decide +kernel
theorem dX0_copyFrom_2 : decode cX0_copyFrom 2 = .ok (.getfield 19, 3) := by decide +kernel
theorem dX0_copyFrom_5 : decode cX0_copyFrom 5 = .ok (.putfield 19, 3) := by decide +kernel
theorem dX0_copyFrom_8 : decode cX0_copyFrom 8 = .ok (.aload_n 0, 1) := by decide +kernel
theorem dX0_copyFrom_9 : decode cX0_copyFrom 9 = .ok (.aload_n 1, 1) := by decide +kernel
theorem dX0_copyFrom_10 : decode cX0_copyFrom 10 = .ok (.getfield 22, 3) := by decide +kernel
theorem dX0_copyFrom_13 : decode cX0_copyFrom 13 = .ok (.putfield 22, 3) := by decide +kernel
theorem dX0_copyFrom_16 : decode cX0_copyFrom 16 = .ok (.aload_n 0, 1) := by decide +kernel
theorem dX0_copyFrom_17 : decode cX0_copyFrom 17 = .ok (.aload_n 1, 1) := by decide +kernel
theorem dX0_copyFrom_18 : decode cX0_copyFrom 18 = .ok (.getfield 15, 3) := by decide +kernel
theorem dX0_copyFrom_21 : decode cX0_copyFrom 21 = .ok (.putfield 15, 3) := by decide +kernel
theorem dX0_copyFrom_24 : decode cX0_copyFrom 24 = .ok (.aload_n 1, 1) := by decide +kernel
theorem dX0_copyFrom_25 : decode cX0_copyFrom 25 = .ok (.getfield 9, 3) := by decide +kernel
theorem dX0_copyFrom_28 : decode cX0_copyFrom 28 = .ok (.iconst 0, 1) := by decide +kernel
theorem dX0_copyFrom_29 : decode cX0_copyFrom 29 = .ok (.aload_n 0, 1) := by decide +kernel
theorem dX0_copyFrom_30 : decode cX0_copyFrom 30 = .ok (.getfield 9, 3) := by decide +kernel
theorem dX0_copyFrom_33 : decode cX0_copyFrom 33 = .ok (.iconst 0, 1) := by decide +kernel
theorem dX0_copyFrom_34 : decode cX0_copyFrom 34 = .ok (.aload_n 0, 1) := by decide +kernel
theorem dX0_copyFrom_35 : decode cX0_copyFrom 35 = .ok (.getfield 9, 3) := by decide +kernel
theorem dX0_copyFrom_38 : decode cX0_copyFrom 38 = .ok (.arraylength, 1) := by decide +kernel
theorem dX0_copyFrom_39 : decode cX0_copyFrom 39 = .ok (.invokestatic 31, 3) := by decide +kernel
theorem dX0_copyFrom_42 : decode cX0_copyFrom 42 = .ok (.return_, 1) := by decide +kernel
set_option maxRecDepth 20000 in
theorem ggX2_init_X1_init : GoodIn wsX2_init wsX1_init := goodIn_r _ [13, 14, 2, 3, 15, 16, 17, 18, 19, 20, 21, 49, 50, 51, 52, 53, 27, 28, 29, 30, 31, 32, 33, 34, 35, 36, 37, 38, 39, 40] (by decide +kernel) (by decide +kernel)
set_option maxRecDepth 20000 in
theorem gX2_init_X1_init_n9 : GoodIn wsX2_init (wsX1_init) := ggX2_init_X1_init
set_option maxRecDepth 20000 in
theorem ggX2_init_X0_init : GoodIn wsX2_init wsX0_init := goodIn_r _ [23, 24, 2, 3, 25, 26, 45, 46, 47, 48] (by decide +kernel) (by decide +kernel)
set_option maxRecDepth 20000 in
theorem gX2_init_X0_init_n18 : GoodIn wsX2_init (wsX0_init) := ggX2_init_X0_init
theorem dX2_init_0 : decode cX2_init 0 = .ok (.aload_n 0, 1) := by decide +kernel
theorem dX2_init_1 : decode cX2_init 1 = .ok (.invokespecial 1, 3) := by decide +kernel
theorem dX2_init_4 : decode cX2_init 4 = .ok (.aload_n 0, 1) := by decide +kernel
theorem dX2_init_5 : decode cX2_init 5 = .ok (.new 7, 3) := by decide +kernel
theorem dX2_init_8 : decode cX2_init 8 = .ok (.dup, 1) := by decide +kernel
theorem dX2_init_9 : decode cX2_init 9 = .ok (.invokespecial 9, 3) := by decide +kernel
theorem dX2_init_12 : decode cX2_init 12 = .ok (.putfield 10, 3) := by decide +kernel
theorem dX2_init_15 : decode cX2_init 15 = .ok (.aload_n 0, 1) := by decide +kernel
theorem dX2_init_16 : decode cX2_init 16 = .ok (.new 16, 3) := by decide +kernel
theorem dX2_init_19 : decode cX2_init 19 = .ok (.dup, 1) := by decide +kernel
theorem dX2_init_20 : decode cX2_init 20 = .ok (.invokespecial 18, 3) := by decide +kernel
theorem dX2_init_23 : decode cX2_init 23 = .ok (.putfield 19, 3) := by decide +kernel
theorem dX2_init_26 : decode cX2_init 26 = .ok (.return_, 1) := by decide +kernel
theorem dX2_unread_0 : decode cX2_unread 0 = .ok (.aload_n 0, 1) := by decide +kernel
theorem dX2_unread_1 : decode cX2_unread 1 = .ok (.getfield 19, 3) := by decide +kernel
theorem dX2_unread_4 : decode cX2_unread 4 = .ok (.getfield 23, 3) := by decide +kernel
theorem dX2_unread_7 : decode cX2_unread 7 = .ok (.aload_n 0, 1) := by decide +kernel
theorem dX2_unread_8 : decode cX2_unread 8 = .ok (.getfield 10, 3) := by decide +kernel
theorem dX2_unread_11 : decode cX2_unread 11 = .ok (.getfield 27, 3) := by decide +kernel
theorem dX2_unread_14 : decode cX2_unread 14 = .ok (.invokestatic 30, 3) := by decide +kernel
theorem dX2_unread_17 : decode cX2_unread 17 = .ok (.aload_n 0, 1) := by decide +kernel
theorem dX2_unread_18 : decode cX2_unread 18 = .ok (.getfield 19, 3) := by decide +kernel
theorem dX2_unread_21 : decode cX2_unread 21 = .ok (.getfield 36, 3) := by decide +kernel
theorem dX2_unread_24 : decode cX2_unread 24 = .ok (.isub, 1) := by decide +kernel
theorem dX2_unread_25 : decode cX2_unread 25 = .ok (.ireturn, 1) := by decide +kernel
set_option maxRecDepth 20000 in
theorem ggX2_copyFrom_X1_copyFrom : GoodIn wsX2_copyFrom wsX1_copyFrom := goodIn_r _ [9, 10, 11, 12, 13, 14, 15, 16, 17, 18, 19, 20, 21, 22, 23, 24, 25, 26, 27, 28, 29, 30, 31, 32, 33, 51, 52, 53, 54, 55, 56, 57, 58, 59, 60, 61, 62, 63, 64, 65, 66, 67, 68, 69] (by decide +kernel) (by decide +kernel)
set_option maxRecDepth 20000 in
theorem gX2_copyFrom_X1_copyFrom : GoodIn wsX2_copyFrom (wsV RX2 45 RX1 yX1_copyFrom wsX1_copyFrom) := goodIn_app (goodIn_of _ (by decide +kernel)) ggX2_copyFrom_X1_copyFrom
set_option maxRecDepth 20000 in
theorem ggX2_copyFrom_X0_copyFrom : GoodIn wsX2_copyFrom wsX0_copyFrom := goodIn_r _ [38, 39, 40, 41, 42, 43, 44, 45, 46, 70, 71, 72, 73] (by decide +kernel) (by decide +kernel)
set_option maxRecDepth 20000 in
theorem gX2_copyFrom_X0_copyFrom : GoodIn wsX2_copyFrom (wsV RX2 49 RX0 yX0_copyFrom wsX0_copyFrom) := goodIn_app (goodIn_of _ (by decide +kernel)) ggX2_copyFrom_X0_copyFrom
theorem dX2_copyFrom_0 : decode cX2_copyFrom 0 = .ok (.aload_n 0, 1) := by decide +kernel
theorem dX2_copyFrom_1 : decode cX2_copyFrom 1 = .ok (.aload_n 1, 1) := by decide +kernel
theorem dX2_copyFrom_2 : decode cX2_copyFrom 2 = .ok (.getfield 39, 3) := by decide +kernel
theorem dX2_copyFrom_5 : decode cX2_copyFrom 5 = .ok (.putfield 39, 3) := by decide +kernel
theorem dX2_copyFrom_8 : decode cX2_copyFrom 8 = .ok (.aload_n 0, 1) := by decide +kernel
theorem dX2_copyFrom_9 : decode cX2_copyFrom 9 = .ok (.aload_n 1, 1) := by decide +kernel
theorem dX2_copyFrom_10 : decode cX2_copyFrom 10 = .ok (.getfield 42, 3) := by decide +kernel
theorem dX2_copyFrom_13 : decode cX2_copyFrom 13 = .ok (.putfield 42, 3) := by decide +kernel
theorem dX2_copyFrom_16 : decode cX2_copyFrom 16 = .ok (.aload_n 0, 1) := by decide +kernel
theorem dX2_copyFrom_17 : decode cX2_copyFrom 17 = .ok (.getfield 10, 3) := by decide +kernel
theorem dX2_copyFrom_20 : decode cX2_copyFrom 20 = .ok (.aload_n 1, 1) := by decide +kernel
theorem dX2_copyFrom_21 : decode cX2_copyFrom 21 = .ok (.getfield 10, 3) := by decide +kernel
theorem dX2_copyFrom_24 : decode cX2_copyFrom 24 = .ok (.invokevirtual 45, 3) := by decide +kernel
theorem dX2_copyFrom_27 : decode cX2_copyFrom 27 = .ok (.aload_n 0, 1) := by decide +kernel
theorem dX2_copyFrom_28 : decode cX2_copyFrom 28 = .ok (.getfield 19, 3) := by decide +kernel
theorem dX2_copyFrom_31 : decode cX2_copyFrom 31 = .ok (.aload_n 1, 1) := by decide +kernel
theorem dX2_copyFrom_32 : decode cX2_copyFrom 32 = .ok (.getfield 19, 3) := by decide +kernel
theorem dX2_copyFrom_35 : decode cX2_copyFrom 35 = .ok (.invokevirtual 49, 3) := by decide +kernel
theorem dX2_copyFrom_38 : decode cX2_copyFrom 38 = .ok (.return_, 1) := by decide +kernel
theorem dX4_of_0 : decode cX4_of 0 = .ok (.iload_n 0, 1) := by decide +kernel
theorem dX4_of_1 : decode cX4_of 1 = .ok (.bipush 15, 2) := by decide +kernel
theorem dX4_of_3 : decode cX4_of 3 = .ok (.ishl, 1) := by decide +kernel
theorem dX4_of_4 : decode cX4_of 4 = .ok (.iload_n 1, 1) := by decide +kernel
theorem dX4_of_5 : decode cX4_of 5 = .ok (.bipush 13, 2) := by decide +kernel
theorem dX4_of_7 : decode cX4_of 7 = .ok (.ishl, 1) := by decide +kernel
theorem dX4_of_8 : decode cX4_of 8 = .ok (.ior, 1) := by decide +kernel
theorem dX4_of_9 : decode cX4_of 9 = .ok (.iload_n 2, 1) := by decide +kernel
theorem dX4_of_10 : decode cX4_of 10 = .ok (.iconst 5, 1) := by decide +kernel
theorem dX4_of_11 : decode cX4_of 11 = .ok (.ishl, 1) := by decide +kernel
theorem dX4_of_12 : decode cX4_of 12 = .ok (.ior, 1) := by decide +kernel
theorem dX4_of_13 : decode cX4_of 13 = .ok (.iload_n 3, 1) := by decide +kernel
theorem dX4_of_14 : decode cX4_of 14 = .ok (.ior, 1) := by decide +kernel
theorem dX4_of_15 : decode cX4_of 15 = .ok (.ireturn, 1) := by decide +kernel
theorem dX4_hopsOf_0 : decode cX4_hopsOf 0 = .ok (.iload_n 0, 1) := by decide +kernel
theorem dX4_hopsOf_1 : decode cX4_hopsOf 1 = .ok (.bipush 18, 2) := by decide +kernel
theorem dX4_hopsOf_3 : decode cX4_hopsOf 3 = .ok (.ishr, 1) := by decide +kernel
theorem dX4_hopsOf_4 : decode cX4_hopsOf 4 = .ok (.ireturn, 1) := by decide +kernel
theorem dX4_connectionOf_0 : decode cX4_connectionOf 0 = .ok (.iload_n 0, 1) := by decide +kernel
theorem dX4_connectionOf_1 : decode cX4_connectionOf 1 = .ok (.bipush 15, 2) := by decide +kernel
theorem dX4_connectionOf_3 : decode cX4_connectionOf 3 = .ok (.ishr, 1) := by decide +kernel
theorem dX4_connectionOf_4 : decode cX4_connectionOf 4 = .ok (.bipush 7, 2) := by decide +kernel
theorem dX4_connectionOf_6 : decode cX4_connectionOf 6 = .ok (.iand, 1) := by decide +kernel
theorem dX4_connectionOf_7 : decode cX4_connectionOf 7 = .ok (.ireturn, 1) := by decide +kernel
theorem dX4_kindOf_0 : decode cX4_kindOf 0 = .ok (.iload_n 0, 1) := by decide +kernel
theorem dX4_kindOf_1 : decode cX4_kindOf 1 = .ok (.bipush 13, 2) := by decide +kernel
theorem dX4_kindOf_3 : decode cX4_kindOf 3 = .ok (.ishr, 1) := by decide +kernel
theorem dX4_kindOf_4 : decode cX4_kindOf 4 = .ok (.iconst 3, 1) := by decide +kernel
theorem dX4_kindOf_5 : decode cX4_kindOf 5 = .ok (.iand, 1) := by decide +kernel
theorem dX4_kindOf_6 : decode cX4_kindOf 6 = .ok (.ireturn, 1) := by decide +kernel
theorem dX4_numberOf_0 : decode cX4_numberOf 0 = .ok (.iload_n 0, 1) := by decide +kernel
theorem dX4_numberOf_1 : decode cX4_numberOf 1 = .ok (.iconst 5, 1) := by decide +kernel
theorem dX4_numberOf_2 : decode cX4_numberOf 2 = .ok (.ishr, 1) := by decide +kernel
theorem dX4_numberOf_3 : decode cX4_numberOf 3 = .ok (.sipush 255, 3) := by decide +kernel
theorem dX4_numberOf_6 : decode cX4_numberOf 6 = .ok (.iand, 1) := by decide +kernel
theorem dX4_numberOf_7 : decode cX4_numberOf 7 = .ok (.ireturn, 1) := by decide +kernel
theorem dX4_roomOf_0 : decode cX4_roomOf 0 = .ok (.iload_n 0, 1) := by decide +kernel
theorem dX4_roomOf_1 : decode cX4_roomOf 1 = .ok (.bipush 31, 2) := by decide +kernel
theorem dX4_roomOf_3 : decode cX4_roomOf 3 = .ok (.iand, 1) := by decide +kernel
theorem dX4_roomOf_4 : decode cX4_roomOf 4 = .ok (.ireturn, 1) := by decide +kernel
theorem dX5_init_0 : decode cX5_init 0 = .ok (.aload_n 0, 1) := by decide +kernel
theorem dX5_init_1 : decode cX5_init 1 = .ok (.invokespecial 3, 3) := by decide +kernel
theorem dX5_init_4 : decode cX5_init 4 = .ok (.return_, 1) := by decide +kernel
theorem dX5_begin_0 : decode cX5_begin 0 = .ok (.aload_n 0, 1) := by decide +kernel
theorem dX5_begin_1 : decode cX5_begin 1 = .ok (.iconst 0, 1) := by decide +kernel
theorem dX5_begin_2 : decode cX5_begin 2 = .ok (.putfield 9, 3) := by decide +kernel
theorem dX5_begin_5 : decode cX5_begin 5 = .ok (.aload_n 0, 1) := by decide +kernel
theorem dX5_begin_6 : decode cX5_begin 6 = .ok (.iconst 0, 1) := by decide +kernel
theorem dX5_begin_7 : decode cX5_begin 7 = .ok (.putfield 15, 3) := by decide +kernel
theorem dX5_begin_10 : decode cX5_begin 10 = .ok (.aload_n 0, 1) := by decide +kernel
theorem dX5_begin_11 : decode cX5_begin 11 = .ok (.bipush 12, 2) := by decide +kernel
theorem dX5_begin_13 : decode cX5_begin 13 = .ok (.putfield 18, 3) := by decide +kernel
theorem dX5_begin_16 : decode cX5_begin 16 = .ok (.aload_n 0, 1) := by decide +kernel
theorem dX5_begin_17 : decode cX5_begin 17 = .ok (.iconst (-1), 1) := by decide +kernel
theorem dX5_begin_18 : decode cX5_begin 18 = .ok (.putfield 21, 3) := by decide +kernel
theorem dX5_begin_21 : decode cX5_begin 21 = .ok (.aload_n 0, 1) := by decide +kernel
theorem dX5_begin_22 : decode cX5_begin 22 = .ok (.iconst 0, 1) := by decide +kernel
theorem dX5_begin_23 : decode cX5_begin 23 = .ok (.putfield 24, 3) := by decide +kernel
theorem dX5_begin_26 : decode cX5_begin 26 = .ok (.return_, 1) := by decide +kernel
theorem dX5_sent_0 : decode cX5_sent 0 = .ok (.aload_n 0, 1) := by decide +kernel
theorem dX5_sent_1 : decode cX5_sent 1 = .ok (.getfield 21, 3) := by decide +kernel
theorem dX5_sent_4 : decode cX5_sent 4 = .ok (.iconst (-1), 1) := by decide +kernel
theorem dX5_sent_5 : decode cX5_sent 5 = .ok (.if_icmp .ne 13, 3) := by decide +kernel
theorem dX5_sent_8 : decode cX5_sent 8 = .ok (.aload_n 0, 1) := by decide +kernel
theorem dX5_sent_9 : decode cX5_sent 9 = .ok (.iload_n 1, 1) := by decide +kernel
theorem dX5_sent_10 : decode cX5_sent 10 = .ok (.putfield 21, 3) := by decide +kernel
theorem dX5_sent_13 : decode cX5_sent 13 = .ok (.aload_n 0, 1) := by decide +kernel
theorem dX5_sent_14 : decode cX5_sent 14 = .ok (.iload_n 2, 1) := by decide +kernel
theorem dX5_sent_15 : decode cX5_sent 15 = .ok (.putfield 24, 3) := by decide +kernel
theorem dX5_sent_18 : decode cX5_sent 18 = .ok (.return_, 1) := by decide +kernel
theorem dX5_sentTwice_0 : decode cX5_sentTwice 0 = .ok (.aload_n 0, 1) := by decide +kernel
theorem dX5_sentTwice_1 : decode cX5_sentTwice 1 = .ok (.getfield 21, 3) := by decide +kernel
theorem dX5_sentTwice_4 : decode cX5_sentTwice 4 = .ok (.iload_n 1, 1) := by decide +kernel
theorem dX5_sentTwice_5 : decode cX5_sentTwice 5 = .ok (.if_icmp .ne 8, 3) := by decide +kernel
theorem dX5_sentTwice_8 : decode cX5_sentTwice 8 = .ok (.aload_n 0, 1) := by decide +kernel
theorem dX5_sentTwice_9 : decode cX5_sentTwice 9 = .ok (.iconst (-1), 1) := by decide +kernel
theorem dX5_sentTwice_10 : decode cX5_sentTwice 10 = .ok (.putfield 21, 3) := by decide +kernel
theorem dX5_sentTwice_13 : decode cX5_sentTwice 13 = .ok (.return_, 1) := by decide +kernel
theorem dX5_answered_0 : decode cX5_answered 0 = .ok (.aload_n 0, 1) := by decide +kernel
theorem dX5_answered_1 : decode cX5_answered 1 = .ok (.getfield 21, 3) := by decide +kernel
theorem dX5_answered_4 : decode cX5_answered 4 = .ok (.iconst (-1), 1) := by decide +kernel
theorem dX5_answered_5 : decode cX5_answered 5 = .ok (.if_icmp .eq 11, 3) := by decide +kernel
theorem dX5_answered_8 : decode cX5_answered 8 = .ok (.aload_n 0, 1) := by decide +kernel
theorem dX5_answered_9 : decode cX5_answered 9 = .ok (.getfield 21, 3) := by decide +kernel
theorem dX5_answered_12 : decode cX5_answered 12 = .ok (.iload_n 1, 1) := by decide +kernel
theorem dX5_answered_13 : decode cX5_answered 13 = .ok (.if_icmp .lt 4, 3) := by decide +kernel
theorem dX5_answered_16 : decode cX5_answered 16 = .ok (.return_, 1) := by decide +kernel
theorem dX5_answered_17 : decode cX5_answered 17 = .ok (.iload_n 2, 1) := by decide +kernel
theorem dX5_answered_18 : decode cX5_answered 18 = .ok (.aload_n 0, 1) := by decide +kernel
theorem dX5_answered_19 : decode cX5_answered 19 = .ok (.getfield 24, 3) := by decide +kernel
theorem dX5_answered_22 : decode cX5_answered 22 = .ok (.isub, 1) := by decide +kernel
theorem dX5_answered_23 : decode cX5_answered 23 = .ok (.istore_n 3, 1) := by decide +kernel
theorem dX5_answered_24 : decode cX5_answered 24 = .ok (.aload_n 0, 1) := by decide +kernel
theorem dX5_answered_25 : decode cX5_answered 25 = .ok (.getfield 9, 3) := by decide +kernel
theorem dX5_answered_28 : decode cX5_answered 28 = .ok (.ifCond .ne 21, 3) := by decide +kernel
theorem dX5_answered_31 : decode cX5_answered 31 = .ok (.aload_n 0, 1) := by decide +kernel
theorem dX5_answered_32 : decode cX5_answered 32 = .ok (.bipush 8, 2) := by decide +kernel
theorem dX5_answered_34 : decode cX5_answered 34 = .ok (.iload_n 3, 1) := by decide +kernel
theorem dX5_answered_35 : decode cX5_answered 35 = .ok (.imul, 1) := by decide +kernel
theorem dX5_answered_36 : decode cX5_answered 36 = .ok (.putfield 9, 3) := by decide +kernel
theorem dX5_answered_39 : decode cX5_answered 39 = .ok (.aload_n 0, 1) := by decide +kernel
theorem dX5_answered_40 : decode cX5_answered 40 = .ok (.iconst 2, 1) := by decide +kernel
theorem dX5_answered_41 : decode cX5_answered 41 = .ok (.iload_n 3, 1) := by decide +kernel
theorem dX5_answered_42 : decode cX5_answered 42 = .ok (.imul, 1) := by decide +kernel
theorem dX5_answered_43 : decode cX5_answered 43 = .ok (.putfield 15, 3) := by decide +kernel
theorem dX5_answered_46 : decode cX5_answered 46 = .ok (.goto 46, 3) := by decide +kernel
theorem dX5_answered_49 : decode cX5_answered 49 = .ok (.iload_n 3, 1) := by decide +kernel
theorem dX5_answered_50 : decode cX5_answered 50 = .ok (.aload_n 0, 1) := by decide +kernel
theorem dX5_answered_51 : decode cX5_answered 51 = .ok (.getfield 9, 3) := by decide +kernel
theorem dX5_answered_54 : decode cX5_answered 54 = .ok (.bipush 8, 2) := by decide +kernel
theorem dX5_answered_56 : decode cX5_answered 56 = .ok (.idiv, 1) := by decide +kernel
theorem dX5_answered_57 : decode cX5_answered 57 = .ok (.isub, 1) := by decide +kernel
theorem dX5_answered_58 : decode cX5_answered 58 = .ok (.istore 4, 2) := by decide +kernel
theorem dX5_answered_60 : decode cX5_answered 60 = .ok (.aload_n 0, 1) := by decide +kernel
theorem dX5_answered_61 : decode cX5_answered 61 = .ok (.aload_n 0, 1) := by decide +kernel
theorem dX5_answered_62 : decode cX5_answered 62 = .ok (.getfield 15, 3) := by decide +kernel
theorem dX5_answered_65 : decode cX5_answered 65 = .ok (.iload 4, 2) := by decide +kernel
theorem dX5_answered_67 : decode cX5_answered 67 = .ok (.invokestatic 27, 3) := by decide +kernel
theorem dX5_answered_70 : decode cX5_answered 70 = .ok (.iadd, 1) := by decide +kernel
theorem dX5_answered_71 : decode cX5_answered 71 = .ok (.aload_n 0, 1) := by decide +kernel
theorem dX5_answered_72 : decode cX5_answered 72 = .ok (.getfield 15, 3) := by decide +kernel
theorem dX5_answered_75 : decode cX5_answered 75 = .ok (.iconst 4, 1) := by decide +kernel
theorem dX5_answered_76 : decode cX5_answered 76 = .ok (.idiv, 1) := by decide +kernel
theorem dX5_answered_77 : decode cX5_answered 77 = .ok (.isub, 1) := by decide +kernel
theorem dX5_answered_78 : decode cX5_answered 78 = .ok (.putfield 15, 3) := by decide +kernel
theorem dX5_answered_81 : decode cX5_answered 81 = .ok (.aload_n 0, 1) := by decide +kernel
theorem dX5_answered_82 : decode cX5_answered 82 = .ok (.aload_n 0, 1) := by decide +kernel
theorem dX5_answered_83 : decode cX5_answered 83 = .ok (.getfield 9, 3) := by decide +kernel
theorem dX5_answered_86 : decode cX5_answered 86 = .ok (.iload 4, 2) := by decide +kernel
theorem dX5_answered_88 : decode cX5_answered 88 = .ok (.iadd, 1) := by decide +kernel
theorem dX5_answered_89 : decode cX5_answered 89 = .ok (.putfield 9, 3) := by decide +kernel
theorem dX5_answered_92 : decode cX5_answered 92 = .ok (.aload_n 0, 1) := by decide +kernel
theorem dX5_answered_93 : decode cX5_answered 93 = .ok (.bipush 60, 2) := by decide +kernel
theorem dX5_answered_95 : decode cX5_answered 95 = .ok (.iconst 3, 1) := by decide +kernel
theorem dX5_answered_96 : decode cX5_answered 96 = .ok (.aload_n 0, 1) := by decide +kernel
theorem dX5_answered_97 : decode cX5_answered 97 = .ok (.getfield 9, 3) := by decide +kernel
theorem dX5_answered_100 : decode cX5_answered 100 = .ok (.bipush 8, 2) := by decide +kernel
theorem dX5_answered_102 : decode cX5_answered 102 = .ok (.idiv, 1) := by decide +kernel
theorem dX5_answered_103 : decode cX5_answered 103 = .ok (.aload_n 0, 1) := by decide +kernel
theorem dX5_answered_104 : decode cX5_answered 104 = .ok (.getfield 15, 3) := by decide +kernel
theorem dX5_answered_107 : decode cX5_answered 107 = .ok (.iadd, 1) := by decide +kernel
theorem dX5_answered_108 : decode cX5_answered 108 = .ok (.invokestatic 33, 3) := by decide +kernel
theorem dX5_answered_111 : decode cX5_answered 111 = .ok (.invokestatic 37, 3) := by decide +kernel
theorem dX5_answered_114 : decode cX5_answered 114 = .ok (.putfield 18, 3) := by decide +kernel
theorem dX5_answered_117 : decode cX5_answered 117 = .ok (.aload_n 0, 1) := by decide +kernel
theorem dX5_answered_118 : decode cX5_answered 118 = .ok (.iconst (-1), 1) := by decide +kernel
theorem dX5_answered_119 : decode cX5_answered 119 = .ok (.putfield 21, 3) := by decide +kernel
theorem dX5_answered_122 : decode cX5_answered 122 = .ok (.return_, 1) := by decide +kernel
theorem dX5_backOff_0 : decode cX5_backOff 0 = .ok (.aload_n 0, 1) := by decide +kernel
theorem dX5_backOff_1 : decode cX5_backOff 1 = .ok (.bipush 60, 2) := by decide +kernel
theorem dX5_backOff_3 : decode cX5_backOff 3 = .ok (.iconst 2, 1) := by decide +kernel
theorem dX5_backOff_4 : decode cX5_backOff 4 = .ok (.aload_n 0, 1) := by decide +kernel
theorem dX5_backOff_5 : decode cX5_backOff 5 = .ok (.getfield 18, 3) := by decide +kernel
theorem dX5_backOff_8 : decode cX5_backOff 8 = .ok (.imul, 1) := by decide +kernel
theorem dX5_backOff_9 : decode cX5_backOff 9 = .ok (.invokestatic 37, 3) := by decide +kernel
theorem dX5_backOff_12 : decode cX5_backOff 12 = .ok (.putfield 18, 3) := by decide +kernel
theorem dX5_backOff_15 : decode cX5_backOff 15 = .ok (.aload_n 0, 1) := by decide +kernel
theorem dX5_backOff_16 : decode cX5_backOff 16 = .ok (.iconst (-1), 1) := by decide +kernel
theorem dX5_backOff_17 : decode cX5_backOff 17 = .ok (.putfield 21, 3) := by decide +kernel
theorem dX5_backOff_20 : decode cX5_backOff 20 = .ok (.return_, 1) := by decide +kernel
theorem dX5_copyFrom_0 : decode cX5_copyFrom 0 = .ok (.aload_n 0, 1) := by decide +kernel
theorem dX5_copyFrom_1 : decode cX5_copyFrom 1 = .ok (.aload_n 1, 1) := by decide +kernel
theorem dX5_copyFrom_2 : decode cX5_copyFrom 2 = .ok (.getfield 9, 3) := by decide +kernel
theorem dX5_copyFrom_5 : decode cX5_copyFrom 5 = .ok (.putfield 9, 3) := by decide +kernel
theorem dX5_copyFrom_8 : decode cX5_copyFrom 8 = .ok (.aload_n 0, 1) := by decide +kernel
theorem dX5_copyFrom_9 : decode cX5_copyFrom 9 = .ok (.aload_n 1, 1) := by decide +kernel
theorem dX5_copyFrom_10 : decode cX5_copyFrom 10 = .ok (.getfield 15, 3) := by decide +kernel
theorem dX5_copyFrom_13 : decode cX5_copyFrom 13 = .ok (.putfield 15, 3) := by decide +kernel
theorem dX5_copyFrom_16 : decode cX5_copyFrom 16 = .ok (.aload_n 0, 1) := by decide +kernel
theorem dX5_copyFrom_17 : decode cX5_copyFrom 17 = .ok (.aload_n 1, 1) := by decide +kernel
theorem dX5_copyFrom_18 : decode cX5_copyFrom 18 = .ok (.getfield 18, 3) := by decide +kernel
theorem dX5_copyFrom_21 : decode cX5_copyFrom 21 = .ok (.putfield 18, 3) := by decide +kernel
theorem dX5_copyFrom_24 : decode cX5_copyFrom 24 = .ok (.aload_n 0, 1) := by decide +kernel
theorem dX5_copyFrom_25 : decode cX5_copyFrom 25 = .ok (.aload_n 1, 1) := by decide +kernel
theorem dX5_copyFrom_26 : decode cX5_copyFrom 26 = .ok (.getfield 21, 3) := by decide +kernel
theorem dX5_copyFrom_29 : decode cX5_copyFrom 29 = .ok (.putfield 21, 3) := by decide +kernel
theorem dX5_copyFrom_32 : decode cX5_copyFrom 32 = .ok (.aload_n 0, 1) := by decide +kernel
theorem dX5_copyFrom_33 : decode cX5_copyFrom 33 = .ok (.aload_n 1, 1) := by decide +kernel
theorem dX5_copyFrom_34 : decode cX5_copyFrom 34 = .ok (.getfield 24, 3) := by decide +kernel
theorem dX5_copyFrom_37 : decode cX5_copyFrom 37 = .ok (.putfield 24, 3) := by decide +kernel
theorem dX5_copyFrom_40 : decode cX5_copyFrom 40 = .ok (.return_, 1) := by decide +kernel
theorem dX7_init_0 : decode cX7_init 0 = .ok (.aload_n 0, 1) := by decide +kernel
theorem dX7_init_1 : decode cX7_init 1 = .ok (.invokespecial 3, 3) := by decide +kernel
theorem dX7_init_4 : decode cX7_init 4 = .ok (.aload_n 0, 1) := by decide +kernel
theorem dX7_init_5 : decode cX7_init 5 = .ok (.bipush 20, 2) := by decide +kernel
theorem dX7_init_7 : decode cX7_init 7 = .ok (.newarray .int, 2) := by decide +kernel
theorem dX7_init_9 : decode cX7_init 9 = .ok (.putfield 9, 3) := by decide +kernel
theorem dX7_init_12 : decode cX7_init 12 = .ok (.aload_n 0, 1) := by decide +kernel
theorem dX7_init_13 : decode cX7_init 13 = .ok (.bipush 10, 2) := by decide +kernel
theorem dX7_init_15 : decode cX7_init 15 = .ok (.newarray .int, 2) := by decide +kernel
theorem dX7_init_17 : decode cX7_init 17 = .ok (.putfield 15, 3) := by decide +kernel
theorem dX7_init_20 : decode cX7_init 20 = .ok (.iconst 0, 1) := by decide +kernel
theorem dX7_init_21 : decode cX7_init 21 = .ok (.istore_n 1, 1) := by decide +kernel
theorem dX7_init_22 : decode cX7_init 22 = .ok (.iload_n 1, 1) := by decide +kernel
theorem dX7_init_23 : decode cX7_init 23 = .ok (.bipush 10, 2) := by decide +kernel
theorem dX7_init_25 : decode cX7_init 25 = .ok (.if_icmp .ge 16, 3) := by decide +kernel
theorem dX7_init_28 : decode cX7_init 28 = .ok (.aload_n 0, 1) := by decide +kernel
theorem dX7_init_29 : decode cX7_init 29 = .ok (.getfield 15, 3) := by decide +kernel
theorem dX7_init_32 : decode cX7_init 32 = .ok (.iload_n 1, 1) := by decide +kernel
theorem dX7_init_33 : decode cX7_init 33 = .ok (.iconst (-1), 1) := by decide +kernel
theorem dX7_init_34 : decode cX7_init 34 = .ok (.iastore, 1) := by decide +kernel
theorem dX7_init_35 : decode cX7_init 35 = .ok (.iinc 1 1, 3) := by decide +kernel
theorem dX7_init_38 : decode cX7_init 38 = .ok (.goto (-16), 3) := by decide +kernel
theorem dX7_init_41 : decode cX7_init 41 = .ok (.return_, 1) := by decide +kernel
theorem dX7_join_0 : decode cX7_join 0 = .ok (.aload_n 0, 1) := by decide +kernel
theorem dX7_join_1 : decode cX7_join 1 = .ok (.getfield 18, 3) := by decide +kernel
theorem dX7_join_4 : decode cX7_join 4 = .ok (.iload_n 2, 1) := by decide +kernel
theorem dX7_join_5 : decode cX7_join 5 = .ok (.if_icmp .ge 12, 3) := by decide +kernel
theorem dX7_join_8 : decode cX7_join 8 = .ok (.aload_n 0, 1) := by decide +kernel
theorem dX7_join_9 : decode cX7_join 9 = .ok (.getfield 18, 3) := by decide +kernel
theorem dX7_join_12 : decode cX7_join 12 = .ok (.bipush 20, 2) := by decide +kernel
theorem dX7_join_14 : decode cX7_join 14 = .ok (.if_icmp .lt 5, 3) := by decide +kernel
theorem dX7_join_17 : decode cX7_join 17 = .ok (.iconst 0, 1) := by decide +kernel
theorem dX7_join_18 : decode cX7_join 18 = .ok (.ireturn, 1) := by decide +kernel
theorem dX7_join_19 : decode cX7_join 19 = .ok (.aload_n 0, 1) := by decide +kernel
theorem dX7_join_20 : decode cX7_join 20 = .ok (.getfield 9, 3) := by decide +kernel
theorem dX7_join_23 : decode cX7_join 23 = .ok (.aload_n 0, 1) := by decide +kernel
theorem dX7_join_24 : decode cX7_join 24 = .ok (.getfield 22, 3) := by decide +kernel
theorem dX7_join_27 : decode cX7_join 27 = .ok (.aload_n 0, 1) := by decide +kernel
theorem dX7_join_28 : decode cX7_join 28 = .ok (.getfield 18, 3) := by decide +kernel
theorem dX7_join_31 : decode cX7_join 31 = .ok (.iadd, 1) := by decide +kernel
theorem dX7_join_32 : decode cX7_join 32 = .ok (.bipush 20, 2) := by decide +kernel
theorem dX7_join_34 : decode cX7_join 34 = .ok (.irem, 1) := by decide +kernel
theorem dX7_join_35 : decode cX7_join 35 = .ok (.iload_n 1, 1) := by decide +kernel
theorem dX7_join_36 : decode cX7_join 36 = .ok (.iastore, 1) := by decide +kernel
theorem dX7_join_37 : decode cX7_join 37 = .ok (.aload_n 0, 1) := by decide +kernel
theorem dX7_join_38 : decode cX7_join 38 = .ok (.dup, 1) := by decide +kernel
theorem dX7_join_39 : decode cX7_join 39 = .ok (.getfield 18, 3) := by decide +kernel
theorem dX7_join_42 : decode cX7_join 42 = .ok (.iconst 1, 1) := by decide +kernel
theorem dX7_join_43 : decode cX7_join 43 = .ok (.iadd, 1) := by decide +kernel
theorem dX7_join_44 : decode cX7_join 44 = .ok (.putfield 18, 3) := by decide +kernel
theorem dX7_join_47 : decode cX7_join 47 = .ok (.iconst 1, 1) := by decide +kernel
theorem dX7_join_48 : decode cX7_join 48 = .ok (.ireturn, 1) := by decide +kernel
set_option maxRecDepth 20000 in
theorem ggX7_takeOff_J9_floorMod_7cf53 : GoodIn wsX7_takeOff wsJ9_floorMod_7cf53 := goodIn_r _ [12] (by decide +kernel) (by decide +kernel)
set_option maxRecDepth 20000 in
theorem gX7_takeOff_J9_floorMod_7cf53 : GoodIn wsX7_takeOff (va_wsS RX7 28 yJ9_floorMod_7cf53 wsJ9_floorMod_7cf53) := goodIn_app (goodIn_of _ (by decide +kernel)) ggX7_takeOff_J9_floorMod_7cf53
theorem dX7_takeOff_0 : decode cX7_takeOff 0 = .ok (.aload_n 0, 1) := by decide +kernel
theorem dX7_takeOff_1 : decode cX7_takeOff 1 = .ok (.getfield 18, 3) := by decide +kernel
theorem dX7_takeOff_4 : decode cX7_takeOff 4 = .ok (.ifCond .ne 5, 3) := by decide +kernel
theorem dX7_takeOff_7 : decode cX7_takeOff 7 = .ok (.iconst 0, 1) := by decide +kernel
theorem dX7_takeOff_8 : decode cX7_takeOff 8 = .ok (.ireturn, 1) := by decide +kernel
theorem dX7_takeOff_9 : decode cX7_takeOff 9 = .ok (.aload_n 0, 1) := by decide +kernel
theorem dX7_takeOff_10 : decode cX7_takeOff 10 = .ok (.getfield 9, 3) := by decide +kernel
theorem dX7_takeOff_13 : decode cX7_takeOff 13 = .ok (.aload_n 0, 1) := by decide +kernel
theorem dX7_takeOff_14 : decode cX7_takeOff 14 = .ok (.getfield 22, 3) := by decide +kernel
theorem dX7_takeOff_17 : decode cX7_takeOff 17 = .ok (.iaload, 1) := by decide +kernel
theorem dX7_takeOff_18 : decode cX7_takeOff 18 = .ok (.istore_n 2, 1) := by decide +kernel
theorem dX7_takeOff_19 : decode cX7_takeOff 19 = .ok (.aload_n 0, 1) := by decide +kernel
theorem dX7_takeOff_20 : decode cX7_takeOff 20 = .ok (.aload_n 0, 1) := by decide +kernel
theorem dX7_takeOff_21 : decode cX7_takeOff 21 = .ok (.getfield 22, 3) := by decide +kernel
theorem dX7_takeOff_24 : decode cX7_takeOff 24 = .ok (.iconst 1, 1) := by decide +kernel
theorem dX7_takeOff_25 : decode cX7_takeOff 25 = .ok (.iadd, 1) := by decide +kernel
theorem dX7_takeOff_26 : decode cX7_takeOff 26 = .ok (.bipush 20, 2) := by decide +kernel
theorem dX7_takeOff_28 : decode cX7_takeOff 28 = .ok (.irem, 1) := by decide +kernel
theorem dX7_takeOff_29 : decode cX7_takeOff 29 = .ok (.putfield 22, 3) := by decide +kernel
theorem dX7_takeOff_32 : decode cX7_takeOff 32 = .ok (.aload_n 0, 1) := by decide +kernel
theorem dX7_takeOff_33 : decode cX7_takeOff 33 = .ok (.dup, 1) := by decide +kernel
theorem dX7_takeOff_34 : decode cX7_takeOff 34 = .ok (.getfield 18, 3) := by decide +kernel
theorem dX7_takeOff_37 : decode cX7_takeOff 37 = .ok (.iconst 1, 1) := by decide +kernel
theorem dX7_takeOff_38 : decode cX7_takeOff 38 = .ok (.isub, 1) := by decide +kernel
theorem dX7_takeOff_39 : decode cX7_takeOff 39 = .ok (.putfield 18, 3) := by decide +kernel
theorem dX7_takeOff_42 : decode cX7_takeOff 42 = .ok (.aload_n 0, 1) := by decide +kernel
theorem dX7_takeOff_43 : decode cX7_takeOff 43 = .ok (.getfield 25, 3) := by decide +kernel
theorem dX7_takeOff_46 : decode cX7_takeOff 46 = .ok (.ifCond .le 15, 3) := by decide +kernel
theorem dX7_takeOff_49 : decode cX7_takeOff 49 = .ok (.aload_n 0, 1) := by decide +kernel
theorem dX7_takeOff_50 : decode cX7_takeOff 50 = .ok (.dup, 1) := by decide +kernel
theorem dX7_takeOff_51 : decode cX7_takeOff 51 = .ok (.getfield 25, 3) := by decide +kernel
theorem dX7_takeOff_54 : decode cX7_takeOff 54 = .ok (.iconst 1, 1) := by decide +kernel
theorem dX7_takeOff_55 : decode cX7_takeOff 55 = .ok (.isub, 1) := by decide +kernel
theorem dX7_takeOff_56 : decode cX7_takeOff 56 = .ok (.putfield 25, 3) := by decide +kernel
theorem dX7_takeOff_59 : decode cX7_takeOff 59 = .ok (.iconst 1, 1) := by decide +kernel
theorem dX7_takeOff_60 : decode cX7_takeOff 60 = .ok (.ireturn, 1) := by decide +kernel
theorem dX7_takeOff_61 : decode cX7_takeOff 61 = .ok (.aload_n 0, 1) := by decide +kernel
theorem dX7_takeOff_62 : decode cX7_takeOff 62 = .ok (.getfield 15, 3) := by decide +kernel
theorem dX7_takeOff_65 : decode cX7_takeOff 65 = .ok (.iload_n 1, 1) := by decide +kernel
theorem dX7_takeOff_66 : decode cX7_takeOff 66 = .ok (.bipush 10, 2) := by decide +kernel
theorem dX7_takeOff_68 : decode cX7_takeOff 68 = .ok (.invokestatic 28, 3) := by decide +kernel
theorem dX7_takeOff_71 : decode cX7_takeOff 71 = .ok (.iload_n 2, 1) := by decide +kernel
theorem dX7_takeOff_72 : decode cX7_takeOff 72 = .ok (.ldc 36, 2) := by decide +kernel
theorem dX7_takeOff_74 : decode cX7_takeOff 74 = .ok (.iadd, 1) := by decide +kernel
theorem dX7_takeOff_75 : decode cX7_takeOff 75 = .ok (.iastore, 1) := by decide +kernel
theorem dX7_takeOff_76 : decode cX7_takeOff 76 = .ok (.aload_n 0, 1) := by decide +kernel
theorem dX7_takeOff_77 : decode cX7_takeOff 77 = .ok (.dup, 1) := by decide +kernel
theorem dX7_takeOff_78 : decode cX7_takeOff 78 = .ok (.getfield 37, 3) := by decide +kernel
theorem dX7_takeOff_81 : decode cX7_takeOff 81 = .ok (.iconst 1, 1) := by decide +kernel
theorem dX7_takeOff_82 : decode cX7_takeOff 82 = .ok (.iadd, 1) := by decide +kernel
theorem dX7_takeOff_83 : decode cX7_takeOff 83 = .ok (.putfield 37, 3) := by decide +kernel
theorem dX7_takeOff_86 : decode cX7_takeOff 86 = .ok (.aload_n 0, 1) := by decide +kernel
theorem dX7_takeOff_87 : decode cX7_takeOff 87 = .ok (.dup, 1) := by decide +kernel
theorem dX7_takeOff_88 : decode cX7_takeOff 88 = .ok (.getfield 40, 3) := by decide +kernel
theorem dX7_takeOff_91 : decode cX7_takeOff 91 = .ok (.iconst 1, 1) := by decide +kernel
theorem dX7_takeOff_92 : decode cX7_takeOff 92 = .ok (.iadd, 1) := by decide +kernel
theorem dX7_takeOff_93 : decode cX7_takeOff 93 = .ok (.putfield 40, 3) := by decide +kernel
theorem dX7_takeOff_96 : decode cX7_takeOff 96 = .ok (.iconst 0, 1) := by decide +kernel
theorem dX7_takeOff_97 : decode cX7_takeOff 97 = .ok (.ireturn, 1) := by decide +kernel
set_option maxRecDepth 20000 in
theorem ggX7_land_J9_floorMod_7cf53 : GoodIn wsX7_land wsJ9_floorMod_7cf53 := goodIn_r _ [6] (by decide +kernel) (by decide +kernel)
set_option maxRecDepth 20000 in
theorem gX7_land_J9_floorMod_7cf53 : GoodIn wsX7_land (va_wsS RX7 28 yJ9_floorMod_7cf53 wsJ9_floorMod_7cf53) := goodIn_app (goodIn_of _ (by decide +kernel)) ggX7_land_J9_floorMod_7cf53
theorem dX7_land_0 : decode cX7_land 0 = .ok (.iload_n 1, 1) := by decide +kernel
theorem dX7_land_1 : decode cX7_land 1 = .ok (.bipush 10, 2) := by decide +kernel
theorem dX7_land_3 : decode cX7_land 3 = .ok (.invokestatic 28, 3) := by decide +kernel
theorem dX7_land_6 : decode cX7_land 6 = .ok (.istore_n 2, 1) := by decide +kernel
theorem dX7_land_7 : decode cX7_land 7 = .ok (.aload_n 0, 1) := by decide +kernel
theorem dX7_land_8 : decode cX7_land 8 = .ok (.getfield 15, 3) := by decide +kernel
theorem dX7_land_11 : decode cX7_land 11 = .ok (.iload_n 2, 1) := by decide +kernel
theorem dX7_land_12 : decode cX7_land 12 = .ok (.iaload, 1) := by decide +kernel
theorem dX7_land_13 : decode cX7_land 13 = .ok (.istore_n 3, 1) := by decide +kernel
theorem dX7_land_14 : decode cX7_land 14 = .ok (.iload_n 3, 1) := by decide +kernel
theorem dX7_land_15 : decode cX7_land 15 = .ok (.iconst (-1), 1) := by decide +kernel
theorem dX7_land_16 : decode cX7_land 16 = .ok (.if_icmp .eq 20, 3) := by decide +kernel
theorem dX7_land_19 : decode cX7_land 19 = .ok (.aload_n 0, 1) := by decide +kernel
theorem dX7_land_20 : decode cX7_land 20 = .ok (.getfield 15, 3) := by decide +kernel
theorem dX7_land_23 : decode cX7_land 23 = .ok (.iload_n 2, 1) := by decide +kernel
theorem dX7_land_24 : decode cX7_land 24 = .ok (.iconst (-1), 1) := by decide +kernel
theorem dX7_land_25 : decode cX7_land 25 = .ok (.iastore, 1) := by decide +kernel
theorem dX7_land_26 : decode cX7_land 26 = .ok (.aload_n 0, 1) := by decide +kernel
theorem dX7_land_27 : decode cX7_land 27 = .ok (.dup, 1) := by decide +kernel
theorem dX7_land_28 : decode cX7_land 28 = .ok (.getfield 37, 3) := by decide +kernel
theorem dX7_land_31 : decode cX7_land 31 = .ok (.iconst 1, 1) := by decide +kernel
theorem dX7_land_32 : decode cX7_land 32 = .ok (.isub, 1) := by decide +kernel
theorem dX7_land_33 : decode cX7_land 33 = .ok (.putfield 37, 3) := by decide +kernel
theorem dX7_land_36 : decode cX7_land 36 = .ok (.iload_n 3, 1) := by decide +kernel
theorem dX7_land_37 : decode cX7_land 37 = .ok (.ireturn, 1) := by decide +kernel
theorem dX7_drop_0 : decode cX7_drop 0 = .ok (.aload_n 0, 1) := by decide +kernel
theorem dX7_drop_1 : decode cX7_drop 1 = .ok (.getfield 18, 3) := by decide +kernel
theorem dX7_drop_4 : decode cX7_drop 4 = .ok (.aload_n 0, 1) := by decide +kernel
theorem dX7_drop_5 : decode cX7_drop 5 = .ok (.getfield 37, 3) := by decide +kernel
theorem dX7_drop_8 : decode cX7_drop 8 = .ok (.iadd, 1) := by decide +kernel
theorem dX7_drop_9 : decode cX7_drop 9 = .ok (.istore_n 1, 1) := by decide +kernel
theorem dX7_drop_10 : decode cX7_drop 10 = .ok (.aload_n 0, 1) := by decide +kernel
theorem dX7_drop_11 : decode cX7_drop 11 = .ok (.iconst 0, 1) := by decide +kernel
theorem dX7_drop_12 : decode cX7_drop 12 = .ok (.putfield 18, 3) := by decide +kernel
theorem dX7_drop_15 : decode cX7_drop 15 = .ok (.aload_n 0, 1) := by decide +kernel
theorem dX7_drop_16 : decode cX7_drop 16 = .ok (.iconst 0, 1) := by decide +kernel
theorem dX7_drop_17 : decode cX7_drop 17 = .ok (.putfield 37, 3) := by decide +kernel
theorem dX7_drop_20 : decode cX7_drop 20 = .ok (.iconst 0, 1) := by decide +kernel
theorem dX7_drop_21 : decode cX7_drop 21 = .ok (.istore_n 2, 1) := by decide +kernel
theorem dX7_drop_22 : decode cX7_drop 22 = .ok (.iload_n 2, 1) := by decide +kernel
theorem dX7_drop_23 : decode cX7_drop 23 = .ok (.bipush 10, 2) := by decide +kernel
theorem dX7_drop_25 : decode cX7_drop 25 = .ok (.if_icmp .ge 16, 3) := by decide +kernel
theorem dX7_drop_28 : decode cX7_drop 28 = .ok (.aload_n 0, 1) := by decide +kernel
theorem dX7_drop_29 : decode cX7_drop 29 = .ok (.getfield 15, 3) := by decide +kernel
theorem dX7_drop_32 : decode cX7_drop 32 = .ok (.iload_n 2, 1) := by decide +kernel
theorem dX7_drop_33 : decode cX7_drop 33 = .ok (.iconst (-1), 1) := by decide +kernel
theorem dX7_drop_34 : decode cX7_drop 34 = .ok (.iastore, 1) := by decide +kernel
theorem dX7_drop_35 : decode cX7_drop 35 = .ok (.iinc 2 1, 3) := by decide +kernel
theorem dX7_drop_38 : decode cX7_drop 38 = .ok (.goto (-16), 3) := by decide +kernel
theorem dX7_drop_41 : decode cX7_drop 41 = .ok (.iload_n 1, 1) := by decide +kernel
theorem dX7_drop_42 : decode cX7_drop 42 = .ok (.ireturn, 1) := by decide +kernel
theorem dX7_copyFrom_0 : decode cX7_copyFrom 0 = .ok (.aload_n 1, 1) := by decide +kernel
theorem dX7_copyFrom_1 : decode cX7_copyFrom 1 = .ok (.getfield 9, 3) := by decide +kernel
theorem dX7_copyFrom_4 : decode cX7_copyFrom 4 = .ok (.iconst 0, 1) := by decide +kernel
theorem dX7_copyFrom_5 : decode cX7_copyFrom 5 = .ok (.aload_n 0, 1) := by decide +kernel
theorem dX7_copyFrom_6 : decode cX7_copyFrom 6 = .ok (.getfield 9, 3) := by decide +kernel
theorem dX7_copyFrom_9 : decode cX7_copyFrom 9 = .ok (.iconst 0, 1) := by decide +kernel
theorem dX7_copyFrom_10 : decode cX7_copyFrom 10 = .ok (.bipush 20, 2) := by decide +kernel
theorem dX7_copyFrom_12 : decode cX7_copyFrom 12 = .ok (.invokestatic 43, 3) := by decide +kernel
theorem dX7_copyFrom_15 : decode cX7_copyFrom 15 = .ok (.aload_n 0, 1) := by decide +kernel
theorem dX7_copyFrom_16 : decode cX7_copyFrom 16 = .ok (.aload_n 1, 1) := by decide +kernel
theorem dX7_copyFrom_17 : decode cX7_copyFrom 17 = .ok (.getfield 22, 3) := by decide +kernel
theorem dX7_copyFrom_20 : decode cX7_copyFrom 20 = .ok (.putfield 22, 3) := by decide +kernel
theorem dX7_copyFrom_23 : decode cX7_copyFrom 23 = .ok (.aload_n 0, 1) := by decide +kernel
theorem dX7_copyFrom_24 : decode cX7_copyFrom 24 = .ok (.aload_n 1, 1) := by decide +kernel
theorem dX7_copyFrom_25 : decode cX7_copyFrom 25 = .ok (.getfield 18, 3) := by decide +kernel
theorem dX7_copyFrom_28 : decode cX7_copyFrom 28 = .ok (.putfield 18, 3) := by decide +kernel
theorem dX7_copyFrom_31 : decode cX7_copyFrom 31 = .ok (.aload_n 1, 1) := by decide +kernel
theorem dX7_copyFrom_32 : decode cX7_copyFrom 32 = .ok (.getfield 15, 3) := by decide +kernel
theorem dX7_copyFrom_35 : decode cX7_copyFrom 35 = .ok (.iconst 0, 1) := by decide +kernel
theorem dX7_copyFrom_36 : decode cX7_copyFrom 36 = .ok (.aload_n 0, 1) := by decide +kernel
theorem dX7_copyFrom_37 : decode cX7_copyFrom 37 = .ok (.getfield 15, 3) := by decide +kernel
theorem dX7_copyFrom_40 : decode cX7_copyFrom 40 = .ok (.iconst 0, 1) := by decide +kernel
theorem dX7_copyFrom_41 : decode cX7_copyFrom 41 = .ok (.bipush 10, 2) := by decide +kernel
theorem dX7_copyFrom_43 : decode cX7_copyFrom 43 = .ok (.invokestatic 43, 3) := by decide +kernel
theorem dX7_copyFrom_46 : decode cX7_copyFrom 46 = .ok (.aload_n 0, 1) := by decide +kernel
theorem dX7_copyFrom_47 : decode cX7_copyFrom 47 = .ok (.aload_n 1, 1) := by decide +kernel
theorem dX7_copyFrom_48 : decode cX7_copyFrom 48 = .ok (.getfield 37, 3) := by decide +kernel
theorem dX7_copyFrom_51 : decode cX7_copyFrom 51 = .ok (.putfield 37, 3) := by decide +kernel
theorem dX7_copyFrom_54 : decode cX7_copyFrom 54 = .ok (.aload_n 0, 1) := by decide +kernel
theorem dX7_copyFrom_55 : decode cX7_copyFrom 55 = .ok (.aload_n 1, 1) := by decide +kernel
theorem dX7_copyFrom_56 : decode cX7_copyFrom 56 = .ok (.getfield 40, 3) := by decide +kernel
theorem dX7_copyFrom_59 : decode cX7_copyFrom 59 = .ok (.putfield 40, 3) := by decide +kernel
theorem dX7_copyFrom_62 : decode cX7_copyFrom 62 = .ok (.aload_n 0, 1) := by decide +kernel
theorem dX7_copyFrom_63 : decode cX7_copyFrom 63 = .ok (.aload_n 1, 1) := by decide +kernel
theorem dX7_copyFrom_64 : decode cX7_copyFrom 64 = .ok (.getfield 25, 3) := by decide +kernel
theorem dX7_copyFrom_67 : decode cX7_copyFrom 67 = .ok (.putfield 25, 3) := by decide +kernel
theorem dX7_copyFrom_70 : decode cX7_copyFrom 70 = .ok (.return_, 1) := by decide +kernel
theorem dJ9_floorMod_7cf53_0 : decode cJ9_floorMod_7cf53 0 = .ok (.iload_n 0, 1) := by decide +kernel
theorem dJ9_floorMod_7cf53_1 : decode cJ9_floorMod_7cf53 1 = .ok (.iload_n 1, 1) := by decide +kernel
theorem dJ9_floorMod_7cf53_2 : decode cJ9_floorMod_7cf53 2 = .ok (.irem, 1) := by decide +kernel
theorem dJ9_floorMod_7cf53_3 : decode cJ9_floorMod_7cf53 3 = .ok (.istore_n 2, 1) := by decide +kernel
theorem dJ9_floorMod_7cf53_4 : decode cJ9_floorMod_7cf53 4 = .ok (.iload_n 0, 1) := by decide +kernel
theorem dJ9_floorMod_7cf53_5 : decode cJ9_floorMod_7cf53 5 = .ok (.iload_n 1, 1) := by decide +kernel
theorem dJ9_floorMod_7cf53_6 : decode cJ9_floorMod_7cf53 6 = .ok (.ixor, 1) := by decide +kernel
theorem dJ9_floorMod_7cf53_7 : decode cJ9_floorMod_7cf53 7 = .ok (.ifCond .ge 11, 3) := by decide +kernel
theorem dJ9_floorMod_7cf53_10 : decode cJ9_floorMod_7cf53 10 = .ok (.iload_n 2, 1) := by decide +kernel
theorem dJ9_floorMod_7cf53_11 : decode cJ9_floorMod_7cf53 11 = .ok (.ifCond .eq 7, 3) := by decide +kernel
theorem dJ9_floorMod_7cf53_14 : decode cJ9_floorMod_7cf53 14 = .ok (.iload_n 2, 1) := by decide +kernel
theorem dJ9_floorMod_7cf53_15 : decode cJ9_floorMod_7cf53 15 = .ok (.iload_n 1, 1) := by decide +kernel
theorem dJ9_floorMod_7cf53_16 : decode cJ9_floorMod_7cf53 16 = .ok (.iadd, 1) := by decide +kernel
theorem dJ9_floorMod_7cf53_17 : decode cJ9_floorMod_7cf53 17 = .ok (.ireturn, 1) := by decide +kernel
theorem dJ9_floorMod_7cf53_18 : decode cJ9_floorMod_7cf53 18 = .ok (.iload_n 2, 1) := by decide +kernel
theorem dJ9_floorMod_7cf53_19 : decode cJ9_floorMod_7cf53 19 = .ok (.ireturn, 1) := by decide +kernel
theorem dJ9_abs_0f7a4_0 : decode cJ9_abs_0f7a4 0 = .ok (.iload_n 0, 1) := by decide +kernel
theorem dJ9_abs_0f7a4_1 : decode cJ9_abs_0f7a4 1 = .ok (.ifCond .ge 8, 3) := by decide +kernel
theorem dJ9_abs_0f7a4_4 : decode cJ9_abs_0f7a4 4 = .ok (.iload_n 0, 1) := by decide +kernel
theorem dJ9_abs_0f7a4_5 : decode cJ9_abs_0f7a4 5 = .ok (.ineg, 1) := by decide +kernel
theorem dJ9_abs_0f7a4_6 : decode cJ9_abs_0f7a4 6 = .ok (.goto 4, 3) := by decide +kernel
theorem dJ9_abs_0f7a4_9 : decode cJ9_abs_0f7a4 9 = .ok (.iload_n 0, 1) := by decide +kernel
theorem dJ9_abs_0f7a4_10 : decode cJ9_abs_0f7a4 10 = .ok (.ireturn, 1) := by decide +kernel
theorem dJ9_max_7cf53_0 : decode cJ9_max_7cf53 0 = .ok (.iload_n 0, 1) := by decide +kernel
theorem dJ9_max_7cf53_1 : decode cJ9_max_7cf53 1 = .ok (.iload_n 1, 1) := by decide +kernel
theorem dJ9_max_7cf53_2 : decode cJ9_max_7cf53 2 = .ok (.if_icmp .lt 7, 3) := by decide +kernel
theorem dJ9_max_7cf53_5 : decode cJ9_max_7cf53 5 = .ok (.iload_n 0, 1) := by decide +kernel
theorem dJ9_max_7cf53_6 : decode cJ9_max_7cf53 6 = .ok (.goto 4, 3) := by decide +kernel
theorem dJ9_max_7cf53_9 : decode cJ9_max_7cf53 9 = .ok (.iload_n 1, 1) := by decide +kernel
theorem dJ9_max_7cf53_10 : decode cJ9_max_7cf53 10 = .ok (.ireturn, 1) := by decide +kernel
theorem dJ9_min_7cf53_0 : decode cJ9_min_7cf53 0 = .ok (.iload_n 0, 1) := by decide +kernel
theorem dJ9_min_7cf53_1 : decode cJ9_min_7cf53 1 = .ok (.iload_n 1, 1) := by decide +kernel
theorem dJ9_min_7cf53_2 : decode cJ9_min_7cf53 2 = .ok (.if_icmp .gt 7, 3) := by decide +kernel
theorem dJ9_min_7cf53_5 : decode cJ9_min_7cf53 5 = .ok (.iload_n 0, 1) := by decide +kernel
theorem dJ9_min_7cf53_6 : decode cJ9_min_7cf53 6 = .ok (.goto 4, 3) := by decide +kernel
theorem dJ9_min_7cf53_9 : decode cJ9_min_7cf53 9 = .ok (.iload_n 1, 1) := by decide +kernel
theorem dJ9_min_7cf53_10 : decode cJ9_min_7cf53 10 = .ok (.ireturn, 1) := by decide +kernel
end
section
def wp_X0_spare (τ : TS) (i0 : Nat) (K : TS → Int32 → Prop) : Prop :=
  ∀ x21 : Int32, x21 = (if 0 < (((τ i0 2) + (τ i0 0)) - (τ i0 1)) then (((τ i0 2) + (τ i0 0)) - (τ i0 1)) else 0) → K τ x21
theorem mw_X0_spare_0 : Cond.fieldLink RX0 15 "TidePost$Callee" "read" "I" ∈ wsX0_spare := List.mem_of_getElem? (i := 1) rfl
theorem mw_X0_spare_1 : Cond.fieldLink RX0 19 "TidePost$Callee" "buffer" "I" ∈ wsX0_spare := List.mem_of_getElem? (i := 2) rfl
theorem mw_X0_spare_2 : Cond.fieldLink RX0 22 "TidePost$Callee" "wanted" "I" ∈ wsX0_spare := List.mem_of_getElem? (i := 3) rfl
theorem mw_X0_spare_3 : Cond.methodLink RX0 25 Lib.Math.max.name ∈ wsX0_spare := List.mem_of_getElem? (i := 4) rfl
theorem mw_X0_spare_4 : Cond.static Lib.Math.max.name ∈ wsX0_spare := List.mem_of_getElem? (i := 5) rfl
theorem mw_X0_spare_5 : Cond.initialized "java/lang/Math" ∈ wsX0_spare := List.mem_of_getElem? (i := 6) rfl
theorem mw_X0_spare_6 : Cond.code Lib.Math.max.name Lib.Math.max.code 2 (some .int) ∈ wsX0_spare := List.mem_of_getElem? (i := 7) rfl
theorem in_X0_spare_X0 : ∀ x ∈ wsX00, x ∈ wsX0_spare := fun _ h => List.mem_cons_of_mem _ (List.mem_append_right _ h)
set_option maxHeartbeats 4000000 in
set_option maxRecDepth 100000 in
theorem c_X0_spare (w : WPar) (τ : TS) (i0 : Nat) (K : TS → Int32 → Prop) (h0 : tp_is i0 0) (hw : wp_X0_spare τ i0 K) : MI w yX0_spare wsX0_spare 1 13 [.ref (w.1 i0)] τ K := by
  refine tp_enterI (cc := cX0_spare) (maxL := 1) (own := RX0) (by decide) rfl rfl (Nat.le_of_ble_eq_true rfl) (fun g C hR => ?_)
  show Zt w g τ (0, 0) 0 [(0, .ref (w.1 i0))] []
  unfold wp_X0_spare at hw
  refine z_iconst C 0 (by decide) dX0_spare_0 ?_
  refine z_aload_n C 0 (by rfl) dX0_spare_1 ?_
  refine z_get C (Cn := RX0) (T := TX0) (N := 4) (ci := 0) h0.2 2 (tE0 h0.1) in_X0_spare_X0 rfl (by decide) mw_X0_spare_0 rfl rfl dX0_spare_2 ?_
  refine z_aload_n C 0 (by rfl) dX0_spare_5 ?_
  refine z_get C (Cn := RX0) (T := TX0) (N := 4) (ci := 0) h0.2 0 (tE0 h0.1) in_X0_spare_X0 rfl (by decide) mw_X0_spare_1 rfl rfl dX0_spare_6 ?_
  refine z_iadd C dX0_spare_9 ?_
  refine z_aload_n C 0 (by rfl) dX0_spare_10 ?_
  refine z_get C (Cn := RX0) (T := TX0) (N := 4) (ci := 0) h0.2 1 (tE0 h0.1) in_X0_spare_X0 rfl (by decide) mw_X0_spare_2 rfl rfl dX0_spare_11 ?_
  refine z_isub C dX0_spare_14 ?_
  refine z_max C mw_X0_spare_3 mw_X0_spare_4 mw_X0_spare_5 mw_X0_spare_6 (Nat.le_of_ble_eq_true rfl) (Nat.le_of_ble_eq_true rfl) (Nat.zero_le _) (Nat.zero_le _) dX0_spare_15 ?_
  refine z_top (fun x21 ex21 => ?_)
  have hw := hw x21 ex21
  exact hR _ _ _ _ dX0_spare_18 hw
def wp_X0_take (τ : TS) (i0 : Nat) (x1 : Int32) (x2 : Int32) (K : TS → Int32 → Prop) : Prop :=
  ((x1 < (τ i0 1)) → (K τ 1)) ∧ ((¬ x1 < (τ i0 1)) → (((201 ≤ x1) → (K τ 1)) ∧ ((¬ 201 ≤ x1) → (vp_in x1 201 ∧ ((((τ (i0 + 1) (Int32.toNatClampNeg x1)) = 0) → (∃ J25 : Prop, (J25  → (vp_in x1 201 ∧ (∀ τ27 : TS, τ27 = tp_up τ (i0 + 1) (Int32.toNatClampNeg x1) 1 → ∃ (I29 : TS → Prop) (u29 : TS → Nat), I29 τ27 ∧ ∀ (τ28 : TS), I29 τ28 → (((201 ≤ (τ28 i0 1)) → (K τ28 1)) ∧ ((¬ 201 ≤ (τ28 i0 1)) → (vp_in (τ28 i0 1) 201 ∧ ((((τ28 (i0 + 1) (Int32.toNatClampNeg (τ28 i0 1))) = 0) → (K τ28 1)) ∧ ((¬ (τ28 (i0 + 1) (Int32.toNatClampNeg (τ28 i0 1))) = 0) → (vp_in (τ28 i0 1) 201 ∧ (∀ τ34 : TS, τ34 = tp_up τ28 (i0 + 1) (Int32.toNatClampNeg (τ28 i0 1)) 0 → ∀ τ35 : TS, τ35 = tp_up τ34 i0 1 ((τ34 i0 1) + 1) → I29 τ35 ∧ u29 τ35 < u29 τ28)))))))))) ∧ (((x2 = 0) → J25) ∧ ((¬ x2 = 0) → (((x1 < ((τ i0 2) + (τ i0 0))) → J25) ∧ ((¬ x1 < ((τ i0 2) + (τ i0 0))) → (K τ 0))))))) ∧ ((¬ (τ (i0 + 1) (Int32.toNatClampNeg x1)) = 0) → (K τ 1)))))))
theorem mw_X0_take_0 : Cond.fieldLink RX0 22 "TidePost$Callee" "wanted" "I" ∈ wsX0_take := List.mem_of_getElem? (i := 1) rfl
theorem mw_X0_take_1 : Cond.fieldLink RX0 9 "TidePost$Callee" "held" "[Z" ∈ wsX0_take := List.mem_of_getElem? (i := 2) rfl
theorem mw_X0_take_2 : Cond.fieldLink RX0 15 "TidePost$Callee" "read" "I" ∈ wsX0_take := List.mem_of_getElem? (i := 3) rfl
theorem mw_X0_take_3 : Cond.fieldLink RX0 19 "TidePost$Callee" "buffer" "I" ∈ wsX0_take := List.mem_of_getElem? (i := 4) rfl
theorem in_X0_take_X0 : ∀ x ∈ wsX00, x ∈ wsX0_take := fun _ h => List.mem_cons_of_mem _ (List.mem_append_right _ h)
set_option maxHeartbeats 4000000 in
set_option maxRecDepth 100000 in
theorem c_X0_take (w : WPar) (τ : TS) (i0 : Nat) (x1 : Int32) (x2 : Int32) (K : TS → Int32 → Prop) (h0 : tp_is i0 0) (hw : wp_X0_take τ i0 x1 x2 K) : MI w yX0_take wsX0_take 0 0 [.ref (w.1 i0), .int x1, .int x2] τ K := by
  refine tp_enterZ (cc := cX0_take) (maxL := 3) (own := RX0) (by decide) rfl rfl (Nat.le_of_ble_eq_true rfl) (fun g C hR => ?_)
  show Zt w g τ (0, 0) 0 [(0, .ref (w.1 i0)), (1, .int x1), (2, .int x2)] []
  unfold wp_X0_take at hw
  refine z_iload_n C 1 (by rfl) dX0_take_0 ?_
  refine z_aload_n C 0 (by rfl) dX0_take_1 ?_
  refine z_get C (Cn := RX0) (T := TX0) (N := 4) (ci := 0) h0.2 1 (tE0 h0.1) in_X0_take_X0 rfl (by decide) mw_X0_take_0 rfl rfl dX0_take_2 ?_
  refine z_icmp_lt (tgt := 26) C dX0_take_5 (by decide) (fun c21 => ?_) (fun c21 => ?_)
  · have hw := hw.1 c21
    refine z_iconst C 1 (by decide) dX0_take_26 ?_
    exact hR _ _ _ _ dX0_take_27 rfl hw
  · have hw := hw.2 c21
    refine z_iload_n C 1 (by rfl) dX0_take_8 ?_
    refine z_aload_n C 0 (by rfl) dX0_take_9 ?_
    refine z_get C (Cn := RX0) (T := TX0) (N := 4) (ci := 0) h0.2 3 (tE0 h0.1) in_X0_take_X0 rfl (by decide) mw_X0_take_1 rfl rfl dX0_take_10 ?_
    refine z_alen C 1 201 (tR0_3 h0).2 (tE10 (tR0_3 h0).1) rfl rfl dX0_take_13 ?_
    refine z_icmp_ge (tgt := 26) C dX0_take_14 (by decide) (fun c22 => ?_) (fun c22 => ?_)
    · have hw := hw.1 c22
      refine z_iconst C 1 (by decide) dX0_take_26 ?_
      exact hR _ _ _ _ dX0_take_27 rfl hw
    · have hw := hw.2 c22
      refine z_aload_n C 0 (by rfl) dX0_take_17 ?_
      refine z_get C (Cn := RX0) (T := TX0) (N := 4) (ci := 0) h0.2 3 (tE0 h0.1) in_X0_take_X0 rfl (by decide) mw_X0_take_1 rfl rfl dX0_take_18 ?_
      refine z_iload_n C 1 (by rfl) dX0_take_21 ?_
      obtain ⟨s23, hw⟩ := hw
      refine z_zald C (tR0_3 h0).2 (tE10 (tR0_3 h0).1) s23 dX0_take_22 ?_
      refine z_if_eq (tgt := 28) C dX0_take_23 (by decide) (fun c24 => ?_) (fun c24 => ?_)
      · have hw := hw.1 c24
        refine z_iload_n C 2 (by rfl) dX0_take_28 ?_
        obtain ⟨J25, hJ25, hw⟩ := hw
        have jn25 : J25  → Zt w g τ (0, 0) 47 [(0, .ref (w.1 i0)), (1, .int x1)] [] := by
          intro  hj25
          have hw := hJ25  hj25
          refine z_aload_n C 0 (by rfl) dX0_take_47 ?_
          refine z_get C (Cn := RX0) (T := TX0) (N := 4) (ci := 0) h0.2 3 (tE0 h0.1) in_X0_take_X0 rfl (by decide) mw_X0_take_1 rfl rfl dX0_take_48 ?_
          refine z_iload_n C 1 (by rfl) dX0_take_51 ?_
          refine z_iconst C 1 (by decide) dX0_take_52 ?_
          obtain ⟨s26, hw⟩ := hw
          refine z_zast C (tR0_3 h0).2 (fun _ => tE10 (tR0_3 h0).1) s26 tp_z1.2.2 dX0_take_53 (fun τ27 eτ27 => ?_)
          have hw := hw τ27 eτ27
          obtain ⟨I29, u29, hI29, hs29⟩ := hw
          have lp29 : ∀ (n29 : Nat) (τ28 : TS), u29 τ28 < n29 → I29 τ28 → Zt w g τ28 (0, 0) 54 [(0, .ref (w.1 i0))] [] := by
            intro n29
            induction n29 with
            | zero => intro τ28 hlt29; exact absurd hlt29 (Nat.not_lt_zero _)
            | succ n29 ih29 =>
              intro τ28 hlt29 hh29
              have hw := hs29 τ28 hh29
              refine z_aload_n C 0 (by rfl) dX0_take_54 ?_
              refine z_get C (Cn := RX0) (T := TX0) (N := 4) (ci := 0) h0.2 1 (tE0 h0.1) in_X0_take_X0 rfl (by decide) mw_X0_take_0 rfl rfl dX0_take_55 ?_
              refine z_aload_n C 0 (by rfl) dX0_take_58 ?_
              refine z_get C (Cn := RX0) (T := TX0) (N := 4) (ci := 0) h0.2 3 (tE0 h0.1) in_X0_take_X0 rfl (by decide) mw_X0_take_1 rfl rfl dX0_take_59 ?_
              refine z_alen C 1 201 (tR0_3 h0).2 (tE10 (tR0_3 h0).1) rfl rfl dX0_take_62 ?_
              refine z_icmp_ge (tgt := 101) C dX0_take_63 (by decide) (fun c30 => ?_) (fun c30 => ?_)
              · have hw := hw.1 c30
                refine z_iconst C 1 (by decide) dX0_take_101 ?_
                exact hR _ _ _ _ dX0_take_102 rfl hw
              · have hw := hw.2 c30
                refine z_aload_n C 0 (by rfl) dX0_take_66 ?_
                refine z_get C (Cn := RX0) (T := TX0) (N := 4) (ci := 0) h0.2 3 (tE0 h0.1) in_X0_take_X0 rfl (by decide) mw_X0_take_1 rfl rfl dX0_take_67 ?_
                refine z_aload_n C 0 (by rfl) dX0_take_70 ?_
                refine z_get C (Cn := RX0) (T := TX0) (N := 4) (ci := 0) h0.2 1 (tE0 h0.1) in_X0_take_X0 rfl (by decide) mw_X0_take_0 rfl rfl dX0_take_71 ?_
                obtain ⟨s31, hw⟩ := hw
                refine z_zald C (tR0_3 h0).2 (tE10 (tR0_3 h0).1) s31 dX0_take_74 ?_
                refine z_if_eq (tgt := 101) C dX0_take_75 (by decide) (fun c32 => ?_) (fun c32 => ?_)
                · have hw := hw.1 c32
                  refine z_iconst C 1 (by decide) dX0_take_101 ?_
                  exact hR _ _ _ _ dX0_take_102 rfl hw
                · have hw := hw.2 c32
                  refine z_aload_n C 0 (by rfl) dX0_take_78 ?_
                  refine z_get C (Cn := RX0) (T := TX0) (N := 4) (ci := 0) h0.2 3 (tE0 h0.1) in_X0_take_X0 rfl (by decide) mw_X0_take_1 rfl rfl dX0_take_79 ?_
                  refine z_aload_n C 0 (by rfl) dX0_take_82 ?_
                  refine z_get C (Cn := RX0) (T := TX0) (N := 4) (ci := 0) h0.2 1 (tE0 h0.1) in_X0_take_X0 rfl (by decide) mw_X0_take_0 rfl rfl dX0_take_83 ?_
                  refine z_iconst C 0 (by decide) dX0_take_86 ?_
                  obtain ⟨s33, hw⟩ := hw
                  refine z_zast C (tR0_3 h0).2 (fun _ => tE10 (tR0_3 h0).1) s33 tp_z0.2.2 dX0_take_87 (fun τ34 eτ34 => ?_)
                  have hw := hw τ34 eτ34
                  refine z_aload_n C 0 (by rfl) dX0_take_88 ?_
                  refine z_dup C rfl dX0_take_89 ?_
                  refine z_get C (Cn := RX0) (T := TX0) (N := 4) (ci := 0) h0.2 1 (tE0 h0.1) in_X0_take_X0 rfl (by decide) mw_X0_take_0 rfl rfl dX0_take_90 ?_
                  refine z_iconst C 1 (by decide) dX0_take_93 ?_
                  refine z_iadd C dX0_take_94 ?_
                  refine z_put C (Cn := RX0) (T := TX0) (N := 4) (ci := 0) h0.2 1 (tE0 h0.1) (tS0_1 h0.1 _) in_X0_take_X0 tyX0 tyX0_ok nmX0 rfl (by decide) mw_X0_take_0 rfl rfl (tyX0_ok 1 (by decide)) rfl rfl (Nat.le_of_ble_eq_true rfl) dX0_take_95 (fun τ35 eτ35 => ?_)
                  have hw := hw τ35 eτ35
                  refine z_goto (tgt := 54) C dX0_take_98 (by decide) ?_
                  exact ih29 τ35 (Nat.lt_of_lt_of_le hw.2 (Nat.le_of_lt_succ hlt29)) hw.1
          refine z_sub [0] [(0, .ref (w.1 i0))] rfl ?_
          exact lp29 _ τ27 (Nat.lt_succ_self _) hI29
        refine z_if_eq (tgt := 47) C dX0_take_29 (by decide) (fun c36 => ?_) (fun c36 => ?_)
        · have hw := hw.1 c36
          refine z_sub [0, 1] [(0, .ref (w.1 i0)), (1, .int x1)] rfl ?_
          exact jn25 hw
        · have hw := hw.2 c36
          refine z_iload_n C 1 (by rfl) dX0_take_32 ?_
          refine z_aload_n C 0 (by rfl) dX0_take_33 ?_
          refine z_get C (Cn := RX0) (T := TX0) (N := 4) (ci := 0) h0.2 2 (tE0 h0.1) in_X0_take_X0 rfl (by decide) mw_X0_take_2 rfl rfl dX0_take_34 ?_
          refine z_aload_n C 0 (by rfl) dX0_take_37 ?_
          refine z_get C (Cn := RX0) (T := TX0) (N := 4) (ci := 0) h0.2 0 (tE0 h0.1) in_X0_take_X0 rfl (by decide) mw_X0_take_3 rfl rfl dX0_take_38 ?_
          refine z_iadd C dX0_take_41 ?_
          refine z_icmp_lt (tgt := 47) C dX0_take_42 (by decide) (fun c37 => ?_) (fun c37 => ?_)
          · have hw := hw.1 c37
            refine z_sub [0, 1] [(0, .ref (w.1 i0)), (1, .int x1)] rfl ?_
            exact jn25 hw
          · have hw := hw.2 c37
            refine z_iconst C 0 (by decide) dX0_take_45 ?_
            exact hR _ _ _ _ dX0_take_46 rfl hw
      · have hw := hw.2 c24
        refine z_iconst C 1 (by decide) dX0_take_26 ?_
        exact hR _ _ _ _ dX0_take_27 rfl hw
def wp_X5_begin (τ : TS) (i0 : Nat) (K : TS → Prop) : Prop :=
  ∀ τ21 : TS, τ21 = tp_up τ i0 0 0 → ∀ τ22 : TS, τ22 = tp_up τ21 i0 1 0 → ∀ τ23 : TS, τ23 = tp_up τ22 i0 2 12 → ∀ τ24 : TS, τ24 = tp_up τ23 i0 3 (-1) → ∀ τ25 : TS, τ25 = tp_up τ24 i0 4 0 → K τ25
theorem mw_X5_begin_0 : Cond.fieldLink RX5 9 "TidePost$Timing" "round" "I" ∈ wsX5_begin := List.mem_of_getElem? (i := 1) rfl
theorem mw_X5_begin_1 : Cond.fieldLink RX5 15 "TidePost$Timing" "swing" "I" ∈ wsX5_begin := List.mem_of_getElem? (i := 2) rfl
theorem mw_X5_begin_2 : Cond.fieldLink RX5 18 "TidePost$Timing" "timeout" "I" ∈ wsX5_begin := List.mem_of_getElem? (i := 3) rfl
theorem mw_X5_begin_3 : Cond.fieldLink RX5 21 "TidePost$Timing" "measured" "I" ∈ wsX5_begin := List.mem_of_getElem? (i := 4) rfl
theorem mw_X5_begin_4 : Cond.fieldLink RX5 24 "TidePost$Timing" "measuredAt" "I" ∈ wsX5_begin := List.mem_of_getElem? (i := 5) rfl
theorem in_X5_begin_X5 : ∀ x ∈ wsX50, x ∈ wsX5_begin := fun _ h => List.mem_cons_of_mem _ (List.mem_append_right _ h)
set_option maxHeartbeats 4000000 in
set_option maxRecDepth 100000 in
theorem c_X5_begin (w : WPar) (τ : TS) (i0 : Nat) (K : TS → Prop) (h0 : tp_is i0 4) (hw : wp_X5_begin τ i0 K) : MV w yX5_begin wsX5_begin 0 0 [.ref (w.1 i0)] τ K := by
  refine tp_enterV (cc := cX5_begin) (maxL := 1) (own := RX5) (by decide) rfl rfl (Nat.le_of_ble_eq_true rfl) (fun g C hR => ?_)
  show Zt w g τ (0, 0) 0 [(0, .ref (w.1 i0))] []
  unfold wp_X5_begin at hw
  refine z_aload_n C 0 (by rfl) dX5_begin_0 ?_
  refine z_iconst C 0 (by decide) dX5_begin_1 ?_
  refine z_put C (Cn := RX5) (T := TX5) (N := 5) (ci := 4) h0.2 0 (tE4 h0.1) (tS4_0 h0.1 _) in_X5_begin_X5 tyX5 tyX5_ok nmX5 rfl (by decide) mw_X5_begin_0 rfl rfl (tyX5_ok 0 (by decide)) rfl rfl (Nat.le_of_ble_eq_true rfl) dX5_begin_2 (fun τ21 eτ21 => ?_)
  have hw := hw τ21 eτ21
  refine z_aload_n C 0 (by rfl) dX5_begin_5 ?_
  refine z_iconst C 0 (by decide) dX5_begin_6 ?_
  refine z_put C (Cn := RX5) (T := TX5) (N := 5) (ci := 4) h0.2 1 (tE4 h0.1) (tS4_1 h0.1 _) in_X5_begin_X5 tyX5 tyX5_ok nmX5 rfl (by decide) mw_X5_begin_1 rfl rfl (tyX5_ok 1 (by decide)) rfl rfl (Nat.le_of_ble_eq_true rfl) dX5_begin_7 (fun τ22 eτ22 => ?_)
  have hw := hw τ22 eτ22
  refine z_aload_n C 0 (by rfl) dX5_begin_10 ?_
  refine z_bipush C 12 (by decide) dX5_begin_11 ?_
  refine z_put C (Cn := RX5) (T := TX5) (N := 5) (ci := 4) h0.2 2 (tE4 h0.1) (tS4_2 h0.1 _) in_X5_begin_X5 tyX5 tyX5_ok nmX5 rfl (by decide) mw_X5_begin_2 rfl rfl (tyX5_ok 2 (by decide)) rfl rfl (Nat.le_of_ble_eq_true rfl) dX5_begin_13 (fun τ23 eτ23 => ?_)
  have hw := hw τ23 eτ23
  refine z_aload_n C 0 (by rfl) dX5_begin_16 ?_
  refine z_iconst C (-1) (by decide) dX5_begin_17 ?_
  refine z_put C (Cn := RX5) (T := TX5) (N := 5) (ci := 4) h0.2 3 (tE4 h0.1) (tS4_3 h0.1 _) in_X5_begin_X5 tyX5 tyX5_ok nmX5 rfl (by decide) mw_X5_begin_3 rfl rfl (tyX5_ok 3 (by decide)) rfl rfl (Nat.le_of_ble_eq_true rfl) dX5_begin_18 (fun τ24 eτ24 => ?_)
  have hw := hw τ24 eτ24
  refine z_aload_n C 0 (by rfl) dX5_begin_21 ?_
  refine z_iconst C 0 (by decide) dX5_begin_22 ?_
  refine z_put C (Cn := RX5) (T := TX5) (N := 5) (ci := 4) h0.2 4 (tE4 h0.1) (tS4_4 h0.1 _) in_X5_begin_X5 tyX5 tyX5_ok nmX5 rfl (by decide) mw_X5_begin_4 rfl rfl (tyX5_ok 4 (by decide)) rfl rfl (Nat.le_of_ble_eq_true rfl) dX5_begin_23 (fun τ25 eτ25 => ?_)
  have hw := hw τ25 eτ25
  exact hR _ _ _ dX5_begin_26 hw
def wp_X5_sent (τ : TS) (i0 : Nat) (x1 : Int32) (x2 : Int32) (K : TS → Prop) : Prop :=
  ((¬ (τ i0 3) = (-1)) → (K τ)) ∧ (((τ i0 3) = (-1)) → (∀ τ22 : TS, τ22 = tp_up τ i0 3 x1 → ∀ τ23 : TS, τ23 = tp_up τ22 i0 4 x2 → K τ23))
theorem mw_X5_sent_0 : Cond.fieldLink RX5 21 "TidePost$Timing" "measured" "I" ∈ wsX5_sent := List.mem_of_getElem? (i := 1) rfl
theorem mw_X5_sent_1 : Cond.fieldLink RX5 24 "TidePost$Timing" "measuredAt" "I" ∈ wsX5_sent := List.mem_of_getElem? (i := 2) rfl
theorem in_X5_sent_X5 : ∀ x ∈ wsX50, x ∈ wsX5_sent := fun _ h => List.mem_cons_of_mem _ (List.mem_append_right _ h)
set_option maxHeartbeats 4000000 in
set_option maxRecDepth 100000 in
theorem c_X5_sent (w : WPar) (τ : TS) (i0 : Nat) (x1 : Int32) (x2 : Int32) (K : TS → Prop) (h0 : tp_is i0 4) (hw : wp_X5_sent τ i0 x1 x2 K) : MV w yX5_sent wsX5_sent 0 0 [.ref (w.1 i0), .int x1, .int x2] τ K := by
  refine tp_enterV (cc := cX5_sent) (maxL := 3) (own := RX5) (by decide) rfl rfl (Nat.le_of_ble_eq_true rfl) (fun g C hR => ?_)
  show Zt w g τ (0, 0) 0 [(0, .ref (w.1 i0)), (1, .int x1), (2, .int x2)] []
  unfold wp_X5_sent at hw
  refine z_aload_n C 0 (by rfl) dX5_sent_0 ?_
  refine z_get C (Cn := RX5) (T := TX5) (N := 5) (ci := 4) h0.2 3 (tE4 h0.1) in_X5_sent_X5 rfl (by decide) mw_X5_sent_0 rfl rfl dX5_sent_1 ?_
  refine z_iconst C (-1) (by decide) dX5_sent_4 ?_
  refine z_icmp_ne (tgt := 18) C dX5_sent_5 (by decide) (fun c21 => ?_) (fun c21 => ?_)
  · have hw := hw.1 c21
    exact hR _ _ _ dX5_sent_18 hw
  · have hw := hw.2 c21
    refine z_aload_n C 0 (by rfl) dX5_sent_8 ?_
    refine z_iload_n C 1 (by rfl) dX5_sent_9 ?_
    refine z_put C (Cn := RX5) (T := TX5) (N := 5) (ci := 4) h0.2 3 (tE4 h0.1) (tS4_3 h0.1 _) in_X5_sent_X5 tyX5 tyX5_ok nmX5 rfl (by decide) mw_X5_sent_0 rfl rfl (tyX5_ok 3 (by decide)) rfl rfl (Nat.le_of_ble_eq_true rfl) dX5_sent_10 (fun τ22 eτ22 => ?_)
    have hw := hw τ22 eτ22
    refine z_aload_n C 0 (by rfl) dX5_sent_13 ?_
    refine z_iload_n C 2 (by rfl) dX5_sent_14 ?_
    refine z_put C (Cn := RX5) (T := TX5) (N := 5) (ci := 4) h0.2 4 (tE4 h0.1) (tS4_4 h0.1 _) in_X5_sent_X5 tyX5 tyX5_ok nmX5 rfl (by decide) mw_X5_sent_1 rfl rfl (tyX5_ok 4 (by decide)) rfl rfl (Nat.le_of_ble_eq_true rfl) dX5_sent_15 (fun τ23 eτ23 => ?_)
    have hw := hw τ23 eτ23
    exact hR _ _ _ dX5_sent_18 hw
def wp_X5_sentTwice (τ : TS) (i0 : Nat) (x1 : Int32) (K : TS → Prop) : Prop :=
  ((¬ (τ i0 3) = x1) → (K τ)) ∧ (((τ i0 3) = x1) → (∀ τ22 : TS, τ22 = tp_up τ i0 3 (-1) → K τ22))
theorem mw_X5_sentTwice_0 : Cond.fieldLink RX5 21 "TidePost$Timing" "measured" "I" ∈ wsX5_sentTwice := List.mem_of_getElem? (i := 1) rfl
theorem in_X5_sentTwice_X5 : ∀ x ∈ wsX50, x ∈ wsX5_sentTwice := fun _ h => List.mem_cons_of_mem _ (List.mem_append_right _ h)
set_option maxHeartbeats 4000000 in
set_option maxRecDepth 100000 in
theorem c_X5_sentTwice (w : WPar) (τ : TS) (i0 : Nat) (x1 : Int32) (K : TS → Prop) (h0 : tp_is i0 4) (hw : wp_X5_sentTwice τ i0 x1 K) : MV w yX5_sentTwice wsX5_sentTwice 0 0 [.ref (w.1 i0), .int x1] τ K := by
  refine tp_enterV (cc := cX5_sentTwice) (maxL := 2) (own := RX5) (by decide) rfl rfl (Nat.le_of_ble_eq_true rfl) (fun g C hR => ?_)
  show Zt w g τ (0, 0) 0 [(0, .ref (w.1 i0)), (1, .int x1)] []
  unfold wp_X5_sentTwice at hw
  refine z_aload_n C 0 (by rfl) dX5_sentTwice_0 ?_
  refine z_get C (Cn := RX5) (T := TX5) (N := 5) (ci := 4) h0.2 3 (tE4 h0.1) in_X5_sentTwice_X5 rfl (by decide) mw_X5_sentTwice_0 rfl rfl dX5_sentTwice_1 ?_
  refine z_iload_n C 1 (by rfl) dX5_sentTwice_4 ?_
  refine z_icmp_ne (tgt := 13) C dX5_sentTwice_5 (by decide) (fun c21 => ?_) (fun c21 => ?_)
  · have hw := hw.1 c21
    exact hR _ _ _ dX5_sentTwice_13 hw
  · have hw := hw.2 c21
    refine z_aload_n C 0 (by rfl) dX5_sentTwice_8 ?_
    refine z_iconst C (-1) (by decide) dX5_sentTwice_9 ?_
    refine z_put C (Cn := RX5) (T := TX5) (N := 5) (ci := 4) h0.2 3 (tE4 h0.1) (tS4_3 h0.1 _) in_X5_sentTwice_X5 tyX5 tyX5_ok nmX5 rfl (by decide) mw_X5_sentTwice_0 rfl rfl (tyX5_ok 3 (by decide)) rfl rfl (Nat.le_of_ble_eq_true rfl) dX5_sentTwice_10 (fun τ22 eτ22 => ?_)
    have hw := hw τ22 eτ22
    exact hR _ _ _ dX5_sentTwice_13 hw
def wp_X5_answered (τ : TS) (i0 : Nat) (x1 : Int32) (x2 : Int32) (K : TS → Prop) : Prop :=
  (((τ i0 3) = (-1)) → (K τ)) ∧ ((¬ (τ i0 3) = (-1)) → ((((τ i0 3) < x1) → (∀ x23 : Int32, x23 = (x2 - (τ i0 4)) → ((¬ (τ i0 0) = 0) → (∀ x25 : Int32, x25 = (x23 - ((τ i0 0) / 8)) → ∀ x26 : Int32, x26 = (if 0 ≤ x25 then x25 else 0 - x25) → ∀ τ27 : TS, τ27 = tp_up τ i0 1 (((τ i0 1) + x26) - ((τ i0 1) / 4)) → ∀ τ28 : TS, τ28 = tp_up τ27 i0 0 ((τ27 i0 0) + x25) → ∀ x29 : Int32, x29 = (if 3 < (((τ28 i0 0) / 8) + (τ28 i0 1)) then (((τ28 i0 0) / 8) + (τ28 i0 1)) else 3) → ∀ x30 : Int32, x30 = (if x29 < 60 then x29 else 60) → ∀ τ31 : TS, τ31 = tp_up τ28 i0 2 x30 → ∀ τ32 : TS, τ32 = tp_up τ31 i0 3 (-1) → K τ32)) ∧ (((τ i0 0) = 0) → (∀ τ33 : TS, τ33 = tp_up τ i0 0 (8 * x23) → ∀ τ34 : TS, τ34 = tp_up τ33 i0 1 (2 * x23) → ∀ x35 : Int32, x35 = (if 3 < (((τ34 i0 0) / 8) + (τ34 i0 1)) then (((τ34 i0 0) / 8) + (τ34 i0 1)) else 3) → ∀ x36 : Int32, x36 = (if x35 < 60 then x35 else 60) → ∀ τ37 : TS, τ37 = tp_up τ34 i0 2 x36 → ∀ τ38 : TS, τ38 = tp_up τ37 i0 3 (-1) → K τ38)))) ∧ ((¬ (τ i0 3) < x1) → (K τ))))
theorem mw_X5_answered_0 : Cond.fieldLink RX5 21 "TidePost$Timing" "measured" "I" ∈ wsX5_answered := List.mem_of_getElem? (i := 1) rfl
theorem mw_X5_answered_1 : Cond.fieldLink RX5 24 "TidePost$Timing" "measuredAt" "I" ∈ wsX5_answered := List.mem_of_getElem? (i := 2) rfl
theorem mw_X5_answered_2 : Cond.fieldLink RX5 9 "TidePost$Timing" "round" "I" ∈ wsX5_answered := List.mem_of_getElem? (i := 3) rfl
theorem mw_X5_answered_3 : Cond.fieldLink RX5 15 "TidePost$Timing" "swing" "I" ∈ wsX5_answered := List.mem_of_getElem? (i := 4) rfl
theorem mw_X5_answered_4 : Cond.methodLink RX5 27 Lib.Math.abs.name ∈ wsX5_answered := List.mem_of_getElem? (i := 5) rfl
theorem mw_X5_answered_5 : Cond.static Lib.Math.abs.name ∈ wsX5_answered := List.mem_of_getElem? (i := 6) rfl
theorem mw_X5_answered_6 : Cond.initialized "java/lang/Math" ∈ wsX5_answered := List.mem_of_getElem? (i := 7) rfl
theorem mw_X5_answered_7 : Cond.code Lib.Math.abs.name Lib.Math.abs.code 1 (some .int) ∈ wsX5_answered := List.mem_of_getElem? (i := 8) rfl
theorem mw_X5_answered_8 : Cond.methodLink RX5 33 Lib.Math.max.name ∈ wsX5_answered := List.mem_of_getElem? (i := 9) rfl
theorem mw_X5_answered_9 : Cond.static Lib.Math.max.name ∈ wsX5_answered := List.mem_of_getElem? (i := 10) rfl
theorem mw_X5_answered_10 : Cond.code Lib.Math.max.name Lib.Math.max.code 2 (some .int) ∈ wsX5_answered := List.mem_of_getElem? (i := 11) rfl
theorem mw_X5_answered_11 : Cond.methodLink RX5 37 Lib.Math.min.name ∈ wsX5_answered := List.mem_of_getElem? (i := 12) rfl
theorem mw_X5_answered_12 : Cond.static Lib.Math.min.name ∈ wsX5_answered := List.mem_of_getElem? (i := 13) rfl
theorem mw_X5_answered_13 : Cond.code Lib.Math.min.name Lib.Math.min.code 2 (some .int) ∈ wsX5_answered := List.mem_of_getElem? (i := 14) rfl
theorem mw_X5_answered_14 : Cond.fieldLink RX5 18 "TidePost$Timing" "timeout" "I" ∈ wsX5_answered := List.mem_of_getElem? (i := 15) rfl
theorem in_X5_answered_X5 : ∀ x ∈ wsX50, x ∈ wsX5_answered := fun _ h => List.mem_cons_of_mem _ (List.mem_append_right _ h)
set_option maxHeartbeats 4000000 in
set_option maxRecDepth 100000 in
theorem c_X5_answered (w : WPar) (τ : TS) (i0 : Nat) (x1 : Int32) (x2 : Int32) (K : TS → Prop) (h0 : tp_is i0 4) (hw : wp_X5_answered τ i0 x1 x2 K) : MV w yX5_answered wsX5_answered 1 15 [.ref (w.1 i0), .int x1, .int x2] τ K := by
  refine tp_enterV (cc := cX5_answered) (maxL := 5) (own := RX5) (by decide) rfl rfl (Nat.le_of_ble_eq_true rfl) (fun g C hR => ?_)
  show Zt w g τ (0, 0) 0 [(0, .ref (w.1 i0)), (1, .int x1), (2, .int x2)] []
  unfold wp_X5_answered at hw
  refine z_aload_n C 0 (by rfl) dX5_answered_0 ?_
  refine z_get C (Cn := RX5) (T := TX5) (N := 5) (ci := 4) h0.2 3 (tE4 h0.1) in_X5_answered_X5 rfl (by decide) mw_X5_answered_0 rfl rfl dX5_answered_1 ?_
  refine z_iconst C (-1) (by decide) dX5_answered_4 ?_
  refine z_icmp_eq (tgt := 16) C dX5_answered_5 (by decide) (fun c21 => ?_) (fun c21 => ?_)
  · have hw := hw.1 c21
    exact hR _ _ _ dX5_answered_16 hw
  · have hw := hw.2 c21
    refine z_aload_n C 0 (by rfl) dX5_answered_8 ?_
    refine z_get C (Cn := RX5) (T := TX5) (N := 5) (ci := 4) h0.2 3 (tE4 h0.1) in_X5_answered_X5 rfl (by decide) mw_X5_answered_0 rfl rfl dX5_answered_9 ?_
    refine z_iload_n C 1 (by rfl) dX5_answered_12 ?_
    refine z_icmp_lt (tgt := 17) C dX5_answered_13 (by decide) (fun c22 => ?_) (fun c22 => ?_)
    · have hw := hw.1 c22
      refine z_iload_n C 2 (by rfl) dX5_answered_17 ?_
      refine z_aload_n C 0 (by rfl) dX5_answered_18 ?_
      refine z_get C (Cn := RX5) (T := TX5) (N := 5) (ci := 4) h0.2 4 (tE4 h0.1) in_X5_answered_X5 rfl (by decide) mw_X5_answered_1 rfl rfl dX5_answered_19 ?_
      refine z_isub C dX5_answered_22 ?_
      refine z_top (fun x23 ex23 => ?_)
      have hw := hw x23 ex23
      refine z_istore_n C [(3, .int x23), (0, .ref (w.1 i0)), (1, .int x1), (2, .int x2)] dX5_answered_23 (by decide) rfl ?_
      refine z_aload_n C 1 (by rfl) dX5_answered_24 ?_
      refine z_get C (Cn := RX5) (T := TX5) (N := 5) (ci := 4) h0.2 0 (tE4 h0.1) in_X5_answered_X5 rfl (by decide) mw_X5_answered_2 rfl rfl dX5_answered_25 ?_
      refine z_if_ne (tgt := 49) C dX5_answered_28 (by decide) (fun c24 => ?_) (fun c24 => ?_)
      · have hw := hw.1 c24
        refine z_iload_n C 0 (by rfl) dX5_answered_49 ?_
        refine z_aload_n C 1 (by rfl) dX5_answered_50 ?_
        refine z_get C (Cn := RX5) (T := TX5) (N := 5) (ci := 4) h0.2 0 (tE4 h0.1) in_X5_answered_X5 rfl (by decide) mw_X5_answered_2 rfl rfl dX5_answered_51 ?_
        refine z_bipush C 8 (by decide) dX5_answered_54 ?_
        refine z_idiv C (by decide) dX5_answered_56 ?_
        refine z_isub C dX5_answered_57 ?_
        refine z_top (fun x25 ex25 => ?_)
        have hw := hw x25 ex25
        refine z_istore C [(4, .int x25), (3, .int x23), (0, .ref (w.1 i0)), (1, .int x1), (2, .int x2)] dX5_answered_58 (by decide) rfl ?_
        refine z_aload_n C 2 (by rfl) dX5_answered_60 ?_
        refine z_aload_n C 2 (by rfl) dX5_answered_61 ?_
        refine z_get C (Cn := RX5) (T := TX5) (N := 5) (ci := 4) h0.2 1 (tE4 h0.1) in_X5_answered_X5 rfl (by decide) mw_X5_answered_3 rfl rfl dX5_answered_62 ?_
        refine z_iload C 0 (by rfl) dX5_answered_65 ?_
        refine z_abs C mw_X5_answered_4 mw_X5_answered_5 mw_X5_answered_6 mw_X5_answered_7 (Nat.le_of_ble_eq_true rfl) (Nat.le_of_ble_eq_true rfl) (Nat.zero_le _) (Nat.zero_le _) dX5_answered_67 ?_
        refine z_top (fun x26 ex26 => ?_)
        have hw := hw x26 ex26
        refine z_iadd C dX5_answered_70 ?_
        refine z_aload_n C 2 (by rfl) dX5_answered_71 ?_
        refine z_get C (Cn := RX5) (T := TX5) (N := 5) (ci := 4) h0.2 1 (tE4 h0.1) in_X5_answered_X5 rfl (by decide) mw_X5_answered_3 rfl rfl dX5_answered_72 ?_
        refine z_iconst C 4 (by decide) dX5_answered_75 ?_
        refine z_idiv C (by decide) dX5_answered_76 ?_
        refine z_isub C dX5_answered_77 ?_
        refine z_put C (Cn := RX5) (T := TX5) (N := 5) (ci := 4) h0.2 1 (tE4 h0.1) (tS4_1 h0.1 _) in_X5_answered_X5 tyX5 tyX5_ok nmX5 rfl (by decide) mw_X5_answered_3 rfl rfl (tyX5_ok 1 (by decide)) rfl rfl (Nat.le_of_ble_eq_true rfl) dX5_answered_78 (fun τ27 eτ27 => ?_)
        have hw := hw τ27 eτ27
        refine z_aload_n C 2 (by rfl) dX5_answered_81 ?_
        refine z_aload_n C 2 (by rfl) dX5_answered_82 ?_
        refine z_get C (Cn := RX5) (T := TX5) (N := 5) (ci := 4) h0.2 0 (tE4 h0.1) in_X5_answered_X5 rfl (by decide) mw_X5_answered_2 rfl rfl dX5_answered_83 ?_
        refine z_iload C 0 (by rfl) dX5_answered_86 ?_
        refine z_iadd C dX5_answered_88 ?_
        refine z_put C (Cn := RX5) (T := TX5) (N := 5) (ci := 4) h0.2 0 (tE4 h0.1) (tS4_0 h0.1 _) in_X5_answered_X5 tyX5 tyX5_ok nmX5 rfl (by decide) mw_X5_answered_2 rfl rfl (tyX5_ok 0 (by decide)) rfl rfl (Nat.le_of_ble_eq_true rfl) dX5_answered_89 (fun τ28 eτ28 => ?_)
        have hw := hw τ28 eτ28
        refine z_aload_n C 2 (by rfl) dX5_answered_92 ?_
        refine z_bipush C 60 (by decide) dX5_answered_93 ?_
        refine z_iconst C 3 (by decide) dX5_answered_95 ?_
        refine z_aload_n C 2 (by rfl) dX5_answered_96 ?_
        refine z_get C (Cn := RX5) (T := TX5) (N := 5) (ci := 4) h0.2 0 (tE4 h0.1) in_X5_answered_X5 rfl (by decide) mw_X5_answered_2 rfl rfl dX5_answered_97 ?_
        refine z_bipush C 8 (by decide) dX5_answered_100 ?_
        refine z_idiv C (by decide) dX5_answered_102 ?_
        refine z_aload_n C 2 (by rfl) dX5_answered_103 ?_
        refine z_get C (Cn := RX5) (T := TX5) (N := 5) (ci := 4) h0.2 1 (tE4 h0.1) in_X5_answered_X5 rfl (by decide) mw_X5_answered_3 rfl rfl dX5_answered_104 ?_
        refine z_iadd C dX5_answered_107 ?_
        refine z_max C mw_X5_answered_8 mw_X5_answered_9 mw_X5_answered_6 mw_X5_answered_10 (Nat.le_of_ble_eq_true rfl) (Nat.le_of_ble_eq_true rfl) (Nat.zero_le _) (Nat.zero_le _) dX5_answered_108 ?_
        refine z_top (fun x29 ex29 => ?_)
        have hw := hw x29 ex29
        refine z_min C mw_X5_answered_11 mw_X5_answered_12 mw_X5_answered_6 mw_X5_answered_13 (Nat.le_of_ble_eq_true rfl) (Nat.le_of_ble_eq_true rfl) (Nat.zero_le _) (Nat.zero_le _) dX5_answered_111 ?_
        refine z_top (fun x30 ex30 => ?_)
        have hw := hw x30 ex30
        refine z_put C (Cn := RX5) (T := TX5) (N := 5) (ci := 4) h0.2 2 (tE4 h0.1) (tS4_2 h0.1 _) in_X5_answered_X5 tyX5 tyX5_ok nmX5 rfl (by decide) mw_X5_answered_14 rfl rfl (tyX5_ok 2 (by decide)) rfl rfl (Nat.le_of_ble_eq_true rfl) dX5_answered_114 (fun τ31 eτ31 => ?_)
        have hw := hw τ31 eτ31
        refine z_aload_n C 2 (by rfl) dX5_answered_117 ?_
        refine z_iconst C (-1) (by decide) dX5_answered_118 ?_
        refine z_put C (Cn := RX5) (T := TX5) (N := 5) (ci := 4) h0.2 3 (tE4 h0.1) (tS4_3 h0.1 _) in_X5_answered_X5 tyX5 tyX5_ok nmX5 rfl (by decide) mw_X5_answered_0 rfl rfl (tyX5_ok 3 (by decide)) rfl rfl (Nat.le_of_ble_eq_true rfl) dX5_answered_119 (fun τ32 eτ32 => ?_)
        have hw := hw τ32 eτ32
        exact hR _ _ _ dX5_answered_122 hw
      · have hw := hw.2 c24
        refine z_aload_n C 1 (by rfl) dX5_answered_31 ?_
        refine z_bipush C 8 (by decide) dX5_answered_32 ?_
        refine z_iload_n C 0 (by rfl) dX5_answered_34 ?_
        refine z_imul C dX5_answered_35 ?_
        refine z_put C (Cn := RX5) (T := TX5) (N := 5) (ci := 4) h0.2 0 (tE4 h0.1) (tS4_0 h0.1 _) in_X5_answered_X5 tyX5 tyX5_ok nmX5 rfl (by decide) mw_X5_answered_2 rfl rfl (tyX5_ok 0 (by decide)) rfl rfl (Nat.le_of_ble_eq_true rfl) dX5_answered_36 (fun τ33 eτ33 => ?_)
        have hw := hw τ33 eτ33
        refine z_aload_n C 1 (by rfl) dX5_answered_39 ?_
        refine z_iconst C 2 (by decide) dX5_answered_40 ?_
        refine z_iload_n C 0 (by rfl) dX5_answered_41 ?_
        refine z_imul C dX5_answered_42 ?_
        refine z_put C (Cn := RX5) (T := TX5) (N := 5) (ci := 4) h0.2 1 (tE4 h0.1) (tS4_1 h0.1 _) in_X5_answered_X5 tyX5 tyX5_ok nmX5 rfl (by decide) mw_X5_answered_3 rfl rfl (tyX5_ok 1 (by decide)) rfl rfl (Nat.le_of_ble_eq_true rfl) dX5_answered_43 (fun τ34 eτ34 => ?_)
        have hw := hw τ34 eτ34
        refine z_goto (tgt := 92) C dX5_answered_46 (by decide) ?_
        refine z_aload_n C 1 (by rfl) dX5_answered_92 ?_
        refine z_bipush C 60 (by decide) dX5_answered_93 ?_
        refine z_iconst C 3 (by decide) dX5_answered_95 ?_
        refine z_aload_n C 1 (by rfl) dX5_answered_96 ?_
        refine z_get C (Cn := RX5) (T := TX5) (N := 5) (ci := 4) h0.2 0 (tE4 h0.1) in_X5_answered_X5 rfl (by decide) mw_X5_answered_2 rfl rfl dX5_answered_97 ?_
        refine z_bipush C 8 (by decide) dX5_answered_100 ?_
        refine z_idiv C (by decide) dX5_answered_102 ?_
        refine z_aload_n C 1 (by rfl) dX5_answered_103 ?_
        refine z_get C (Cn := RX5) (T := TX5) (N := 5) (ci := 4) h0.2 1 (tE4 h0.1) in_X5_answered_X5 rfl (by decide) mw_X5_answered_3 rfl rfl dX5_answered_104 ?_
        refine z_iadd C dX5_answered_107 ?_
        refine z_max C mw_X5_answered_8 mw_X5_answered_9 mw_X5_answered_6 mw_X5_answered_10 (Nat.le_of_ble_eq_true rfl) (Nat.le_of_ble_eq_true rfl) (Nat.zero_le _) (Nat.zero_le _) dX5_answered_108 ?_
        refine z_top (fun x35 ex35 => ?_)
        have hw := hw x35 ex35
        refine z_min C mw_X5_answered_11 mw_X5_answered_12 mw_X5_answered_6 mw_X5_answered_13 (Nat.le_of_ble_eq_true rfl) (Nat.le_of_ble_eq_true rfl) (Nat.zero_le _) (Nat.zero_le _) dX5_answered_111 ?_
        refine z_top (fun x36 ex36 => ?_)
        have hw := hw x36 ex36
        refine z_put C (Cn := RX5) (T := TX5) (N := 5) (ci := 4) h0.2 2 (tE4 h0.1) (tS4_2 h0.1 _) in_X5_answered_X5 tyX5 tyX5_ok nmX5 rfl (by decide) mw_X5_answered_14 rfl rfl (tyX5_ok 2 (by decide)) rfl rfl (Nat.le_of_ble_eq_true rfl) dX5_answered_114 (fun τ37 eτ37 => ?_)
        have hw := hw τ37 eτ37
        refine z_aload_n C 1 (by rfl) dX5_answered_117 ?_
        refine z_iconst C (-1) (by decide) dX5_answered_118 ?_
        refine z_put C (Cn := RX5) (T := TX5) (N := 5) (ci := 4) h0.2 3 (tE4 h0.1) (tS4_3 h0.1 _) in_X5_answered_X5 tyX5 tyX5_ok nmX5 rfl (by decide) mw_X5_answered_0 rfl rfl (tyX5_ok 3 (by decide)) rfl rfl (Nat.le_of_ble_eq_true rfl) dX5_answered_119 (fun τ38 eτ38 => ?_)
        have hw := hw τ38 eτ38
        exact hR _ _ _ dX5_answered_122 hw
    · have hw := hw.2 c22
      exact hR _ _ _ dX5_answered_16 hw
def wp_X5_backOff (τ : TS) (i0 : Nat) (K : TS → Prop) : Prop :=
  ∀ x21 : Int32, x21 = (if (2 * (τ i0 2)) < 60 then (2 * (τ i0 2)) else 60) → ∀ τ22 : TS, τ22 = tp_up τ i0 2 x21 → ∀ τ23 : TS, τ23 = tp_up τ22 i0 3 (-1) → K τ23
theorem mw_X5_backOff_0 : Cond.fieldLink RX5 18 "TidePost$Timing" "timeout" "I" ∈ wsX5_backOff := List.mem_of_getElem? (i := 1) rfl
theorem mw_X5_backOff_1 : Cond.methodLink RX5 37 Lib.Math.min.name ∈ wsX5_backOff := List.mem_of_getElem? (i := 2) rfl
theorem mw_X5_backOff_2 : Cond.static Lib.Math.min.name ∈ wsX5_backOff := List.mem_of_getElem? (i := 3) rfl
theorem mw_X5_backOff_3 : Cond.initialized "java/lang/Math" ∈ wsX5_backOff := List.mem_of_getElem? (i := 4) rfl
theorem mw_X5_backOff_4 : Cond.code Lib.Math.min.name Lib.Math.min.code 2 (some .int) ∈ wsX5_backOff := List.mem_of_getElem? (i := 5) rfl
theorem mw_X5_backOff_5 : Cond.fieldLink RX5 21 "TidePost$Timing" "measured" "I" ∈ wsX5_backOff := List.mem_of_getElem? (i := 6) rfl
theorem in_X5_backOff_X5 : ∀ x ∈ wsX50, x ∈ wsX5_backOff := fun _ h => List.mem_cons_of_mem _ (List.mem_append_right _ h)
set_option maxHeartbeats 4000000 in
set_option maxRecDepth 100000 in
theorem c_X5_backOff (w : WPar) (τ : TS) (i0 : Nat) (K : TS → Prop) (h0 : tp_is i0 4) (hw : wp_X5_backOff τ i0 K) : MV w yX5_backOff wsX5_backOff 1 14 [.ref (w.1 i0)] τ K := by
  refine tp_enterV (cc := cX5_backOff) (maxL := 1) (own := RX5) (by decide) rfl rfl (Nat.le_of_ble_eq_true rfl) (fun g C hR => ?_)
  show Zt w g τ (0, 0) 0 [(0, .ref (w.1 i0))] []
  unfold wp_X5_backOff at hw
  refine z_aload_n C 0 (by rfl) dX5_backOff_0 ?_
  refine z_bipush C 60 (by decide) dX5_backOff_1 ?_
  refine z_iconst C 2 (by decide) dX5_backOff_3 ?_
  refine z_aload_n C 0 (by rfl) dX5_backOff_4 ?_
  refine z_get C (Cn := RX5) (T := TX5) (N := 5) (ci := 4) h0.2 2 (tE4 h0.1) in_X5_backOff_X5 rfl (by decide) mw_X5_backOff_0 rfl rfl dX5_backOff_5 ?_
  refine z_imul C dX5_backOff_8 ?_
  refine z_min C mw_X5_backOff_1 mw_X5_backOff_2 mw_X5_backOff_3 mw_X5_backOff_4 (Nat.le_of_ble_eq_true rfl) (Nat.le_of_ble_eq_true rfl) (Nat.zero_le _) (Nat.zero_le _) dX5_backOff_9 ?_
  refine z_top (fun x21 ex21 => ?_)
  have hw := hw x21 ex21
  refine z_put C (Cn := RX5) (T := TX5) (N := 5) (ci := 4) h0.2 2 (tE4 h0.1) (tS4_2 h0.1 _) in_X5_backOff_X5 tyX5 tyX5_ok nmX5 rfl (by decide) mw_X5_backOff_0 rfl rfl (tyX5_ok 2 (by decide)) rfl rfl (Nat.le_of_ble_eq_true rfl) dX5_backOff_12 (fun τ22 eτ22 => ?_)
  have hw := hw τ22 eτ22
  refine z_aload_n C 0 (by rfl) dX5_backOff_15 ?_
  refine z_iconst C (-1) (by decide) dX5_backOff_16 ?_
  refine z_put C (Cn := RX5) (T := TX5) (N := 5) (ci := 4) h0.2 3 (tE4 h0.1) (tS4_3 h0.1 _) in_X5_backOff_X5 tyX5 tyX5_ok nmX5 rfl (by decide) mw_X5_backOff_5 rfl rfl (tyX5_ok 3 (by decide)) rfl rfl (Nat.le_of_ble_eq_true rfl) dX5_backOff_17 (fun τ23 eτ23 => ?_)
  have hw := hw τ23 eτ23
  exact hR _ _ _ dX5_backOff_20 hw
def wp_X4_of (τ : TS) (x0 : Int32) (x1 : Int32) (x2 : Int32) (x3 : Int32) (K : TS → Int32 → Prop) : Prop :=
  K τ ((((x0 <<< (15 &&& 31)) ||| (x1 <<< (13 &&& 31))) ||| (x2 <<< (5 &&& 31))) ||| x3)
set_option maxHeartbeats 4000000 in
set_option maxRecDepth 100000 in
theorem c_X4_of (w : WPar) (τ : TS) (x0 : Int32) (x1 : Int32) (x2 : Int32) (x3 : Int32) (K : TS → Int32 → Prop)  (hw : wp_X4_of τ x0 x1 x2 x3 K) : MI w yX4_of wsX4_of 0 0 [.int x0, .int x1, .int x2, .int x3] τ K := by
  refine tp_enterI (cc := cX4_of) (maxL := 4) (own := RX4) (by decide) rfl rfl (Nat.le_of_ble_eq_true rfl) (fun g C hR => ?_)
  show Zt w g τ (0, 0) 0 [(0, .int x0), (1, .int x1), (2, .int x2), (3, .int x3)] []
  unfold wp_X4_of at hw
  refine z_iload_n C 0 (by rfl) dX4_of_0 ?_
  refine z_bipush C 15 (by decide) dX4_of_1 ?_
  refine z_ishl C dX4_of_3 ?_
  refine z_iload_n C 1 (by rfl) dX4_of_4 ?_
  refine z_bipush C 13 (by decide) dX4_of_5 ?_
  refine z_ishl C dX4_of_7 ?_
  refine z_ior C dX4_of_8 ?_
  refine z_iload_n C 2 (by rfl) dX4_of_9 ?_
  refine z_iconst C 5 (by decide) dX4_of_10 ?_
  refine z_ishl C dX4_of_11 ?_
  refine z_ior C dX4_of_12 ?_
  refine z_iload_n C 3 (by rfl) dX4_of_13 ?_
  refine z_ior C dX4_of_14 ?_
  exact hR _ _ _ _ dX4_of_15 hw
def wp_X4_hopsOf (τ : TS) (x0 : Int32) (K : TS → Int32 → Prop) : Prop :=
  K τ (x0 >>> (18 &&& 31))
set_option maxHeartbeats 4000000 in
set_option maxRecDepth 100000 in
theorem c_X4_hopsOf (w : WPar) (τ : TS) (x0 : Int32) (K : TS → Int32 → Prop)  (hw : wp_X4_hopsOf τ x0 K) : MI w yX4_hopsOf wsX4_hopsOf 0 0 [.int x0] τ K := by
  refine tp_enterI (cc := cX4_hopsOf) (maxL := 1) (own := RX4) (by decide) rfl rfl (Nat.le_of_ble_eq_true rfl) (fun g C hR => ?_)
  show Zt w g τ (0, 0) 0 [(0, .int x0)] []
  unfold wp_X4_hopsOf at hw
  refine z_iload_n C 0 (by rfl) dX4_hopsOf_0 ?_
  refine z_bipush C 18 (by decide) dX4_hopsOf_1 ?_
  refine z_ishr C dX4_hopsOf_3 ?_
  exact hR _ _ _ _ dX4_hopsOf_4 hw
def wp_X4_connectionOf (τ : TS) (x0 : Int32) (K : TS → Int32 → Prop) : Prop :=
  K τ ((x0 >>> (15 &&& 31)) &&& 7)
set_option maxHeartbeats 4000000 in
set_option maxRecDepth 100000 in
theorem c_X4_connectionOf (w : WPar) (τ : TS) (x0 : Int32) (K : TS → Int32 → Prop)  (hw : wp_X4_connectionOf τ x0 K) : MI w yX4_connectionOf wsX4_connectionOf 0 0 [.int x0] τ K := by
  refine tp_enterI (cc := cX4_connectionOf) (maxL := 1) (own := RX4) (by decide) rfl rfl (Nat.le_of_ble_eq_true rfl) (fun g C hR => ?_)
  show Zt w g τ (0, 0) 0 [(0, .int x0)] []
  unfold wp_X4_connectionOf at hw
  refine z_iload_n C 0 (by rfl) dX4_connectionOf_0 ?_
  refine z_bipush C 15 (by decide) dX4_connectionOf_1 ?_
  refine z_ishr C dX4_connectionOf_3 ?_
  refine z_bipush C 7 (by decide) dX4_connectionOf_4 ?_
  refine z_iand C dX4_connectionOf_6 ?_
  exact hR _ _ _ _ dX4_connectionOf_7 hw
def wp_X4_kindOf (τ : TS) (x0 : Int32) (K : TS → Int32 → Prop) : Prop :=
  K τ ((x0 >>> (13 &&& 31)) &&& 3)
set_option maxHeartbeats 4000000 in
set_option maxRecDepth 100000 in
theorem c_X4_kindOf (w : WPar) (τ : TS) (x0 : Int32) (K : TS → Int32 → Prop)  (hw : wp_X4_kindOf τ x0 K) : MI w yX4_kindOf wsX4_kindOf 0 0 [.int x0] τ K := by
  refine tp_enterI (cc := cX4_kindOf) (maxL := 1) (own := RX4) (by decide) rfl rfl (Nat.le_of_ble_eq_true rfl) (fun g C hR => ?_)
  show Zt w g τ (0, 0) 0 [(0, .int x0)] []
  unfold wp_X4_kindOf at hw
  refine z_iload_n C 0 (by rfl) dX4_kindOf_0 ?_
  refine z_bipush C 13 (by decide) dX4_kindOf_1 ?_
  refine z_ishr C dX4_kindOf_3 ?_
  refine z_iconst C 3 (by decide) dX4_kindOf_4 ?_
  refine z_iand C dX4_kindOf_5 ?_
  exact hR _ _ _ _ dX4_kindOf_6 hw
def wp_X4_numberOf (τ : TS) (x0 : Int32) (K : TS → Int32 → Prop) : Prop :=
  K τ ((x0 >>> (5 &&& 31)) &&& 255)
set_option maxHeartbeats 4000000 in
set_option maxRecDepth 100000 in
theorem c_X4_numberOf (w : WPar) (τ : TS) (x0 : Int32) (K : TS → Int32 → Prop)  (hw : wp_X4_numberOf τ x0 K) : MI w yX4_numberOf wsX4_numberOf 0 0 [.int x0] τ K := by
  refine tp_enterI (cc := cX4_numberOf) (maxL := 1) (own := RX4) (by decide) rfl rfl (Nat.le_of_ble_eq_true rfl) (fun g C hR => ?_)
  show Zt w g τ (0, 0) 0 [(0, .int x0)] []
  unfold wp_X4_numberOf at hw
  refine z_iload_n C 0 (by rfl) dX4_numberOf_0 ?_
  refine z_iconst C 5 (by decide) dX4_numberOf_1 ?_
  refine z_ishr C dX4_numberOf_2 ?_
  refine z_sipush C 255 (by decide) dX4_numberOf_3 ?_
  refine z_iand C dX4_numberOf_6 ?_
  exact hR _ _ _ _ dX4_numberOf_7 hw
def wp_X4_roomOf (τ : TS) (x0 : Int32) (K : TS → Int32 → Prop) : Prop :=
  K τ (x0 &&& 31)
set_option maxHeartbeats 4000000 in
set_option maxRecDepth 100000 in
theorem c_X4_roomOf (w : WPar) (τ : TS) (x0 : Int32) (K : TS → Int32 → Prop)  (hw : wp_X4_roomOf τ x0 K) : MI w yX4_roomOf wsX4_roomOf 0 0 [.int x0] τ K := by
  refine tp_enterI (cc := cX4_roomOf) (maxL := 1) (own := RX4) (by decide) rfl rfl (Nat.le_of_ble_eq_true rfl) (fun g C hR => ?_)
  show Zt w g τ (0, 0) 0 [(0, .int x0)] []
  unfold wp_X4_roomOf at hw
  refine z_iload_n C 0 (by rfl) dX4_roomOf_0 ?_
  refine z_bipush C 31 (by decide) dX4_roomOf_1 ?_
  refine z_iand C dX4_roomOf_3 ?_
  exact hR _ _ _ _ dX4_roomOf_4 hw
def wp_J9_floorMod_7cf53 (τ : TS) (x0 : Int32) (x1 : Int32) (K : TS → Int32 → Prop) : Prop :=
  ¬ x1 = 0 ∧ (∀ x22 : Int32, x22 = (x0 - x0 / x1 * x1) → ((0 ≤ (x0 ^^^ x1)) → (K τ x22)) ∧ ((¬ 0 ≤ (x0 ^^^ x1)) → (((x22 = 0) → (K τ x22)) ∧ ((¬ x22 = 0) → (K τ (x22 + x1))))))
set_option maxHeartbeats 4000000 in
set_option maxRecDepth 100000 in
theorem c_J9_floorMod_7cf53 (w : WPar) (τ : TS) (x0 : Int32) (x1 : Int32) (K : TS → Int32 → Prop)  (hw : wp_J9_floorMod_7cf53 τ x0 x1 K) : MI w yJ9_floorMod_7cf53 wsJ9_floorMod_7cf53 0 0 [.int x0, .int x1] τ K := by
  refine tp_enterIF (cc := cJ9_floorMod_7cf53) (maxL := 3) (own := RJ9) (by decide +kernel) rfl rfl (Nat.le_of_ble_eq_true rfl) (fun g C hR => ?_)
  show Zt w g τ (0, 0) 0 [(0, .int x0), (1, .int x1)] []
  unfold wp_J9_floorMod_7cf53 at hw
  refine z_iload_n C 0 (by rfl) dJ9_floorMod_7cf53_0 ?_
  refine z_iload_n C 1 (by rfl) dJ9_floorMod_7cf53_1 ?_
  obtain ⟨s21, hw⟩ := hw
  refine z_irem C s21 dJ9_floorMod_7cf53_2 ?_
  refine z_top (fun x22 ex22 => ?_)
  have hw := hw x22 ex22
  refine z_istore_n C [(2, .int x22), (0, .int x0), (1, .int x1)] dJ9_floorMod_7cf53_3 (by decide) rfl ?_
  refine z_iload_n C 1 (by rfl) dJ9_floorMod_7cf53_4 ?_
  refine z_iload_n C 2 (by rfl) dJ9_floorMod_7cf53_5 ?_
  refine z_ixor C dJ9_floorMod_7cf53_6 ?_
  refine z_if_ge (tgt := 18) C dJ9_floorMod_7cf53_7 (by decide) (fun c23 => ?_) (fun c23 => ?_)
  · have hw := hw.1 c23
    refine z_iload_n C 0 (by rfl) dJ9_floorMod_7cf53_18 ?_
    exact hR _ _ _ _ dJ9_floorMod_7cf53_19 hw
  · have hw := hw.2 c23
    refine z_iload_n C 0 (by rfl) dJ9_floorMod_7cf53_10 ?_
    refine z_if_eq (tgt := 18) C dJ9_floorMod_7cf53_11 (by decide) (fun c24 => ?_) (fun c24 => ?_)
    · have hw := hw.1 c24
      refine z_iload_n C 0 (by rfl) dJ9_floorMod_7cf53_18 ?_
      exact hR _ _ _ _ dJ9_floorMod_7cf53_19 hw
    · have hw := hw.2 c24
      refine z_iload_n C 0 (by rfl) dJ9_floorMod_7cf53_14 ?_
      refine z_iload_n C 2 (by rfl) dJ9_floorMod_7cf53_15 ?_
      refine z_iadd C dJ9_floorMod_7cf53_16 ?_
      exact hR _ _ _ _ dJ9_floorMod_7cf53_17 hw
def wp_X7_join (τ : TS) (i0 : Nat) (x1 : Int32) (x2 : Int32) (K : TS → Int32 → Prop) : Prop :=
  ((x2 ≤ (τ i0 2)) → (K τ 0)) ∧ ((¬ x2 ≤ (τ i0 2)) → ((((τ i0 2) < 20) → (∀ x23 : Int32, x23 = (((τ i0 1) + (τ i0 2)) - ((τ i0 1) + (τ i0 2)) / 20 * 20) → vp_in x23 20 ∧ (∀ τ25 : TS, τ25 = tp_up τ (i0 + 1) (Int32.toNatClampNeg x23) x1 → ∀ τ26 : TS, τ26 = tp_up τ25 i0 2 ((τ25 i0 2) + 1) → K τ26 1))) ∧ ((¬ (τ i0 2) < 20) → (K τ 0))))
theorem mw_X7_join_0 : Cond.fieldLink RX7 18 "TidePost$Way" "queued" "I" ∈ wsX7_join := List.mem_of_getElem? (i := 1) rfl
theorem mw_X7_join_1 : Cond.fieldLink RX7 9 "TidePost$Way" "queue" "[I" ∈ wsX7_join := List.mem_of_getElem? (i := 2) rfl
theorem mw_X7_join_2 : Cond.fieldLink RX7 22 "TidePost$Way" "head" "I" ∈ wsX7_join := List.mem_of_getElem? (i := 3) rfl
theorem in_X7_join_X7 : ∀ x ∈ wsX70, x ∈ wsX7_join := fun _ h => List.mem_cons_of_mem _ (List.mem_append_right _ h)
set_option maxHeartbeats 4000000 in
set_option maxRecDepth 100000 in
theorem c_X7_join (w : WPar) (τ : TS) (i0 : Nat) (x1 : Int32) (x2 : Int32) (K : TS → Int32 → Prop) (h0 : tp_is i0 6) (hw : wp_X7_join τ i0 x1 x2 K) : MI w yX7_join wsX7_join 0 0 [.ref (w.1 i0), .int x1, .int x2] τ K := by
  refine tp_enterZ (cc := cX7_join) (maxL := 3) (own := RX7) (by decide) rfl rfl (Nat.le_of_ble_eq_true rfl) (fun g C hR => ?_)
  show Zt w g τ (0, 0) 0 [(0, .ref (w.1 i0)), (1, .int x1), (2, .int x2)] []
  unfold wp_X7_join at hw
  refine z_aload_n C 0 (by rfl) dX7_join_0 ?_
  refine z_get C (Cn := RX7) (T := TX7) (N := 7) (ci := 6) h0.2 2 (tE6 h0.1) in_X7_join_X7 rfl (by decide) mw_X7_join_0 rfl rfl dX7_join_1 ?_
  refine z_iload_n C 2 (by rfl) dX7_join_4 ?_
  refine z_icmp_ge (tgt := 17) C dX7_join_5 (by decide) (fun c21 => ?_) (fun c21 => ?_)
  · have hw := hw.1 c21
    refine z_iconst C 0 (by decide) dX7_join_17 ?_
    exact hR _ _ _ _ dX7_join_18 rfl hw
  · have hw := hw.2 c21
    refine z_aload_n C 0 (by rfl) dX7_join_8 ?_
    refine z_get C (Cn := RX7) (T := TX7) (N := 7) (ci := 6) h0.2 2 (tE6 h0.1) in_X7_join_X7 rfl (by decide) mw_X7_join_0 rfl rfl dX7_join_9 ?_
    refine z_bipush C 20 (by decide) dX7_join_12 ?_
    refine z_icmp_lt (tgt := 19) C dX7_join_14 (by decide) (fun c22 => ?_) (fun c22 => ?_)
    · have hw := hw.1 c22
      refine z_aload_n C 0 (by rfl) dX7_join_19 ?_
      refine z_get C (Cn := RX7) (T := TX7) (N := 7) (ci := 6) h0.2 0 (tE6 h0.1) in_X7_join_X7 rfl (by decide) mw_X7_join_1 rfl rfl dX7_join_20 ?_
      refine z_aload_n C 0 (by rfl) dX7_join_23 ?_
      refine z_get C (Cn := RX7) (T := TX7) (N := 7) (ci := 6) h0.2 1 (tE6 h0.1) in_X7_join_X7 rfl (by decide) mw_X7_join_2 rfl rfl dX7_join_24 ?_
      refine z_aload_n C 0 (by rfl) dX7_join_27 ?_
      refine z_get C (Cn := RX7) (T := TX7) (N := 7) (ci := 6) h0.2 2 (tE6 h0.1) in_X7_join_X7 rfl (by decide) mw_X7_join_0 rfl rfl dX7_join_28 ?_
      refine z_iadd C dX7_join_31 ?_
      refine z_bipush C 20 (by decide) dX7_join_32 ?_
      refine z_irem C (by decide) dX7_join_34 ?_
      refine z_top (fun x23 ex23 => ?_)
      have hw := hw x23 ex23
      refine z_iload_n C 1 (by rfl) dX7_join_35 ?_
      obtain ⟨s24, hw⟩ := hw
      refine z_iast C (tR6_0 h0).2 (fun _ => tE8 (tR6_0 h0).1) s24 dX7_join_36 (fun τ25 eτ25 => ?_)
      have hw := hw τ25 eτ25
      refine z_aload_n C 0 (by rfl) dX7_join_37 ?_
      refine z_dup C rfl dX7_join_38 ?_
      refine z_get C (Cn := RX7) (T := TX7) (N := 7) (ci := 6) h0.2 2 (tE6 h0.1) in_X7_join_X7 rfl (by decide) mw_X7_join_0 rfl rfl dX7_join_39 ?_
      refine z_iconst C 1 (by decide) dX7_join_42 ?_
      refine z_iadd C dX7_join_43 ?_
      refine z_put C (Cn := RX7) (T := TX7) (N := 7) (ci := 6) h0.2 2 (tE6 h0.1) (tS6_2 h0.1 _) in_X7_join_X7 tyX7 tyX7_ok nmX7 rfl (by decide) mw_X7_join_0 rfl rfl (tyX7_ok 2 (by decide)) rfl rfl (Nat.le_of_ble_eq_true rfl) dX7_join_44 (fun τ26 eτ26 => ?_)
      have hw := hw τ26 eτ26
      refine z_iconst C 1 (by decide) dX7_join_47 ?_
      exact hR _ _ _ _ dX7_join_48 rfl hw
    · have hw := hw.2 c22
      refine z_iconst C 0 (by decide) dX7_join_17 ?_
      exact hR _ _ _ _ dX7_join_18 rfl hw
def wp_X7_takeOff (τ : TS) (i0 : Nat) (x1 : Int32) (K : TS → Int32 → Prop) : Prop :=
  ((¬ (τ i0 2) = 0) → (vp_in (τ i0 1) 20 ∧ (∀ x23 : Int32, x23 = (τ (i0 + 1) (Int32.toNatClampNeg (τ i0 1))) → ∀ x24 : Int32, x24 = (((τ i0 1) + 1) - ((τ i0 1) + 1) / 20 * 20) → ∀ τ25 : TS, τ25 = tp_up τ i0 1 x24 → ∀ τ26 : TS, τ26 = tp_up τ25 i0 2 ((τ25 i0 2) - 1) → (((τ26 i0 6) ≤ 0) → (wp_J9_floorMod_7cf53 τ26 x1 10 (fun τ28 x29 => vp_in x29 10 ∧ (∀ τ31 : TS, τ31 = tp_up τ28 (i0 + 2) (Int32.toNatClampNeg x29) (x23 + 262144) → ∀ τ32 : TS, τ32 = tp_up τ31 i0 4 ((τ31 i0 4) + 1) → ∀ τ33 : TS, τ33 = tp_up τ32 i0 5 ((τ32 i0 5) + 1) → K τ33 0)))) ∧ ((¬ (τ26 i0 6) ≤ 0) → (∀ τ34 : TS, τ34 = tp_up τ26 i0 6 ((τ26 i0 6) - 1) → K τ34 1))))) ∧ (((τ i0 2) = 0) → (K τ 0))
theorem mw_X7_takeOff_0 : Cond.fieldLink RX7 18 "TidePost$Way" "queued" "I" ∈ wsX7_takeOff := List.mem_of_getElem? (i := 1) rfl
theorem mw_X7_takeOff_1 : Cond.fieldLink RX7 9 "TidePost$Way" "queue" "[I" ∈ wsX7_takeOff := List.mem_of_getElem? (i := 2) rfl
theorem mw_X7_takeOff_2 : Cond.fieldLink RX7 22 "TidePost$Way" "head" "I" ∈ wsX7_takeOff := List.mem_of_getElem? (i := 3) rfl
theorem mw_X7_takeOff_3 : Cond.fieldLink RX7 25 "TidePost$Way" "toLose" "I" ∈ wsX7_takeOff := List.mem_of_getElem? (i := 4) rfl
theorem mw_X7_takeOff_4 : Cond.fieldLink RX7 15 "TidePost$Way" "flight" "[I" ∈ wsX7_takeOff := List.mem_of_getElem? (i := 5) rfl
theorem mw_X7_takeOff_5 : Cond.constant RX7 36 (262144) ∈ wsX7_takeOff := List.mem_of_getElem? (i := 6) rfl
theorem mw_X7_takeOff_6 : Cond.fieldLink RX7 37 "TidePost$Way" "flying" "I" ∈ wsX7_takeOff := List.mem_of_getElem? (i := 7) rfl
theorem mw_X7_takeOff_7 : Cond.fieldLink RX7 40 "TidePost$Way" "flown" "I" ∈ wsX7_takeOff := List.mem_of_getElem? (i := 8) rfl
theorem in_X7_takeOff_X7 : ∀ x ∈ wsX70, x ∈ wsX7_takeOff := fun _ h => List.mem_cons_of_mem _ (List.mem_append_right _ h)
set_option maxHeartbeats 4000000 in
set_option maxRecDepth 100000 in
theorem c_X7_takeOff (w : WPar) (τ : TS) (i0 : Nat) (x1 : Int32) (K : TS → Int32 → Prop) (h0 : tp_is i0 6) (hw : wp_X7_takeOff τ i0 x1 K) : MI w yX7_takeOff wsX7_takeOff 1 22 [.ref (w.1 i0), .int x1] τ K := by
  refine tp_enterZ (cc := cX7_takeOff) (maxL := 3) (own := RX7) (by decide) rfl rfl (Nat.le_of_ble_eq_true rfl) (fun g C hR => ?_)
  show Zt w g τ (0, 0) 0 [(0, .ref (w.1 i0)), (1, .int x1)] []
  unfold wp_X7_takeOff at hw
  refine z_aload_n C 0 (by rfl) dX7_takeOff_0 ?_
  refine z_get C (Cn := RX7) (T := TX7) (N := 7) (ci := 6) h0.2 2 (tE6 h0.1) in_X7_takeOff_X7 rfl (by decide) mw_X7_takeOff_0 rfl rfl dX7_takeOff_1 ?_
  refine z_if_ne (tgt := 9) C dX7_takeOff_4 (by decide) (fun c21 => ?_) (fun c21 => ?_)
  · have hw := hw.1 c21
    refine z_aload_n C 0 (by rfl) dX7_takeOff_9 ?_
    refine z_get C (Cn := RX7) (T := TX7) (N := 7) (ci := 6) h0.2 0 (tE6 h0.1) in_X7_takeOff_X7 rfl (by decide) mw_X7_takeOff_1 rfl rfl dX7_takeOff_10 ?_
    refine z_aload_n C 0 (by rfl) dX7_takeOff_13 ?_
    refine z_get C (Cn := RX7) (T := TX7) (N := 7) (ci := 6) h0.2 1 (tE6 h0.1) in_X7_takeOff_X7 rfl (by decide) mw_X7_takeOff_2 rfl rfl dX7_takeOff_14 ?_
    obtain ⟨s22, hw⟩ := hw
    refine z_iald C (tR6_0 h0).2 (tE8 (tR6_0 h0).1) s22 dX7_takeOff_17 ?_
    refine z_top (fun x23 ex23 => ?_)
    have hw := hw x23 ex23
    refine z_istore_n C [(2, .int x23), (0, .ref (w.1 i0)), (1, .int x1)] dX7_takeOff_18 (by decide) rfl ?_
    refine z_aload_n C 1 (by rfl) dX7_takeOff_19 ?_
    refine z_aload_n C 1 (by rfl) dX7_takeOff_20 ?_
    refine z_get C (Cn := RX7) (T := TX7) (N := 7) (ci := 6) h0.2 1 (tE6 h0.1) in_X7_takeOff_X7 rfl (by decide) mw_X7_takeOff_2 rfl rfl dX7_takeOff_21 ?_
    refine z_iconst C 1 (by decide) dX7_takeOff_24 ?_
    refine z_iadd C dX7_takeOff_25 ?_
    refine z_bipush C 20 (by decide) dX7_takeOff_26 ?_
    refine z_irem C (by decide) dX7_takeOff_28 ?_
    refine z_top (fun x24 ex24 => ?_)
    have hw := hw x24 ex24
    refine z_put C (Cn := RX7) (T := TX7) (N := 7) (ci := 6) h0.2 1 (tE6 h0.1) (tS6_1 h0.1 _) in_X7_takeOff_X7 tyX7 tyX7_ok nmX7 rfl (by decide) mw_X7_takeOff_2 rfl rfl (tyX7_ok 1 (by decide)) rfl rfl (Nat.le_of_ble_eq_true rfl) dX7_takeOff_29 (fun τ25 eτ25 => ?_)
    have hw := hw τ25 eτ25
    refine z_aload_n C 1 (by rfl) dX7_takeOff_32 ?_
    refine z_dup C rfl dX7_takeOff_33 ?_
    refine z_get C (Cn := RX7) (T := TX7) (N := 7) (ci := 6) h0.2 2 (tE6 h0.1) in_X7_takeOff_X7 rfl (by decide) mw_X7_takeOff_0 rfl rfl dX7_takeOff_34 ?_
    refine z_iconst C 1 (by decide) dX7_takeOff_37 ?_
    refine z_isub C dX7_takeOff_38 ?_
    refine z_put C (Cn := RX7) (T := TX7) (N := 7) (ci := 6) h0.2 2 (tE6 h0.1) (tS6_2 h0.1 _) in_X7_takeOff_X7 tyX7 tyX7_ok nmX7 rfl (by decide) mw_X7_takeOff_0 rfl rfl (tyX7_ok 2 (by decide)) rfl rfl (Nat.le_of_ble_eq_true rfl) dX7_takeOff_39 (fun τ26 eτ26 => ?_)
    have hw := hw τ26 eτ26
    refine z_aload_n C 1 (by rfl) dX7_takeOff_42 ?_
    refine z_get C (Cn := RX7) (T := TX7) (N := 7) (ci := 6) h0.2 6 (tE6 h0.1) in_X7_takeOff_X7 rfl (by decide) mw_X7_takeOff_3 rfl rfl dX7_takeOff_43 ?_
    refine z_if_le (tgt := 61) C dX7_takeOff_46 (by decide) (fun c27 => ?_) (fun c27 => ?_)
    · have hw := hw.1 c27
      refine z_aload_n C 1 (by rfl) dX7_takeOff_61 ?_
      refine z_get C (Cn := RX7) (T := TX7) (N := 7) (ci := 6) h0.2 3 (tE6 h0.1) in_X7_takeOff_X7 rfl (by decide) mw_X7_takeOff_4 rfl rfl dX7_takeOff_62 ?_
      refine z_iload_n C 2 (by rfl) dX7_takeOff_65 ?_
      refine z_bipush C 10 (by decide) dX7_takeOff_66 ?_
      refine zs_i C (As := [.int x1, .int 10]) (bytes := cJ9_floorMod_7cf53) (maxL := 3) (F1 := 0) (L1 := 0) (c_J9_floorMod_7cf53 w _ x1 10 _  hw) 2 gX7_takeOff_J9_floorMod_7cf53 rfl (by decide +kernel) ⟨Nat.le_of_ble_eq_true rfl, Nat.le_of_ble_eq_true rfl⟩ rfl (Nat.le_of_ble_eq_true rfl) ⟨Nat.zero_le _, Nat.zero_le _⟩ rfl dX7_takeOff_68 (fun x29 τ28 hw => ?_)
      refine z_iload_n C 0 (by rfl) dX7_takeOff_71 ?_
      refine z_ldc C 262144 mw_X7_takeOff_5 dX7_takeOff_72 ?_
      refine z_iadd C dX7_takeOff_74 ?_
      obtain ⟨s30, hw⟩ := hw
      refine z_iast C (tR6_3 h0).2 (fun _ => tE9 (tR6_3 h0).1) s30 dX7_takeOff_75 (fun τ31 eτ31 => ?_)
      have hw := hw τ31 eτ31
      refine z_aload_n C 1 (by rfl) dX7_takeOff_76 ?_
      refine z_dup C rfl dX7_takeOff_77 ?_
      refine z_get C (Cn := RX7) (T := TX7) (N := 7) (ci := 6) h0.2 4 (tE6 h0.1) in_X7_takeOff_X7 rfl (by decide) mw_X7_takeOff_6 rfl rfl dX7_takeOff_78 ?_
      refine z_iconst C 1 (by decide) dX7_takeOff_81 ?_
      refine z_iadd C dX7_takeOff_82 ?_
      refine z_put C (Cn := RX7) (T := TX7) (N := 7) (ci := 6) h0.2 4 (tE6 h0.1) (tS6_4 h0.1 _) in_X7_takeOff_X7 tyX7 tyX7_ok nmX7 rfl (by decide) mw_X7_takeOff_6 rfl rfl (tyX7_ok 4 (by decide)) rfl rfl (Nat.le_of_ble_eq_true rfl) dX7_takeOff_83 (fun τ32 eτ32 => ?_)
      have hw := hw τ32 eτ32
      refine z_aload_n C 1 (by rfl) dX7_takeOff_86 ?_
      refine z_dup C rfl dX7_takeOff_87 ?_
      refine z_get C (Cn := RX7) (T := TX7) (N := 7) (ci := 6) h0.2 5 (tE6 h0.1) in_X7_takeOff_X7 rfl (by decide) mw_X7_takeOff_7 rfl rfl dX7_takeOff_88 ?_
      refine z_iconst C 1 (by decide) dX7_takeOff_91 ?_
      refine z_iadd C dX7_takeOff_92 ?_
      refine z_put C (Cn := RX7) (T := TX7) (N := 7) (ci := 6) h0.2 5 (tE6 h0.1) (tS6_5 h0.1 _) in_X7_takeOff_X7 tyX7 tyX7_ok nmX7 rfl (by decide) mw_X7_takeOff_7 rfl rfl (tyX7_ok 5 (by decide)) rfl rfl (Nat.le_of_ble_eq_true rfl) dX7_takeOff_93 (fun τ33 eτ33 => ?_)
      have hw := hw τ33 eτ33
      refine z_iconst C 0 (by decide) dX7_takeOff_96 ?_
      exact hR _ _ _ _ dX7_takeOff_97 rfl hw
    · have hw := hw.2 c27
      refine z_aload_n C 1 (by rfl) dX7_takeOff_49 ?_
      refine z_dup C rfl dX7_takeOff_50 ?_
      refine z_get C (Cn := RX7) (T := TX7) (N := 7) (ci := 6) h0.2 6 (tE6 h0.1) in_X7_takeOff_X7 rfl (by decide) mw_X7_takeOff_3 rfl rfl dX7_takeOff_51 ?_
      refine z_iconst C 1 (by decide) dX7_takeOff_54 ?_
      refine z_isub C dX7_takeOff_55 ?_
      refine z_put C (Cn := RX7) (T := TX7) (N := 7) (ci := 6) h0.2 6 (tE6 h0.1) (tS6_6 h0.1 _) in_X7_takeOff_X7 tyX7 tyX7_ok nmX7 rfl (by decide) mw_X7_takeOff_3 rfl rfl (tyX7_ok 6 (by decide)) rfl rfl (Nat.le_of_ble_eq_true rfl) dX7_takeOff_56 (fun τ34 eτ34 => ?_)
      have hw := hw τ34 eτ34
      refine z_iconst C 1 (by decide) dX7_takeOff_59 ?_
      exact hR _ _ _ _ dX7_takeOff_60 rfl hw
  · have hw := hw.2 c21
    refine z_iconst C 0 (by decide) dX7_takeOff_7 ?_
    exact hR _ _ _ _ dX7_takeOff_8 rfl hw
def wp_X7_land (τ : TS) (i0 : Nat) (x1 : Int32) (K : TS → Int32 → Prop) : Prop :=
  wp_J9_floorMod_7cf53 τ x1 10 (fun τ21 x22 => vp_in x22 10 ∧ (∀ x24 : Int32, x24 = (τ21 (i0 + 2) (Int32.toNatClampNeg x22)) → ((x24 = (-1)) → (K τ21 x24)) ∧ ((¬ x24 = (-1)) → (vp_in x22 10 ∧ (∀ τ27 : TS, τ27 = tp_up τ21 (i0 + 2) (Int32.toNatClampNeg x22) (-1) → ∀ τ28 : TS, τ28 = tp_up τ27 i0 4 ((τ27 i0 4) - 1) → K τ28 x24)))))
theorem mw_X7_land_0 : Cond.fieldLink RX7 15 "TidePost$Way" "flight" "[I" ∈ wsX7_land := List.mem_of_getElem? (i := 1) rfl
theorem mw_X7_land_1 : Cond.fieldLink RX7 37 "TidePost$Way" "flying" "I" ∈ wsX7_land := List.mem_of_getElem? (i := 2) rfl
theorem in_X7_land_X7 : ∀ x ∈ wsX70, x ∈ wsX7_land := fun _ h => List.mem_cons_of_mem _ (List.mem_append_right _ h)
set_option maxHeartbeats 4000000 in
set_option maxRecDepth 100000 in
theorem c_X7_land (w : WPar) (τ : TS) (i0 : Nat) (x1 : Int32) (K : TS → Int32 → Prop) (h0 : tp_is i0 6) (hw : wp_X7_land τ i0 x1 K) : MI w yX7_land wsX7_land 1 22 [.ref (w.1 i0), .int x1] τ K := by
  refine tp_enterI (cc := cX7_land) (maxL := 4) (own := RX7) (by decide) rfl rfl (Nat.le_of_ble_eq_true rfl) (fun g C hR => ?_)
  show Zt w g τ (0, 0) 0 [(0, .ref (w.1 i0)), (1, .int x1)] []
  unfold wp_X7_land at hw
  refine z_iload_n C 1 (by rfl) dX7_land_0 ?_
  refine z_bipush C 10 (by decide) dX7_land_1 ?_
  refine zs_i C (As := [.int x1, .int 10]) (bytes := cJ9_floorMod_7cf53) (maxL := 3) (F1 := 0) (L1 := 0) (c_J9_floorMod_7cf53 w _ x1 10 _  hw) 2 gX7_land_J9_floorMod_7cf53 rfl (by decide +kernel) ⟨Nat.le_of_ble_eq_true rfl, Nat.le_of_ble_eq_true rfl⟩ rfl (Nat.le_of_ble_eq_true rfl) ⟨Nat.zero_le _, Nat.zero_le _⟩ rfl dX7_land_3 (fun x22 τ21 hw => ?_)
  refine z_istore_n C [(2, .int x22), (0, .ref (w.1 i0)), (1, .int x1)] dX7_land_6 (by decide) rfl ?_
  refine z_aload_n C 1 (by rfl) dX7_land_7 ?_
  refine z_get C (Cn := RX7) (T := TX7) (N := 7) (ci := 6) h0.2 3 (tE6 h0.1) in_X7_land_X7 rfl (by decide) mw_X7_land_0 rfl rfl dX7_land_8 ?_
  refine z_iload_n C 0 (by rfl) dX7_land_11 ?_
  obtain ⟨s23, hw⟩ := hw
  refine z_iald C (tR6_3 h0).2 (tE9 (tR6_3 h0).1) s23 dX7_land_12 ?_
  refine z_top (fun x24 ex24 => ?_)
  have hw := hw x24 ex24
  refine z_istore_n C [(3, .int x24), (2, .int x22), (0, .ref (w.1 i0)), (1, .int x1)] dX7_land_13 (by decide) rfl ?_
  refine z_iload_n C 0 (by rfl) dX7_land_14 ?_
  refine z_iconst C (-1) (by decide) dX7_land_15 ?_
  refine z_icmp_eq (tgt := 36) C dX7_land_16 (by decide) (fun c25 => ?_) (fun c25 => ?_)
  · have hw := hw.1 c25
    refine z_iload_n C 0 (by rfl) dX7_land_36 ?_
    exact hR _ _ _ _ dX7_land_37 hw
  · have hw := hw.2 c25
    refine z_aload_n C 2 (by rfl) dX7_land_19 ?_
    refine z_get C (Cn := RX7) (T := TX7) (N := 7) (ci := 6) h0.2 3 (tE6 h0.1) in_X7_land_X7 rfl (by decide) mw_X7_land_0 rfl rfl dX7_land_20 ?_
    refine z_iload_n C 1 (by rfl) dX7_land_23 ?_
    refine z_iconst C (-1) (by decide) dX7_land_24 ?_
    obtain ⟨s26, hw⟩ := hw
    refine z_iast C (tR6_3 h0).2 (fun _ => tE9 (tR6_3 h0).1) s26 dX7_land_25 (fun τ27 eτ27 => ?_)
    have hw := hw τ27 eτ27
    refine z_aload_n C 2 (by rfl) dX7_land_26 ?_
    refine z_dup C rfl dX7_land_27 ?_
    refine z_get C (Cn := RX7) (T := TX7) (N := 7) (ci := 6) h0.2 4 (tE6 h0.1) in_X7_land_X7 rfl (by decide) mw_X7_land_1 rfl rfl dX7_land_28 ?_
    refine z_iconst C 1 (by decide) dX7_land_31 ?_
    refine z_isub C dX7_land_32 ?_
    refine z_put C (Cn := RX7) (T := TX7) (N := 7) (ci := 6) h0.2 4 (tE6 h0.1) (tS6_4 h0.1 _) in_X7_land_X7 tyX7 tyX7_ok nmX7 rfl (by decide) mw_X7_land_1 rfl rfl (tyX7_ok 4 (by decide)) rfl rfl (Nat.le_of_ble_eq_true rfl) dX7_land_33 (fun τ28 eτ28 => ?_)
    have hw := hw τ28 eτ28
    refine z_iload_n C 0 (by rfl) dX7_land_36 ?_
    exact hR _ _ _ _ dX7_land_37 hw
def wp_X7_drop (τ : TS) (i0 : Nat) (K : TS → Int32 → Prop) : Prop :=
  ∀ x21 : Int32, x21 = ((τ i0 2) + (τ i0 4)) → ∀ τ22 : TS, τ22 = tp_up τ i0 2 0 → ∀ τ23 : TS, τ23 = tp_up τ22 i0 4 0 → ∃ (I26 : TS → Int32 → Prop) (u26 : TS → Int32 → Nat), I26 τ23 0 ∧ ∀ (τ24 : TS) (x25 : Int32), I26 τ24 x25 → (((10 ≤ x25) → (K τ24 x21)) ∧ ((¬ 10 ≤ x25) → (vp_in x25 10 ∧ (∀ τ29 : TS, τ29 = tp_up τ24 (i0 + 2) (Int32.toNatClampNeg x25) (-1) → ∀ x30 : Int32, x30 = x25 + 1 → I26 τ29 x30 ∧ u26 τ29 x30 < u26 τ24 x25))))
theorem mw_X7_drop_0 : Cond.fieldLink RX7 18 "TidePost$Way" "queued" "I" ∈ wsX7_drop := List.mem_of_getElem? (i := 1) rfl
theorem mw_X7_drop_1 : Cond.fieldLink RX7 37 "TidePost$Way" "flying" "I" ∈ wsX7_drop := List.mem_of_getElem? (i := 2) rfl
theorem mw_X7_drop_2 : Cond.fieldLink RX7 15 "TidePost$Way" "flight" "[I" ∈ wsX7_drop := List.mem_of_getElem? (i := 3) rfl
theorem in_X7_drop_X7 : ∀ x ∈ wsX70, x ∈ wsX7_drop := fun _ h => List.mem_cons_of_mem _ (List.mem_append_right _ h)
set_option maxHeartbeats 4000000 in
set_option maxRecDepth 100000 in
theorem c_X7_drop (w : WPar) (τ : TS) (i0 : Nat) (K : TS → Int32 → Prop) (h0 : tp_is i0 6) (hw : wp_X7_drop τ i0 K) : MI w yX7_drop wsX7_drop 0 0 [.ref (w.1 i0)] τ K := by
  refine tp_enterI (cc := cX7_drop) (maxL := 3) (own := RX7) (by decide) rfl rfl (Nat.le_of_ble_eq_true rfl) (fun g C hR => ?_)
  show Zt w g τ (0, 0) 0 [(0, .ref (w.1 i0))] []
  unfold wp_X7_drop at hw
  refine z_aload_n C 0 (by rfl) dX7_drop_0 ?_
  refine z_get C (Cn := RX7) (T := TX7) (N := 7) (ci := 6) h0.2 2 (tE6 h0.1) in_X7_drop_X7 rfl (by decide) mw_X7_drop_0 rfl rfl dX7_drop_1 ?_
  refine z_aload_n C 0 (by rfl) dX7_drop_4 ?_
  refine z_get C (Cn := RX7) (T := TX7) (N := 7) (ci := 6) h0.2 4 (tE6 h0.1) in_X7_drop_X7 rfl (by decide) mw_X7_drop_1 rfl rfl dX7_drop_5 ?_
  refine z_iadd C dX7_drop_8 ?_
  refine z_top (fun x21 ex21 => ?_)
  have hw := hw x21 ex21
  refine z_istore_n C [(1, .int x21), (0, .ref (w.1 i0))] dX7_drop_9 (by decide) rfl ?_
  refine z_aload_n C 1 (by rfl) dX7_drop_10 ?_
  refine z_iconst C 0 (by decide) dX7_drop_11 ?_
  refine z_put C (Cn := RX7) (T := TX7) (N := 7) (ci := 6) h0.2 2 (tE6 h0.1) (tS6_2 h0.1 _) in_X7_drop_X7 tyX7 tyX7_ok nmX7 rfl (by decide) mw_X7_drop_0 rfl rfl (tyX7_ok 2 (by decide)) rfl rfl (Nat.le_of_ble_eq_true rfl) dX7_drop_12 (fun τ22 eτ22 => ?_)
  have hw := hw τ22 eτ22
  refine z_aload_n C 1 (by rfl) dX7_drop_15 ?_
  refine z_iconst C 0 (by decide) dX7_drop_16 ?_
  refine z_put C (Cn := RX7) (T := TX7) (N := 7) (ci := 6) h0.2 4 (tE6 h0.1) (tS6_4 h0.1 _) in_X7_drop_X7 tyX7 tyX7_ok nmX7 rfl (by decide) mw_X7_drop_1 rfl rfl (tyX7_ok 4 (by decide)) rfl rfl (Nat.le_of_ble_eq_true rfl) dX7_drop_17 (fun τ23 eτ23 => ?_)
  have hw := hw τ23 eτ23
  refine z_iconst C 0 (by decide) dX7_drop_20 ?_
  refine z_istore_n C [(2, .int 0), (1, .int x21), (0, .ref (w.1 i0))] dX7_drop_21 (by decide) rfl ?_
  obtain ⟨I26, u26, hI26, hs26⟩ := hw
  have lp26 : ∀ (n26 : Nat) (τ24 : TS) (x25 : Int32), u26 τ24 x25 < n26 → I26 τ24 x25 → Zt w g τ24 (0, 0) 22 [(0, .ref (w.1 i0)), (1, .int x21), (2, .int x25)] [] := by
    intro n26
    induction n26 with
    | zero => intro τ24 x25 hlt26; exact absurd hlt26 (Nat.not_lt_zero _)
    | succ n26 ih26 =>
      intro τ24 x25 hlt26 hh26
      have hw := hs26 τ24 x25 hh26
      refine z_iload_n C 2 (by rfl) dX7_drop_22 ?_
      refine z_bipush C 10 (by decide) dX7_drop_23 ?_
      refine z_icmp_ge (tgt := 41) C dX7_drop_25 (by decide) (fun c27 => ?_) (fun c27 => ?_)
      · have hw := hw.1 c27
        refine z_iload_n C 1 (by rfl) dX7_drop_41 ?_
        exact hR _ _ _ _ dX7_drop_42 hw
      · have hw := hw.2 c27
        refine z_aload_n C 0 (by rfl) dX7_drop_28 ?_
        refine z_get C (Cn := RX7) (T := TX7) (N := 7) (ci := 6) h0.2 3 (tE6 h0.1) in_X7_drop_X7 rfl (by decide) mw_X7_drop_2 rfl rfl dX7_drop_29 ?_
        refine z_iload_n C 2 (by rfl) dX7_drop_32 ?_
        refine z_iconst C (-1) (by decide) dX7_drop_33 ?_
        obtain ⟨s28, hw⟩ := hw
        refine z_iast C (tR6_3 h0).2 (fun _ => tE9 (tR6_3 h0).1) s28 dX7_drop_34 (fun τ29 eτ29 => ?_)
        have hw := hw τ29 eτ29
        obtain ⟨x30, ex30⟩ : ∃ z : Int32, z = x25 + 1 := ⟨_, rfl⟩
        have hw := hw x30 ex30
        refine z_iinc C 2 x30 [(2, .int x30), (0, .ref (w.1 i0)), (1, .int x21)] dX7_drop_35 (by rfl) (by rw [ex30]; rfl) (by decide) rfl ?_
        refine z_goto (tgt := 22) C dX7_drop_38 (by decide) ?_
        refine z_sub [1, 2, 0] [(0, .ref (w.1 i0)), (1, .int x21), (2, .int x30)] rfl ?_
        exact ih26 τ29 x30 (Nat.lt_of_lt_of_le hw.2 (Nat.le_of_lt_succ hlt26)) hw.1
  refine z_sub [2, 1, 0] [(0, .ref (w.1 i0)), (1, .int x21), (2, .int 0)] rfl ?_
  exact lp26 _ τ23 0 (Nat.lt_succ_self _) hI26
end
section
def wp_X0_copyFrom (τ : TS) (i0 : Nat) (j1 : Nat) (K : TS → Prop) : Prop :=
  ∀ τ21 : TS, τ21 = tp_up τ i0 0 (τ j1 0) → ∀ τ22 : TS, τ22 = tp_up τ21 i0 1 (τ21 j1 1) → ∀ τ23 : TS, τ23 = tp_up τ22 i0 2 (τ22 j1 2) → (∀ q, q < (Int32.toNatClampNeg 201) → tp_z (τ23 (j1 + 1) ((Int32.toNatClampNeg 0) + q))) ∧ (∀ τ25 : TS, τ25 = tp_rw τ23 (i0 + 1) (va_cpy (τ23 (j1 + 1)) (τ23 (i0 + 1)) (Int32.toNatClampNeg 0) (Int32.toNatClampNeg 0) (Int32.toNatClampNeg 201)) → K τ25)
theorem mw_X0_copyFrom_0 : Cond.fieldLink RX0 19 "TidePost$Callee" "buffer" "I" ∈ wsX0_copyFrom := List.mem_of_getElem? (i := 1) rfl
theorem mw_X0_copyFrom_1 : Cond.fieldLink RX0 22 "TidePost$Callee" "wanted" "I" ∈ wsX0_copyFrom := List.mem_of_getElem? (i := 2) rfl
theorem mw_X0_copyFrom_2 : Cond.fieldLink RX0 15 "TidePost$Callee" "read" "I" ∈ wsX0_copyFrom := List.mem_of_getElem? (i := 3) rfl
theorem mw_X0_copyFrom_3 : Cond.fieldLink RX0 9 "TidePost$Callee" "held" "[Z" ∈ wsX0_copyFrom := List.mem_of_getElem? (i := 4) rfl
theorem mw_X0_copyFrom_4 : Cond.methodLink RX0 31 arraycopyName ∈ wsX0_copyFrom := List.mem_of_getElem? (i := 5) rfl
theorem mw_X0_copyFrom_5 : Cond.native arraycopyName ∈ wsX0_copyFrom := List.mem_of_getElem? (i := 6) rfl
theorem mw_X0_copyFrom_6 : Cond.static arraycopyName ∈ wsX0_copyFrom := List.mem_of_getElem? (i := 7) rfl
theorem mw_X0_copyFrom_7 : Cond.initialized "java/lang/System" ∈ wsX0_copyFrom := List.mem_of_getElem? (i := 8) rfl
theorem in_X0_copyFrom_X0 : ∀ x ∈ wsX00, x ∈ wsX0_copyFrom := fun _ h => List.mem_cons_of_mem _ (List.mem_append_right _ h)
set_option maxHeartbeats 4000000 in
set_option maxRecDepth 100000 in
theorem c_X0_copyFrom (w : WPar) (τ : TS) (i0 : Nat) (j1 : Nat) (K : TS → Prop) (h0 : tp_is i0 0) (h1 : tp_is j1 0) (hw : wp_X0_copyFrom τ i0 j1 K) : MV w yX0_copyFrom wsX0_copyFrom 1 18 [.ref (w.1 i0), .ref (w.1 j1)] τ K := by
  refine tp_enterV (cc := cX0_copyFrom) (maxL := 2) (own := RX0) (by decide) rfl rfl (Nat.le_of_ble_eq_true rfl) (fun g C hR => ?_)
  show Zt w g τ (0, 0) 0 [(0, .ref (w.1 i0)), (1, .ref (w.1 j1))] []
  unfold wp_X0_copyFrom at hw
  refine z_aload_n C 0 (by rfl) dX0_copyFrom_0 ?_
  refine z_aload_n C 1 (by rfl) dX0_copyFrom_1 ?_
  refine z_get C (Cn := RX0) (T := TX0) (N := 4) (ci := 0) h1.2 0 (tE0 h1.1) in_X0_copyFrom_X0 rfl (by decide) mw_X0_copyFrom_0 rfl rfl dX0_copyFrom_2 ?_
  refine z_put C (Cn := RX0) (T := TX0) (N := 4) (ci := 0) h0.2 0 (tE0 h0.1) (tS0_0 h0.1 _) in_X0_copyFrom_X0 tyX0 tyX0_ok nmX0 rfl (by decide) mw_X0_copyFrom_0 rfl rfl (tyX0_ok 0 (by decide)) rfl rfl (Nat.le_of_ble_eq_true rfl) dX0_copyFrom_5 (fun τ21 eτ21 => ?_)
  have hw := hw τ21 eτ21
  refine z_aload_n C 0 (by rfl) dX0_copyFrom_8 ?_
  refine z_aload_n C 1 (by rfl) dX0_copyFrom_9 ?_
  refine z_get C (Cn := RX0) (T := TX0) (N := 4) (ci := 0) h1.2 1 (tE0 h1.1) in_X0_copyFrom_X0 rfl (by decide) mw_X0_copyFrom_1 rfl rfl dX0_copyFrom_10 ?_
  refine z_put C (Cn := RX0) (T := TX0) (N := 4) (ci := 0) h0.2 1 (tE0 h0.1) (tS0_1 h0.1 _) in_X0_copyFrom_X0 tyX0 tyX0_ok nmX0 rfl (by decide) mw_X0_copyFrom_1 rfl rfl (tyX0_ok 1 (by decide)) rfl rfl (Nat.le_of_ble_eq_true rfl) dX0_copyFrom_13 (fun τ22 eτ22 => ?_)
  have hw := hw τ22 eτ22
  refine z_aload_n C 0 (by rfl) dX0_copyFrom_16 ?_
  refine z_aload_n C 1 (by rfl) dX0_copyFrom_17 ?_
  refine z_get C (Cn := RX0) (T := TX0) (N := 4) (ci := 0) h1.2 2 (tE0 h1.1) in_X0_copyFrom_X0 rfl (by decide) mw_X0_copyFrom_2 rfl rfl dX0_copyFrom_18 ?_
  refine z_put C (Cn := RX0) (T := TX0) (N := 4) (ci := 0) h0.2 2 (tE0 h0.1) (tS0_2 h0.1 _) in_X0_copyFrom_X0 tyX0 tyX0_ok nmX0 rfl (by decide) mw_X0_copyFrom_2 rfl rfl (tyX0_ok 2 (by decide)) rfl rfl (Nat.le_of_ble_eq_true rfl) dX0_copyFrom_21 (fun τ23 eτ23 => ?_)
  have hw := hw τ23 eτ23
  refine z_aload_n C 1 (by rfl) dX0_copyFrom_24 ?_
  refine z_get C (Cn := RX0) (T := TX0) (N := 4) (ci := 0) h1.2 3 (tE0 h1.1) in_X0_copyFrom_X0 rfl (by decide) mw_X0_copyFrom_3 rfl rfl dX0_copyFrom_25 ?_
  refine z_iconst C 0 (by decide) dX0_copyFrom_28 ?_
  refine z_aload_n C 0 (by rfl) dX0_copyFrom_29 ?_
  refine z_get C (Cn := RX0) (T := TX0) (N := 4) (ci := 0) h0.2 3 (tE0 h0.1) in_X0_copyFrom_X0 rfl (by decide) mw_X0_copyFrom_3 rfl rfl dX0_copyFrom_30 ?_
  refine z_iconst C 0 (by decide) dX0_copyFrom_33 ?_
  refine z_aload_n C 0 (by rfl) dX0_copyFrom_34 ?_
  refine z_get C (Cn := RX0) (T := TX0) (N := 4) (ci := 0) h0.2 3 (tE0 h0.1) in_X0_copyFrom_X0 rfl (by decide) mw_X0_copyFrom_3 rfl rfl dX0_copyFrom_35 ?_
  refine z_alen C 1 201 (tR0_3 h0).2 (tE10 (tR0_3 h0).1) rfl rfl dX0_copyFrom_38 ?_
  obtain ⟨s24, hw⟩ := hw
  refine z_copy C (t := 1) (ty := .boolean) (tR0_3 h1).2 (tR0_3 h0).2 (fun _ => tE10 (tR0_3 h1).1) (fun _ => tE10 (tR0_3 h0).1) rfl rfl (by decide) (by decide) (by decide) (by decide) (by decide) (fun q hq => (s24 q hq).2.1) mw_X0_copyFrom_4 mw_X0_copyFrom_5 mw_X0_copyFrom_6 mw_X0_copyFrom_7 (Nat.le_of_ble_eq_true rfl) (by simp [nativeFrameWords]) dX0_copyFrom_39 (fun τ25 eτ25 => ?_)
  have hw := hw τ25 eτ25
  exact hR _ _ _ dX0_copyFrom_42 hw
def wp_X5_copyFrom (τ : TS) (i0 : Nat) (j1 : Nat) (K : TS → Prop) : Prop :=
  ∀ τ21 : TS, τ21 = tp_up τ i0 0 (τ j1 0) → ∀ τ22 : TS, τ22 = tp_up τ21 i0 1 (τ21 j1 1) → ∀ τ23 : TS, τ23 = tp_up τ22 i0 2 (τ22 j1 2) → ∀ τ24 : TS, τ24 = tp_up τ23 i0 3 (τ23 j1 3) → ∀ τ25 : TS, τ25 = tp_up τ24 i0 4 (τ24 j1 4) → K τ25
theorem mw_X5_copyFrom_0 : Cond.fieldLink RX5 9 "TidePost$Timing" "round" "I" ∈ wsX5_copyFrom := List.mem_of_getElem? (i := 1) rfl
theorem mw_X5_copyFrom_1 : Cond.fieldLink RX5 15 "TidePost$Timing" "swing" "I" ∈ wsX5_copyFrom := List.mem_of_getElem? (i := 2) rfl
theorem mw_X5_copyFrom_2 : Cond.fieldLink RX5 18 "TidePost$Timing" "timeout" "I" ∈ wsX5_copyFrom := List.mem_of_getElem? (i := 3) rfl
theorem mw_X5_copyFrom_3 : Cond.fieldLink RX5 21 "TidePost$Timing" "measured" "I" ∈ wsX5_copyFrom := List.mem_of_getElem? (i := 4) rfl
theorem mw_X5_copyFrom_4 : Cond.fieldLink RX5 24 "TidePost$Timing" "measuredAt" "I" ∈ wsX5_copyFrom := List.mem_of_getElem? (i := 5) rfl
theorem in_X5_copyFrom_X5 : ∀ x ∈ wsX50, x ∈ wsX5_copyFrom := fun _ h => List.mem_cons_of_mem _ (List.mem_append_right _ h)
set_option maxHeartbeats 4000000 in
set_option maxRecDepth 100000 in
theorem c_X5_copyFrom (w : WPar) (τ : TS) (i0 : Nat) (j1 : Nat) (K : TS → Prop) (h0 : tp_is i0 4) (h1 : tp_is j1 4) (hw : wp_X5_copyFrom τ i0 j1 K) : MV w yX5_copyFrom wsX5_copyFrom 0 0 [.ref (w.1 i0), .ref (w.1 j1)] τ K := by
  refine tp_enterV (cc := cX5_copyFrom) (maxL := 2) (own := RX5) (by decide) rfl rfl (Nat.le_of_ble_eq_true rfl) (fun g C hR => ?_)
  show Zt w g τ (0, 0) 0 [(0, .ref (w.1 i0)), (1, .ref (w.1 j1))] []
  unfold wp_X5_copyFrom at hw
  refine z_aload_n C 0 (by rfl) dX5_copyFrom_0 ?_
  refine z_aload_n C 1 (by rfl) dX5_copyFrom_1 ?_
  refine z_get C (Cn := RX5) (T := TX5) (N := 5) (ci := 4) h1.2 0 (tE4 h1.1) in_X5_copyFrom_X5 rfl (by decide) mw_X5_copyFrom_0 rfl rfl dX5_copyFrom_2 ?_
  refine z_put C (Cn := RX5) (T := TX5) (N := 5) (ci := 4) h0.2 0 (tE4 h0.1) (tS4_0 h0.1 _) in_X5_copyFrom_X5 tyX5 tyX5_ok nmX5 rfl (by decide) mw_X5_copyFrom_0 rfl rfl (tyX5_ok 0 (by decide)) rfl rfl (Nat.le_of_ble_eq_true rfl) dX5_copyFrom_5 (fun τ21 eτ21 => ?_)
  have hw := hw τ21 eτ21
  refine z_aload_n C 0 (by rfl) dX5_copyFrom_8 ?_
  refine z_aload_n C 1 (by rfl) dX5_copyFrom_9 ?_
  refine z_get C (Cn := RX5) (T := TX5) (N := 5) (ci := 4) h1.2 1 (tE4 h1.1) in_X5_copyFrom_X5 rfl (by decide) mw_X5_copyFrom_1 rfl rfl dX5_copyFrom_10 ?_
  refine z_put C (Cn := RX5) (T := TX5) (N := 5) (ci := 4) h0.2 1 (tE4 h0.1) (tS4_1 h0.1 _) in_X5_copyFrom_X5 tyX5 tyX5_ok nmX5 rfl (by decide) mw_X5_copyFrom_1 rfl rfl (tyX5_ok 1 (by decide)) rfl rfl (Nat.le_of_ble_eq_true rfl) dX5_copyFrom_13 (fun τ22 eτ22 => ?_)
  have hw := hw τ22 eτ22
  refine z_aload_n C 0 (by rfl) dX5_copyFrom_16 ?_
  refine z_aload_n C 1 (by rfl) dX5_copyFrom_17 ?_
  refine z_get C (Cn := RX5) (T := TX5) (N := 5) (ci := 4) h1.2 2 (tE4 h1.1) in_X5_copyFrom_X5 rfl (by decide) mw_X5_copyFrom_2 rfl rfl dX5_copyFrom_18 ?_
  refine z_put C (Cn := RX5) (T := TX5) (N := 5) (ci := 4) h0.2 2 (tE4 h0.1) (tS4_2 h0.1 _) in_X5_copyFrom_X5 tyX5 tyX5_ok nmX5 rfl (by decide) mw_X5_copyFrom_2 rfl rfl (tyX5_ok 2 (by decide)) rfl rfl (Nat.le_of_ble_eq_true rfl) dX5_copyFrom_21 (fun τ23 eτ23 => ?_)
  have hw := hw τ23 eτ23
  refine z_aload_n C 0 (by rfl) dX5_copyFrom_24 ?_
  refine z_aload_n C 1 (by rfl) dX5_copyFrom_25 ?_
  refine z_get C (Cn := RX5) (T := TX5) (N := 5) (ci := 4) h1.2 3 (tE4 h1.1) in_X5_copyFrom_X5 rfl (by decide) mw_X5_copyFrom_3 rfl rfl dX5_copyFrom_26 ?_
  refine z_put C (Cn := RX5) (T := TX5) (N := 5) (ci := 4) h0.2 3 (tE4 h0.1) (tS4_3 h0.1 _) in_X5_copyFrom_X5 tyX5 tyX5_ok nmX5 rfl (by decide) mw_X5_copyFrom_3 rfl rfl (tyX5_ok 3 (by decide)) rfl rfl (Nat.le_of_ble_eq_true rfl) dX5_copyFrom_29 (fun τ24 eτ24 => ?_)
  have hw := hw τ24 eτ24
  refine z_aload_n C 0 (by rfl) dX5_copyFrom_32 ?_
  refine z_aload_n C 1 (by rfl) dX5_copyFrom_33 ?_
  refine z_get C (Cn := RX5) (T := TX5) (N := 5) (ci := 4) h1.2 4 (tE4 h1.1) in_X5_copyFrom_X5 rfl (by decide) mw_X5_copyFrom_4 rfl rfl dX5_copyFrom_34 ?_
  refine z_put C (Cn := RX5) (T := TX5) (N := 5) (ci := 4) h0.2 4 (tE4 h0.1) (tS4_4 h0.1 _) in_X5_copyFrom_X5 tyX5 tyX5_ok nmX5 rfl (by decide) mw_X5_copyFrom_4 rfl rfl (tyX5_ok 4 (by decide)) rfl rfl (Nat.le_of_ble_eq_true rfl) dX5_copyFrom_37 (fun τ25 eτ25 => ?_)
  have hw := hw τ25 eτ25
  exact hR _ _ _ dX5_copyFrom_40 hw
def wp_X7_copyFrom (τ : TS) (i0 : Nat) (j1 : Nat) (K : TS → Prop) : Prop :=
  ∀ τ21 : TS, τ21 = tp_rw τ (i0 + 1) (va_cpy (τ (j1 + 1)) (τ (i0 + 1)) (Int32.toNatClampNeg 0) (Int32.toNatClampNeg 0) (Int32.toNatClampNeg 20)) → ∀ τ22 : TS, τ22 = tp_up τ21 i0 1 (τ21 j1 1) → ∀ τ23 : TS, τ23 = tp_up τ22 i0 2 (τ22 j1 2) → ∀ τ24 : TS, τ24 = tp_rw τ23 (i0 + 2) (va_cpy (τ23 (j1 + 2)) (τ23 (i0 + 2)) (Int32.toNatClampNeg 0) (Int32.toNatClampNeg 0) (Int32.toNatClampNeg 10)) → ∀ τ25 : TS, τ25 = tp_up τ24 i0 4 (τ24 j1 4) → ∀ τ26 : TS, τ26 = tp_up τ25 i0 5 (τ25 j1 5) → ∀ τ27 : TS, τ27 = tp_up τ26 i0 6 (τ26 j1 6) → K τ27
theorem mw_X7_copyFrom_0 : Cond.fieldLink RX7 9 "TidePost$Way" "queue" "[I" ∈ wsX7_copyFrom := List.mem_of_getElem? (i := 1) rfl
theorem mw_X7_copyFrom_1 : Cond.methodLink RX7 43 arraycopyName ∈ wsX7_copyFrom := List.mem_of_getElem? (i := 2) rfl
theorem mw_X7_copyFrom_2 : Cond.native arraycopyName ∈ wsX7_copyFrom := List.mem_of_getElem? (i := 3) rfl
theorem mw_X7_copyFrom_3 : Cond.static arraycopyName ∈ wsX7_copyFrom := List.mem_of_getElem? (i := 4) rfl
theorem mw_X7_copyFrom_4 : Cond.initialized "java/lang/System" ∈ wsX7_copyFrom := List.mem_of_getElem? (i := 5) rfl
theorem mw_X7_copyFrom_5 : Cond.fieldLink RX7 22 "TidePost$Way" "head" "I" ∈ wsX7_copyFrom := List.mem_of_getElem? (i := 6) rfl
theorem mw_X7_copyFrom_6 : Cond.fieldLink RX7 18 "TidePost$Way" "queued" "I" ∈ wsX7_copyFrom := List.mem_of_getElem? (i := 7) rfl
theorem mw_X7_copyFrom_7 : Cond.fieldLink RX7 15 "TidePost$Way" "flight" "[I" ∈ wsX7_copyFrom := List.mem_of_getElem? (i := 8) rfl
theorem mw_X7_copyFrom_8 : Cond.fieldLink RX7 37 "TidePost$Way" "flying" "I" ∈ wsX7_copyFrom := List.mem_of_getElem? (i := 9) rfl
theorem mw_X7_copyFrom_9 : Cond.fieldLink RX7 40 "TidePost$Way" "flown" "I" ∈ wsX7_copyFrom := List.mem_of_getElem? (i := 10) rfl
theorem mw_X7_copyFrom_10 : Cond.fieldLink RX7 25 "TidePost$Way" "toLose" "I" ∈ wsX7_copyFrom := List.mem_of_getElem? (i := 11) rfl
theorem in_X7_copyFrom_X7 : ∀ x ∈ wsX70, x ∈ wsX7_copyFrom := fun _ h => List.mem_cons_of_mem _ (List.mem_append_right _ h)
set_option maxHeartbeats 4000000 in
set_option maxRecDepth 100000 in
theorem c_X7_copyFrom (w : WPar) (τ : TS) (i0 : Nat) (j1 : Nat) (K : TS → Prop) (h0 : tp_is i0 6) (h1 : tp_is j1 6) (hw : wp_X7_copyFrom τ i0 j1 K) : MV w yX7_copyFrom wsX7_copyFrom 1 18 [.ref (w.1 i0), .ref (w.1 j1)] τ K := by
  refine tp_enterV (cc := cX7_copyFrom) (maxL := 2) (own := RX7) (by decide) rfl rfl (Nat.le_of_ble_eq_true rfl) (fun g C hR => ?_)
  show Zt w g τ (0, 0) 0 [(0, .ref (w.1 i0)), (1, .ref (w.1 j1))] []
  unfold wp_X7_copyFrom at hw
  refine z_aload_n C 1 (by rfl) dX7_copyFrom_0 ?_
  refine z_get C (Cn := RX7) (T := TX7) (N := 7) (ci := 6) h1.2 0 (tE6 h1.1) in_X7_copyFrom_X7 rfl (by decide) mw_X7_copyFrom_0 rfl rfl dX7_copyFrom_1 ?_
  refine z_iconst C 0 (by decide) dX7_copyFrom_4 ?_
  refine z_aload_n C 0 (by rfl) dX7_copyFrom_5 ?_
  refine z_get C (Cn := RX7) (T := TX7) (N := 7) (ci := 6) h0.2 0 (tE6 h0.1) in_X7_copyFrom_X7 rfl (by decide) mw_X7_copyFrom_0 rfl rfl dX7_copyFrom_6 ?_
  refine z_iconst C 0 (by decide) dX7_copyFrom_9 ?_
  refine z_bipush C 20 (by decide) dX7_copyFrom_10 ?_
  refine z_copy C (t := 0) (ty := .int) (tR6_0 h1).2 (tR6_0 h0).2 (fun _ => tE8 (tR6_0 h1).1) (fun _ => tE8 (tR6_0 h0).1) rfl rfl (by decide) (by decide) (by decide) (by decide) (by decide) (fun _ _ => rfl) mw_X7_copyFrom_1 mw_X7_copyFrom_2 mw_X7_copyFrom_3 mw_X7_copyFrom_4 (Nat.le_of_ble_eq_true rfl) (by simp [nativeFrameWords]) dX7_copyFrom_12 (fun τ21 eτ21 => ?_)
  have hw := hw τ21 eτ21
  refine z_aload_n C 0 (by rfl) dX7_copyFrom_15 ?_
  refine z_aload_n C 1 (by rfl) dX7_copyFrom_16 ?_
  refine z_get C (Cn := RX7) (T := TX7) (N := 7) (ci := 6) h1.2 1 (tE6 h1.1) in_X7_copyFrom_X7 rfl (by decide) mw_X7_copyFrom_5 rfl rfl dX7_copyFrom_17 ?_
  refine z_put C (Cn := RX7) (T := TX7) (N := 7) (ci := 6) h0.2 1 (tE6 h0.1) (tS6_1 h0.1 _) in_X7_copyFrom_X7 tyX7 tyX7_ok nmX7 rfl (by decide) mw_X7_copyFrom_5 rfl rfl (tyX7_ok 1 (by decide)) rfl rfl (Nat.le_of_ble_eq_true rfl) dX7_copyFrom_20 (fun τ22 eτ22 => ?_)
  have hw := hw τ22 eτ22
  refine z_aload_n C 0 (by rfl) dX7_copyFrom_23 ?_
  refine z_aload_n C 1 (by rfl) dX7_copyFrom_24 ?_
  refine z_get C (Cn := RX7) (T := TX7) (N := 7) (ci := 6) h1.2 2 (tE6 h1.1) in_X7_copyFrom_X7 rfl (by decide) mw_X7_copyFrom_6 rfl rfl dX7_copyFrom_25 ?_
  refine z_put C (Cn := RX7) (T := TX7) (N := 7) (ci := 6) h0.2 2 (tE6 h0.1) (tS6_2 h0.1 _) in_X7_copyFrom_X7 tyX7 tyX7_ok nmX7 rfl (by decide) mw_X7_copyFrom_6 rfl rfl (tyX7_ok 2 (by decide)) rfl rfl (Nat.le_of_ble_eq_true rfl) dX7_copyFrom_28 (fun τ23 eτ23 => ?_)
  have hw := hw τ23 eτ23
  refine z_aload_n C 1 (by rfl) dX7_copyFrom_31 ?_
  refine z_get C (Cn := RX7) (T := TX7) (N := 7) (ci := 6) h1.2 3 (tE6 h1.1) in_X7_copyFrom_X7 rfl (by decide) mw_X7_copyFrom_7 rfl rfl dX7_copyFrom_32 ?_
  refine z_iconst C 0 (by decide) dX7_copyFrom_35 ?_
  refine z_aload_n C 0 (by rfl) dX7_copyFrom_36 ?_
  refine z_get C (Cn := RX7) (T := TX7) (N := 7) (ci := 6) h0.2 3 (tE6 h0.1) in_X7_copyFrom_X7 rfl (by decide) mw_X7_copyFrom_7 rfl rfl dX7_copyFrom_37 ?_
  refine z_iconst C 0 (by decide) dX7_copyFrom_40 ?_
  refine z_bipush C 10 (by decide) dX7_copyFrom_41 ?_
  refine z_copy C (t := 0) (ty := .int) (tR6_3 h1).2 (tR6_3 h0).2 (fun _ => tE9 (tR6_3 h1).1) (fun _ => tE9 (tR6_3 h0).1) rfl rfl (by decide) (by decide) (by decide) (by decide) (by decide) (fun _ _ => rfl) mw_X7_copyFrom_1 mw_X7_copyFrom_2 mw_X7_copyFrom_3 mw_X7_copyFrom_4 (Nat.le_of_ble_eq_true rfl) (by simp [nativeFrameWords]) dX7_copyFrom_43 (fun τ24 eτ24 => ?_)
  have hw := hw τ24 eτ24
  refine z_aload_n C 0 (by rfl) dX7_copyFrom_46 ?_
  refine z_aload_n C 1 (by rfl) dX7_copyFrom_47 ?_
  refine z_get C (Cn := RX7) (T := TX7) (N := 7) (ci := 6) h1.2 4 (tE6 h1.1) in_X7_copyFrom_X7 rfl (by decide) mw_X7_copyFrom_8 rfl rfl dX7_copyFrom_48 ?_
  refine z_put C (Cn := RX7) (T := TX7) (N := 7) (ci := 6) h0.2 4 (tE6 h0.1) (tS6_4 h0.1 _) in_X7_copyFrom_X7 tyX7 tyX7_ok nmX7 rfl (by decide) mw_X7_copyFrom_8 rfl rfl (tyX7_ok 4 (by decide)) rfl rfl (Nat.le_of_ble_eq_true rfl) dX7_copyFrom_51 (fun τ25 eτ25 => ?_)
  have hw := hw τ25 eτ25
  refine z_aload_n C 0 (by rfl) dX7_copyFrom_54 ?_
  refine z_aload_n C 1 (by rfl) dX7_copyFrom_55 ?_
  refine z_get C (Cn := RX7) (T := TX7) (N := 7) (ci := 6) h1.2 5 (tE6 h1.1) in_X7_copyFrom_X7 rfl (by decide) mw_X7_copyFrom_9 rfl rfl dX7_copyFrom_56 ?_
  refine z_put C (Cn := RX7) (T := TX7) (N := 7) (ci := 6) h0.2 5 (tE6 h0.1) (tS6_5 h0.1 _) in_X7_copyFrom_X7 tyX7 tyX7_ok nmX7 rfl (by decide) mw_X7_copyFrom_9 rfl rfl (tyX7_ok 5 (by decide)) rfl rfl (Nat.le_of_ble_eq_true rfl) dX7_copyFrom_59 (fun τ26 eτ26 => ?_)
  have hw := hw τ26 eτ26
  refine z_aload_n C 0 (by rfl) dX7_copyFrom_62 ?_
  refine z_aload_n C 1 (by rfl) dX7_copyFrom_63 ?_
  refine z_get C (Cn := RX7) (T := TX7) (N := 7) (ci := 6) h1.2 6 (tE6 h1.1) in_X7_copyFrom_X7 rfl (by decide) mw_X7_copyFrom_10 rfl rfl dX7_copyFrom_64 ?_
  refine z_put C (Cn := RX7) (T := TX7) (N := 7) (ci := 6) h0.2 6 (tE6 h0.1) (tS6_6 h0.1 _) in_X7_copyFrom_X7 tyX7 tyX7_ok nmX7 rfl (by decide) mw_X7_copyFrom_10 rfl rfl (tyX7_ok 6 (by decide)) rfl rfl (Nat.le_of_ble_eq_true rfl) dX7_copyFrom_67 (fun τ27 eτ27 => ?_)
  have hw := hw τ27 eτ27
  exact hR _ _ _ dX7_copyFrom_70 hw
end
section
set_option maxRecDepth 20000 in
theorem ggX1_init_X5_init : GoodIn wsX1_init wsX5_init := goodIn_r _ [9, 10, 2, 3] (by decide +kernel) (by decide +kernel)
set_option maxRecDepth 20000 in
theorem gX1_init_X5_init_n11 : GoodIn wsX1_init (wsX5_init) := ggX1_init_X5_init
theorem dX1_init_0 : decode cX1_init 0 = .ok (.aload_n 0, 1) := by decide +kernel
theorem dX1_init_1 : decode cX1_init 1 = .ok (.invokespecial 3, 3) := by decide +kernel
theorem dX1_init_4 : decode cX1_init 4 = .ok (.aload_n 0, 1) := by decide +kernel
theorem dX1_init_5 : decode cX1_init 5 = .ok (.new 9, 3) := by decide +kernel
theorem dX1_init_8 : decode cX1_init 8 = .ok (.dup, 1) := by decide +kernel
theorem dX1_init_9 : decode cX1_init 9 = .ok (.invokespecial 11, 3) := by decide +kernel
theorem dX1_init_12 : decode cX1_init 12 = .ok (.putfield 12, 3) := by decide +kernel
theorem dX1_init_15 : decode cX1_init 15 = .ok (.return_, 1) := by decide +kernel
set_option maxRecDepth 20000 in
theorem ggX1_begin_X5_begin : GoodIn wsX1_begin wsX5_begin := goodIn_r _ [13, 14, 15, 16, 17, 18, 33, 34, 35, 36, 37] (by decide +kernel) (by decide +kernel)
set_option maxRecDepth 20000 in
theorem gX1_begin_X5_begin : GoodIn wsX1_begin (wsV RX1 34 RX5 yX5_begin wsX5_begin) := goodIn_app (goodIn_of _ (by decide +kernel)) ggX1_begin_X5_begin
theorem dX1_begin_0 : decode cX1_begin 0 = .ok (.aload_n 0, 1) := by decide +kernel
theorem dX1_begin_1 : decode cX1_begin 1 = .ok (.iconst 0, 1) := by decide +kernel
theorem dX1_begin_2 : decode cX1_begin 2 = .ok (.putfield 18, 3) := by decide +kernel
theorem dX1_begin_5 : decode cX1_begin 5 = .ok (.aload_n 0, 1) := by decide +kernel
theorem dX1_begin_6 : decode cX1_begin 6 = .ok (.bipush 8, 2) := by decide +kernel
theorem dX1_begin_8 : decode cX1_begin 8 = .ok (.putfield 22, 3) := by decide +kernel
theorem dX1_begin_11 : decode cX1_begin 11 = .ok (.aload_n 0, 1) := by decide +kernel
theorem dX1_begin_12 : decode cX1_begin 12 = .ok (.sipush 128, 3) := by decide +kernel
theorem dX1_begin_15 : decode cX1_begin 15 = .ok (.putfield 25, 3) := by decide +kernel
theorem dX1_begin_18 : decode cX1_begin 18 = .ok (.aload_n 0, 1) := by decide +kernel
theorem dX1_begin_19 : decode cX1_begin 19 = .ok (.iload_n 1, 1) := by decide +kernel
theorem dX1_begin_20 : decode cX1_begin 20 = .ok (.putfield 28, 3) := by decide +kernel
theorem dX1_begin_23 : decode cX1_begin 23 = .ok (.aload_n 0, 1) := by decide +kernel
theorem dX1_begin_24 : decode cX1_begin 24 = .ok (.iconst (-1), 1) := by decide +kernel
theorem dX1_begin_25 : decode cX1_begin 25 = .ok (.putfield 31, 3) := by decide +kernel
theorem dX1_begin_28 : decode cX1_begin 28 = .ok (.aload_n 0, 1) := by decide +kernel
theorem dX1_begin_29 : decode cX1_begin 29 = .ok (.getfield 12, 3) := by decide +kernel
theorem dX1_begin_32 : decode cX1_begin 32 = .ok (.invokevirtual 34, 3) := by decide +kernel
theorem dX1_begin_35 : decode cX1_begin 35 = .ok (.aload_n 0, 1) := by decide +kernel
theorem dX1_begin_36 : decode cX1_begin 36 = .ok (.iload_n 2, 1) := by decide +kernel
theorem dX1_begin_37 : decode cX1_begin 37 = .ok (.aload_n 0, 1) := by decide +kernel
theorem dX1_begin_38 : decode cX1_begin 38 = .ok (.getfield 12, 3) := by decide +kernel
theorem dX1_begin_41 : decode cX1_begin 41 = .ok (.getfield 37, 3) := by decide +kernel
theorem dX1_begin_44 : decode cX1_begin 44 = .ok (.iadd, 1) := by decide +kernel
theorem dX1_begin_45 : decode cX1_begin 45 = .ok (.putfield 40, 3) := by decide +kernel
theorem dX1_begin_48 : decode cX1_begin 48 = .ok (.return_, 1) := by decide +kernel
theorem dX1_things_0 : decode cX1_things 0 = .ok (.aload_n 0, 1) := by decide +kernel
theorem dX1_things_1 : decode cX1_things 1 = .ok (.getfield 43, 3) := by decide +kernel
theorem dX1_things_4 : decode cX1_things 4 = .ok (.ifCond .eq 12, 3) := by decide +kernel
theorem dX1_things_7 : decode cX1_things 7 = .ok (.aload_n 0, 1) := by decide +kernel
theorem dX1_things_8 : decode cX1_things 8 = .ok (.getfield 47, 3) := by decide +kernel
theorem dX1_things_11 : decode cX1_things 11 = .ok (.iconst 1, 1) := by decide +kernel
theorem dX1_things_12 : decode cX1_things 12 = .ok (.iadd, 1) := by decide +kernel
theorem dX1_things_13 : decode cX1_things 13 = .ok (.goto 7, 3) := by decide +kernel
theorem dX1_things_16 : decode cX1_things 16 = .ok (.aload_n 0, 1) := by decide +kernel
theorem dX1_things_17 : decode cX1_things 17 = .ok (.getfield 47, 3) := by decide +kernel
theorem dX1_things_20 : decode cX1_things 20 = .ok (.ireturn, 1) := by decide +kernel
set_option maxRecDepth 20000 in
theorem ggX1_maySend_X1_things : GoodIn wsX1_maySend wsX1_things := goodIn_r _ [11, 12, 5, 13, 14, 15, 16, 17, 18, 19, 20, 21, 22, 23, 24, 25, 26] (by decide +kernel) (by decide +kernel)
set_option maxRecDepth 20000 in
theorem gX1_maySend_X1_things : GoodIn wsX1_maySend (wsV RX1 56 RX1 yX1_things wsX1_things) := goodIn_app (goodIn_of _ (by decide +kernel)) ggX1_maySend_X1_things
theorem dX1_maySend_0 : decode cX1_maySend 0 = .ok (.aload_n 0, 1) := by decide +kernel
theorem dX1_maySend_1 : decode cX1_maySend 1 = .ok (.getfield 50, 3) := by decide +kernel
theorem dX1_maySend_4 : decode cX1_maySend 4 = .ok (.aload_n 0, 1) := by decide +kernel
theorem dX1_maySend_5 : decode cX1_maySend 5 = .ok (.getfield 53, 3) := by decide +kernel
theorem dX1_maySend_8 : decode cX1_maySend 8 = .ok (.isub, 1) := by decide +kernel
theorem dX1_maySend_9 : decode cX1_maySend 9 = .ok (.istore_n 1, 1) := by decide +kernel
theorem dX1_maySend_10 : decode cX1_maySend 10 = .ok (.aload_n 0, 1) := by decide +kernel
theorem dX1_maySend_11 : decode cX1_maySend 11 = .ok (.getfield 18, 3) := by decide +kernel
theorem dX1_maySend_14 : decode cX1_maySend 14 = .ok (.iconst 1, 1) := by decide +kernel
theorem dX1_maySend_15 : decode cX1_maySend 15 = .ok (.if_icmp .ne 25, 3) := by decide +kernel
theorem dX1_maySend_18 : decode cX1_maySend 18 = .ok (.aload_n 0, 1) := by decide +kernel
theorem dX1_maySend_19 : decode cX1_maySend 19 = .ok (.getfield 50, 3) := by decide +kernel
theorem dX1_maySend_22 : decode cX1_maySend 22 = .ok (.aload_n 0, 1) := by decide +kernel
theorem dX1_maySend_23 : decode cX1_maySend 23 = .ok (.invokevirtual 56, 3) := by decide +kernel
theorem dX1_maySend_26 : decode cX1_maySend 26 = .ok (.if_icmp .ge 14, 3) := by decide +kernel
theorem dX1_maySend_29 : decode cX1_maySend 29 = .ok (.iload_n 1, 1) := by decide +kernel
theorem dX1_maySend_30 : decode cX1_maySend 30 = .ok (.bipush 8, 2) := by decide +kernel
theorem dX1_maySend_32 : decode cX1_maySend 32 = .ok (.imul, 1) := by decide +kernel
theorem dX1_maySend_33 : decode cX1_maySend 33 = .ok (.aload_n 0, 1) := by decide +kernel
theorem dX1_maySend_34 : decode cX1_maySend 34 = .ok (.getfield 22, 3) := by decide +kernel
theorem dX1_maySend_37 : decode cX1_maySend 37 = .ok (.if_icmp .lt 5, 3) := by decide +kernel
theorem dX1_maySend_40 : decode cX1_maySend 40 = .ok (.iconst 0, 1) := by decide +kernel
theorem dX1_maySend_41 : decode cX1_maySend 41 = .ok (.ireturn, 1) := by decide +kernel
theorem dX1_maySend_42 : decode cX1_maySend 42 = .ok (.aload_n 0, 1) := by decide +kernel
theorem dX1_maySend_43 : decode cX1_maySend 43 = .ok (.getfield 50, 3) := by decide +kernel
theorem dX1_maySend_46 : decode cX1_maySend 46 = .ok (.aload_n 0, 1) := by decide +kernel
theorem dX1_maySend_47 : decode cX1_maySend 47 = .ok (.getfield 47, 3) := by decide +kernel
theorem dX1_maySend_50 : decode cX1_maySend 50 = .ok (.if_icmp .lt 7, 3) := by decide +kernel
theorem dX1_maySend_53 : decode cX1_maySend 53 = .ok (.iconst 1, 1) := by decide +kernel
theorem dX1_maySend_54 : decode cX1_maySend 54 = .ok (.goto 4, 3) := by decide +kernel
theorem dX1_maySend_57 : decode cX1_maySend 57 = .ok (.iconst 0, 1) := by decide +kernel
theorem dX1_maySend_58 : decode cX1_maySend 58 = .ok (.istore_n 2, 1) := by decide +kernel
theorem dX1_maySend_59 : decode cX1_maySend 59 = .ok (.iload_n 2, 1) := by decide +kernel
theorem dX1_maySend_60 : decode cX1_maySend 60 = .ok (.ifCond .ne 15, 3) := by decide +kernel
theorem dX1_maySend_63 : decode cX1_maySend 63 = .ok (.iload_n 1, 1) := by decide +kernel
theorem dX1_maySend_64 : decode cX1_maySend 64 = .ok (.aload_n 0, 1) := by decide +kernel
theorem dX1_maySend_65 : decode cX1_maySend 65 = .ok (.getfield 28, 3) := by decide +kernel
theorem dX1_maySend_68 : decode cX1_maySend 68 = .ok (.if_icmp .lt 7, 3) := by decide +kernel
theorem dX1_maySend_71 : decode cX1_maySend 71 = .ok (.iload_n 1, 1) := by decide +kernel
theorem dX1_maySend_72 : decode cX1_maySend 72 = .ok (.ifCond .ne 7, 3) := by decide +kernel
theorem dX1_maySend_75 : decode cX1_maySend 75 = .ok (.iconst 1, 1) := by decide +kernel
theorem dX1_maySend_76 : decode cX1_maySend 76 = .ok (.goto 4, 3) := by decide +kernel
theorem dX1_maySend_79 : decode cX1_maySend 79 = .ok (.iconst 0, 1) := by decide +kernel
theorem dX1_maySend_80 : decode cX1_maySend 80 = .ok (.ireturn, 1) := by decide +kernel
set_option maxRecDepth 20000 in
theorem ggX1_sent_X5_sent : GoodIn wsX1_sent wsX5_sent := goodIn_r _ [9, 10, 11, 26, 27, 28, 29, 30] (by decide +kernel) (by decide +kernel)
set_option maxRecDepth 20000 in
theorem gX1_sent_X5_sent : GoodIn wsX1_sent (wsV RX1 60 RX5 yX5_sent wsX5_sent) := goodIn_app (goodIn_of _ (by decide +kernel)) ggX1_sent_X5_sent
theorem dX1_sent_0 : decode cX1_sent 0 = .ok (.aload_n 0, 1) := by decide +kernel
theorem dX1_sent_1 : decode cX1_sent 1 = .ok (.getfield 12, 3) := by decide +kernel
theorem dX1_sent_4 : decode cX1_sent 4 = .ok (.aload_n 0, 1) := by decide +kernel
theorem dX1_sent_5 : decode cX1_sent 5 = .ok (.getfield 50, 3) := by decide +kernel
theorem dX1_sent_8 : decode cX1_sent 8 = .ok (.iload_n 1, 1) := by decide +kernel
theorem dX1_sent_9 : decode cX1_sent 9 = .ok (.invokevirtual 60, 3) := by decide +kernel
theorem dX1_sent_12 : decode cX1_sent 12 = .ok (.aload_n 0, 1) := by decide +kernel
theorem dX1_sent_13 : decode cX1_sent 13 = .ok (.dup, 1) := by decide +kernel
theorem dX1_sent_14 : decode cX1_sent 14 = .ok (.getfield 50, 3) := by decide +kernel
theorem dX1_sent_17 : decode cX1_sent 17 = .ok (.iconst 1, 1) := by decide +kernel
theorem dX1_sent_18 : decode cX1_sent 18 = .ok (.iadd, 1) := by decide +kernel
theorem dX1_sent_19 : decode cX1_sent 19 = .ok (.putfield 50, 3) := by decide +kernel
theorem dX1_sent_22 : decode cX1_sent 22 = .ok (.aload_n 0, 1) := by decide +kernel
theorem dX1_sent_23 : decode cX1_sent 23 = .ok (.getfield 40, 3) := by decide +kernel
theorem dX1_sent_26 : decode cX1_sent 26 = .ok (.iconst (-1), 1) := by decide +kernel
theorem dX1_sent_27 : decode cX1_sent 27 = .ok (.if_icmp .ne 16, 3) := by decide +kernel
theorem dX1_sent_30 : decode cX1_sent 30 = .ok (.aload_n 0, 1) := by decide +kernel
theorem dX1_sent_31 : decode cX1_sent 31 = .ok (.iload_n 1, 1) := by decide +kernel
theorem dX1_sent_32 : decode cX1_sent 32 = .ok (.aload_n 0, 1) := by decide +kernel
theorem dX1_sent_33 : decode cX1_sent 33 = .ok (.getfield 12, 3) := by decide +kernel
theorem dX1_sent_36 : decode cX1_sent 36 = .ok (.getfield 37, 3) := by decide +kernel
theorem dX1_sent_39 : decode cX1_sent 39 = .ok (.iadd, 1) := by decide +kernel
theorem dX1_sent_40 : decode cX1_sent 40 = .ok (.putfield 40, 3) := by decide +kernel
theorem dX1_sent_43 : decode cX1_sent 43 = .ok (.return_, 1) := by decide +kernel
set_option maxRecDepth 20000 in
theorem ggX1_takeAnswer_X1_advance : GoodIn wsX1_takeAnswer wsX1_advance := goodIn_r _ [11, 12, 4, 6, 13, 14, 5, 15, 3, 16, 1, 17, 18, 19, 20, 21, 22, 23, 24, 25, 26, 27, 28, 29, 30, 31, 32, 33, 34, 35, 36, 37, 38, 39, 10, 40, 41, 42, 43, 44, 53, 54, 55, 56, 57, 58, 59, 60, 61, 62, 63, 64, 65, 66, 67, 68, 69, 70, 71] (by decide +kernel) (by decide +kernel)
set_option maxRecDepth 20000 in
theorem gX1_takeAnswer_X1_advance : GoodIn wsX1_takeAnswer (wsV RX1 67 RX1 yX1_advance wsX1_advance) := goodIn_app (goodIn_of _ (by decide +kernel)) ggX1_takeAnswer_X1_advance
set_option maxRecDepth 20000 in
theorem ggX1_takeAnswer_X1_repeated : GoodIn wsX1_takeAnswer wsX1_repeated := goodIn_r _ [48, 6, 13, 14, 42, 41, 49, 50, 51, 10, 52, 5, 4, 43, 31, 28, 32, 53, 54, 55, 56, 57, 58, 59, 60, 61, 62, 63, 64, 65, 66] (by decide +kernel) (by decide +kernel)
set_option maxRecDepth 20000 in
theorem gX1_takeAnswer_X1_repeated : GoodIn wsX1_takeAnswer (wsV RX1 71 RX1 yX1_repeated wsX1_repeated) := goodIn_app (goodIn_of _ (by decide +kernel)) ggX1_takeAnswer_X1_repeated
theorem dX1_takeAnswer_0 : decode cX1_takeAnswer 0 = .ok (.aload_n 0, 1) := by decide +kernel
theorem dX1_takeAnswer_1 : decode cX1_takeAnswer 1 = .ok (.getfield 18, 3) := by decide +kernel
theorem dX1_takeAnswer_4 : decode cX1_takeAnswer 4 = .ok (.ifCond .ne 20, 3) := by decide +kernel
theorem dX1_takeAnswer_7 : decode cX1_takeAnswer 7 = .ok (.aload_n 0, 1) := by decide +kernel
theorem dX1_takeAnswer_8 : decode cX1_takeAnswer 8 = .ok (.iconst 1, 1) := by decide +kernel
theorem dX1_takeAnswer_9 : decode cX1_takeAnswer 9 = .ok (.putfield 18, 3) := by decide +kernel
theorem dX1_takeAnswer_12 : decode cX1_takeAnswer 12 = .ok (.aload_n 0, 1) := by decide +kernel
theorem dX1_takeAnswer_13 : decode cX1_takeAnswer 13 = .ok (.iconst 0, 1) := by decide +kernel
theorem dX1_takeAnswer_14 : decode cX1_takeAnswer 14 = .ok (.putfield 64, 3) := by decide +kernel
theorem dX1_takeAnswer_17 : decode cX1_takeAnswer 17 = .ok (.aload_n 0, 1) := by decide +kernel
theorem dX1_takeAnswer_18 : decode cX1_takeAnswer 18 = .ok (.iconst (-1), 1) := by decide +kernel
theorem dX1_takeAnswer_19 : decode cX1_takeAnswer 19 = .ok (.putfield 40, 3) := by decide +kernel
theorem dX1_takeAnswer_22 : decode cX1_takeAnswer 22 = .ok (.iconst 0, 1) := by decide +kernel
theorem dX1_takeAnswer_23 : decode cX1_takeAnswer 23 = .ok (.ireturn, 1) := by decide +kernel
theorem dX1_takeAnswer_24 : decode cX1_takeAnswer 24 = .ok (.aload_n 0, 1) := by decide +kernel
theorem dX1_takeAnswer_25 : decode cX1_takeAnswer 25 = .ok (.getfield 18, 3) := by decide +kernel
theorem dX1_takeAnswer_28 : decode cX1_takeAnswer 28 = .ok (.iconst 1, 1) := by decide +kernel
theorem dX1_takeAnswer_29 : decode cX1_takeAnswer 29 = .ok (.if_icmp .ne 11, 3) := by decide +kernel
theorem dX1_takeAnswer_32 : decode cX1_takeAnswer 32 = .ok (.iload_n 1, 1) := by decide +kernel
theorem dX1_takeAnswer_33 : decode cX1_takeAnswer 33 = .ok (.aload_n 0, 1) := by decide +kernel
theorem dX1_takeAnswer_34 : decode cX1_takeAnswer 34 = .ok (.getfield 53, 3) := by decide +kernel
theorem dX1_takeAnswer_37 : decode cX1_takeAnswer 37 = .ok (.if_icmp .ge 5, 3) := by decide +kernel
theorem dX1_takeAnswer_40 : decode cX1_takeAnswer 40 = .ok (.iconst 0, 1) := by decide +kernel
theorem dX1_takeAnswer_41 : decode cX1_takeAnswer 41 = .ok (.ireturn, 1) := by decide +kernel
theorem dX1_takeAnswer_42 : decode cX1_takeAnswer 42 = .ok (.aload_n 0, 1) := by decide +kernel
theorem dX1_takeAnswer_43 : decode cX1_takeAnswer 43 = .ok (.iconst 0, 1) := by decide +kernel
theorem dX1_takeAnswer_44 : decode cX1_takeAnswer 44 = .ok (.putfield 64, 3) := by decide +kernel
theorem dX1_takeAnswer_47 : decode cX1_takeAnswer 47 = .ok (.iload_n 1, 1) := by decide +kernel
theorem dX1_takeAnswer_48 : decode cX1_takeAnswer 48 = .ok (.aload_n 0, 1) := by decide +kernel
theorem dX1_takeAnswer_49 : decode cX1_takeAnswer 49 = .ok (.getfield 53, 3) := by decide +kernel
theorem dX1_takeAnswer_52 : decode cX1_takeAnswer 52 = .ok (.if_icmp .le 11, 3) := by decide +kernel
theorem dX1_takeAnswer_55 : decode cX1_takeAnswer 55 = .ok (.aload_n 0, 1) := by decide +kernel
theorem dX1_takeAnswer_56 : decode cX1_takeAnswer 56 = .ok (.iload_n 1, 1) := by decide +kernel
theorem dX1_takeAnswer_57 : decode cX1_takeAnswer 57 = .ok (.iload_n 2, 1) := by decide +kernel
theorem dX1_takeAnswer_58 : decode cX1_takeAnswer 58 = .ok (.iload_n 3, 1) := by decide +kernel
theorem dX1_takeAnswer_59 : decode cX1_takeAnswer 59 = .ok (.invokevirtual 67, 3) := by decide +kernel
theorem dX1_takeAnswer_62 : decode cX1_takeAnswer 62 = .ok (.ireturn, 1) := by decide +kernel
theorem dX1_takeAnswer_63 : decode cX1_takeAnswer 63 = .ok (.aload_n 0, 1) := by decide +kernel
theorem dX1_takeAnswer_64 : decode cX1_takeAnswer 64 = .ok (.getfield 50, 3) := by decide +kernel
theorem dX1_takeAnswer_67 : decode cX1_takeAnswer 67 = .ok (.aload_n 0, 1) := by decide +kernel
theorem dX1_takeAnswer_68 : decode cX1_takeAnswer 68 = .ok (.getfield 53, 3) := by decide +kernel
theorem dX1_takeAnswer_71 : decode cX1_takeAnswer 71 = .ok (.if_icmp .le 9, 3) := by decide +kernel
theorem dX1_takeAnswer_74 : decode cX1_takeAnswer 74 = .ok (.aload_n 0, 1) := by decide +kernel
theorem dX1_takeAnswer_75 : decode cX1_takeAnswer 75 = .ok (.iload_n 2, 1) := by decide +kernel
theorem dX1_takeAnswer_76 : decode cX1_takeAnswer 76 = .ok (.invokevirtual 71, 3) := by decide +kernel
theorem dX1_takeAnswer_79 : decode cX1_takeAnswer 79 = .ok (.ireturn, 1) := by decide +kernel
theorem dX1_takeAnswer_80 : decode cX1_takeAnswer 80 = .ok (.aload_n 0, 1) := by decide +kernel
theorem dX1_takeAnswer_81 : decode cX1_takeAnswer 81 = .ok (.iload_n 2, 1) := by decide +kernel
theorem dX1_takeAnswer_82 : decode cX1_takeAnswer 82 = .ok (.putfield 28, 3) := by decide +kernel
theorem dX1_takeAnswer_85 : decode cX1_takeAnswer 85 = .ok (.iconst 0, 1) := by decide +kernel
theorem dX1_takeAnswer_86 : decode cX1_takeAnswer 86 = .ok (.ireturn, 1) := by decide +kernel
set_option maxRecDepth 20000 in
theorem ggX1_advance_X5_answered : GoodIn wsX1_advance wsX5_answered := goodIn_r _ [15, 16, 17, 18, 19, 20, 21, 22, 23, 24, 25, 26, 27, 28, 29, 30, 54, 55, 56, 57, 58] (by decide +kernel) (by decide +kernel)
set_option maxRecDepth 20000 in
theorem gX1_advance_X5_answered : GoodIn wsX1_advance (wsV RX1 75 RX5 yX5_answered wsX5_answered) := goodIn_app (goodIn_of _ (by decide +kernel)) ggX1_advance_X5_answered
set_option maxRecDepth 20000 in
theorem ggX1_advance_X1_growWindow : GoodIn wsX1_advance wsX1_growWindow := goodIn_r _ [35, 36, 37, 38, 25, 22, 26, 39, 28, 29, 40, 41, 42, 43, 44, 45, 46, 47, 48, 49, 50, 51, 52, 53] (by decide +kernel) (by decide +kernel)
set_option maxRecDepth 20000 in
theorem gX1_advance_X1_growWindow : GoodIn wsX1_advance (wsV RX1 81 RX1 yX1_growWindow wsX1_growWindow) := goodIn_app (goodIn_of _ (by decide +kernel)) ggX1_advance_X1_growWindow
theorem dX1_advance_0 : decode cX1_advance 0 = .ok (.aload_n 0, 1) := by decide +kernel
theorem dX1_advance_1 : decode cX1_advance 1 = .ok (.getfield 12, 3) := by decide +kernel
theorem dX1_advance_4 : decode cX1_advance 4 = .ok (.iload_n 1, 1) := by decide +kernel
theorem dX1_advance_5 : decode cX1_advance 5 = .ok (.iload_n 3, 1) := by decide +kernel
theorem dX1_advance_6 : decode cX1_advance 6 = .ok (.invokevirtual 75, 3) := by decide +kernel
theorem dX1_advance_9 : decode cX1_advance 9 = .ok (.aload_n 0, 1) := by decide +kernel
theorem dX1_advance_10 : decode cX1_advance 10 = .ok (.iload_n 1, 1) := by decide +kernel
theorem dX1_advance_11 : decode cX1_advance 11 = .ok (.putfield 53, 3) := by decide +kernel
theorem dX1_advance_14 : decode cX1_advance 14 = .ok (.aload_n 0, 1) := by decide +kernel
theorem dX1_advance_15 : decode cX1_advance 15 = .ok (.iload_n 2, 1) := by decide +kernel
theorem dX1_advance_16 : decode cX1_advance 16 = .ok (.putfield 28, 3) := by decide +kernel
theorem dX1_advance_19 : decode cX1_advance 19 = .ok (.aload_n 0, 1) := by decide +kernel
theorem dX1_advance_20 : decode cX1_advance 20 = .ok (.iconst 0, 1) := by decide +kernel
theorem dX1_advance_21 : decode cX1_advance 21 = .ok (.putfield 78, 3) := by decide +kernel
theorem dX1_advance_24 : decode cX1_advance 24 = .ok (.iload_n 1, 1) := by decide +kernel
theorem dX1_advance_25 : decode cX1_advance 25 = .ok (.aload_n 0, 1) := by decide +kernel
theorem dX1_advance_26 : decode cX1_advance 26 = .ok (.getfield 31, 3) := by decide +kernel
theorem dX1_advance_29 : decode cX1_advance 29 = .ok (.if_icmp .gt 7, 3) := by decide +kernel
theorem dX1_advance_32 : decode cX1_advance 32 = .ok (.iconst 1, 1) := by decide +kernel
theorem dX1_advance_33 : decode cX1_advance 33 = .ok (.goto 4, 3) := by decide +kernel
theorem dX1_advance_36 : decode cX1_advance 36 = .ok (.iconst 0, 1) := by decide +kernel
theorem dX1_advance_37 : decode cX1_advance 37 = .ok (.istore 4, 2) := by decide +kernel
theorem dX1_advance_39 : decode cX1_advance 39 = .ok (.iload 4, 2) := by decide +kernel
theorem dX1_advance_41 : decode cX1_advance 41 = .ok (.ifCond .ne 12, 3) := by decide +kernel
theorem dX1_advance_44 : decode cX1_advance 44 = .ok (.aload_n 0, 1) := by decide +kernel
theorem dX1_advance_45 : decode cX1_advance 45 = .ok (.iconst (-1), 1) := by decide +kernel
theorem dX1_advance_46 : decode cX1_advance 46 = .ok (.putfield 31, 3) := by decide +kernel
theorem dX1_advance_49 : decode cX1_advance 49 = .ok (.aload_n 0, 1) := by decide +kernel
theorem dX1_advance_50 : decode cX1_advance 50 = .ok (.invokevirtual 81, 3) := by decide +kernel
theorem dX1_advance_53 : decode cX1_advance 53 = .ok (.aload_n 0, 1) := by decide +kernel
theorem dX1_advance_54 : decode cX1_advance 54 = .ok (.aload_n 0, 1) := by decide +kernel
theorem dX1_advance_55 : decode cX1_advance 55 = .ok (.getfield 53, 3) := by decide +kernel
theorem dX1_advance_58 : decode cX1_advance 58 = .ok (.aload_n 0, 1) := by decide +kernel
theorem dX1_advance_59 : decode cX1_advance 59 = .ok (.getfield 50, 3) := by decide +kernel
theorem dX1_advance_62 : decode cX1_advance 62 = .ok (.if_icmp .ne 7, 3) := by decide +kernel
theorem dX1_advance_65 : decode cX1_advance 65 = .ok (.iconst (-1), 1) := by decide +kernel
theorem dX1_advance_66 : decode cX1_advance 66 = .ok (.goto 12, 3) := by decide +kernel
theorem dX1_advance_69 : decode cX1_advance 69 = .ok (.iload_n 3, 1) := by decide +kernel
theorem dX1_advance_70 : decode cX1_advance 70 = .ok (.aload_n 0, 1) := by decide +kernel
theorem dX1_advance_71 : decode cX1_advance 71 = .ok (.getfield 12, 3) := by decide +kernel
theorem dX1_advance_74 : decode cX1_advance 74 = .ok (.getfield 37, 3) := by decide +kernel
theorem dX1_advance_77 : decode cX1_advance 77 = .ok (.iadd, 1) := by decide +kernel
theorem dX1_advance_78 : decode cX1_advance 78 = .ok (.putfield 40, 3) := by decide +kernel
theorem dX1_advance_81 : decode cX1_advance 81 = .ok (.aload_n 0, 1) := by decide +kernel
theorem dX1_advance_82 : decode cX1_advance 82 = .ok (.getfield 53, 3) := by decide +kernel
theorem dX1_advance_85 : decode cX1_advance 85 = .ok (.aload_n 0, 1) := by decide +kernel
theorem dX1_advance_86 : decode cX1_advance 86 = .ok (.getfield 47, 3) := by decide +kernel
theorem dX1_advance_89 : decode cX1_advance 89 = .ok (.if_icmp .le 8, 3) := by decide +kernel
theorem dX1_advance_92 : decode cX1_advance 92 = .ok (.aload_n 0, 1) := by decide +kernel
theorem dX1_advance_93 : decode cX1_advance 93 = .ok (.iconst 2, 1) := by decide +kernel
theorem dX1_advance_94 : decode cX1_advance 94 = .ok (.putfield 18, 3) := by decide +kernel
theorem dX1_advance_97 : decode cX1_advance 97 = .ok (.iload 4, 2) := by decide +kernel
theorem dX1_advance_99 : decode cX1_advance 99 = .ok (.ireturn, 1) := by decide +kernel
theorem dX1_growWindow_0 : decode cX1_growWindow 0 = .ok (.bipush 8, 2) := by decide +kernel
theorem dX1_growWindow_2 : decode cX1_growWindow 2 = .ok (.istore_n 1, 1) := by decide +kernel
theorem dX1_growWindow_3 : decode cX1_growWindow 3 = .ok (.aload_n 0, 1) := by decide +kernel
theorem dX1_growWindow_4 : decode cX1_growWindow 4 = .ok (.getfield 22, 3) := by decide +kernel
theorem dX1_growWindow_7 : decode cX1_growWindow 7 = .ok (.aload_n 0, 1) := by decide +kernel
theorem dX1_growWindow_8 : decode cX1_growWindow 8 = .ok (.getfield 25, 3) := by decide +kernel
theorem dX1_growWindow_11 : decode cX1_growWindow 11 = .ok (.if_icmp .lt 22, 3) := by decide +kernel
theorem dX1_growWindow_14 : decode cX1_growWindow 14 = .ok (.aload_n 0, 1) := by decide +kernel
theorem dX1_growWindow_15 : decode cX1_growWindow 15 = .ok (.getfield 22, 3) := by decide +kernel
theorem dX1_growWindow_18 : decode cX1_growWindow 18 = .ok (.ifCond .le 15, 3) := by decide +kernel
theorem dX1_growWindow_21 : decode cX1_growWindow 21 = .ok (.iconst 1, 1) := by decide +kernel
theorem dX1_growWindow_22 : decode cX1_growWindow 22 = .ok (.bipush 64, 2) := by decide +kernel
theorem dX1_growWindow_24 : decode cX1_growWindow 24 = .ok (.aload_n 0, 1) := by decide +kernel
theorem dX1_growWindow_25 : decode cX1_growWindow 25 = .ok (.getfield 22, 3) := by decide +kernel
theorem dX1_growWindow_28 : decode cX1_growWindow 28 = .ok (.idiv, 1) := by decide +kernel
theorem dX1_growWindow_29 : decode cX1_growWindow 29 = .ok (.invokestatic 84, 3) := by decide +kernel
theorem dX1_growWindow_32 : decode cX1_growWindow 32 = .ok (.istore_n 1, 1) := by decide +kernel
theorem dX1_growWindow_33 : decode cX1_growWindow 33 = .ok (.aload_n 0, 1) := by decide +kernel
theorem dX1_growWindow_34 : decode cX1_growWindow 34 = .ok (.sipush 256, 3) := by decide +kernel
theorem dX1_growWindow_37 : decode cX1_growWindow 37 = .ok (.aload_n 0, 1) := by decide +kernel
theorem dX1_growWindow_38 : decode cX1_growWindow 38 = .ok (.getfield 22, 3) := by decide +kernel
theorem dX1_growWindow_41 : decode cX1_growWindow 41 = .ok (.iload_n 1, 1) := by decide +kernel
theorem dX1_growWindow_42 : decode cX1_growWindow 42 = .ok (.iadd, 1) := by decide +kernel
theorem dX1_growWindow_43 : decode cX1_growWindow 43 = .ok (.invokestatic 90, 3) := by decide +kernel
theorem dX1_growWindow_46 : decode cX1_growWindow 46 = .ok (.putfield 22, 3) := by decide +kernel
theorem dX1_growWindow_49 : decode cX1_growWindow 49 = .ok (.return_, 1) := by decide +kernel
set_option maxRecDepth 20000 in
theorem ggX1_repeated_X1_startRecovery : GoodIn wsX1_repeated wsX1_startRecovery := goodIn_r _ [10, 11, 3, 12, 13, 14, 15, 16, 4, 17, 18, 19, 20, 21, 22, 23, 24, 25, 26, 27, 28, 29, 30] (by decide +kernel) (by decide +kernel)
set_option maxRecDepth 20000 in
theorem gX1_repeated_X1_startRecovery : GoodIn wsX1_repeated (wsV RX1 93 RX1 yX1_startRecovery wsX1_startRecovery) := goodIn_app (goodIn_of _ (by decide +kernel)) ggX1_repeated_X1_startRecovery
theorem dX1_repeated_0 : decode cX1_repeated 0 = .ok (.iload_n 1, 1) := by decide +kernel
theorem dX1_repeated_1 : decode cX1_repeated 1 = .ok (.aload_n 0, 1) := by decide +kernel
theorem dX1_repeated_2 : decode cX1_repeated 2 = .ok (.getfield 28, 3) := by decide +kernel
theorem dX1_repeated_5 : decode cX1_repeated 5 = .ok (.if_icmp .ne 20, 3) := by decide +kernel
theorem dX1_repeated_8 : decode cX1_repeated 8 = .ok (.iload_n 1, 1) := by decide +kernel
theorem dX1_repeated_9 : decode cX1_repeated 9 = .ok (.ifCond .le 16, 3) := by decide +kernel
theorem dX1_repeated_12 : decode cX1_repeated 12 = .ok (.aload_n 0, 1) := by decide +kernel
theorem dX1_repeated_13 : decode cX1_repeated 13 = .ok (.dup, 1) := by decide +kernel
theorem dX1_repeated_14 : decode cX1_repeated 14 = .ok (.getfield 78, 3) := by decide +kernel
theorem dX1_repeated_17 : decode cX1_repeated 17 = .ok (.iconst 1, 1) := by decide +kernel
theorem dX1_repeated_18 : decode cX1_repeated 18 = .ok (.iadd, 1) := by decide +kernel
theorem dX1_repeated_19 : decode cX1_repeated 19 = .ok (.putfield 78, 3) := by decide +kernel
theorem dX1_repeated_22 : decode cX1_repeated 22 = .ok (.goto 13, 3) := by decide +kernel
theorem dX1_repeated_25 : decode cX1_repeated 25 = .ok (.aload_n 0, 1) := by decide +kernel
theorem dX1_repeated_26 : decode cX1_repeated 26 = .ok (.iload_n 1, 1) := by decide +kernel
theorem dX1_repeated_27 : decode cX1_repeated 27 = .ok (.putfield 28, 3) := by decide +kernel
theorem dX1_repeated_30 : decode cX1_repeated 30 = .ok (.aload_n 0, 1) := by decide +kernel
theorem dX1_repeated_31 : decode cX1_repeated 31 = .ok (.iconst 0, 1) := by decide +kernel
theorem dX1_repeated_32 : decode cX1_repeated 32 = .ok (.putfield 78, 3) := by decide +kernel
theorem dX1_repeated_35 : decode cX1_repeated 35 = .ok (.aload_n 0, 1) := by decide +kernel
theorem dX1_repeated_36 : decode cX1_repeated 36 = .ok (.getfield 78, 3) := by decide +kernel
theorem dX1_repeated_39 : decode cX1_repeated 39 = .ok (.iconst 3, 1) := by decide +kernel
theorem dX1_repeated_40 : decode cX1_repeated 40 = .ok (.if_icmp .ne 11, 3) := by decide +kernel
theorem dX1_repeated_43 : decode cX1_repeated 43 = .ok (.aload_n 0, 1) := by decide +kernel
theorem dX1_repeated_44 : decode cX1_repeated 44 = .ok (.getfield 31, 3) := by decide +kernel
theorem dX1_repeated_47 : decode cX1_repeated 47 = .ok (.iconst (-1), 1) := by decide +kernel
theorem dX1_repeated_48 : decode cX1_repeated 48 = .ok (.if_icmp .eq 5, 3) := by decide +kernel
theorem dX1_repeated_51 : decode cX1_repeated 51 = .ok (.iconst 0, 1) := by decide +kernel
theorem dX1_repeated_52 : decode cX1_repeated 52 = .ok (.ireturn, 1) := by decide +kernel
theorem dX1_repeated_53 : decode cX1_repeated 53 = .ok (.aload_n 0, 1) := by decide +kernel
theorem dX1_repeated_54 : decode cX1_repeated 54 = .ok (.invokevirtual 93, 3) := by decide +kernel
theorem dX1_repeated_57 : decode cX1_repeated 57 = .ok (.aload_n 0, 1) := by decide +kernel
theorem dX1_repeated_58 : decode cX1_repeated 58 = .ok (.aload_n 0, 1) := by decide +kernel
theorem dX1_repeated_59 : decode cX1_repeated 59 = .ok (.getfield 25, 3) := by decide +kernel
theorem dX1_repeated_62 : decode cX1_repeated 62 = .ok (.putfield 22, 3) := by decide +kernel
theorem dX1_repeated_65 : decode cX1_repeated 65 = .ok (.iconst 1, 1) := by decide +kernel
theorem dX1_repeated_66 : decode cX1_repeated 66 = .ok (.ireturn, 1) := by decide +kernel
set_option maxRecDepth 20000 in
theorem ggX1_runOut_X5_backOff : GoodIn wsX1_runOut wsX5_backOff := goodIn_r _ [12, 13, 14, 15, 16, 17, 18, 45, 46, 47, 48, 49] (by decide +kernel) (by decide +kernel)
set_option maxRecDepth 20000 in
theorem gX1_runOut_X5_backOff : GoodIn wsX1_runOut (wsV RX1 96 RX5 yX5_backOff wsX5_backOff) := goodIn_app (goodIn_of _ (by decide +kernel)) ggX1_runOut_X5_backOff
set_option maxRecDepth 20000 in
theorem ggX1_runOut_X1_startRecovery : GoodIn wsX1_runOut wsX1_startRecovery := goodIn_r _ [23, 24, 25, 26, 27, 28, 16, 29, 30, 31, 32, 33, 34, 35, 36, 37, 38, 39, 40, 41, 42, 43, 44] (by decide +kernel) (by decide +kernel)
set_option maxRecDepth 20000 in
theorem gX1_runOut_X1_startRecovery : GoodIn wsX1_runOut (wsV RX1 93 RX1 yX1_startRecovery wsX1_startRecovery) := goodIn_app (goodIn_of _ (by decide +kernel)) ggX1_runOut_X1_startRecovery
theorem dX1_runOut_0 : decode cX1_runOut 0 = .ok (.aload_n 0, 1) := by decide +kernel
theorem dX1_runOut_1 : decode cX1_runOut 1 = .ok (.iconst (-1), 1) := by decide +kernel
theorem dX1_runOut_2 : decode cX1_runOut 2 = .ok (.putfield 40, 3) := by decide +kernel
theorem dX1_runOut_5 : decode cX1_runOut 5 = .ok (.aload_n 0, 1) := by decide +kernel
theorem dX1_runOut_6 : decode cX1_runOut 6 = .ok (.dup, 1) := by decide +kernel
theorem dX1_runOut_7 : decode cX1_runOut 7 = .ok (.getfield 64, 3) := by decide +kernel
theorem dX1_runOut_10 : decode cX1_runOut 10 = .ok (.iconst 1, 1) := by decide +kernel
theorem dX1_runOut_11 : decode cX1_runOut 11 = .ok (.iadd, 1) := by decide +kernel
theorem dX1_runOut_12 : decode cX1_runOut 12 = .ok (.putfield 64, 3) := by decide +kernel
theorem dX1_runOut_15 : decode cX1_runOut 15 = .ok (.aload_n 0, 1) := by decide +kernel
theorem dX1_runOut_16 : decode cX1_runOut 16 = .ok (.getfield 64, 3) := by decide +kernel
theorem dX1_runOut_19 : decode cX1_runOut 19 = .ok (.bipush 6, 2) := by decide +kernel
theorem dX1_runOut_21 : decode cX1_runOut 21 = .ok (.if_icmp .lt 10, 3) := by decide +kernel
theorem dX1_runOut_24 : decode cX1_runOut 24 = .ok (.aload_n 0, 1) := by decide +kernel
theorem dX1_runOut_25 : decode cX1_runOut 25 = .ok (.iconst 3, 1) := by decide +kernel
theorem dX1_runOut_26 : decode cX1_runOut 26 = .ok (.putfield 18, 3) := by decide +kernel
theorem dX1_runOut_29 : decode cX1_runOut 29 = .ok (.iconst 0, 1) := by decide +kernel
theorem dX1_runOut_30 : decode cX1_runOut 30 = .ok (.ireturn, 1) := by decide +kernel
theorem dX1_runOut_31 : decode cX1_runOut 31 = .ok (.aload_n 0, 1) := by decide +kernel
theorem dX1_runOut_32 : decode cX1_runOut 32 = .ok (.getfield 12, 3) := by decide +kernel
theorem dX1_runOut_35 : decode cX1_runOut 35 = .ok (.invokevirtual 96, 3) := by decide +kernel
theorem dX1_runOut_38 : decode cX1_runOut 38 = .ok (.aload_n 0, 1) := by decide +kernel
theorem dX1_runOut_39 : decode cX1_runOut 39 = .ok (.getfield 18, 3) := by decide +kernel
theorem dX1_runOut_42 : decode cX1_runOut 42 = .ok (.iconst 1, 1) := by decide +kernel
theorem dX1_runOut_43 : decode cX1_runOut 43 = .ok (.if_icmp .ne 18, 3) := by decide +kernel
theorem dX1_runOut_46 : decode cX1_runOut 46 = .ok (.aload_n 0, 1) := by decide +kernel
theorem dX1_runOut_47 : decode cX1_runOut 47 = .ok (.invokevirtual 93, 3) := by decide +kernel
theorem dX1_runOut_50 : decode cX1_runOut 50 = .ok (.aload_n 0, 1) := by decide +kernel
theorem dX1_runOut_51 : decode cX1_runOut 51 = .ok (.bipush 8, 2) := by decide +kernel
theorem dX1_runOut_53 : decode cX1_runOut 53 = .ok (.putfield 22, 3) := by decide +kernel
theorem dX1_runOut_56 : decode cX1_runOut 56 = .ok (.aload_n 0, 1) := by decide +kernel
theorem dX1_runOut_57 : decode cX1_runOut 57 = .ok (.iconst 0, 1) := by decide +kernel
theorem dX1_runOut_58 : decode cX1_runOut 58 = .ok (.putfield 78, 3) := by decide +kernel
theorem dX1_runOut_61 : decode cX1_runOut 61 = .ok (.aload_n 0, 1) := by decide +kernel
theorem dX1_runOut_62 : decode cX1_runOut 62 = .ok (.iload_n 1, 1) := by decide +kernel
theorem dX1_runOut_63 : decode cX1_runOut 63 = .ok (.aload_n 0, 1) := by decide +kernel
theorem dX1_runOut_64 : decode cX1_runOut 64 = .ok (.getfield 12, 3) := by decide +kernel
theorem dX1_runOut_67 : decode cX1_runOut 67 = .ok (.getfield 37, 3) := by decide +kernel
theorem dX1_runOut_70 : decode cX1_runOut 70 = .ok (.iadd, 1) := by decide +kernel
theorem dX1_runOut_71 : decode cX1_runOut 71 = .ok (.putfield 40, 3) := by decide +kernel
theorem dX1_runOut_74 : decode cX1_runOut 74 = .ok (.iconst 1, 1) := by decide +kernel
theorem dX1_runOut_75 : decode cX1_runOut 75 = .ok (.ireturn, 1) := by decide +kernel
theorem dX1_startRecovery_0 : decode cX1_startRecovery 0 = .ok (.aload_n 0, 1) := by decide +kernel
theorem dX1_startRecovery_1 : decode cX1_startRecovery 1 = .ok (.aload_n 0, 1) := by decide +kernel
theorem dX1_startRecovery_2 : decode cX1_startRecovery 2 = .ok (.getfield 50, 3) := by decide +kernel
theorem dX1_startRecovery_5 : decode cX1_startRecovery 5 = .ok (.iconst 1, 1) := by decide +kernel
theorem dX1_startRecovery_6 : decode cX1_startRecovery 6 = .ok (.isub, 1) := by decide +kernel
theorem dX1_startRecovery_7 : decode cX1_startRecovery 7 = .ok (.putfield 31, 3) := by decide +kernel
theorem dX1_startRecovery_10 : decode cX1_startRecovery 10 = .ok (.aload_n 0, 1) := by decide +kernel
theorem dX1_startRecovery_11 : decode cX1_startRecovery 11 = .ok (.bipush 16, 2) := by decide +kernel
theorem dX1_startRecovery_13 : decode cX1_startRecovery 13 = .ok (.aload_n 0, 1) := by decide +kernel
theorem dX1_startRecovery_14 : decode cX1_startRecovery 14 = .ok (.getfield 50, 3) := by decide +kernel
theorem dX1_startRecovery_17 : decode cX1_startRecovery 17 = .ok (.aload_n 0, 1) := by decide +kernel
theorem dX1_startRecovery_18 : decode cX1_startRecovery 18 = .ok (.getfield 53, 3) := by decide +kernel
theorem dX1_startRecovery_21 : decode cX1_startRecovery 21 = .ok (.isub, 1) := by decide +kernel
theorem dX1_startRecovery_22 : decode cX1_startRecovery 22 = .ok (.iconst 4, 1) := by decide +kernel
theorem dX1_startRecovery_23 : decode cX1_startRecovery 23 = .ok (.imul, 1) := by decide +kernel
theorem dX1_startRecovery_24 : decode cX1_startRecovery 24 = .ok (.invokestatic 84, 3) := by decide +kernel
theorem dX1_startRecovery_27 : decode cX1_startRecovery 27 = .ok (.putfield 25, 3) := by decide +kernel
theorem dX1_startRecovery_30 : decode cX1_startRecovery 30 = .ok (.return_, 1) := by decide +kernel
set_option maxRecDepth 20000 in
theorem ggX1_baseAgain_X5_sentTwice : GoodIn wsX1_baseAgain wsX5_sentTwice := goodIn_r _ [8, 9, 24, 25, 26, 27, 28] (by decide +kernel) (by decide +kernel)
set_option maxRecDepth 20000 in
theorem gX1_baseAgain_X5_sentTwice : GoodIn wsX1_baseAgain (wsV RX1 102 RX5 yX5_sentTwice wsX5_sentTwice) := goodIn_app (goodIn_of _ (by decide +kernel)) ggX1_baseAgain_X5_sentTwice
theorem dX1_baseAgain_0 : decode cX1_baseAgain 0 = .ok (.aload_n 0, 1) := by decide +kernel
theorem dX1_baseAgain_1 : decode cX1_baseAgain 1 = .ok (.dup, 1) := by decide +kernel
theorem dX1_baseAgain_2 : decode cX1_baseAgain 2 = .ok (.getfield 99, 3) := by decide +kernel
theorem dX1_baseAgain_5 : decode cX1_baseAgain 5 = .ok (.iconst 1, 1) := by decide +kernel
theorem dX1_baseAgain_6 : decode cX1_baseAgain 6 = .ok (.iadd, 1) := by decide +kernel
theorem dX1_baseAgain_7 : decode cX1_baseAgain 7 = .ok (.putfield 99, 3) := by decide +kernel
theorem dX1_baseAgain_10 : decode cX1_baseAgain 10 = .ok (.aload_n 0, 1) := by decide +kernel
theorem dX1_baseAgain_11 : decode cX1_baseAgain 11 = .ok (.getfield 12, 3) := by decide +kernel
theorem dX1_baseAgain_14 : decode cX1_baseAgain 14 = .ok (.aload_n 0, 1) := by decide +kernel
theorem dX1_baseAgain_15 : decode cX1_baseAgain 15 = .ok (.getfield 53, 3) := by decide +kernel
theorem dX1_baseAgain_18 : decode cX1_baseAgain 18 = .ok (.invokevirtual 102, 3) := by decide +kernel
theorem dX1_baseAgain_21 : decode cX1_baseAgain 21 = .ok (.aload_n 0, 1) := by decide +kernel
theorem dX1_baseAgain_22 : decode cX1_baseAgain 22 = .ok (.getfield 53, 3) := by decide +kernel
theorem dX1_baseAgain_25 : decode cX1_baseAgain 25 = .ok (.ireturn, 1) := by decide +kernel
set_option maxRecDepth 20000 in
theorem ggX1_copyFrom_X5_copyFrom : GoodIn wsX1_copyFrom wsX5_copyFrom := goodIn_r _ [19, 20, 21, 22, 23, 24, 39, 40, 41, 42, 43] (by decide +kernel) (by decide +kernel)
set_option maxRecDepth 20000 in
theorem gX1_copyFrom_X5_copyFrom : GoodIn wsX1_copyFrom (wsV RX1 106 RX5 yX5_copyFrom wsX5_copyFrom) := goodIn_app (goodIn_of _ (by decide +kernel)) ggX1_copyFrom_X5_copyFrom
theorem dX1_copyFrom_0 : decode cX1_copyFrom 0 = .ok (.aload_n 0, 1) := by decide +kernel
theorem dX1_copyFrom_1 : decode cX1_copyFrom 1 = .ok (.aload_n 1, 1) := by decide +kernel
theorem dX1_copyFrom_2 : decode cX1_copyFrom 2 = .ok (.getfield 18, 3) := by decide +kernel
theorem dX1_copyFrom_5 : decode cX1_copyFrom 5 = .ok (.putfield 18, 3) := by decide +kernel
theorem dX1_copyFrom_8 : decode cX1_copyFrom 8 = .ok (.aload_n 0, 1) := by decide +kernel
theorem dX1_copyFrom_9 : decode cX1_copyFrom 9 = .ok (.aload_n 1, 1) := by decide +kernel
theorem dX1_copyFrom_10 : decode cX1_copyFrom 10 = .ok (.getfield 47, 3) := by decide +kernel
theorem dX1_copyFrom_13 : decode cX1_copyFrom 13 = .ok (.putfield 47, 3) := by decide +kernel
theorem dX1_copyFrom_16 : decode cX1_copyFrom 16 = .ok (.aload_n 0, 1) := by decide +kernel
theorem dX1_copyFrom_17 : decode cX1_copyFrom 17 = .ok (.aload_n 1, 1) := by decide +kernel
theorem dX1_copyFrom_18 : decode cX1_copyFrom 18 = .ok (.getfield 43, 3) := by decide +kernel
theorem dX1_copyFrom_21 : decode cX1_copyFrom 21 = .ok (.putfield 43, 3) := by decide +kernel
theorem dX1_copyFrom_24 : decode cX1_copyFrom 24 = .ok (.aload_n 0, 1) := by decide +kernel
theorem dX1_copyFrom_25 : decode cX1_copyFrom 25 = .ok (.aload_n 1, 1) := by decide +kernel
theorem dX1_copyFrom_26 : decode cX1_copyFrom 26 = .ok (.getfield 53, 3) := by decide +kernel
theorem dX1_copyFrom_29 : decode cX1_copyFrom 29 = .ok (.putfield 53, 3) := by decide +kernel
theorem dX1_copyFrom_32 : decode cX1_copyFrom 32 = .ok (.aload_n 0, 1) := by decide +kernel
theorem dX1_copyFrom_33 : decode cX1_copyFrom 33 = .ok (.aload_n 1, 1) := by decide +kernel
theorem dX1_copyFrom_34 : decode cX1_copyFrom 34 = .ok (.getfield 50, 3) := by decide +kernel
theorem dX1_copyFrom_37 : decode cX1_copyFrom 37 = .ok (.putfield 50, 3) := by decide +kernel
theorem dX1_copyFrom_40 : decode cX1_copyFrom 40 = .ok (.aload_n 0, 1) := by decide +kernel
theorem dX1_copyFrom_41 : decode cX1_copyFrom 41 = .ok (.aload_n 1, 1) := by decide +kernel
theorem dX1_copyFrom_42 : decode cX1_copyFrom 42 = .ok (.getfield 22, 3) := by decide +kernel
theorem dX1_copyFrom_45 : decode cX1_copyFrom 45 = .ok (.putfield 22, 3) := by decide +kernel
theorem dX1_copyFrom_48 : decode cX1_copyFrom 48 = .ok (.aload_n 0, 1) := by decide +kernel
theorem dX1_copyFrom_49 : decode cX1_copyFrom 49 = .ok (.aload_n 1, 1) := by decide +kernel
theorem dX1_copyFrom_50 : decode cX1_copyFrom 50 = .ok (.getfield 25, 3) := by decide +kernel
theorem dX1_copyFrom_53 : decode cX1_copyFrom 53 = .ok (.putfield 25, 3) := by decide +kernel
theorem dX1_copyFrom_56 : decode cX1_copyFrom 56 = .ok (.aload_n 0, 1) := by decide +kernel
theorem dX1_copyFrom_57 : decode cX1_copyFrom 57 = .ok (.aload_n 1, 1) := by decide +kernel
theorem dX1_copyFrom_58 : decode cX1_copyFrom 58 = .ok (.getfield 28, 3) := by decide +kernel
theorem dX1_copyFrom_61 : decode cX1_copyFrom 61 = .ok (.putfield 28, 3) := by decide +kernel
theorem dX1_copyFrom_64 : decode cX1_copyFrom 64 = .ok (.aload_n 0, 1) := by decide +kernel
theorem dX1_copyFrom_65 : decode cX1_copyFrom 65 = .ok (.aload_n 1, 1) := by decide +kernel
theorem dX1_copyFrom_66 : decode cX1_copyFrom 66 = .ok (.getfield 78, 3) := by decide +kernel
theorem dX1_copyFrom_69 : decode cX1_copyFrom 69 = .ok (.putfield 78, 3) := by decide +kernel
theorem dX1_copyFrom_72 : decode cX1_copyFrom 72 = .ok (.aload_n 0, 1) := by decide +kernel
theorem dX1_copyFrom_73 : decode cX1_copyFrom 73 = .ok (.aload_n 1, 1) := by decide +kernel
theorem dX1_copyFrom_74 : decode cX1_copyFrom 74 = .ok (.getfield 31, 3) := by decide +kernel
theorem dX1_copyFrom_77 : decode cX1_copyFrom 77 = .ok (.putfield 31, 3) := by decide +kernel
theorem dX1_copyFrom_80 : decode cX1_copyFrom 80 = .ok (.aload_n 0, 1) := by decide +kernel
theorem dX1_copyFrom_81 : decode cX1_copyFrom 81 = .ok (.aload_n 1, 1) := by decide +kernel
theorem dX1_copyFrom_82 : decode cX1_copyFrom 82 = .ok (.getfield 40, 3) := by decide +kernel
theorem dX1_copyFrom_85 : decode cX1_copyFrom 85 = .ok (.putfield 40, 3) := by decide +kernel
theorem dX1_copyFrom_88 : decode cX1_copyFrom 88 = .ok (.aload_n 0, 1) := by decide +kernel
theorem dX1_copyFrom_89 : decode cX1_copyFrom 89 = .ok (.aload_n 1, 1) := by decide +kernel
theorem dX1_copyFrom_90 : decode cX1_copyFrom 90 = .ok (.getfield 64, 3) := by decide +kernel
theorem dX1_copyFrom_93 : decode cX1_copyFrom 93 = .ok (.putfield 64, 3) := by decide +kernel
theorem dX1_copyFrom_96 : decode cX1_copyFrom 96 = .ok (.aload_n 0, 1) := by decide +kernel
theorem dX1_copyFrom_97 : decode cX1_copyFrom 97 = .ok (.aload_n 1, 1) := by decide +kernel
theorem dX1_copyFrom_98 : decode cX1_copyFrom 98 = .ok (.getfield 99, 3) := by decide +kernel
theorem dX1_copyFrom_101 : decode cX1_copyFrom 101 = .ok (.putfield 99, 3) := by decide +kernel
theorem dX1_copyFrom_104 : decode cX1_copyFrom 104 = .ok (.aload_n 0, 1) := by decide +kernel
theorem dX1_copyFrom_105 : decode cX1_copyFrom 105 = .ok (.getfield 12, 3) := by decide +kernel
theorem dX1_copyFrom_108 : decode cX1_copyFrom 108 = .ok (.aload_n 1, 1) := by decide +kernel
theorem dX1_copyFrom_109 : decode cX1_copyFrom 109 = .ok (.getfield 12, 3) := by decide +kernel
theorem dX1_copyFrom_112 : decode cX1_copyFrom 112 = .ok (.invokevirtual 106, 3) := by decide +kernel
theorem dX1_copyFrom_115 : decode cX1_copyFrom 115 = .ok (.return_, 1) := by decide +kernel
end
section
def wp_X1_begin (τ : TS) (i0 : Nat) (x1 : Int32) (x2 : Int32) (K : TS → Prop) : Prop :=
  ∀ τ21 : TS, τ21 = tp_up τ i0 0 0 → ∀ τ22 : TS, τ22 = tp_up τ21 i0 5 8 → ∀ τ23 : TS, τ23 = tp_up τ22 i0 6 128 → ∀ τ24 : TS, τ24 = tp_up τ23 i0 7 x1 → ∀ τ25 : TS, τ25 = tp_up τ24 i0 9 (-1) → wp_X5_begin τ25 (i0 + 1) (fun τ26 => ∀ τ27 : TS, τ27 = tp_up τ26 i0 10 (x2 + (τ26 (i0 + 1) 2)) → K τ27)
theorem mw_X1_begin_0 : Cond.fieldLink RX1 18 "TidePost$Caller" "state" "I" ∈ wsX1_begin := List.mem_of_getElem? (i := 1) rfl
theorem mw_X1_begin_1 : Cond.fieldLink RX1 22 "TidePost$Caller" "window" "I" ∈ wsX1_begin := List.mem_of_getElem? (i := 2) rfl
theorem mw_X1_begin_2 : Cond.fieldLink RX1 25 "TidePost$Caller" "threshold" "I" ∈ wsX1_begin := List.mem_of_getElem? (i := 3) rfl
theorem mw_X1_begin_3 : Cond.fieldLink RX1 28 "TidePost$Caller" "room" "I" ∈ wsX1_begin := List.mem_of_getElem? (i := 4) rfl
theorem mw_X1_begin_4 : Cond.fieldLink RX1 31 "TidePost$Caller" "recover" "I" ∈ wsX1_begin := List.mem_of_getElem? (i := 5) rfl
theorem mw_X1_begin_5 : Cond.fieldLink RX1 12 "TidePost$Caller" "timing" "LTidePost$Timing;" ∈ wsX1_begin := List.mem_of_getElem? (i := 6) rfl
theorem mw_X1_begin_6 : Cond.fieldLink RX1 37 "TidePost$Timing" "timeout" "I" ∈ wsX1_begin := List.mem_of_getElem? (i := 7) rfl
theorem mw_X1_begin_7 : Cond.fieldLink RX1 40 "TidePost$Caller" "timer" "I" ∈ wsX1_begin := List.mem_of_getElem? (i := 8) rfl
theorem in_X1_begin_X1 : ∀ x ∈ wsX10, x ∈ wsX1_begin := fun _ h => List.mem_cons_of_mem _ (List.mem_append_left _ (List.mem_append_right _ h))
theorem in_X1_begin_X5 : ∀ x ∈ wsX50, x ∈ wsX1_begin := fun _ h => List.mem_cons_of_mem _ (List.mem_append_right _ h)
set_option maxHeartbeats 4000000 in
set_option maxRecDepth 100000 in
theorem c_X1_begin (w : WPar) (τ : TS) (i0 : Nat) (x1 : Int32) (x2 : Int32) (K : TS → Prop) (h0 : tp_is i0 1) (hw : wp_X1_begin τ i0 x1 x2 K) : MV w yX1_begin wsX1_begin 1 20 [.ref (w.1 i0), .int x1, .int x2] τ K := by
  refine tp_enterV (cc := cX1_begin) (maxL := 3) (own := RX1) (by decide) rfl rfl (Nat.le_of_ble_eq_true rfl) (fun g C hR => ?_)
  show Zt w g τ (0, 0) 0 [(0, .ref (w.1 i0)), (1, .int x1), (2, .int x2)] []
  unfold wp_X1_begin at hw
  refine z_aload_n C 0 (by rfl) dX1_begin_0 ?_
  refine z_iconst C 0 (by decide) dX1_begin_1 ?_
  refine z_put C (Cn := RX1) (T := TX1) (N := 14) (ci := 1) h0.2 0 (tE1 h0.1) (tS1_0 h0.1 _) in_X1_begin_X1 tyX1 tyX1_ok nmX1 rfl (by decide) mw_X1_begin_0 rfl rfl (tyX1_ok 0 (by decide)) rfl rfl (Nat.le_of_ble_eq_true rfl) dX1_begin_2 (fun τ21 eτ21 => ?_)
  have hw := hw τ21 eτ21
  refine z_aload_n C 0 (by rfl) dX1_begin_5 ?_
  refine z_bipush C 8 (by decide) dX1_begin_6 ?_
  refine z_put C (Cn := RX1) (T := TX1) (N := 14) (ci := 1) h0.2 5 (tE1 h0.1) (tS1_5 h0.1 _) in_X1_begin_X1 tyX1 tyX1_ok nmX1 rfl (by decide) mw_X1_begin_1 rfl rfl (tyX1_ok 5 (by decide)) rfl rfl (Nat.le_of_ble_eq_true rfl) dX1_begin_8 (fun τ22 eτ22 => ?_)
  have hw := hw τ22 eτ22
  refine z_aload_n C 0 (by rfl) dX1_begin_11 ?_
  refine z_sipush C 128 (by decide) dX1_begin_12 ?_
  refine z_put C (Cn := RX1) (T := TX1) (N := 14) (ci := 1) h0.2 6 (tE1 h0.1) (tS1_6 h0.1 _) in_X1_begin_X1 tyX1 tyX1_ok nmX1 rfl (by decide) mw_X1_begin_2 rfl rfl (tyX1_ok 6 (by decide)) rfl rfl (Nat.le_of_ble_eq_true rfl) dX1_begin_15 (fun τ23 eτ23 => ?_)
  have hw := hw τ23 eτ23
  refine z_aload_n C 0 (by rfl) dX1_begin_18 ?_
  refine z_iload_n C 1 (by rfl) dX1_begin_19 ?_
  refine z_put C (Cn := RX1) (T := TX1) (N := 14) (ci := 1) h0.2 7 (tE1 h0.1) (tS1_7 h0.1 _) in_X1_begin_X1 tyX1 tyX1_ok nmX1 rfl (by decide) mw_X1_begin_3 rfl rfl (tyX1_ok 7 (by decide)) rfl rfl (Nat.le_of_ble_eq_true rfl) dX1_begin_20 (fun τ24 eτ24 => ?_)
  have hw := hw τ24 eτ24
  refine z_aload_n C 0 (by rfl) dX1_begin_23 ?_
  refine z_iconst C (-1) (by decide) dX1_begin_24 ?_
  refine z_put C (Cn := RX1) (T := TX1) (N := 14) (ci := 1) h0.2 9 (tE1 h0.1) (tS1_9 h0.1 _) in_X1_begin_X1 tyX1 tyX1_ok nmX1 rfl (by decide) mw_X1_begin_4 rfl rfl (tyX1_ok 9 (by decide)) rfl rfl (Nat.le_of_ble_eq_true rfl) dX1_begin_25 (fun τ25 eτ25 => ?_)
  have hw := hw τ25 eτ25
  refine z_aload_n C 0 (by rfl) dX1_begin_28 ?_
  refine z_get C (Cn := RX1) (T := TX1) (N := 14) (ci := 1) h0.2 13 (tE1 h0.1) in_X1_begin_X1 rfl (by decide) mw_X1_begin_5 rfl rfl dX1_begin_29 ?_
  refine zv_v C (As := []) (bytes := cX5_begin) (maxL := 1) (F1 := 0) (L1 := 0) (c_X5_begin w _ (i0 + 1) _ (tR1_13 h0) hw) (tR1_13 h0).2 (tE4 (tR1_13 h0).1) rfl 0 gX1_begin_X5_begin rfl (by decide +kernel) ⟨Nat.le_of_ble_eq_true rfl, Nat.le_of_ble_eq_true rfl⟩ rfl (Nat.le_of_ble_eq_true rfl) ⟨Nat.zero_le _, Nat.zero_le _⟩ rfl dX1_begin_32 (fun τ26 hw => ?_)
  refine z_aload_n C 0 (by rfl) dX1_begin_35 ?_
  refine z_iload_n C 2 (by rfl) dX1_begin_36 ?_
  refine z_aload_n C 0 (by rfl) dX1_begin_37 ?_
  refine z_get C (Cn := RX1) (T := TX1) (N := 14) (ci := 1) h0.2 13 (tE1 h0.1) in_X1_begin_X1 rfl (by decide) mw_X1_begin_5 rfl rfl dX1_begin_38 ?_
  refine z_get C (Cn := RX5) (T := TX5) (N := 5) (ci := 4) (tR1_13 h0).2 2 (tE4 (tR1_13 h0).1) in_X1_begin_X5 rfl (by decide) mw_X1_begin_6 rfl rfl dX1_begin_41 ?_
  refine z_iadd C dX1_begin_44 ?_
  refine z_put C (Cn := RX1) (T := TX1) (N := 14) (ci := 1) h0.2 10 (tE1 h0.1) (tS1_10 h0.1 _) in_X1_begin_X1 tyX1 tyX1_ok nmX1 rfl (by decide) mw_X1_begin_7 rfl rfl (tyX1_ok 10 (by decide)) rfl rfl (Nat.le_of_ble_eq_true rfl) dX1_begin_45 (fun τ27 eτ27 => ?_)
  have hw := hw τ27 eτ27
  exact hR _ _ _ dX1_begin_48 hw
def wp_X1_things (τ : TS) (i0 : Nat) (K : TS → Int32 → Prop) : Prop :=
  (((τ i0 2) = 0) → (K τ (τ i0 1))) ∧ ((¬ (τ i0 2) = 0) → (K τ ((τ i0 1) + 1)))
theorem mw_X1_things_0 : Cond.fieldLink RX1 43 "TidePost$Caller" "toldToClose" "Z" ∈ wsX1_things := List.mem_of_getElem? (i := 1) rfl
theorem mw_X1_things_1 : Cond.fieldLink RX1 47 "TidePost$Caller" "given" "I" ∈ wsX1_things := List.mem_of_getElem? (i := 2) rfl
theorem in_X1_things_X1 : ∀ x ∈ wsX10, x ∈ wsX1_things := fun _ h => List.mem_cons_of_mem _ (List.mem_append_right _ h)
set_option maxHeartbeats 4000000 in
set_option maxRecDepth 100000 in
theorem c_X1_things (w : WPar) (τ : TS) (i0 : Nat) (K : TS → Int32 → Prop) (h0 : tp_is i0 1) (hw : wp_X1_things τ i0 K) : MI w yX1_things wsX1_things 0 0 [.ref (w.1 i0)] τ K := by
  refine tp_enterI (cc := cX1_things) (maxL := 1) (own := RX1) (by decide) rfl rfl (Nat.le_of_ble_eq_true rfl) (fun g C hR => ?_)
  show Zt w g τ (0, 0) 0 [(0, .ref (w.1 i0))] []
  unfold wp_X1_things at hw
  refine z_aload_n C 0 (by rfl) dX1_things_0 ?_
  refine z_get C (Cn := RX1) (T := TX1) (N := 14) (ci := 1) h0.2 2 (tE1 h0.1) in_X1_things_X1 rfl (by decide) mw_X1_things_0 rfl rfl dX1_things_1 ?_
  refine z_if_eq (tgt := 16) C dX1_things_4 (by decide) (fun c21 => ?_) (fun c21 => ?_)
  · have hw := hw.1 c21
    refine z_aload_n C 0 (by rfl) dX1_things_16 ?_
    refine z_get C (Cn := RX1) (T := TX1) (N := 14) (ci := 1) h0.2 1 (tE1 h0.1) in_X1_things_X1 rfl (by decide) mw_X1_things_1 rfl rfl dX1_things_17 ?_
    exact hR _ _ _ _ dX1_things_20 hw
  · have hw := hw.2 c21
    refine z_aload_n C 0 (by rfl) dX1_things_7 ?_
    refine z_get C (Cn := RX1) (T := TX1) (N := 14) (ci := 1) h0.2 1 (tE1 h0.1) in_X1_things_X1 rfl (by decide) mw_X1_things_1 rfl rfl dX1_things_8 ?_
    refine z_iconst C 1 (by decide) dX1_things_11 ?_
    refine z_iadd C dX1_things_12 ?_
    refine z_goto (tgt := 20) C dX1_things_13 (by decide) ?_
    exact hR _ _ _ _ dX1_things_20 hw
def wp_X1_maySend (τ : TS) (i0 : Nat) (K : TS → Int32 → Prop) : Prop :=
  ∀ x21 : Int32, x21 = ((τ i0 4) - (τ i0 3)) → ((¬ (τ i0 0) = 1) → (K τ 0)) ∧ (((τ i0 0) = 1) → (wp_X1_things τ i0 (fun τ23 x24 => ((x24 ≤ (τ i0 4)) → (K τ23 0)) ∧ ((¬ x24 ≤ (τ i0 4)) → ((((x21 * 8) < (τ23 i0 5)) → ((((τ23 i0 4) < (τ23 i0 1)) → (((x21 < (τ23 i0 7)) → (K τ23 1)) ∧ ((¬ x21 < (τ23 i0 7)) → (((¬ x21 = 0) → (K τ23 0)) ∧ ((x21 = 0) → (K τ23 1)))))) ∧ ((¬ (τ23 i0 4) < (τ23 i0 1)) → (K τ23 1)))) ∧ ((¬ (x21 * 8) < (τ23 i0 5)) → (K τ23 0)))))))
theorem mw_X1_maySend_0 : Cond.fieldLink RX1 50 "TidePost$Caller" "next" "I" ∈ wsX1_maySend := List.mem_of_getElem? (i := 1) rfl
theorem mw_X1_maySend_1 : Cond.fieldLink RX1 53 "TidePost$Caller" "base" "I" ∈ wsX1_maySend := List.mem_of_getElem? (i := 2) rfl
theorem mw_X1_maySend_2 : Cond.fieldLink RX1 18 "TidePost$Caller" "state" "I" ∈ wsX1_maySend := List.mem_of_getElem? (i := 3) rfl
theorem mw_X1_maySend_3 : Cond.fieldLink RX1 22 "TidePost$Caller" "window" "I" ∈ wsX1_maySend := List.mem_of_getElem? (i := 4) rfl
theorem mw_X1_maySend_4 : Cond.fieldLink RX1 47 "TidePost$Caller" "given" "I" ∈ wsX1_maySend := List.mem_of_getElem? (i := 5) rfl
theorem mw_X1_maySend_5 : Cond.fieldLink RX1 28 "TidePost$Caller" "room" "I" ∈ wsX1_maySend := List.mem_of_getElem? (i := 6) rfl
theorem in_X1_maySend_X1 : ∀ x ∈ wsX10, x ∈ wsX1_maySend := fun _ h => List.mem_cons_of_mem _ (List.mem_append_right _ h)
set_option maxHeartbeats 4000000 in
set_option maxRecDepth 100000 in
theorem c_X1_maySend (w : WPar) (τ : TS) (i0 : Nat) (K : TS → Int32 → Prop) (h0 : tp_is i0 1) (hw : wp_X1_maySend τ i0 K) : MI w yX1_maySend wsX1_maySend 1 20 [.ref (w.1 i0)] τ K := by
  refine tp_enterZ (cc := cX1_maySend) (maxL := 3) (own := RX1) (by decide) rfl rfl (Nat.le_of_ble_eq_true rfl) (fun g C hR => ?_)
  show Zt w g τ (0, 0) 0 [(0, .ref (w.1 i0))] []
  unfold wp_X1_maySend at hw
  refine z_aload_n C 0 (by rfl) dX1_maySend_0 ?_
  refine z_get C (Cn := RX1) (T := TX1) (N := 14) (ci := 1) h0.2 4 (tE1 h0.1) in_X1_maySend_X1 rfl (by decide) mw_X1_maySend_0 rfl rfl dX1_maySend_1 ?_
  refine z_aload_n C 0 (by rfl) dX1_maySend_4 ?_
  refine z_get C (Cn := RX1) (T := TX1) (N := 14) (ci := 1) h0.2 3 (tE1 h0.1) in_X1_maySend_X1 rfl (by decide) mw_X1_maySend_1 rfl rfl dX1_maySend_5 ?_
  refine z_isub C dX1_maySend_8 ?_
  refine z_top (fun x21 ex21 => ?_)
  have hw := hw x21 ex21
  refine z_istore_n C [(1, .int x21), (0, .ref (w.1 i0))] dX1_maySend_9 (by decide) rfl ?_
  refine z_aload_n C 1 (by rfl) dX1_maySend_10 ?_
  refine z_get C (Cn := RX1) (T := TX1) (N := 14) (ci := 1) h0.2 0 (tE1 h0.1) in_X1_maySend_X1 rfl (by decide) mw_X1_maySend_2 rfl rfl dX1_maySend_11 ?_
  refine z_iconst C 1 (by decide) dX1_maySend_14 ?_
  refine z_icmp_ne (tgt := 40) C dX1_maySend_15 (by decide) (fun c22 => ?_) (fun c22 => ?_)
  · have hw := hw.1 c22
    refine z_iconst C 0 (by decide) dX1_maySend_40 ?_
    exact hR _ _ _ _ dX1_maySend_41 rfl hw
  · have hw := hw.2 c22
    refine z_aload_n C 1 (by rfl) dX1_maySend_18 ?_
    refine z_get C (Cn := RX1) (T := TX1) (N := 14) (ci := 1) h0.2 4 (tE1 h0.1) in_X1_maySend_X1 rfl (by decide) mw_X1_maySend_0 rfl rfl dX1_maySend_19 ?_
    refine z_aload_n C 1 (by rfl) dX1_maySend_22 ?_
    refine zv_i C (As := []) (bytes := cX1_things) (maxL := 1) (F1 := 0) (L1 := 0) (c_X1_things w _ i0 _ h0 hw) h0.2 (tE1 h0.1) rfl 0 gX1_maySend_X1_things rfl (by decide +kernel) ⟨Nat.le_of_ble_eq_true rfl, Nat.le_of_ble_eq_true rfl⟩ rfl (Nat.le_of_ble_eq_true rfl) ⟨Nat.zero_le _, Nat.zero_le _⟩ rfl dX1_maySend_23 (fun x24 τ23 hw => ?_)
    refine z_icmp_ge (tgt := 40) C dX1_maySend_26 (by decide) (fun c25 => ?_) (fun c25 => ?_)
    · have hw := hw.1 c25
      refine z_iconst C 0 (by decide) dX1_maySend_40 ?_
      exact hR _ _ _ _ dX1_maySend_41 rfl hw
    · have hw := hw.2 c25
      refine z_iload_n C 0 (by rfl) dX1_maySend_29 ?_
      refine z_bipush C 8 (by decide) dX1_maySend_30 ?_
      refine z_imul C dX1_maySend_32 ?_
      refine z_aload_n C 1 (by rfl) dX1_maySend_33 ?_
      refine z_get C (Cn := RX1) (T := TX1) (N := 14) (ci := 1) h0.2 5 (tE1 h0.1) in_X1_maySend_X1 rfl (by decide) mw_X1_maySend_3 rfl rfl dX1_maySend_34 ?_
      refine z_icmp_lt (tgt := 42) C dX1_maySend_37 (by decide) (fun c26 => ?_) (fun c26 => ?_)
      · have hw := hw.1 c26
        refine z_aload_n C 1 (by rfl) dX1_maySend_42 ?_
        refine z_get C (Cn := RX1) (T := TX1) (N := 14) (ci := 1) h0.2 4 (tE1 h0.1) in_X1_maySend_X1 rfl (by decide) mw_X1_maySend_0 rfl rfl dX1_maySend_43 ?_
        refine z_aload_n C 1 (by rfl) dX1_maySend_46 ?_
        refine z_get C (Cn := RX1) (T := TX1) (N := 14) (ci := 1) h0.2 1 (tE1 h0.1) in_X1_maySend_X1 rfl (by decide) mw_X1_maySend_4 rfl rfl dX1_maySend_47 ?_
        refine z_icmp_lt (tgt := 57) C dX1_maySend_50 (by decide) (fun c27 => ?_) (fun c27 => ?_)
        · have hw := hw.1 c27
          refine z_iconst C 0 (by decide) dX1_maySend_57 ?_
          refine z_istore_n C [(2, .int 0), (1, .int x21), (0, .ref (w.1 i0))] dX1_maySend_58 (by decide) rfl ?_
          refine z_iload_n C 0 (by rfl) dX1_maySend_59 ?_
          refine z_if_ne (tgt := 75) C dX1_maySend_60 (by decide) (fun c28 => ?_) (fun c28 => ?_)
          · exact absurd (by decide) c28
          · have hw := hw
            refine z_iload_n C 1 (by rfl) dX1_maySend_63 ?_
            refine z_aload_n C 2 (by rfl) dX1_maySend_64 ?_
            refine z_get C (Cn := RX1) (T := TX1) (N := 14) (ci := 1) h0.2 7 (tE1 h0.1) in_X1_maySend_X1 rfl (by decide) mw_X1_maySend_5 rfl rfl dX1_maySend_65 ?_
            refine z_icmp_lt (tgt := 75) C dX1_maySend_68 (by decide) (fun c29 => ?_) (fun c29 => ?_)
            · have hw := hw.1 c29
              refine z_iconst C 1 (by decide) dX1_maySend_75 ?_
              refine z_goto (tgt := 80) C dX1_maySend_76 (by decide) ?_
              exact hR _ _ _ _ dX1_maySend_80 rfl hw
            · have hw := hw.2 c29
              refine z_iload_n C 1 (by rfl) dX1_maySend_71 ?_
              refine z_if_ne (tgt := 79) C dX1_maySend_72 (by decide) (fun c30 => ?_) (fun c30 => ?_)
              · have hw := hw.1 c30
                refine z_iconst C 0 (by decide) dX1_maySend_79 ?_
                exact hR _ _ _ _ dX1_maySend_80 rfl hw
              · have hw := hw.2 c30
                refine z_iconst C 1 (by decide) dX1_maySend_75 ?_
                refine z_goto (tgt := 80) C dX1_maySend_76 (by decide) ?_
                exact hR _ _ _ _ dX1_maySend_80 rfl hw
        · have hw := hw.2 c27
          refine z_iconst C 1 (by decide) dX1_maySend_53 ?_
          refine z_goto (tgt := 58) C dX1_maySend_54 (by decide) ?_
          refine z_istore_n C [(2, .int 1), (1, .int x21), (0, .ref (w.1 i0))] dX1_maySend_58 (by decide) rfl ?_
          refine z_iload_n C 0 (by rfl) dX1_maySend_59 ?_
          refine z_if_ne (tgt := 75) C dX1_maySend_60 (by decide) (fun c31 => ?_) (fun c31 => ?_)
          · have hw := hw
            refine z_iconst C 1 (by decide) dX1_maySend_75 ?_
            refine z_goto (tgt := 80) C dX1_maySend_76 (by decide) ?_
            exact hR _ _ _ _ dX1_maySend_80 rfl hw
          · exact absurd c31 (by decide)
      · have hw := hw.2 c26
        refine z_iconst C 0 (by decide) dX1_maySend_40 ?_
        exact hR _ _ _ _ dX1_maySend_41 rfl hw
def wp_X1_sent (τ : TS) (i0 : Nat) (x1 : Int32) (K : TS → Prop) : Prop :=
  wp_X5_sent τ (i0 + 1) (τ i0 4) x1 (fun τ21 => ∀ τ22 : TS, τ22 = tp_up τ21 i0 4 ((τ21 i0 4) + 1) → ((¬ (τ22 i0 10) = (-1)) → (K τ22)) ∧ (((τ22 i0 10) = (-1)) → (∀ τ24 : TS, τ24 = tp_up τ22 i0 10 (x1 + (τ22 (i0 + 1) 2)) → K τ24)))
theorem mw_X1_sent_0 : Cond.fieldLink RX1 12 "TidePost$Caller" "timing" "LTidePost$Timing;" ∈ wsX1_sent := List.mem_of_getElem? (i := 1) rfl
theorem mw_X1_sent_1 : Cond.fieldLink RX1 50 "TidePost$Caller" "next" "I" ∈ wsX1_sent := List.mem_of_getElem? (i := 2) rfl
theorem mw_X1_sent_2 : Cond.fieldLink RX1 40 "TidePost$Caller" "timer" "I" ∈ wsX1_sent := List.mem_of_getElem? (i := 3) rfl
theorem mw_X1_sent_3 : Cond.fieldLink RX1 37 "TidePost$Timing" "timeout" "I" ∈ wsX1_sent := List.mem_of_getElem? (i := 4) rfl
theorem in_X1_sent_X1 : ∀ x ∈ wsX10, x ∈ wsX1_sent := fun _ h => List.mem_cons_of_mem _ (List.mem_append_left _ (List.mem_append_right _ h))
theorem in_X1_sent_X5 : ∀ x ∈ wsX50, x ∈ wsX1_sent := fun _ h => List.mem_cons_of_mem _ (List.mem_append_right _ h)
set_option maxHeartbeats 4000000 in
set_option maxRecDepth 100000 in
theorem c_X1_sent (w : WPar) (τ : TS) (i0 : Nat) (x1 : Int32) (K : TS → Prop) (h0 : tp_is i0 1) (hw : wp_X1_sent τ i0 x1 K) : MV w yX1_sent wsX1_sent 1 22 [.ref (w.1 i0), .int x1] τ K := by
  refine tp_enterV (cc := cX1_sent) (maxL := 2) (own := RX1) (by decide) rfl rfl (Nat.le_of_ble_eq_true rfl) (fun g C hR => ?_)
  show Zt w g τ (0, 0) 0 [(0, .ref (w.1 i0)), (1, .int x1)] []
  unfold wp_X1_sent at hw
  refine z_aload_n C 0 (by rfl) dX1_sent_0 ?_
  refine z_get C (Cn := RX1) (T := TX1) (N := 14) (ci := 1) h0.2 13 (tE1 h0.1) in_X1_sent_X1 rfl (by decide) mw_X1_sent_0 rfl rfl dX1_sent_1 ?_
  refine z_aload_n C 0 (by rfl) dX1_sent_4 ?_
  refine z_get C (Cn := RX1) (T := TX1) (N := 14) (ci := 1) h0.2 4 (tE1 h0.1) in_X1_sent_X1 rfl (by decide) mw_X1_sent_1 rfl rfl dX1_sent_5 ?_
  refine z_iload_n C 1 (by rfl) dX1_sent_8 ?_
  refine zv_v C (As := [.int (τ i0 4), .int x1]) (bytes := cX5_sent) (maxL := 3) (F1 := 0) (L1 := 0) (c_X5_sent w _ (i0 + 1) (τ i0 4) x1 _ (tR1_13 h0) hw) (tR1_13 h0).2 (tE4 (tR1_13 h0).1) rfl 2 gX1_sent_X5_sent rfl (by decide +kernel) ⟨Nat.le_of_ble_eq_true rfl, Nat.le_of_ble_eq_true rfl⟩ rfl (Nat.le_of_ble_eq_true rfl) ⟨Nat.zero_le _, Nat.zero_le _⟩ rfl dX1_sent_9 (fun τ21 hw => ?_)
  refine z_aload_n C 0 (by rfl) dX1_sent_12 ?_
  refine z_dup C rfl dX1_sent_13 ?_
  refine z_get C (Cn := RX1) (T := TX1) (N := 14) (ci := 1) h0.2 4 (tE1 h0.1) in_X1_sent_X1 rfl (by decide) mw_X1_sent_1 rfl rfl dX1_sent_14 ?_
  refine z_iconst C 1 (by decide) dX1_sent_17 ?_
  refine z_iadd C dX1_sent_18 ?_
  refine z_put C (Cn := RX1) (T := TX1) (N := 14) (ci := 1) h0.2 4 (tE1 h0.1) (tS1_4 h0.1 _) in_X1_sent_X1 tyX1 tyX1_ok nmX1 rfl (by decide) mw_X1_sent_1 rfl rfl (tyX1_ok 4 (by decide)) rfl rfl (Nat.le_of_ble_eq_true rfl) dX1_sent_19 (fun τ22 eτ22 => ?_)
  have hw := hw τ22 eτ22
  refine z_aload_n C 0 (by rfl) dX1_sent_22 ?_
  refine z_get C (Cn := RX1) (T := TX1) (N := 14) (ci := 1) h0.2 10 (tE1 h0.1) in_X1_sent_X1 rfl (by decide) mw_X1_sent_2 rfl rfl dX1_sent_23 ?_
  refine z_iconst C (-1) (by decide) dX1_sent_26 ?_
  refine z_icmp_ne (tgt := 43) C dX1_sent_27 (by decide) (fun c23 => ?_) (fun c23 => ?_)
  · have hw := hw.1 c23
    exact hR _ _ _ dX1_sent_43 hw
  · have hw := hw.2 c23
    refine z_aload_n C 0 (by rfl) dX1_sent_30 ?_
    refine z_iload_n C 1 (by rfl) dX1_sent_31 ?_
    refine z_aload_n C 0 (by rfl) dX1_sent_32 ?_
    refine z_get C (Cn := RX1) (T := TX1) (N := 14) (ci := 1) h0.2 13 (tE1 h0.1) in_X1_sent_X1 rfl (by decide) mw_X1_sent_0 rfl rfl dX1_sent_33 ?_
    refine z_get C (Cn := RX5) (T := TX5) (N := 5) (ci := 4) (tR1_13 h0).2 2 (tE4 (tR1_13 h0).1) in_X1_sent_X5 rfl (by decide) mw_X1_sent_3 rfl rfl dX1_sent_36 ?_
    refine z_iadd C dX1_sent_39 ?_
    refine z_put C (Cn := RX1) (T := TX1) (N := 14) (ci := 1) h0.2 10 (tE1 h0.1) (tS1_10 h0.1 _) in_X1_sent_X1 tyX1 tyX1_ok nmX1 rfl (by decide) mw_X1_sent_2 rfl rfl (tyX1_ok 10 (by decide)) rfl rfl (Nat.le_of_ble_eq_true rfl) dX1_sent_40 (fun τ24 eτ24 => ?_)
    have hw := hw τ24 eτ24
    exact hR _ _ _ dX1_sent_43 hw
def wp_X1_growWindow (τ : TS) (i0 : Nat) (K : TS → Prop) : Prop :=
  (((τ i0 5) < (τ i0 6)) → (∀ x22 : Int32, x22 = (if ((τ i0 5) + 8) < 256 then ((τ i0 5) + 8) else 256) → ∀ τ23 : TS, τ23 = tp_up τ i0 5 x22 → K τ23)) ∧ ((¬ (τ i0 5) < (τ i0 6)) → ((((τ i0 5) ≤ 0) → (∀ x25 : Int32, x25 = (if ((τ i0 5) + 8) < 256 then ((τ i0 5) + 8) else 256) → ∀ τ26 : TS, τ26 = tp_up τ i0 5 x25 → K τ26)) ∧ ((¬ (τ i0 5) ≤ 0) → (¬ (τ i0 5) = 0 ∧ (∀ x28 : Int32, x28 = (if 1 < (64 / (τ i0 5)) then (64 / (τ i0 5)) else 1) → ∀ x29 : Int32, x29 = (if ((τ i0 5) + x28) < 256 then ((τ i0 5) + x28) else 256) → ∀ τ30 : TS, τ30 = tp_up τ i0 5 x29 → K τ30)))))
theorem mw_X1_growWindow_0 : Cond.fieldLink RX1 22 "TidePost$Caller" "window" "I" ∈ wsX1_growWindow := List.mem_of_getElem? (i := 1) rfl
theorem mw_X1_growWindow_1 : Cond.fieldLink RX1 25 "TidePost$Caller" "threshold" "I" ∈ wsX1_growWindow := List.mem_of_getElem? (i := 2) rfl
theorem mw_X1_growWindow_6 : Cond.methodLink RX1 90 Lib.Math.min.name ∈ wsX1_growWindow := List.mem_of_getElem? (i := 7) rfl
theorem mw_X1_growWindow_7 : Cond.static Lib.Math.min.name ∈ wsX1_growWindow := List.mem_of_getElem? (i := 8) rfl
theorem mw_X1_growWindow_4 : Cond.initialized "java/lang/Math" ∈ wsX1_growWindow := List.mem_of_getElem? (i := 5) rfl
theorem mw_X1_growWindow_8 : Cond.code Lib.Math.min.name Lib.Math.min.code 2 (some .int) ∈ wsX1_growWindow := List.mem_of_getElem? (i := 9) rfl
theorem mw_X1_growWindow_2 : Cond.methodLink RX1 84 Lib.Math.max.name ∈ wsX1_growWindow := List.mem_of_getElem? (i := 3) rfl
theorem mw_X1_growWindow_3 : Cond.static Lib.Math.max.name ∈ wsX1_growWindow := List.mem_of_getElem? (i := 4) rfl
theorem mw_X1_growWindow_5 : Cond.code Lib.Math.max.name Lib.Math.max.code 2 (some .int) ∈ wsX1_growWindow := List.mem_of_getElem? (i := 6) rfl
theorem in_X1_growWindow_X1 : ∀ x ∈ wsX10, x ∈ wsX1_growWindow := fun _ h => List.mem_cons_of_mem _ (List.mem_append_right _ h)
set_option maxHeartbeats 4000000 in
set_option maxRecDepth 100000 in
theorem c_X1_growWindow (w : WPar) (τ : TS) (i0 : Nat) (K : TS → Prop) (h0 : tp_is i0 1) (hw : wp_X1_growWindow τ i0 K) : MV w yX1_growWindow wsX1_growWindow 1 14 [.ref (w.1 i0)] τ K := by
  refine tp_enterV (cc := cX1_growWindow) (maxL := 2) (own := RX1) (by decide) rfl rfl (Nat.le_of_ble_eq_true rfl) (fun g C hR => ?_)
  show Zt w g τ (0, 0) 0 [(0, .ref (w.1 i0))] []
  unfold wp_X1_growWindow at hw
  refine z_bipush C 8 (by decide) dX1_growWindow_0 ?_
  refine z_istore_n C [(1, .int 8), (0, .ref (w.1 i0))] dX1_growWindow_2 (by decide) rfl ?_
  refine z_aload_n C 1 (by rfl) dX1_growWindow_3 ?_
  refine z_get C (Cn := RX1) (T := TX1) (N := 14) (ci := 1) h0.2 5 (tE1 h0.1) in_X1_growWindow_X1 rfl (by decide) mw_X1_growWindow_0 rfl rfl dX1_growWindow_4 ?_
  refine z_aload_n C 1 (by rfl) dX1_growWindow_7 ?_
  refine z_get C (Cn := RX1) (T := TX1) (N := 14) (ci := 1) h0.2 6 (tE1 h0.1) in_X1_growWindow_X1 rfl (by decide) mw_X1_growWindow_1 rfl rfl dX1_growWindow_8 ?_
  refine z_icmp_lt (tgt := 33) C dX1_growWindow_11 (by decide) (fun c21 => ?_) (fun c21 => ?_)
  · have hw := hw.1 c21
    refine z_aload_n C 1 (by rfl) dX1_growWindow_33 ?_
    refine z_sipush C 256 (by decide) dX1_growWindow_34 ?_
    refine z_aload_n C 1 (by rfl) dX1_growWindow_37 ?_
    refine z_get C (Cn := RX1) (T := TX1) (N := 14) (ci := 1) h0.2 5 (tE1 h0.1) in_X1_growWindow_X1 rfl (by decide) mw_X1_growWindow_0 rfl rfl dX1_growWindow_38 ?_
    refine z_iload_n C 0 (by rfl) dX1_growWindow_41 ?_
    refine z_iadd C dX1_growWindow_42 ?_
    refine z_min C mw_X1_growWindow_6 mw_X1_growWindow_7 mw_X1_growWindow_4 mw_X1_growWindow_8 (Nat.le_of_ble_eq_true rfl) (Nat.le_of_ble_eq_true rfl) (Nat.zero_le _) (Nat.zero_le _) dX1_growWindow_43 ?_
    refine z_top (fun x22 ex22 => ?_)
    have hw := hw x22 ex22
    refine z_put C (Cn := RX1) (T := TX1) (N := 14) (ci := 1) h0.2 5 (tE1 h0.1) (tS1_5 h0.1 _) in_X1_growWindow_X1 tyX1 tyX1_ok nmX1 rfl (by decide) mw_X1_growWindow_0 rfl rfl (tyX1_ok 5 (by decide)) rfl rfl (Nat.le_of_ble_eq_true rfl) dX1_growWindow_46 (fun τ23 eτ23 => ?_)
    have hw := hw τ23 eτ23
    exact hR _ _ _ dX1_growWindow_49 hw
  · have hw := hw.2 c21
    refine z_aload_n C 1 (by rfl) dX1_growWindow_14 ?_
    refine z_get C (Cn := RX1) (T := TX1) (N := 14) (ci := 1) h0.2 5 (tE1 h0.1) in_X1_growWindow_X1 rfl (by decide) mw_X1_growWindow_0 rfl rfl dX1_growWindow_15 ?_
    refine z_if_le (tgt := 33) C dX1_growWindow_18 (by decide) (fun c24 => ?_) (fun c24 => ?_)
    · have hw := hw.1 c24
      refine z_aload_n C 1 (by rfl) dX1_growWindow_33 ?_
      refine z_sipush C 256 (by decide) dX1_growWindow_34 ?_
      refine z_aload_n C 1 (by rfl) dX1_growWindow_37 ?_
      refine z_get C (Cn := RX1) (T := TX1) (N := 14) (ci := 1) h0.2 5 (tE1 h0.1) in_X1_growWindow_X1 rfl (by decide) mw_X1_growWindow_0 rfl rfl dX1_growWindow_38 ?_
      refine z_iload_n C 0 (by rfl) dX1_growWindow_41 ?_
      refine z_iadd C dX1_growWindow_42 ?_
      refine z_min C mw_X1_growWindow_6 mw_X1_growWindow_7 mw_X1_growWindow_4 mw_X1_growWindow_8 (Nat.le_of_ble_eq_true rfl) (Nat.le_of_ble_eq_true rfl) (Nat.zero_le _) (Nat.zero_le _) dX1_growWindow_43 ?_
      refine z_top (fun x25 ex25 => ?_)
      have hw := hw x25 ex25
      refine z_put C (Cn := RX1) (T := TX1) (N := 14) (ci := 1) h0.2 5 (tE1 h0.1) (tS1_5 h0.1 _) in_X1_growWindow_X1 tyX1 tyX1_ok nmX1 rfl (by decide) mw_X1_growWindow_0 rfl rfl (tyX1_ok 5 (by decide)) rfl rfl (Nat.le_of_ble_eq_true rfl) dX1_growWindow_46 (fun τ26 eτ26 => ?_)
      have hw := hw τ26 eτ26
      exact hR _ _ _ dX1_growWindow_49 hw
    · have hw := hw.2 c24
      refine z_iconst C 1 (by decide) dX1_growWindow_21 ?_
      refine z_bipush C 64 (by decide) dX1_growWindow_22 ?_
      refine z_aload_n C 1 (by rfl) dX1_growWindow_24 ?_
      refine z_get C (Cn := RX1) (T := TX1) (N := 14) (ci := 1) h0.2 5 (tE1 h0.1) in_X1_growWindow_X1 rfl (by decide) mw_X1_growWindow_0 rfl rfl dX1_growWindow_25 ?_
      obtain ⟨s27, hw⟩ := hw
      refine z_idiv C s27 dX1_growWindow_28 ?_
      refine z_max C mw_X1_growWindow_2 mw_X1_growWindow_3 mw_X1_growWindow_4 mw_X1_growWindow_5 (Nat.le_of_ble_eq_true rfl) (Nat.le_of_ble_eq_true rfl) (Nat.zero_le _) (Nat.zero_le _) dX1_growWindow_29 ?_
      refine z_top (fun x28 ex28 => ?_)
      have hw := hw x28 ex28
      refine z_istore_n C [(1, .int x28), (0, .ref (w.1 i0))] dX1_growWindow_32 (by decide) rfl ?_
      refine z_aload_n C 1 (by rfl) dX1_growWindow_33 ?_
      refine z_sipush C 256 (by decide) dX1_growWindow_34 ?_
      refine z_aload_n C 1 (by rfl) dX1_growWindow_37 ?_
      refine z_get C (Cn := RX1) (T := TX1) (N := 14) (ci := 1) h0.2 5 (tE1 h0.1) in_X1_growWindow_X1 rfl (by decide) mw_X1_growWindow_0 rfl rfl dX1_growWindow_38 ?_
      refine z_iload_n C 0 (by rfl) dX1_growWindow_41 ?_
      refine z_iadd C dX1_growWindow_42 ?_
      refine z_min C mw_X1_growWindow_6 mw_X1_growWindow_7 mw_X1_growWindow_4 mw_X1_growWindow_8 (Nat.le_of_ble_eq_true rfl) (Nat.le_of_ble_eq_true rfl) (Nat.zero_le _) (Nat.zero_le _) dX1_growWindow_43 ?_
      refine z_top (fun x29 ex29 => ?_)
      have hw := hw x29 ex29
      refine z_put C (Cn := RX1) (T := TX1) (N := 14) (ci := 1) h0.2 5 (tE1 h0.1) (tS1_5 h0.1 _) in_X1_growWindow_X1 tyX1 tyX1_ok nmX1 rfl (by decide) mw_X1_growWindow_0 rfl rfl (tyX1_ok 5 (by decide)) rfl rfl (Nat.le_of_ble_eq_true rfl) dX1_growWindow_46 (fun τ30 eτ30 => ?_)
      have hw := hw τ30 eτ30
      exact hR _ _ _ dX1_growWindow_49 hw
def wp_X1_advance (τ : TS) (i0 : Nat) (x1 : Int32) (x2 : Int32) (x3 : Int32) (K : TS → Int32 → Prop) : Prop :=
  wp_X5_answered τ (i0 + 1) x1 x3 (fun τ21 => ∀ τ22 : TS, τ22 = tp_up τ21 i0 3 x1 → ∀ τ23 : TS, τ23 = tp_up τ22 i0 7 x2 → ∀ τ24 : TS, τ24 = tp_up τ23 i0 8 0 → ∃ J25 : Int32 → Prop, (∀ (x26 : Int32), J25 x26 → (∃ J27 : TS → Prop, (∀ (τ28 : TS), J27 τ28 → (((¬ (τ28 i0 3) = (τ28 i0 4)) → (∀ τ30 : TS, τ30 = tp_up τ28 i0 10 (x3 + (τ28 (i0 + 1) 2)) → (((τ30 i0 3) ≤ (τ30 i0 1)) → (tp_z x26 ∧ K τ30 x26)) ∧ ((¬ (τ30 i0 3) ≤ (τ30 i0 1)) → (∀ τ32 : TS, τ32 = tp_up τ30 i0 0 2 → tp_z x26 ∧ K τ32 x26)))) ∧ (((τ28 i0 3) = (τ28 i0 4)) → (∀ τ33 : TS, τ33 = tp_up τ28 i0 10 (-1) → (((τ33 i0 3) ≤ (τ33 i0 1)) → (tp_z x26 ∧ K τ33 x26)) ∧ ((¬ (τ33 i0 3) ≤ (τ33 i0 1)) → (∀ τ35 : TS, τ35 = tp_up τ33 i0 0 2 → tp_z x26 ∧ K τ35 x26)))))) ∧ (((¬ x26 = 0) → (J27 τ24)) ∧ ((x26 = 0) → (∀ τ37 : TS, τ37 = tp_up τ24 i0 9 (-1) → wp_X1_growWindow τ37 i0 (fun τ38 => J27 τ38)))))) ∧ ((((τ24 i0 9) < x1) → (J25 0)) ∧ ((¬ (τ24 i0 9) < x1) → (J25 1))))
theorem mw_X1_advance_0 : Cond.fieldLink RX1 12 "TidePost$Caller" "timing" "LTidePost$Timing;" ∈ wsX1_advance := List.mem_of_getElem? (i := 1) rfl
theorem mw_X1_advance_1 : Cond.fieldLink RX1 53 "TidePost$Caller" "base" "I" ∈ wsX1_advance := List.mem_of_getElem? (i := 2) rfl
theorem mw_X1_advance_2 : Cond.fieldLink RX1 28 "TidePost$Caller" "room" "I" ∈ wsX1_advance := List.mem_of_getElem? (i := 3) rfl
theorem mw_X1_advance_3 : Cond.fieldLink RX1 78 "TidePost$Caller" "like" "I" ∈ wsX1_advance := List.mem_of_getElem? (i := 4) rfl
theorem mw_X1_advance_4 : Cond.fieldLink RX1 31 "TidePost$Caller" "recover" "I" ∈ wsX1_advance := List.mem_of_getElem? (i := 5) rfl
theorem mw_X1_advance_5 : Cond.fieldLink RX1 50 "TidePost$Caller" "next" "I" ∈ wsX1_advance := List.mem_of_getElem? (i := 6) rfl
theorem mw_X1_advance_6 : Cond.fieldLink RX1 37 "TidePost$Timing" "timeout" "I" ∈ wsX1_advance := List.mem_of_getElem? (i := 7) rfl
theorem mw_X1_advance_7 : Cond.fieldLink RX1 40 "TidePost$Caller" "timer" "I" ∈ wsX1_advance := List.mem_of_getElem? (i := 8) rfl
theorem mw_X1_advance_8 : Cond.fieldLink RX1 47 "TidePost$Caller" "given" "I" ∈ wsX1_advance := List.mem_of_getElem? (i := 9) rfl
theorem mw_X1_advance_9 : Cond.fieldLink RX1 18 "TidePost$Caller" "state" "I" ∈ wsX1_advance := List.mem_of_getElem? (i := 10) rfl
theorem in_X1_advance_X1 : ∀ x ∈ wsX10, x ∈ wsX1_advance := fun _ h => List.mem_cons_of_mem _ (List.mem_append_left _ (List.mem_append_right _ h))
theorem in_X1_advance_X5 : ∀ x ∈ wsX50, x ∈ wsX1_advance := fun _ h => List.mem_cons_of_mem _ (List.mem_append_right _ h)
set_option maxHeartbeats 4000000 in
set_option maxRecDepth 100000 in
theorem c_X1_advance (w : WPar) (τ : TS) (i0 : Nat) (x1 : Int32) (x2 : Int32) (x3 : Int32) (K : TS → Int32 → Prop) (h0 : tp_is i0 1) (hw : wp_X1_advance τ i0 x1 x2 x3 K) : MI w yX1_advance wsX1_advance 2 39 [.ref (w.1 i0), .int x1, .int x2, .int x3] τ K := by
  refine tp_enterZ (cc := cX1_advance) (maxL := 5) (own := RX1) (by decide) rfl rfl (Nat.le_of_ble_eq_true rfl) (fun g C hR => ?_)
  show Zt w g τ (0, 0) 0 [(0, .ref (w.1 i0)), (1, .int x1), (2, .int x2), (3, .int x3)] []
  unfold wp_X1_advance at hw
  refine z_aload_n C 0 (by rfl) dX1_advance_0 ?_
  refine z_get C (Cn := RX1) (T := TX1) (N := 14) (ci := 1) h0.2 13 (tE1 h0.1) in_X1_advance_X1 rfl (by decide) mw_X1_advance_0 rfl rfl dX1_advance_1 ?_
  refine z_iload_n C 1 (by rfl) dX1_advance_4 ?_
  refine z_iload_n C 3 (by rfl) dX1_advance_5 ?_
  refine zv_v C (As := [.int x1, .int x3]) (bytes := cX5_answered) (maxL := 5) (F1 := 1) (L1 := 15) (c_X5_answered w _ (i0 + 1) x1 x3 _ (tR1_13 h0) hw) (tR1_13 h0).2 (tE4 (tR1_13 h0).1) rfl 2 gX1_advance_X5_answered rfl (by decide +kernel) ⟨Nat.le_of_ble_eq_true rfl, Nat.le_of_ble_eq_true rfl⟩ rfl (Nat.le_of_ble_eq_true rfl) ⟨Nat.zero_le _, Nat.zero_le _⟩ rfl dX1_advance_6 (fun τ21 hw => ?_)
  refine z_aload_n C 0 (by rfl) dX1_advance_9 ?_
  refine z_iload_n C 1 (by rfl) dX1_advance_10 ?_
  refine z_put C (Cn := RX1) (T := TX1) (N := 14) (ci := 1) h0.2 3 (tE1 h0.1) (tS1_3 h0.1 _) in_X1_advance_X1 tyX1 tyX1_ok nmX1 rfl (by decide) mw_X1_advance_1 rfl rfl (tyX1_ok 3 (by decide)) rfl rfl (Nat.le_of_ble_eq_true rfl) dX1_advance_11 (fun τ22 eτ22 => ?_)
  have hw := hw τ22 eτ22
  refine z_aload_n C 0 (by rfl) dX1_advance_14 ?_
  refine z_iload_n C 2 (by rfl) dX1_advance_15 ?_
  refine z_put C (Cn := RX1) (T := TX1) (N := 14) (ci := 1) h0.2 7 (tE1 h0.1) (tS1_7 h0.1 _) in_X1_advance_X1 tyX1 tyX1_ok nmX1 rfl (by decide) mw_X1_advance_2 rfl rfl (tyX1_ok 7 (by decide)) rfl rfl (Nat.le_of_ble_eq_true rfl) dX1_advance_16 (fun τ23 eτ23 => ?_)
  have hw := hw τ23 eτ23
  refine z_aload_n C 0 (by rfl) dX1_advance_19 ?_
  refine z_iconst C 0 (by decide) dX1_advance_20 ?_
  refine z_put C (Cn := RX1) (T := TX1) (N := 14) (ci := 1) h0.2 8 (tE1 h0.1) (tS1_8 h0.1 _) in_X1_advance_X1 tyX1 tyX1_ok nmX1 rfl (by decide) mw_X1_advance_3 rfl rfl (tyX1_ok 8 (by decide)) rfl rfl (Nat.le_of_ble_eq_true rfl) dX1_advance_21 (fun τ24 eτ24 => ?_)
  have hw := hw τ24 eτ24
  refine z_iload_n C 1 (by rfl) dX1_advance_24 ?_
  refine z_aload_n C 0 (by rfl) dX1_advance_25 ?_
  refine z_get C (Cn := RX1) (T := TX1) (N := 14) (ci := 1) h0.2 9 (tE1 h0.1) in_X1_advance_X1 rfl (by decide) mw_X1_advance_4 rfl rfl dX1_advance_26 ?_
  obtain ⟨J25, hJ25, hw⟩ := hw
  have jn25 : ∀ (x26 : Int32), J25 x26 → Zt w g τ24 (0, 0) 37 [(0, .ref (w.1 i0)), (3, .int x3)] [.int x26] := by
    intro x26 hj25
    have hw := hJ25 x26 hj25
    refine z_istore C [(4, .int x26), (0, .ref (w.1 i0)), (3, .int x3)] dX1_advance_37 (by decide) rfl ?_
    refine z_iload C 0 (by rfl) dX1_advance_39 ?_
    obtain ⟨J27, hJ27, hw⟩ := hw
    have jn27 : ∀ (τ28 : TS), J27 τ28 → Zt w g τ28 (0, 0) 53 [(0, .ref (w.1 i0)), (3, .int x3), (4, .int x26)] [] := by
      intro τ28 hj27
      have hw := hJ27 τ28 hj27
      refine z_aload_n C 0 (by rfl) dX1_advance_53 ?_
      refine z_aload_n C 0 (by rfl) dX1_advance_54 ?_
      refine z_get C (Cn := RX1) (T := TX1) (N := 14) (ci := 1) h0.2 3 (tE1 h0.1) in_X1_advance_X1 rfl (by decide) mw_X1_advance_1 rfl rfl dX1_advance_55 ?_
      refine z_aload_n C 0 (by rfl) dX1_advance_58 ?_
      refine z_get C (Cn := RX1) (T := TX1) (N := 14) (ci := 1) h0.2 4 (tE1 h0.1) in_X1_advance_X1 rfl (by decide) mw_X1_advance_5 rfl rfl dX1_advance_59 ?_
      refine z_icmp_ne (tgt := 69) C dX1_advance_62 (by decide) (fun c29 => ?_) (fun c29 => ?_)
      · have hw := hw.1 c29
        refine z_iload_n C 1 (by rfl) dX1_advance_69 ?_
        refine z_aload_n C 0 (by rfl) dX1_advance_70 ?_
        refine z_get C (Cn := RX1) (T := TX1) (N := 14) (ci := 1) h0.2 13 (tE1 h0.1) in_X1_advance_X1 rfl (by decide) mw_X1_advance_0 rfl rfl dX1_advance_71 ?_
        refine z_get C (Cn := RX5) (T := TX5) (N := 5) (ci := 4) (tR1_13 h0).2 2 (tE4 (tR1_13 h0).1) in_X1_advance_X5 rfl (by decide) mw_X1_advance_6 rfl rfl dX1_advance_74 ?_
        refine z_iadd C dX1_advance_77 ?_
        refine z_put C (Cn := RX1) (T := TX1) (N := 14) (ci := 1) h0.2 10 (tE1 h0.1) (tS1_10 h0.1 _) in_X1_advance_X1 tyX1 tyX1_ok nmX1 rfl (by decide) mw_X1_advance_7 rfl rfl (tyX1_ok 10 (by decide)) rfl rfl (Nat.le_of_ble_eq_true rfl) dX1_advance_78 (fun τ30 eτ30 => ?_)
        have hw := hw τ30 eτ30
        refine z_aload_n C 0 (by rfl) dX1_advance_81 ?_
        refine z_get C (Cn := RX1) (T := TX1) (N := 14) (ci := 1) h0.2 3 (tE1 h0.1) in_X1_advance_X1 rfl (by decide) mw_X1_advance_1 rfl rfl dX1_advance_82 ?_
        refine z_aload_n C 0 (by rfl) dX1_advance_85 ?_
        refine z_get C (Cn := RX1) (T := TX1) (N := 14) (ci := 1) h0.2 1 (tE1 h0.1) in_X1_advance_X1 rfl (by decide) mw_X1_advance_8 rfl rfl dX1_advance_86 ?_
        refine z_icmp_le (tgt := 97) C dX1_advance_89 (by decide) (fun c31 => ?_) (fun c31 => ?_)
        · have hw := hw.1 c31
          refine z_iload C 2 (by rfl) dX1_advance_97 ?_
          exact hR _ _ _ _ dX1_advance_99 hw.1.1 hw.2
        · have hw := hw.2 c31
          refine z_aload_n C 0 (by rfl) dX1_advance_92 ?_
          refine z_iconst C 2 (by decide) dX1_advance_93 ?_
          refine z_put C (Cn := RX1) (T := TX1) (N := 14) (ci := 1) h0.2 0 (tE1 h0.1) (tS1_0 h0.1 _) in_X1_advance_X1 tyX1 tyX1_ok nmX1 rfl (by decide) mw_X1_advance_9 rfl rfl (tyX1_ok 0 (by decide)) rfl rfl (Nat.le_of_ble_eq_true rfl) dX1_advance_94 (fun τ32 eτ32 => ?_)
          have hw := hw τ32 eτ32
          refine z_iload C 2 (by rfl) dX1_advance_97 ?_
          exact hR _ _ _ _ dX1_advance_99 hw.1.1 hw.2
      · have hw := hw.2 c29
        refine z_iconst C (-1) (by decide) dX1_advance_65 ?_
        refine z_goto (tgt := 78) C dX1_advance_66 (by decide) ?_
        refine z_put C (Cn := RX1) (T := TX1) (N := 14) (ci := 1) h0.2 10 (tE1 h0.1) (tS1_10 h0.1 _) in_X1_advance_X1 tyX1 tyX1_ok nmX1 rfl (by decide) mw_X1_advance_7 rfl rfl (tyX1_ok 10 (by decide)) rfl rfl (Nat.le_of_ble_eq_true rfl) dX1_advance_78 (fun τ33 eτ33 => ?_)
        have hw := hw τ33 eτ33
        refine z_aload_n C 0 (by rfl) dX1_advance_81 ?_
        refine z_get C (Cn := RX1) (T := TX1) (N := 14) (ci := 1) h0.2 3 (tE1 h0.1) in_X1_advance_X1 rfl (by decide) mw_X1_advance_1 rfl rfl dX1_advance_82 ?_
        refine z_aload_n C 0 (by rfl) dX1_advance_85 ?_
        refine z_get C (Cn := RX1) (T := TX1) (N := 14) (ci := 1) h0.2 1 (tE1 h0.1) in_X1_advance_X1 rfl (by decide) mw_X1_advance_8 rfl rfl dX1_advance_86 ?_
        refine z_icmp_le (tgt := 97) C dX1_advance_89 (by decide) (fun c34 => ?_) (fun c34 => ?_)
        · have hw := hw.1 c34
          refine z_iload C 2 (by rfl) dX1_advance_97 ?_
          exact hR _ _ _ _ dX1_advance_99 hw.1.1 hw.2
        · have hw := hw.2 c34
          refine z_aload_n C 0 (by rfl) dX1_advance_92 ?_
          refine z_iconst C 2 (by decide) dX1_advance_93 ?_
          refine z_put C (Cn := RX1) (T := TX1) (N := 14) (ci := 1) h0.2 0 (tE1 h0.1) (tS1_0 h0.1 _) in_X1_advance_X1 tyX1 tyX1_ok nmX1 rfl (by decide) mw_X1_advance_9 rfl rfl (tyX1_ok 0 (by decide)) rfl rfl (Nat.le_of_ble_eq_true rfl) dX1_advance_94 (fun τ35 eτ35 => ?_)
          have hw := hw τ35 eτ35
          refine z_iload C 2 (by rfl) dX1_advance_97 ?_
          exact hR _ _ _ _ dX1_advance_99 hw.1.1 hw.2
    refine z_if_ne (tgt := 53) C dX1_advance_41 (by decide) (fun c36 => ?_) (fun c36 => ?_)
    · have hw := hw.1 c36
      refine z_sub [1, 2, 0] [(0, .ref (w.1 i0)), (3, .int x3), (4, .int x26)] rfl ?_
      exact jn27 τ24 hw
    · have hw := hw.2 c36
      refine z_aload_n C 1 (by rfl) dX1_advance_44 ?_
      refine z_iconst C (-1) (by decide) dX1_advance_45 ?_
      refine z_put C (Cn := RX1) (T := TX1) (N := 14) (ci := 1) h0.2 9 (tE1 h0.1) (tS1_9 h0.1 _) in_X1_advance_X1 tyX1 tyX1_ok nmX1 rfl (by decide) mw_X1_advance_4 rfl rfl (tyX1_ok 9 (by decide)) rfl rfl (Nat.le_of_ble_eq_true rfl) dX1_advance_46 (fun τ37 eτ37 => ?_)
      have hw := hw τ37 eτ37
      refine z_aload_n C 1 (by rfl) dX1_advance_49 ?_
      refine zv_v C (As := []) (bytes := cX1_growWindow) (maxL := 2) (F1 := 1) (L1 := 14) (c_X1_growWindow w _ i0 _ h0 hw) h0.2 (tE1 h0.1) rfl 0 gX1_advance_X1_growWindow rfl (by decide +kernel) ⟨Nat.le_of_ble_eq_true rfl, Nat.le_of_ble_eq_true rfl⟩ rfl (Nat.le_of_ble_eq_true rfl) ⟨Nat.zero_le _, Nat.zero_le _⟩ rfl dX1_advance_50 (fun τ38 hw => ?_)
      refine z_sub [1, 2, 0] [(0, .ref (w.1 i0)), (3, .int x3), (4, .int x26)] rfl ?_
      exact jn27 τ38 hw
  refine z_icmp_gt (tgt := 36) C dX1_advance_29 (by decide) (fun c39 => ?_) (fun c39 => ?_)
  · have hw := hw.1 c39
    refine z_iconst C 0 (by decide) dX1_advance_36 ?_
    refine z_sub [0, 3] [(0, .ref (w.1 i0)), (3, .int x3)] rfl ?_
    exact jn25 0 hw
  · have hw := hw.2 c39
    refine z_iconst C 1 (by decide) dX1_advance_32 ?_
    refine z_goto (tgt := 37) C dX1_advance_33 (by decide) ?_
    refine z_sub [0, 3] [(0, .ref (w.1 i0)), (3, .int x3)] rfl ?_
    exact jn25 1 hw
def wp_X1_startRecovery (τ : TS) (i0 : Nat) (K : TS → Prop) : Prop :=
  ∀ τ21 : TS, τ21 = tp_up τ i0 9 ((τ i0 4) - 1) → ∀ x22 : Int32, x22 = (if 16 < (((τ21 i0 4) - (τ21 i0 3)) * 4) then (((τ21 i0 4) - (τ21 i0 3)) * 4) else 16) → ∀ τ23 : TS, τ23 = tp_up τ21 i0 6 x22 → K τ23
theorem mw_X1_startRecovery_0 : Cond.fieldLink RX1 50 "TidePost$Caller" "next" "I" ∈ wsX1_startRecovery := List.mem_of_getElem? (i := 1) rfl
theorem mw_X1_startRecovery_1 : Cond.fieldLink RX1 31 "TidePost$Caller" "recover" "I" ∈ wsX1_startRecovery := List.mem_of_getElem? (i := 2) rfl
theorem mw_X1_startRecovery_2 : Cond.fieldLink RX1 53 "TidePost$Caller" "base" "I" ∈ wsX1_startRecovery := List.mem_of_getElem? (i := 3) rfl
theorem mw_X1_startRecovery_3 : Cond.methodLink RX1 84 Lib.Math.max.name ∈ wsX1_startRecovery := List.mem_of_getElem? (i := 4) rfl
theorem mw_X1_startRecovery_4 : Cond.static Lib.Math.max.name ∈ wsX1_startRecovery := List.mem_of_getElem? (i := 5) rfl
theorem mw_X1_startRecovery_5 : Cond.initialized "java/lang/Math" ∈ wsX1_startRecovery := List.mem_of_getElem? (i := 6) rfl
theorem mw_X1_startRecovery_6 : Cond.code Lib.Math.max.name Lib.Math.max.code 2 (some .int) ∈ wsX1_startRecovery := List.mem_of_getElem? (i := 7) rfl
theorem mw_X1_startRecovery_7 : Cond.fieldLink RX1 25 "TidePost$Caller" "threshold" "I" ∈ wsX1_startRecovery := List.mem_of_getElem? (i := 8) rfl
theorem in_X1_startRecovery_X1 : ∀ x ∈ wsX10, x ∈ wsX1_startRecovery := fun _ h => List.mem_cons_of_mem _ (List.mem_append_right _ h)
set_option maxHeartbeats 4000000 in
set_option maxRecDepth 100000 in
theorem c_X1_startRecovery (w : WPar) (τ : TS) (i0 : Nat) (K : TS → Prop) (h0 : tp_is i0 1) (hw : wp_X1_startRecovery τ i0 K) : MV w yX1_startRecovery wsX1_startRecovery 1 14 [.ref (w.1 i0)] τ K := by
  refine tp_enterV (cc := cX1_startRecovery) (maxL := 1) (own := RX1) (by decide) rfl rfl (Nat.le_of_ble_eq_true rfl) (fun g C hR => ?_)
  show Zt w g τ (0, 0) 0 [(0, .ref (w.1 i0))] []
  unfold wp_X1_startRecovery at hw
  refine z_aload_n C 0 (by rfl) dX1_startRecovery_0 ?_
  refine z_aload_n C 0 (by rfl) dX1_startRecovery_1 ?_
  refine z_get C (Cn := RX1) (T := TX1) (N := 14) (ci := 1) h0.2 4 (tE1 h0.1) in_X1_startRecovery_X1 rfl (by decide) mw_X1_startRecovery_0 rfl rfl dX1_startRecovery_2 ?_
  refine z_iconst C 1 (by decide) dX1_startRecovery_5 ?_
  refine z_isub C dX1_startRecovery_6 ?_
  refine z_put C (Cn := RX1) (T := TX1) (N := 14) (ci := 1) h0.2 9 (tE1 h0.1) (tS1_9 h0.1 _) in_X1_startRecovery_X1 tyX1 tyX1_ok nmX1 rfl (by decide) mw_X1_startRecovery_1 rfl rfl (tyX1_ok 9 (by decide)) rfl rfl (Nat.le_of_ble_eq_true rfl) dX1_startRecovery_7 (fun τ21 eτ21 => ?_)
  have hw := hw τ21 eτ21
  refine z_aload_n C 0 (by rfl) dX1_startRecovery_10 ?_
  refine z_bipush C 16 (by decide) dX1_startRecovery_11 ?_
  refine z_aload_n C 0 (by rfl) dX1_startRecovery_13 ?_
  refine z_get C (Cn := RX1) (T := TX1) (N := 14) (ci := 1) h0.2 4 (tE1 h0.1) in_X1_startRecovery_X1 rfl (by decide) mw_X1_startRecovery_0 rfl rfl dX1_startRecovery_14 ?_
  refine z_aload_n C 0 (by rfl) dX1_startRecovery_17 ?_
  refine z_get C (Cn := RX1) (T := TX1) (N := 14) (ci := 1) h0.2 3 (tE1 h0.1) in_X1_startRecovery_X1 rfl (by decide) mw_X1_startRecovery_2 rfl rfl dX1_startRecovery_18 ?_
  refine z_isub C dX1_startRecovery_21 ?_
  refine z_iconst C 4 (by decide) dX1_startRecovery_22 ?_
  refine z_imul C dX1_startRecovery_23 ?_
  refine z_max C mw_X1_startRecovery_3 mw_X1_startRecovery_4 mw_X1_startRecovery_5 mw_X1_startRecovery_6 (Nat.le_of_ble_eq_true rfl) (Nat.le_of_ble_eq_true rfl) (Nat.zero_le _) (Nat.zero_le _) dX1_startRecovery_24 ?_
  refine z_top (fun x22 ex22 => ?_)
  have hw := hw x22 ex22
  refine z_put C (Cn := RX1) (T := TX1) (N := 14) (ci := 1) h0.2 6 (tE1 h0.1) (tS1_6 h0.1 _) in_X1_startRecovery_X1 tyX1 tyX1_ok nmX1 rfl (by decide) mw_X1_startRecovery_7 rfl rfl (tyX1_ok 6 (by decide)) rfl rfl (Nat.le_of_ble_eq_true rfl) dX1_startRecovery_27 (fun τ23 eτ23 => ?_)
  have hw := hw τ23 eτ23
  exact hR _ _ _ dX1_startRecovery_30 hw
def wp_X1_repeated (τ : TS) (i0 : Nat) (x1 : Int32) (K : TS → Int32 → Prop) : Prop :=
  ∃ J21 : Prop, (J21  → (∀ τ22 : TS, τ22 = tp_up τ i0 7 x1 → ∀ τ23 : TS, τ23 = tp_up τ22 i0 8 0 → ((¬ (τ23 i0 8) = 3) → (K τ23 0)) ∧ (((τ23 i0 8) = 3) → ((((τ23 i0 9) = (-1)) → (wp_X1_startRecovery τ23 i0 (fun τ26 => ∀ τ27 : TS, τ27 = tp_up τ26 i0 5 (τ26 i0 6) → K τ27 1))) ∧ ((¬ (τ23 i0 9) = (-1)) → (K τ23 0)))))) ∧ (((¬ x1 = (τ i0 7)) → J21) ∧ ((x1 = (τ i0 7)) → (((x1 ≤ 0) → J21) ∧ ((¬ x1 ≤ 0) → (∀ τ30 : TS, τ30 = tp_up τ i0 8 ((τ i0 8) + 1) → ((¬ (τ30 i0 8) = 3) → (K τ30 0)) ∧ (((τ30 i0 8) = 3) → ((((τ30 i0 9) = (-1)) → (wp_X1_startRecovery τ30 i0 (fun τ33 => ∀ τ34 : TS, τ34 = tp_up τ33 i0 5 (τ33 i0 6) → K τ34 1))) ∧ ((¬ (τ30 i0 9) = (-1)) → (K τ30 0)))))))))
theorem mw_X1_repeated_0 : Cond.fieldLink RX1 28 "TidePost$Caller" "room" "I" ∈ wsX1_repeated := List.mem_of_getElem? (i := 1) rfl
theorem mw_X1_repeated_1 : Cond.fieldLink RX1 78 "TidePost$Caller" "like" "I" ∈ wsX1_repeated := List.mem_of_getElem? (i := 2) rfl
theorem mw_X1_repeated_2 : Cond.fieldLink RX1 31 "TidePost$Caller" "recover" "I" ∈ wsX1_repeated := List.mem_of_getElem? (i := 3) rfl
theorem mw_X1_repeated_3 : Cond.fieldLink RX1 25 "TidePost$Caller" "threshold" "I" ∈ wsX1_repeated := List.mem_of_getElem? (i := 4) rfl
theorem mw_X1_repeated_4 : Cond.fieldLink RX1 22 "TidePost$Caller" "window" "I" ∈ wsX1_repeated := List.mem_of_getElem? (i := 5) rfl
theorem in_X1_repeated_X1 : ∀ x ∈ wsX10, x ∈ wsX1_repeated := fun _ h => List.mem_cons_of_mem _ (List.mem_append_right _ h)
set_option maxHeartbeats 4000000 in
set_option maxRecDepth 100000 in
theorem c_X1_repeated (w : WPar) (τ : TS) (i0 : Nat) (x1 : Int32) (K : TS → Int32 → Prop) (h0 : tp_is i0 1) (hw : wp_X1_repeated τ i0 x1 K) : MI w yX1_repeated wsX1_repeated 2 34 [.ref (w.1 i0), .int x1] τ K := by
  refine tp_enterZ (cc := cX1_repeated) (maxL := 2) (own := RX1) (by decide) rfl rfl (Nat.le_of_ble_eq_true rfl) (fun g C hR => ?_)
  show Zt w g τ (0, 0) 0 [(0, .ref (w.1 i0)), (1, .int x1)] []
  unfold wp_X1_repeated at hw
  refine z_iload_n C 1 (by rfl) dX1_repeated_0 ?_
  refine z_aload_n C 0 (by rfl) dX1_repeated_1 ?_
  refine z_get C (Cn := RX1) (T := TX1) (N := 14) (ci := 1) h0.2 7 (tE1 h0.1) in_X1_repeated_X1 rfl (by decide) mw_X1_repeated_0 rfl rfl dX1_repeated_2 ?_
  obtain ⟨J21, hJ21, hw⟩ := hw
  have jn21 : J21  → Zt w g τ (0, 0) 25 [(0, .ref (w.1 i0)), (1, .int x1)] [] := by
    intro  hj21
    have hw := hJ21  hj21
    refine z_aload_n C 0 (by rfl) dX1_repeated_25 ?_
    refine z_iload_n C 1 (by rfl) dX1_repeated_26 ?_
    refine z_put C (Cn := RX1) (T := TX1) (N := 14) (ci := 1) h0.2 7 (tE1 h0.1) (tS1_7 h0.1 _) in_X1_repeated_X1 tyX1 tyX1_ok nmX1 rfl (by decide) mw_X1_repeated_0 rfl rfl (tyX1_ok 7 (by decide)) rfl rfl (Nat.le_of_ble_eq_true rfl) dX1_repeated_27 (fun τ22 eτ22 => ?_)
    have hw := hw τ22 eτ22
    refine z_aload_n C 0 (by rfl) dX1_repeated_30 ?_
    refine z_iconst C 0 (by decide) dX1_repeated_31 ?_
    refine z_put C (Cn := RX1) (T := TX1) (N := 14) (ci := 1) h0.2 8 (tE1 h0.1) (tS1_8 h0.1 _) in_X1_repeated_X1 tyX1 tyX1_ok nmX1 rfl (by decide) mw_X1_repeated_1 rfl rfl (tyX1_ok 8 (by decide)) rfl rfl (Nat.le_of_ble_eq_true rfl) dX1_repeated_32 (fun τ23 eτ23 => ?_)
    have hw := hw τ23 eτ23
    refine z_aload_n C 0 (by rfl) dX1_repeated_35 ?_
    refine z_get C (Cn := RX1) (T := TX1) (N := 14) (ci := 1) h0.2 8 (tE1 h0.1) in_X1_repeated_X1 rfl (by decide) mw_X1_repeated_1 rfl rfl dX1_repeated_36 ?_
    refine z_iconst C 3 (by decide) dX1_repeated_39 ?_
    refine z_icmp_ne (tgt := 51) C dX1_repeated_40 (by decide) (fun c24 => ?_) (fun c24 => ?_)
    · have hw := hw.1 c24
      refine z_iconst C 0 (by decide) dX1_repeated_51 ?_
      exact hR _ _ _ _ dX1_repeated_52 rfl hw
    · have hw := hw.2 c24
      refine z_aload_n C 0 (by rfl) dX1_repeated_43 ?_
      refine z_get C (Cn := RX1) (T := TX1) (N := 14) (ci := 1) h0.2 9 (tE1 h0.1) in_X1_repeated_X1 rfl (by decide) mw_X1_repeated_2 rfl rfl dX1_repeated_44 ?_
      refine z_iconst C (-1) (by decide) dX1_repeated_47 ?_
      refine z_icmp_eq (tgt := 53) C dX1_repeated_48 (by decide) (fun c25 => ?_) (fun c25 => ?_)
      · have hw := hw.1 c25
        refine z_aload_n C 0 (by rfl) dX1_repeated_53 ?_
        refine zv_v C (As := []) (bytes := cX1_startRecovery) (maxL := 1) (F1 := 1) (L1 := 14) (c_X1_startRecovery w _ i0 _ h0 hw) h0.2 (tE1 h0.1) rfl 0 gX1_repeated_X1_startRecovery rfl (by decide +kernel) ⟨Nat.le_of_ble_eq_true rfl, Nat.le_of_ble_eq_true rfl⟩ rfl (Nat.le_of_ble_eq_true rfl) ⟨Nat.zero_le _, Nat.zero_le _⟩ rfl dX1_repeated_54 (fun τ26 hw => ?_)
        refine z_aload_n C 0 (by rfl) dX1_repeated_57 ?_
        refine z_aload_n C 0 (by rfl) dX1_repeated_58 ?_
        refine z_get C (Cn := RX1) (T := TX1) (N := 14) (ci := 1) h0.2 6 (tE1 h0.1) in_X1_repeated_X1 rfl (by decide) mw_X1_repeated_3 rfl rfl dX1_repeated_59 ?_
        refine z_put C (Cn := RX1) (T := TX1) (N := 14) (ci := 1) h0.2 5 (tE1 h0.1) (tS1_5 h0.1 _) in_X1_repeated_X1 tyX1 tyX1_ok nmX1 rfl (by decide) mw_X1_repeated_4 rfl rfl (tyX1_ok 5 (by decide)) rfl rfl (Nat.le_of_ble_eq_true rfl) dX1_repeated_62 (fun τ27 eτ27 => ?_)
        have hw := hw τ27 eτ27
        refine z_iconst C 1 (by decide) dX1_repeated_65 ?_
        exact hR _ _ _ _ dX1_repeated_66 rfl hw
      · have hw := hw.2 c25
        refine z_iconst C 0 (by decide) dX1_repeated_51 ?_
        exact hR _ _ _ _ dX1_repeated_52 rfl hw
  refine z_icmp_ne (tgt := 25) C dX1_repeated_5 (by decide) (fun c28 => ?_) (fun c28 => ?_)
  · have hw := hw.1 c28
    exact jn21 hw
  · have hw := hw.2 c28
    refine z_iload_n C 1 (by rfl) dX1_repeated_8 ?_
    refine z_if_le (tgt := 25) C dX1_repeated_9 (by decide) (fun c29 => ?_) (fun c29 => ?_)
    · have hw := hw.1 c29
      exact jn21 hw
    · have hw := hw.2 c29
      refine z_aload_n C 0 (by rfl) dX1_repeated_12 ?_
      refine z_dup C rfl dX1_repeated_13 ?_
      refine z_get C (Cn := RX1) (T := TX1) (N := 14) (ci := 1) h0.2 8 (tE1 h0.1) in_X1_repeated_X1 rfl (by decide) mw_X1_repeated_1 rfl rfl dX1_repeated_14 ?_
      refine z_iconst C 1 (by decide) dX1_repeated_17 ?_
      refine z_iadd C dX1_repeated_18 ?_
      refine z_put C (Cn := RX1) (T := TX1) (N := 14) (ci := 1) h0.2 8 (tE1 h0.1) (tS1_8 h0.1 _) in_X1_repeated_X1 tyX1 tyX1_ok nmX1 rfl (by decide) mw_X1_repeated_1 rfl rfl (tyX1_ok 8 (by decide)) rfl rfl (Nat.le_of_ble_eq_true rfl) dX1_repeated_19 (fun τ30 eτ30 => ?_)
      have hw := hw τ30 eτ30
      refine z_goto (tgt := 35) C dX1_repeated_22 (by decide) ?_
      refine z_aload_n C 0 (by rfl) dX1_repeated_35 ?_
      refine z_get C (Cn := RX1) (T := TX1) (N := 14) (ci := 1) h0.2 8 (tE1 h0.1) in_X1_repeated_X1 rfl (by decide) mw_X1_repeated_1 rfl rfl dX1_repeated_36 ?_
      refine z_iconst C 3 (by decide) dX1_repeated_39 ?_
      refine z_icmp_ne (tgt := 51) C dX1_repeated_40 (by decide) (fun c31 => ?_) (fun c31 => ?_)
      · have hw := hw.1 c31
        refine z_iconst C 0 (by decide) dX1_repeated_51 ?_
        exact hR _ _ _ _ dX1_repeated_52 rfl hw
      · have hw := hw.2 c31
        refine z_aload_n C 0 (by rfl) dX1_repeated_43 ?_
        refine z_get C (Cn := RX1) (T := TX1) (N := 14) (ci := 1) h0.2 9 (tE1 h0.1) in_X1_repeated_X1 rfl (by decide) mw_X1_repeated_2 rfl rfl dX1_repeated_44 ?_
        refine z_iconst C (-1) (by decide) dX1_repeated_47 ?_
        refine z_icmp_eq (tgt := 53) C dX1_repeated_48 (by decide) (fun c32 => ?_) (fun c32 => ?_)
        · have hw := hw.1 c32
          refine z_aload_n C 0 (by rfl) dX1_repeated_53 ?_
          refine zv_v C (As := []) (bytes := cX1_startRecovery) (maxL := 1) (F1 := 1) (L1 := 14) (c_X1_startRecovery w _ i0 _ h0 hw) h0.2 (tE1 h0.1) rfl 0 gX1_repeated_X1_startRecovery rfl (by decide +kernel) ⟨Nat.le_of_ble_eq_true rfl, Nat.le_of_ble_eq_true rfl⟩ rfl (Nat.le_of_ble_eq_true rfl) ⟨Nat.zero_le _, Nat.zero_le _⟩ rfl dX1_repeated_54 (fun τ33 hw => ?_)
          refine z_aload_n C 0 (by rfl) dX1_repeated_57 ?_
          refine z_aload_n C 0 (by rfl) dX1_repeated_58 ?_
          refine z_get C (Cn := RX1) (T := TX1) (N := 14) (ci := 1) h0.2 6 (tE1 h0.1) in_X1_repeated_X1 rfl (by decide) mw_X1_repeated_3 rfl rfl dX1_repeated_59 ?_
          refine z_put C (Cn := RX1) (T := TX1) (N := 14) (ci := 1) h0.2 5 (tE1 h0.1) (tS1_5 h0.1 _) in_X1_repeated_X1 tyX1 tyX1_ok nmX1 rfl (by decide) mw_X1_repeated_4 rfl rfl (tyX1_ok 5 (by decide)) rfl rfl (Nat.le_of_ble_eq_true rfl) dX1_repeated_62 (fun τ34 eτ34 => ?_)
          have hw := hw τ34 eτ34
          refine z_iconst C 1 (by decide) dX1_repeated_65 ?_
          exact hR _ _ _ _ dX1_repeated_66 rfl hw
        · have hw := hw.2 c32
          refine z_iconst C 0 (by decide) dX1_repeated_51 ?_
          exact hR _ _ _ _ dX1_repeated_52 rfl hw
def wp_X1_takeAnswer (τ : TS) (i0 : Nat) (x1 : Int32) (x2 : Int32) (x3 : Int32) (K : TS → Int32 → Prop) : Prop :=
  ((¬ (τ i0 0) = 0) → (((¬ (τ i0 0) = 1) → (K τ 0)) ∧ (((τ i0 0) = 1) → ((((τ i0 3) ≤ x1) → (∀ τ24 : TS, τ24 = tp_up τ i0 11 0 → ((x1 ≤ (τ24 i0 3)) → ((((τ24 i0 4) ≤ (τ24 i0 3)) → (∀ τ27 : TS, τ27 = tp_up τ24 i0 7 x2 → K τ27 0)) ∧ ((¬ (τ24 i0 4) ≤ (τ24 i0 3)) → (wp_X1_repeated τ24 i0 x2 (fun τ28 x29 => tp_z x29 ∧ K τ28 x29))))) ∧ ((¬ x1 ≤ (τ24 i0 3)) → (wp_X1_advance τ24 i0 x1 x2 x3 (fun τ30 x31 => tp_z x31 ∧ K τ30 x31))))) ∧ ((¬ (τ i0 3) ≤ x1) → (K τ 0)))))) ∧ (((τ i0 0) = 0) → (∀ τ32 : TS, τ32 = tp_up τ i0 0 1 → ∀ τ33 : TS, τ33 = tp_up τ32 i0 11 0 → ∀ τ34 : TS, τ34 = tp_up τ33 i0 10 (-1) → K τ34 0))
theorem mw_X1_takeAnswer_0 : Cond.fieldLink RX1 18 "TidePost$Caller" "state" "I" ∈ wsX1_takeAnswer := List.mem_of_getElem? (i := 1) rfl
theorem mw_X1_takeAnswer_3 : Cond.fieldLink RX1 53 "TidePost$Caller" "base" "I" ∈ wsX1_takeAnswer := List.mem_of_getElem? (i := 4) rfl
theorem mw_X1_takeAnswer_1 : Cond.fieldLink RX1 64 "TidePost$Caller" "tries" "I" ∈ wsX1_takeAnswer := List.mem_of_getElem? (i := 2) rfl
theorem mw_X1_takeAnswer_4 : Cond.fieldLink RX1 50 "TidePost$Caller" "next" "I" ∈ wsX1_takeAnswer := List.mem_of_getElem? (i := 5) rfl
theorem mw_X1_takeAnswer_5 : Cond.fieldLink RX1 28 "TidePost$Caller" "room" "I" ∈ wsX1_takeAnswer := List.mem_of_getElem? (i := 6) rfl
theorem mw_X1_takeAnswer_2 : Cond.fieldLink RX1 40 "TidePost$Caller" "timer" "I" ∈ wsX1_takeAnswer := List.mem_of_getElem? (i := 3) rfl
theorem in_X1_takeAnswer_X1 : ∀ x ∈ wsX10, x ∈ wsX1_takeAnswer := fun _ h => List.mem_cons_of_mem _ (List.mem_append_left _ (List.mem_append_right _ h))
set_option maxHeartbeats 4000000 in
set_option maxRecDepth 100000 in
theorem c_X1_takeAnswer (w : WPar) (τ : TS) (i0 : Nat) (x1 : Int32) (x2 : Int32) (x3 : Int32) (K : TS → Int32 → Prop) (h0 : tp_is i0 1) (hw : wp_X1_takeAnswer τ i0 x1 x2 x3 K) : MI w yX1_takeAnswer wsX1_takeAnswer 3 63 [.ref (w.1 i0), .int x1, .int x2, .int x3] τ K := by
  refine tp_enterZ (cc := cX1_takeAnswer) (maxL := 4) (own := RX1) (by decide) rfl rfl (Nat.le_of_ble_eq_true rfl) (fun g C hR => ?_)
  show Zt w g τ (0, 0) 0 [(0, .ref (w.1 i0)), (1, .int x1), (2, .int x2), (3, .int x3)] []
  unfold wp_X1_takeAnswer at hw
  refine z_aload_n C 0 (by rfl) dX1_takeAnswer_0 ?_
  refine z_get C (Cn := RX1) (T := TX1) (N := 14) (ci := 1) h0.2 0 (tE1 h0.1) in_X1_takeAnswer_X1 rfl (by decide) mw_X1_takeAnswer_0 rfl rfl dX1_takeAnswer_1 ?_
  refine z_if_ne (tgt := 24) C dX1_takeAnswer_4 (by decide) (fun c21 => ?_) (fun c21 => ?_)
  · have hw := hw.1 c21
    refine z_aload_n C 0 (by rfl) dX1_takeAnswer_24 ?_
    refine z_get C (Cn := RX1) (T := TX1) (N := 14) (ci := 1) h0.2 0 (tE1 h0.1) in_X1_takeAnswer_X1 rfl (by decide) mw_X1_takeAnswer_0 rfl rfl dX1_takeAnswer_25 ?_
    refine z_iconst C 1 (by decide) dX1_takeAnswer_28 ?_
    refine z_icmp_ne (tgt := 40) C dX1_takeAnswer_29 (by decide) (fun c22 => ?_) (fun c22 => ?_)
    · have hw := hw.1 c22
      refine z_iconst C 0 (by decide) dX1_takeAnswer_40 ?_
      exact hR _ _ _ _ dX1_takeAnswer_41 rfl hw
    · have hw := hw.2 c22
      refine z_iload_n C 1 (by rfl) dX1_takeAnswer_32 ?_
      refine z_aload_n C 0 (by rfl) dX1_takeAnswer_33 ?_
      refine z_get C (Cn := RX1) (T := TX1) (N := 14) (ci := 1) h0.2 3 (tE1 h0.1) in_X1_takeAnswer_X1 rfl (by decide) mw_X1_takeAnswer_3 rfl rfl dX1_takeAnswer_34 ?_
      refine z_icmp_ge (tgt := 42) C dX1_takeAnswer_37 (by decide) (fun c23 => ?_) (fun c23 => ?_)
      · have hw := hw.1 c23
        refine z_aload_n C 0 (by rfl) dX1_takeAnswer_42 ?_
        refine z_iconst C 0 (by decide) dX1_takeAnswer_43 ?_
        refine z_put C (Cn := RX1) (T := TX1) (N := 14) (ci := 1) h0.2 11 (tE1 h0.1) (tS1_11 h0.1 _) in_X1_takeAnswer_X1 tyX1 tyX1_ok nmX1 rfl (by decide) mw_X1_takeAnswer_1 rfl rfl (tyX1_ok 11 (by decide)) rfl rfl (Nat.le_of_ble_eq_true rfl) dX1_takeAnswer_44 (fun τ24 eτ24 => ?_)
        have hw := hw τ24 eτ24
        refine z_iload_n C 1 (by rfl) dX1_takeAnswer_47 ?_
        refine z_aload_n C 0 (by rfl) dX1_takeAnswer_48 ?_
        refine z_get C (Cn := RX1) (T := TX1) (N := 14) (ci := 1) h0.2 3 (tE1 h0.1) in_X1_takeAnswer_X1 rfl (by decide) mw_X1_takeAnswer_3 rfl rfl dX1_takeAnswer_49 ?_
        refine z_icmp_le (tgt := 63) C dX1_takeAnswer_52 (by decide) (fun c25 => ?_) (fun c25 => ?_)
        · have hw := hw.1 c25
          refine z_aload_n C 0 (by rfl) dX1_takeAnswer_63 ?_
          refine z_get C (Cn := RX1) (T := TX1) (N := 14) (ci := 1) h0.2 4 (tE1 h0.1) in_X1_takeAnswer_X1 rfl (by decide) mw_X1_takeAnswer_4 rfl rfl dX1_takeAnswer_64 ?_
          refine z_aload_n C 0 (by rfl) dX1_takeAnswer_67 ?_
          refine z_get C (Cn := RX1) (T := TX1) (N := 14) (ci := 1) h0.2 3 (tE1 h0.1) in_X1_takeAnswer_X1 rfl (by decide) mw_X1_takeAnswer_3 rfl rfl dX1_takeAnswer_68 ?_
          refine z_icmp_le (tgt := 80) C dX1_takeAnswer_71 (by decide) (fun c26 => ?_) (fun c26 => ?_)
          · have hw := hw.1 c26
            refine z_aload_n C 0 (by rfl) dX1_takeAnswer_80 ?_
            refine z_iload_n C 2 (by rfl) dX1_takeAnswer_81 ?_
            refine z_put C (Cn := RX1) (T := TX1) (N := 14) (ci := 1) h0.2 7 (tE1 h0.1) (tS1_7 h0.1 _) in_X1_takeAnswer_X1 tyX1 tyX1_ok nmX1 rfl (by decide) mw_X1_takeAnswer_5 rfl rfl (tyX1_ok 7 (by decide)) rfl rfl (Nat.le_of_ble_eq_true rfl) dX1_takeAnswer_82 (fun τ27 eτ27 => ?_)
            have hw := hw τ27 eτ27
            refine z_iconst C 0 (by decide) dX1_takeAnswer_85 ?_
            exact hR _ _ _ _ dX1_takeAnswer_86 rfl hw
          · have hw := hw.2 c26
            refine z_aload_n C 0 (by rfl) dX1_takeAnswer_74 ?_
            refine z_iload_n C 2 (by rfl) dX1_takeAnswer_75 ?_
            refine zv_i C (As := [.int x2]) (bytes := cX1_repeated) (maxL := 2) (F1 := 2) (L1 := 34) (c_X1_repeated w _ i0 x2 _ h0 hw) h0.2 (tE1 h0.1) rfl 1 gX1_takeAnswer_X1_repeated rfl (by decide +kernel) ⟨Nat.le_of_ble_eq_true rfl, Nat.le_of_ble_eq_true rfl⟩ rfl (Nat.le_of_ble_eq_true rfl) ⟨Nat.zero_le _, Nat.zero_le _⟩ rfl dX1_takeAnswer_76 (fun x29 τ28 hw => ?_)
            exact hR _ _ _ _ dX1_takeAnswer_79 hw.1.1 hw.2
        · have hw := hw.2 c25
          refine z_aload_n C 0 (by rfl) dX1_takeAnswer_55 ?_
          refine z_iload_n C 1 (by rfl) dX1_takeAnswer_56 ?_
          refine z_iload_n C 2 (by rfl) dX1_takeAnswer_57 ?_
          refine z_iload_n C 3 (by rfl) dX1_takeAnswer_58 ?_
          refine zv_i C (As := [.int x1, .int x2, .int x3]) (bytes := cX1_advance) (maxL := 5) (F1 := 2) (L1 := 39) (c_X1_advance w _ i0 x1 x2 x3 _ h0 hw) h0.2 (tE1 h0.1) rfl 3 gX1_takeAnswer_X1_advance rfl (by decide +kernel) ⟨Nat.le_of_ble_eq_true rfl, Nat.le_of_ble_eq_true rfl⟩ rfl (Nat.le_of_ble_eq_true rfl) ⟨Nat.zero_le _, Nat.zero_le _⟩ rfl dX1_takeAnswer_59 (fun x31 τ30 hw => ?_)
          exact hR _ _ _ _ dX1_takeAnswer_62 hw.1.1 hw.2
      · have hw := hw.2 c23
        refine z_iconst C 0 (by decide) dX1_takeAnswer_40 ?_
        exact hR _ _ _ _ dX1_takeAnswer_41 rfl hw
  · have hw := hw.2 c21
    refine z_aload_n C 0 (by rfl) dX1_takeAnswer_7 ?_
    refine z_iconst C 1 (by decide) dX1_takeAnswer_8 ?_
    refine z_put C (Cn := RX1) (T := TX1) (N := 14) (ci := 1) h0.2 0 (tE1 h0.1) (tS1_0 h0.1 _) in_X1_takeAnswer_X1 tyX1 tyX1_ok nmX1 rfl (by decide) mw_X1_takeAnswer_0 rfl rfl (tyX1_ok 0 (by decide)) rfl rfl (Nat.le_of_ble_eq_true rfl) dX1_takeAnswer_9 (fun τ32 eτ32 => ?_)
    have hw := hw τ32 eτ32
    refine z_aload_n C 0 (by rfl) dX1_takeAnswer_12 ?_
    refine z_iconst C 0 (by decide) dX1_takeAnswer_13 ?_
    refine z_put C (Cn := RX1) (T := TX1) (N := 14) (ci := 1) h0.2 11 (tE1 h0.1) (tS1_11 h0.1 _) in_X1_takeAnswer_X1 tyX1 tyX1_ok nmX1 rfl (by decide) mw_X1_takeAnswer_1 rfl rfl (tyX1_ok 11 (by decide)) rfl rfl (Nat.le_of_ble_eq_true rfl) dX1_takeAnswer_14 (fun τ33 eτ33 => ?_)
    have hw := hw τ33 eτ33
    refine z_aload_n C 0 (by rfl) dX1_takeAnswer_17 ?_
    refine z_iconst C (-1) (by decide) dX1_takeAnswer_18 ?_
    refine z_put C (Cn := RX1) (T := TX1) (N := 14) (ci := 1) h0.2 10 (tE1 h0.1) (tS1_10 h0.1 _) in_X1_takeAnswer_X1 tyX1 tyX1_ok nmX1 rfl (by decide) mw_X1_takeAnswer_2 rfl rfl (tyX1_ok 10 (by decide)) rfl rfl (Nat.le_of_ble_eq_true rfl) dX1_takeAnswer_19 (fun τ34 eτ34 => ?_)
    have hw := hw τ34 eτ34
    refine z_iconst C 0 (by decide) dX1_takeAnswer_22 ?_
    exact hR _ _ _ _ dX1_takeAnswer_23 rfl hw
def wp_X1_runOut (τ : TS) (i0 : Nat) (x1 : Int32) (K : TS → Int32 → Prop) : Prop :=
  ∀ τ21 : TS, τ21 = tp_up τ i0 10 (-1) → ∀ τ22 : TS, τ22 = tp_up τ21 i0 11 ((τ21 i0 11) + 1) → (((τ22 i0 11) < 6) → (wp_X5_backOff τ22 (i0 + 1) (fun τ24 => ((¬ (τ24 i0 0) = 1) → (∀ τ26 : TS, τ26 = tp_up τ24 i0 10 (x1 + (τ24 (i0 + 1) 2)) → K τ26 1)) ∧ (((τ24 i0 0) = 1) → (wp_X1_startRecovery τ24 i0 (fun τ27 => ∀ τ28 : TS, τ28 = tp_up τ27 i0 5 8 → ∀ τ29 : TS, τ29 = tp_up τ28 i0 8 0 → ∀ τ30 : TS, τ30 = tp_up τ29 i0 10 (x1 + (τ29 (i0 + 1) 2)) → K τ30 1)))))) ∧ ((¬ (τ22 i0 11) < 6) → (∀ τ31 : TS, τ31 = tp_up τ22 i0 0 3 → K τ31 0))
theorem mw_X1_runOut_0 : Cond.fieldLink RX1 40 "TidePost$Caller" "timer" "I" ∈ wsX1_runOut := List.mem_of_getElem? (i := 1) rfl
theorem mw_X1_runOut_1 : Cond.fieldLink RX1 64 "TidePost$Caller" "tries" "I" ∈ wsX1_runOut := List.mem_of_getElem? (i := 2) rfl
theorem mw_X1_runOut_3 : Cond.fieldLink RX1 12 "TidePost$Caller" "timing" "LTidePost$Timing;" ∈ wsX1_runOut := List.mem_of_getElem? (i := 4) rfl
theorem mw_X1_runOut_2 : Cond.fieldLink RX1 18 "TidePost$Caller" "state" "I" ∈ wsX1_runOut := List.mem_of_getElem? (i := 3) rfl
theorem mw_X1_runOut_6 : Cond.fieldLink RX1 37 "TidePost$Timing" "timeout" "I" ∈ wsX1_runOut := List.mem_of_getElem? (i := 7) rfl
theorem mw_X1_runOut_4 : Cond.fieldLink RX1 22 "TidePost$Caller" "window" "I" ∈ wsX1_runOut := List.mem_of_getElem? (i := 5) rfl
theorem mw_X1_runOut_5 : Cond.fieldLink RX1 78 "TidePost$Caller" "like" "I" ∈ wsX1_runOut := List.mem_of_getElem? (i := 6) rfl
theorem in_X1_runOut_X1 : ∀ x ∈ wsX10, x ∈ wsX1_runOut := fun _ h => List.mem_cons_of_mem _ (List.mem_append_left _ (List.mem_append_right _ h))
theorem in_X1_runOut_X5 : ∀ x ∈ wsX50, x ∈ wsX1_runOut := fun _ h => List.mem_cons_of_mem _ (List.mem_append_right _ h)
set_option maxHeartbeats 4000000 in
set_option maxRecDepth 100000 in
theorem c_X1_runOut (w : WPar) (τ : TS) (i0 : Nat) (x1 : Int32) (K : TS → Int32 → Prop) (h0 : tp_is i0 1) (hw : wp_X1_runOut τ i0 x1 K) : MI w yX1_runOut wsX1_runOut 2 34 [.ref (w.1 i0), .int x1] τ K := by
  refine tp_enterZ (cc := cX1_runOut) (maxL := 2) (own := RX1) (by decide) rfl rfl (Nat.le_of_ble_eq_true rfl) (fun g C hR => ?_)
  show Zt w g τ (0, 0) 0 [(0, .ref (w.1 i0)), (1, .int x1)] []
  unfold wp_X1_runOut at hw
  refine z_aload_n C 0 (by rfl) dX1_runOut_0 ?_
  refine z_iconst C (-1) (by decide) dX1_runOut_1 ?_
  refine z_put C (Cn := RX1) (T := TX1) (N := 14) (ci := 1) h0.2 10 (tE1 h0.1) (tS1_10 h0.1 _) in_X1_runOut_X1 tyX1 tyX1_ok nmX1 rfl (by decide) mw_X1_runOut_0 rfl rfl (tyX1_ok 10 (by decide)) rfl rfl (Nat.le_of_ble_eq_true rfl) dX1_runOut_2 (fun τ21 eτ21 => ?_)
  have hw := hw τ21 eτ21
  refine z_aload_n C 0 (by rfl) dX1_runOut_5 ?_
  refine z_dup C rfl dX1_runOut_6 ?_
  refine z_get C (Cn := RX1) (T := TX1) (N := 14) (ci := 1) h0.2 11 (tE1 h0.1) in_X1_runOut_X1 rfl (by decide) mw_X1_runOut_1 rfl rfl dX1_runOut_7 ?_
  refine z_iconst C 1 (by decide) dX1_runOut_10 ?_
  refine z_iadd C dX1_runOut_11 ?_
  refine z_put C (Cn := RX1) (T := TX1) (N := 14) (ci := 1) h0.2 11 (tE1 h0.1) (tS1_11 h0.1 _) in_X1_runOut_X1 tyX1 tyX1_ok nmX1 rfl (by decide) mw_X1_runOut_1 rfl rfl (tyX1_ok 11 (by decide)) rfl rfl (Nat.le_of_ble_eq_true rfl) dX1_runOut_12 (fun τ22 eτ22 => ?_)
  have hw := hw τ22 eτ22
  refine z_aload_n C 0 (by rfl) dX1_runOut_15 ?_
  refine z_get C (Cn := RX1) (T := TX1) (N := 14) (ci := 1) h0.2 11 (tE1 h0.1) in_X1_runOut_X1 rfl (by decide) mw_X1_runOut_1 rfl rfl dX1_runOut_16 ?_
  refine z_bipush C 6 (by decide) dX1_runOut_19 ?_
  refine z_icmp_lt (tgt := 31) C dX1_runOut_21 (by decide) (fun c23 => ?_) (fun c23 => ?_)
  · have hw := hw.1 c23
    refine z_aload_n C 0 (by rfl) dX1_runOut_31 ?_
    refine z_get C (Cn := RX1) (T := TX1) (N := 14) (ci := 1) h0.2 13 (tE1 h0.1) in_X1_runOut_X1 rfl (by decide) mw_X1_runOut_3 rfl rfl dX1_runOut_32 ?_
    refine zv_v C (As := []) (bytes := cX5_backOff) (maxL := 1) (F1 := 1) (L1 := 14) (c_X5_backOff w _ (i0 + 1) _ (tR1_13 h0) hw) (tR1_13 h0).2 (tE4 (tR1_13 h0).1) rfl 0 gX1_runOut_X5_backOff rfl (by decide +kernel) ⟨Nat.le_of_ble_eq_true rfl, Nat.le_of_ble_eq_true rfl⟩ rfl (Nat.le_of_ble_eq_true rfl) ⟨Nat.zero_le _, Nat.zero_le _⟩ rfl dX1_runOut_35 (fun τ24 hw => ?_)
    refine z_aload_n C 0 (by rfl) dX1_runOut_38 ?_
    refine z_get C (Cn := RX1) (T := TX1) (N := 14) (ci := 1) h0.2 0 (tE1 h0.1) in_X1_runOut_X1 rfl (by decide) mw_X1_runOut_2 rfl rfl dX1_runOut_39 ?_
    refine z_iconst C 1 (by decide) dX1_runOut_42 ?_
    refine z_icmp_ne (tgt := 61) C dX1_runOut_43 (by decide) (fun c25 => ?_) (fun c25 => ?_)
    · have hw := hw.1 c25
      refine z_aload_n C 0 (by rfl) dX1_runOut_61 ?_
      refine z_iload_n C 1 (by rfl) dX1_runOut_62 ?_
      refine z_aload_n C 0 (by rfl) dX1_runOut_63 ?_
      refine z_get C (Cn := RX1) (T := TX1) (N := 14) (ci := 1) h0.2 13 (tE1 h0.1) in_X1_runOut_X1 rfl (by decide) mw_X1_runOut_3 rfl rfl dX1_runOut_64 ?_
      refine z_get C (Cn := RX5) (T := TX5) (N := 5) (ci := 4) (tR1_13 h0).2 2 (tE4 (tR1_13 h0).1) in_X1_runOut_X5 rfl (by decide) mw_X1_runOut_6 rfl rfl dX1_runOut_67 ?_
      refine z_iadd C dX1_runOut_70 ?_
      refine z_put C (Cn := RX1) (T := TX1) (N := 14) (ci := 1) h0.2 10 (tE1 h0.1) (tS1_10 h0.1 _) in_X1_runOut_X1 tyX1 tyX1_ok nmX1 rfl (by decide) mw_X1_runOut_0 rfl rfl (tyX1_ok 10 (by decide)) rfl rfl (Nat.le_of_ble_eq_true rfl) dX1_runOut_71 (fun τ26 eτ26 => ?_)
      have hw := hw τ26 eτ26
      refine z_iconst C 1 (by decide) dX1_runOut_74 ?_
      exact hR _ _ _ _ dX1_runOut_75 rfl hw
    · have hw := hw.2 c25
      refine z_aload_n C 0 (by rfl) dX1_runOut_46 ?_
      refine zv_v C (As := []) (bytes := cX1_startRecovery) (maxL := 1) (F1 := 1) (L1 := 14) (c_X1_startRecovery w _ i0 _ h0 hw) h0.2 (tE1 h0.1) rfl 0 gX1_runOut_X1_startRecovery rfl (by decide +kernel) ⟨Nat.le_of_ble_eq_true rfl, Nat.le_of_ble_eq_true rfl⟩ rfl (Nat.le_of_ble_eq_true rfl) ⟨Nat.zero_le _, Nat.zero_le _⟩ rfl dX1_runOut_47 (fun τ27 hw => ?_)
      refine z_aload_n C 0 (by rfl) dX1_runOut_50 ?_
      refine z_bipush C 8 (by decide) dX1_runOut_51 ?_
      refine z_put C (Cn := RX1) (T := TX1) (N := 14) (ci := 1) h0.2 5 (tE1 h0.1) (tS1_5 h0.1 _) in_X1_runOut_X1 tyX1 tyX1_ok nmX1 rfl (by decide) mw_X1_runOut_4 rfl rfl (tyX1_ok 5 (by decide)) rfl rfl (Nat.le_of_ble_eq_true rfl) dX1_runOut_53 (fun τ28 eτ28 => ?_)
      have hw := hw τ28 eτ28
      refine z_aload_n C 0 (by rfl) dX1_runOut_56 ?_
      refine z_iconst C 0 (by decide) dX1_runOut_57 ?_
      refine z_put C (Cn := RX1) (T := TX1) (N := 14) (ci := 1) h0.2 8 (tE1 h0.1) (tS1_8 h0.1 _) in_X1_runOut_X1 tyX1 tyX1_ok nmX1 rfl (by decide) mw_X1_runOut_5 rfl rfl (tyX1_ok 8 (by decide)) rfl rfl (Nat.le_of_ble_eq_true rfl) dX1_runOut_58 (fun τ29 eτ29 => ?_)
      have hw := hw τ29 eτ29
      refine z_aload_n C 0 (by rfl) dX1_runOut_61 ?_
      refine z_iload_n C 1 (by rfl) dX1_runOut_62 ?_
      refine z_aload_n C 0 (by rfl) dX1_runOut_63 ?_
      refine z_get C (Cn := RX1) (T := TX1) (N := 14) (ci := 1) h0.2 13 (tE1 h0.1) in_X1_runOut_X1 rfl (by decide) mw_X1_runOut_3 rfl rfl dX1_runOut_64 ?_
      refine z_get C (Cn := RX5) (T := TX5) (N := 5) (ci := 4) (tR1_13 h0).2 2 (tE4 (tR1_13 h0).1) in_X1_runOut_X5 rfl (by decide) mw_X1_runOut_6 rfl rfl dX1_runOut_67 ?_
      refine z_iadd C dX1_runOut_70 ?_
      refine z_put C (Cn := RX1) (T := TX1) (N := 14) (ci := 1) h0.2 10 (tE1 h0.1) (tS1_10 h0.1 _) in_X1_runOut_X1 tyX1 tyX1_ok nmX1 rfl (by decide) mw_X1_runOut_0 rfl rfl (tyX1_ok 10 (by decide)) rfl rfl (Nat.le_of_ble_eq_true rfl) dX1_runOut_71 (fun τ30 eτ30 => ?_)
      have hw := hw τ30 eτ30
      refine z_iconst C 1 (by decide) dX1_runOut_74 ?_
      exact hR _ _ _ _ dX1_runOut_75 rfl hw
  · have hw := hw.2 c23
    refine z_aload_n C 0 (by rfl) dX1_runOut_24 ?_
    refine z_iconst C 3 (by decide) dX1_runOut_25 ?_
    refine z_put C (Cn := RX1) (T := TX1) (N := 14) (ci := 1) h0.2 0 (tE1 h0.1) (tS1_0 h0.1 _) in_X1_runOut_X1 tyX1 tyX1_ok nmX1 rfl (by decide) mw_X1_runOut_2 rfl rfl (tyX1_ok 0 (by decide)) rfl rfl (Nat.le_of_ble_eq_true rfl) dX1_runOut_26 (fun τ31 eτ31 => ?_)
    have hw := hw τ31 eτ31
    refine z_iconst C 0 (by decide) dX1_runOut_29 ?_
    exact hR _ _ _ _ dX1_runOut_30 rfl hw
def wp_X1_baseAgain (τ : TS) (i0 : Nat) (K : TS → Int32 → Prop) : Prop :=
  ∀ τ21 : TS, τ21 = tp_up τ i0 12 ((τ i0 12) + 1) → wp_X5_sentTwice τ21 (i0 + 1) (τ21 i0 3) (fun τ22 => K τ22 (τ22 i0 3))
theorem mw_X1_baseAgain_0 : Cond.fieldLink RX1 99 "TidePost$Caller" "sentAgain" "I" ∈ wsX1_baseAgain := List.mem_of_getElem? (i := 1) rfl
theorem mw_X1_baseAgain_1 : Cond.fieldLink RX1 12 "TidePost$Caller" "timing" "LTidePost$Timing;" ∈ wsX1_baseAgain := List.mem_of_getElem? (i := 2) rfl
theorem mw_X1_baseAgain_2 : Cond.fieldLink RX1 53 "TidePost$Caller" "base" "I" ∈ wsX1_baseAgain := List.mem_of_getElem? (i := 3) rfl
theorem in_X1_baseAgain_X1 : ∀ x ∈ wsX10, x ∈ wsX1_baseAgain := fun _ h => List.mem_cons_of_mem _ (List.mem_append_left _ (List.mem_append_right _ h))
set_option maxHeartbeats 4000000 in
set_option maxRecDepth 100000 in
theorem c_X1_baseAgain (w : WPar) (τ : TS) (i0 : Nat) (K : TS → Int32 → Prop) (h0 : tp_is i0 1) (hw : wp_X1_baseAgain τ i0 K) : MI w yX1_baseAgain wsX1_baseAgain 1 21 [.ref (w.1 i0)] τ K := by
  refine tp_enterI (cc := cX1_baseAgain) (maxL := 1) (own := RX1) (by decide) rfl rfl (Nat.le_of_ble_eq_true rfl) (fun g C hR => ?_)
  show Zt w g τ (0, 0) 0 [(0, .ref (w.1 i0))] []
  unfold wp_X1_baseAgain at hw
  refine z_aload_n C 0 (by rfl) dX1_baseAgain_0 ?_
  refine z_dup C rfl dX1_baseAgain_1 ?_
  refine z_get C (Cn := RX1) (T := TX1) (N := 14) (ci := 1) h0.2 12 (tE1 h0.1) in_X1_baseAgain_X1 rfl (by decide) mw_X1_baseAgain_0 rfl rfl dX1_baseAgain_2 ?_
  refine z_iconst C 1 (by decide) dX1_baseAgain_5 ?_
  refine z_iadd C dX1_baseAgain_6 ?_
  refine z_put C (Cn := RX1) (T := TX1) (N := 14) (ci := 1) h0.2 12 (tE1 h0.1) (tS1_12 h0.1 _) in_X1_baseAgain_X1 tyX1 tyX1_ok nmX1 rfl (by decide) mw_X1_baseAgain_0 rfl rfl (tyX1_ok 12 (by decide)) rfl rfl (Nat.le_of_ble_eq_true rfl) dX1_baseAgain_7 (fun τ21 eτ21 => ?_)
  have hw := hw τ21 eτ21
  refine z_aload_n C 0 (by rfl) dX1_baseAgain_10 ?_
  refine z_get C (Cn := RX1) (T := TX1) (N := 14) (ci := 1) h0.2 13 (tE1 h0.1) in_X1_baseAgain_X1 rfl (by decide) mw_X1_baseAgain_1 rfl rfl dX1_baseAgain_11 ?_
  refine z_aload_n C 0 (by rfl) dX1_baseAgain_14 ?_
  refine z_get C (Cn := RX1) (T := TX1) (N := 14) (ci := 1) h0.2 3 (tE1 h0.1) in_X1_baseAgain_X1 rfl (by decide) mw_X1_baseAgain_2 rfl rfl dX1_baseAgain_15 ?_
  refine zv_v C (As := [.int (τ21 i0 3)]) (bytes := cX5_sentTwice) (maxL := 2) (F1 := 0) (L1 := 0) (c_X5_sentTwice w _ (i0 + 1) (τ21 i0 3) _ (tR1_13 h0) hw) (tR1_13 h0).2 (tE4 (tR1_13 h0).1) rfl 1 gX1_baseAgain_X5_sentTwice rfl (by decide +kernel) ⟨Nat.le_of_ble_eq_true rfl, Nat.le_of_ble_eq_true rfl⟩ rfl (Nat.le_of_ble_eq_true rfl) ⟨Nat.zero_le _, Nat.zero_le _⟩ rfl dX1_baseAgain_18 (fun τ22 hw => ?_)
  refine z_aload_n C 0 (by rfl) dX1_baseAgain_21 ?_
  refine z_get C (Cn := RX1) (T := TX1) (N := 14) (ci := 1) h0.2 3 (tE1 h0.1) in_X1_baseAgain_X1 rfl (by decide) mw_X1_baseAgain_2 rfl rfl dX1_baseAgain_22 ?_
  exact hR _ _ _ _ dX1_baseAgain_25 hw
def wp_X1_copyFrom (τ : TS) (i0 : Nat) (j1 : Nat) (K : TS → Prop) : Prop :=
  ∀ τ21 : TS, τ21 = tp_up τ i0 0 (τ j1 0) → ∀ τ22 : TS, τ22 = tp_up τ21 i0 1 (τ21 j1 1) → tp_z (τ22 j1 2) ∧ (∀ τ24 : TS, τ24 = tp_up τ22 i0 2 (τ22 j1 2) → ∀ τ25 : TS, τ25 = tp_up τ24 i0 3 (τ24 j1 3) → ∀ τ26 : TS, τ26 = tp_up τ25 i0 4 (τ25 j1 4) → ∀ τ27 : TS, τ27 = tp_up τ26 i0 5 (τ26 j1 5) → ∀ τ28 : TS, τ28 = tp_up τ27 i0 6 (τ27 j1 6) → ∀ τ29 : TS, τ29 = tp_up τ28 i0 7 (τ28 j1 7) → ∀ τ30 : TS, τ30 = tp_up τ29 i0 8 (τ29 j1 8) → ∀ τ31 : TS, τ31 = tp_up τ30 i0 9 (τ30 j1 9) → ∀ τ32 : TS, τ32 = tp_up τ31 i0 10 (τ31 j1 10) → ∀ τ33 : TS, τ33 = tp_up τ32 i0 11 (τ32 j1 11) → ∀ τ34 : TS, τ34 = tp_up τ33 i0 12 (τ33 j1 12) → wp_X5_copyFrom τ34 (i0 + 1) (j1 + 1) (fun τ35 => K τ35))
theorem mw_X1_copyFrom_0 : Cond.fieldLink RX1 18 "TidePost$Caller" "state" "I" ∈ wsX1_copyFrom := List.mem_of_getElem? (i := 1) rfl
theorem mw_X1_copyFrom_1 : Cond.fieldLink RX1 47 "TidePost$Caller" "given" "I" ∈ wsX1_copyFrom := List.mem_of_getElem? (i := 2) rfl
theorem mw_X1_copyFrom_2 : Cond.fieldLink RX1 43 "TidePost$Caller" "toldToClose" "Z" ∈ wsX1_copyFrom := List.mem_of_getElem? (i := 3) rfl
theorem mw_X1_copyFrom_3 : Cond.fieldLink RX1 53 "TidePost$Caller" "base" "I" ∈ wsX1_copyFrom := List.mem_of_getElem? (i := 4) rfl
theorem mw_X1_copyFrom_4 : Cond.fieldLink RX1 50 "TidePost$Caller" "next" "I" ∈ wsX1_copyFrom := List.mem_of_getElem? (i := 5) rfl
theorem mw_X1_copyFrom_5 : Cond.fieldLink RX1 22 "TidePost$Caller" "window" "I" ∈ wsX1_copyFrom := List.mem_of_getElem? (i := 6) rfl
theorem mw_X1_copyFrom_6 : Cond.fieldLink RX1 25 "TidePost$Caller" "threshold" "I" ∈ wsX1_copyFrom := List.mem_of_getElem? (i := 7) rfl
theorem mw_X1_copyFrom_7 : Cond.fieldLink RX1 28 "TidePost$Caller" "room" "I" ∈ wsX1_copyFrom := List.mem_of_getElem? (i := 8) rfl
theorem mw_X1_copyFrom_8 : Cond.fieldLink RX1 78 "TidePost$Caller" "like" "I" ∈ wsX1_copyFrom := List.mem_of_getElem? (i := 9) rfl
theorem mw_X1_copyFrom_9 : Cond.fieldLink RX1 31 "TidePost$Caller" "recover" "I" ∈ wsX1_copyFrom := List.mem_of_getElem? (i := 10) rfl
theorem mw_X1_copyFrom_10 : Cond.fieldLink RX1 40 "TidePost$Caller" "timer" "I" ∈ wsX1_copyFrom := List.mem_of_getElem? (i := 11) rfl
theorem mw_X1_copyFrom_11 : Cond.fieldLink RX1 64 "TidePost$Caller" "tries" "I" ∈ wsX1_copyFrom := List.mem_of_getElem? (i := 12) rfl
theorem mw_X1_copyFrom_12 : Cond.fieldLink RX1 99 "TidePost$Caller" "sentAgain" "I" ∈ wsX1_copyFrom := List.mem_of_getElem? (i := 13) rfl
theorem mw_X1_copyFrom_13 : Cond.fieldLink RX1 12 "TidePost$Caller" "timing" "LTidePost$Timing;" ∈ wsX1_copyFrom := List.mem_of_getElem? (i := 14) rfl
theorem in_X1_copyFrom_X1 : ∀ x ∈ wsX10, x ∈ wsX1_copyFrom := fun _ h => List.mem_cons_of_mem _ (List.mem_append_left _ (List.mem_append_right _ h))
set_option maxHeartbeats 4000000 in
set_option maxRecDepth 100000 in
theorem c_X1_copyFrom (w : WPar) (τ : TS) (i0 : Nat) (j1 : Nat) (K : TS → Prop) (h0 : tp_is i0 1) (h1 : tp_is j1 1) (hw : wp_X1_copyFrom τ i0 j1 K) : MV w yX1_copyFrom wsX1_copyFrom 1 21 [.ref (w.1 i0), .ref (w.1 j1)] τ K := by
  refine tp_enterV (cc := cX1_copyFrom) (maxL := 2) (own := RX1) (by decide) rfl rfl (Nat.le_of_ble_eq_true rfl) (fun g C hR => ?_)
  show Zt w g τ (0, 0) 0 [(0, .ref (w.1 i0)), (1, .ref (w.1 j1))] []
  unfold wp_X1_copyFrom at hw
  refine z_aload_n C 0 (by rfl) dX1_copyFrom_0 ?_
  refine z_aload_n C 1 (by rfl) dX1_copyFrom_1 ?_
  refine z_get C (Cn := RX1) (T := TX1) (N := 14) (ci := 1) h1.2 0 (tE1 h1.1) in_X1_copyFrom_X1 rfl (by decide) mw_X1_copyFrom_0 rfl rfl dX1_copyFrom_2 ?_
  refine z_put C (Cn := RX1) (T := TX1) (N := 14) (ci := 1) h0.2 0 (tE1 h0.1) (tS1_0 h0.1 _) in_X1_copyFrom_X1 tyX1 tyX1_ok nmX1 rfl (by decide) mw_X1_copyFrom_0 rfl rfl (tyX1_ok 0 (by decide)) rfl rfl (Nat.le_of_ble_eq_true rfl) dX1_copyFrom_5 (fun τ21 eτ21 => ?_)
  have hw := hw τ21 eτ21
  refine z_aload_n C 0 (by rfl) dX1_copyFrom_8 ?_
  refine z_aload_n C 1 (by rfl) dX1_copyFrom_9 ?_
  refine z_get C (Cn := RX1) (T := TX1) (N := 14) (ci := 1) h1.2 1 (tE1 h1.1) in_X1_copyFrom_X1 rfl (by decide) mw_X1_copyFrom_1 rfl rfl dX1_copyFrom_10 ?_
  refine z_put C (Cn := RX1) (T := TX1) (N := 14) (ci := 1) h0.2 1 (tE1 h0.1) (tS1_1 h0.1 _) in_X1_copyFrom_X1 tyX1 tyX1_ok nmX1 rfl (by decide) mw_X1_copyFrom_1 rfl rfl (tyX1_ok 1 (by decide)) rfl rfl (Nat.le_of_ble_eq_true rfl) dX1_copyFrom_13 (fun τ22 eτ22 => ?_)
  have hw := hw τ22 eτ22
  refine z_aload_n C 0 (by rfl) dX1_copyFrom_16 ?_
  refine z_aload_n C 1 (by rfl) dX1_copyFrom_17 ?_
  refine z_get C (Cn := RX1) (T := TX1) (N := 14) (ci := 1) h1.2 2 (tE1 h1.1) in_X1_copyFrom_X1 rfl (by decide) mw_X1_copyFrom_2 rfl rfl dX1_copyFrom_18 ?_
  obtain ⟨s23, hw⟩ := hw
  refine z_put C (Cn := RX1) (T := TX1) (N := 14) (ci := 1) h0.2 2 (tE1 h0.1) (tS1_2 h0.1 _) in_X1_copyFrom_X1 tyX1 tyX1_ok nmX1 rfl (by decide) mw_X1_copyFrom_2 rfl rfl (tyX1_ok 2 (by decide)) s23.1 s23.2.1 (Nat.le_of_ble_eq_true rfl) dX1_copyFrom_21 (fun τ24 eτ24 => ?_)
  have hw := hw τ24 eτ24
  refine z_aload_n C 0 (by rfl) dX1_copyFrom_24 ?_
  refine z_aload_n C 1 (by rfl) dX1_copyFrom_25 ?_
  refine z_get C (Cn := RX1) (T := TX1) (N := 14) (ci := 1) h1.2 3 (tE1 h1.1) in_X1_copyFrom_X1 rfl (by decide) mw_X1_copyFrom_3 rfl rfl dX1_copyFrom_26 ?_
  refine z_put C (Cn := RX1) (T := TX1) (N := 14) (ci := 1) h0.2 3 (tE1 h0.1) (tS1_3 h0.1 _) in_X1_copyFrom_X1 tyX1 tyX1_ok nmX1 rfl (by decide) mw_X1_copyFrom_3 rfl rfl (tyX1_ok 3 (by decide)) rfl rfl (Nat.le_of_ble_eq_true rfl) dX1_copyFrom_29 (fun τ25 eτ25 => ?_)
  have hw := hw τ25 eτ25
  refine z_aload_n C 0 (by rfl) dX1_copyFrom_32 ?_
  refine z_aload_n C 1 (by rfl) dX1_copyFrom_33 ?_
  refine z_get C (Cn := RX1) (T := TX1) (N := 14) (ci := 1) h1.2 4 (tE1 h1.1) in_X1_copyFrom_X1 rfl (by decide) mw_X1_copyFrom_4 rfl rfl dX1_copyFrom_34 ?_
  refine z_put C (Cn := RX1) (T := TX1) (N := 14) (ci := 1) h0.2 4 (tE1 h0.1) (tS1_4 h0.1 _) in_X1_copyFrom_X1 tyX1 tyX1_ok nmX1 rfl (by decide) mw_X1_copyFrom_4 rfl rfl (tyX1_ok 4 (by decide)) rfl rfl (Nat.le_of_ble_eq_true rfl) dX1_copyFrom_37 (fun τ26 eτ26 => ?_)
  have hw := hw τ26 eτ26
  refine z_aload_n C 0 (by rfl) dX1_copyFrom_40 ?_
  refine z_aload_n C 1 (by rfl) dX1_copyFrom_41 ?_
  refine z_get C (Cn := RX1) (T := TX1) (N := 14) (ci := 1) h1.2 5 (tE1 h1.1) in_X1_copyFrom_X1 rfl (by decide) mw_X1_copyFrom_5 rfl rfl dX1_copyFrom_42 ?_
  refine z_put C (Cn := RX1) (T := TX1) (N := 14) (ci := 1) h0.2 5 (tE1 h0.1) (tS1_5 h0.1 _) in_X1_copyFrom_X1 tyX1 tyX1_ok nmX1 rfl (by decide) mw_X1_copyFrom_5 rfl rfl (tyX1_ok 5 (by decide)) rfl rfl (Nat.le_of_ble_eq_true rfl) dX1_copyFrom_45 (fun τ27 eτ27 => ?_)
  have hw := hw τ27 eτ27
  refine z_aload_n C 0 (by rfl) dX1_copyFrom_48 ?_
  refine z_aload_n C 1 (by rfl) dX1_copyFrom_49 ?_
  refine z_get C (Cn := RX1) (T := TX1) (N := 14) (ci := 1) h1.2 6 (tE1 h1.1) in_X1_copyFrom_X1 rfl (by decide) mw_X1_copyFrom_6 rfl rfl dX1_copyFrom_50 ?_
  refine z_put C (Cn := RX1) (T := TX1) (N := 14) (ci := 1) h0.2 6 (tE1 h0.1) (tS1_6 h0.1 _) in_X1_copyFrom_X1 tyX1 tyX1_ok nmX1 rfl (by decide) mw_X1_copyFrom_6 rfl rfl (tyX1_ok 6 (by decide)) rfl rfl (Nat.le_of_ble_eq_true rfl) dX1_copyFrom_53 (fun τ28 eτ28 => ?_)
  have hw := hw τ28 eτ28
  refine z_aload_n C 0 (by rfl) dX1_copyFrom_56 ?_
  refine z_aload_n C 1 (by rfl) dX1_copyFrom_57 ?_
  refine z_get C (Cn := RX1) (T := TX1) (N := 14) (ci := 1) h1.2 7 (tE1 h1.1) in_X1_copyFrom_X1 rfl (by decide) mw_X1_copyFrom_7 rfl rfl dX1_copyFrom_58 ?_
  refine z_put C (Cn := RX1) (T := TX1) (N := 14) (ci := 1) h0.2 7 (tE1 h0.1) (tS1_7 h0.1 _) in_X1_copyFrom_X1 tyX1 tyX1_ok nmX1 rfl (by decide) mw_X1_copyFrom_7 rfl rfl (tyX1_ok 7 (by decide)) rfl rfl (Nat.le_of_ble_eq_true rfl) dX1_copyFrom_61 (fun τ29 eτ29 => ?_)
  have hw := hw τ29 eτ29
  refine z_aload_n C 0 (by rfl) dX1_copyFrom_64 ?_
  refine z_aload_n C 1 (by rfl) dX1_copyFrom_65 ?_
  refine z_get C (Cn := RX1) (T := TX1) (N := 14) (ci := 1) h1.2 8 (tE1 h1.1) in_X1_copyFrom_X1 rfl (by decide) mw_X1_copyFrom_8 rfl rfl dX1_copyFrom_66 ?_
  refine z_put C (Cn := RX1) (T := TX1) (N := 14) (ci := 1) h0.2 8 (tE1 h0.1) (tS1_8 h0.1 _) in_X1_copyFrom_X1 tyX1 tyX1_ok nmX1 rfl (by decide) mw_X1_copyFrom_8 rfl rfl (tyX1_ok 8 (by decide)) rfl rfl (Nat.le_of_ble_eq_true rfl) dX1_copyFrom_69 (fun τ30 eτ30 => ?_)
  have hw := hw τ30 eτ30
  refine z_aload_n C 0 (by rfl) dX1_copyFrom_72 ?_
  refine z_aload_n C 1 (by rfl) dX1_copyFrom_73 ?_
  refine z_get C (Cn := RX1) (T := TX1) (N := 14) (ci := 1) h1.2 9 (tE1 h1.1) in_X1_copyFrom_X1 rfl (by decide) mw_X1_copyFrom_9 rfl rfl dX1_copyFrom_74 ?_
  refine z_put C (Cn := RX1) (T := TX1) (N := 14) (ci := 1) h0.2 9 (tE1 h0.1) (tS1_9 h0.1 _) in_X1_copyFrom_X1 tyX1 tyX1_ok nmX1 rfl (by decide) mw_X1_copyFrom_9 rfl rfl (tyX1_ok 9 (by decide)) rfl rfl (Nat.le_of_ble_eq_true rfl) dX1_copyFrom_77 (fun τ31 eτ31 => ?_)
  have hw := hw τ31 eτ31
  refine z_aload_n C 0 (by rfl) dX1_copyFrom_80 ?_
  refine z_aload_n C 1 (by rfl) dX1_copyFrom_81 ?_
  refine z_get C (Cn := RX1) (T := TX1) (N := 14) (ci := 1) h1.2 10 (tE1 h1.1) in_X1_copyFrom_X1 rfl (by decide) mw_X1_copyFrom_10 rfl rfl dX1_copyFrom_82 ?_
  refine z_put C (Cn := RX1) (T := TX1) (N := 14) (ci := 1) h0.2 10 (tE1 h0.1) (tS1_10 h0.1 _) in_X1_copyFrom_X1 tyX1 tyX1_ok nmX1 rfl (by decide) mw_X1_copyFrom_10 rfl rfl (tyX1_ok 10 (by decide)) rfl rfl (Nat.le_of_ble_eq_true rfl) dX1_copyFrom_85 (fun τ32 eτ32 => ?_)
  have hw := hw τ32 eτ32
  refine z_aload_n C 0 (by rfl) dX1_copyFrom_88 ?_
  refine z_aload_n C 1 (by rfl) dX1_copyFrom_89 ?_
  refine z_get C (Cn := RX1) (T := TX1) (N := 14) (ci := 1) h1.2 11 (tE1 h1.1) in_X1_copyFrom_X1 rfl (by decide) mw_X1_copyFrom_11 rfl rfl dX1_copyFrom_90 ?_
  refine z_put C (Cn := RX1) (T := TX1) (N := 14) (ci := 1) h0.2 11 (tE1 h0.1) (tS1_11 h0.1 _) in_X1_copyFrom_X1 tyX1 tyX1_ok nmX1 rfl (by decide) mw_X1_copyFrom_11 rfl rfl (tyX1_ok 11 (by decide)) rfl rfl (Nat.le_of_ble_eq_true rfl) dX1_copyFrom_93 (fun τ33 eτ33 => ?_)
  have hw := hw τ33 eτ33
  refine z_aload_n C 0 (by rfl) dX1_copyFrom_96 ?_
  refine z_aload_n C 1 (by rfl) dX1_copyFrom_97 ?_
  refine z_get C (Cn := RX1) (T := TX1) (N := 14) (ci := 1) h1.2 12 (tE1 h1.1) in_X1_copyFrom_X1 rfl (by decide) mw_X1_copyFrom_12 rfl rfl dX1_copyFrom_98 ?_
  refine z_put C (Cn := RX1) (T := TX1) (N := 14) (ci := 1) h0.2 12 (tE1 h0.1) (tS1_12 h0.1 _) in_X1_copyFrom_X1 tyX1 tyX1_ok nmX1 rfl (by decide) mw_X1_copyFrom_12 rfl rfl (tyX1_ok 12 (by decide)) rfl rfl (Nat.le_of_ble_eq_true rfl) dX1_copyFrom_101 (fun τ34 eτ34 => ?_)
  have hw := hw τ34 eτ34
  refine z_aload_n C 0 (by rfl) dX1_copyFrom_104 ?_
  refine z_get C (Cn := RX1) (T := TX1) (N := 14) (ci := 1) h0.2 13 (tE1 h0.1) in_X1_copyFrom_X1 rfl (by decide) mw_X1_copyFrom_13 rfl rfl dX1_copyFrom_105 ?_
  refine z_aload_n C 1 (by rfl) dX1_copyFrom_108 ?_
  refine z_get C (Cn := RX1) (T := TX1) (N := 14) (ci := 1) h1.2 13 (tE1 h1.1) in_X1_copyFrom_X1 rfl (by decide) mw_X1_copyFrom_13 rfl rfl dX1_copyFrom_109 ?_
  refine zv_v C (As := [.ref (w.1 (j1 + 1))]) (bytes := cX5_copyFrom) (maxL := 2) (F1 := 0) (L1 := 0) (c_X5_copyFrom w _ (i0 + 1) (j1 + 1) _ (tR1_13 h0) (tR1_13 h1) hw) (tR1_13 h0).2 (tE4 (tR1_13 h0).1) rfl 1 gX1_copyFrom_X5_copyFrom rfl (by decide +kernel) ⟨Nat.le_of_ble_eq_true rfl, Nat.le_of_ble_eq_true rfl⟩ rfl (Nat.le_of_ble_eq_true rfl) ⟨Nat.zero_le _, Nat.zero_le _⟩ rfl dX1_copyFrom_112 (fun τ35 hw => ?_)
  exact hR _ _ _ dX1_copyFrom_115 hw
def wp_X2_unread (τ : TS) (i0 : Nat) (K : TS → Int32 → Prop) : Prop :=
  ∀ x21 : Int32, x21 = (if (τ (i0 + 1) 1) < (τ (i0 + 3) 1) then (τ (i0 + 1) 1) else (τ (i0 + 3) 1)) → K τ (x21 - (τ (i0 + 3) 2))
theorem mw_X2_unread_0 : Cond.fieldLink RX2 19 "TidePost$Connection" "callee" "LTidePost$Callee;" ∈ wsX2_unread := List.mem_of_getElem? (i := 1) rfl
theorem mw_X2_unread_1 : Cond.fieldLink RX2 23 "TidePost$Callee" "wanted" "I" ∈ wsX2_unread := List.mem_of_getElem? (i := 2) rfl
theorem mw_X2_unread_2 : Cond.fieldLink RX2 10 "TidePost$Connection" "caller" "LTidePost$Caller;" ∈ wsX2_unread := List.mem_of_getElem? (i := 3) rfl
theorem mw_X2_unread_3 : Cond.fieldLink RX2 27 "TidePost$Caller" "given" "I" ∈ wsX2_unread := List.mem_of_getElem? (i := 4) rfl
theorem mw_X2_unread_4 : Cond.methodLink RX2 30 Lib.Math.min.name ∈ wsX2_unread := List.mem_of_getElem? (i := 5) rfl
theorem mw_X2_unread_5 : Cond.static Lib.Math.min.name ∈ wsX2_unread := List.mem_of_getElem? (i := 6) rfl
theorem mw_X2_unread_6 : Cond.initialized "java/lang/Math" ∈ wsX2_unread := List.mem_of_getElem? (i := 7) rfl
theorem mw_X2_unread_7 : Cond.code Lib.Math.min.name Lib.Math.min.code 2 (some .int) ∈ wsX2_unread := List.mem_of_getElem? (i := 8) rfl
theorem mw_X2_unread_8 : Cond.fieldLink RX2 36 "TidePost$Callee" "read" "I" ∈ wsX2_unread := List.mem_of_getElem? (i := 9) rfl
theorem in_X2_unread_X2 : ∀ x ∈ wsX20, x ∈ wsX2_unread := fun _ h => List.mem_cons_of_mem _ (List.mem_append_left _ (List.mem_append_left _ (List.mem_append_right _ h)))
theorem in_X2_unread_X0 : ∀ x ∈ wsX00, x ∈ wsX2_unread := fun _ h => List.mem_cons_of_mem _ (List.mem_append_left _ (List.mem_append_right _ h))
theorem in_X2_unread_X1 : ∀ x ∈ wsX10, x ∈ wsX2_unread := fun _ h => List.mem_cons_of_mem _ (List.mem_append_right _ h)
set_option maxHeartbeats 4000000 in
set_option maxRecDepth 100000 in
theorem c_X2_unread (w : WPar) (τ : TS) (i0 : Nat) (K : TS → Int32 → Prop) (h0 : tp_is i0 2) (hw : wp_X2_unread τ i0 K) : MI w yX2_unread wsX2_unread 1 13 [.ref (w.1 i0)] τ K := by
  refine tp_enterI (cc := cX2_unread) (maxL := 1) (own := RX2) (by decide) rfl rfl (Nat.le_of_ble_eq_true rfl) (fun g C hR => ?_)
  show Zt w g τ (0, 0) 0 [(0, .ref (w.1 i0))] []
  unfold wp_X2_unread at hw
  refine z_aload_n C 0 (by rfl) dX2_unread_0 ?_
  refine z_get C (Cn := RX2) (T := TX2) (N := 4) (ci := 2) h0.2 3 (tE2 h0.1) in_X2_unread_X2 rfl (by decide) mw_X2_unread_0 rfl rfl dX2_unread_1 ?_
  refine z_get C (Cn := RX0) (T := TX0) (N := 4) (ci := 0) (tR2_3 h0).2 1 (tE0 (tR2_3 h0).1) in_X2_unread_X0 rfl (by decide) mw_X2_unread_1 rfl rfl dX2_unread_4 ?_
  refine z_aload_n C 0 (by rfl) dX2_unread_7 ?_
  refine z_get C (Cn := RX2) (T := TX2) (N := 4) (ci := 2) h0.2 2 (tE2 h0.1) in_X2_unread_X2 rfl (by decide) mw_X2_unread_2 rfl rfl dX2_unread_8 ?_
  refine z_get C (Cn := RX1) (T := TX1) (N := 14) (ci := 1) (tR2_2 h0).2 1 (tE1 (tR2_2 h0).1) in_X2_unread_X1 rfl (by decide) mw_X2_unread_3 rfl rfl dX2_unread_11 ?_
  refine z_min C mw_X2_unread_4 mw_X2_unread_5 mw_X2_unread_6 mw_X2_unread_7 (Nat.le_of_ble_eq_true rfl) (Nat.le_of_ble_eq_true rfl) (Nat.zero_le _) (Nat.zero_le _) dX2_unread_14 ?_
  refine z_top (fun x21 ex21 => ?_)
  have hw := hw x21 ex21
  refine z_aload_n C 0 (by rfl) dX2_unread_17 ?_
  refine z_get C (Cn := RX2) (T := TX2) (N := 4) (ci := 2) h0.2 3 (tE2 h0.1) in_X2_unread_X2 rfl (by decide) mw_X2_unread_0 rfl rfl dX2_unread_18 ?_
  refine z_get C (Cn := RX0) (T := TX0) (N := 4) (ci := 0) (tR2_3 h0).2 2 (tE0 (tR2_3 h0).1) in_X2_unread_X0 rfl (by decide) mw_X2_unread_8 rfl rfl dX2_unread_21 ?_
  refine z_isub C dX2_unread_24 ?_
  exact hR _ _ _ _ dX2_unread_25 hw
def wp_X2_copyFrom (τ : TS) (i0 : Nat) (j1 : Nat) (K : TS → Prop) : Prop :=
  ∀ τ21 : TS, τ21 = tp_up τ i0 0 (τ j1 0) → ∀ τ22 : TS, τ22 = tp_up τ21 i0 1 (τ21 j1 1) → wp_X1_copyFrom τ22 (i0 + 1) (j1 + 1) (fun τ23 => wp_X0_copyFrom τ23 (i0 + 3) (j1 + 3) (fun τ24 => K τ24))
theorem mw_X2_copyFrom_0 : Cond.fieldLink RX2 39 "TidePost$Connection" "callerNode" "I" ∈ wsX2_copyFrom := List.mem_of_getElem? (i := 1) rfl
theorem mw_X2_copyFrom_1 : Cond.fieldLink RX2 42 "TidePost$Connection" "calleeNode" "I" ∈ wsX2_copyFrom := List.mem_of_getElem? (i := 2) rfl
theorem mw_X2_copyFrom_2 : Cond.fieldLink RX2 10 "TidePost$Connection" "caller" "LTidePost$Caller;" ∈ wsX2_copyFrom := List.mem_of_getElem? (i := 3) rfl
theorem mw_X2_copyFrom_3 : Cond.fieldLink RX2 19 "TidePost$Connection" "callee" "LTidePost$Callee;" ∈ wsX2_copyFrom := List.mem_of_getElem? (i := 4) rfl
theorem in_X2_copyFrom_X2 : ∀ x ∈ wsX20, x ∈ wsX2_copyFrom := fun _ h => List.mem_cons_of_mem _ (List.mem_append_left _ (List.mem_append_left _ (List.mem_append_left _ (List.mem_append_right _ h))))
set_option maxHeartbeats 4000000 in
set_option maxRecDepth 100000 in
theorem c_X2_copyFrom (w : WPar) (τ : TS) (i0 : Nat) (j1 : Nat) (K : TS → Prop) (h0 : tp_is i0 2) (h1 : tp_is j1 2) (hw : wp_X2_copyFrom τ i0 j1 K) : MV w yX2_copyFrom wsX2_copyFrom 2 42 [.ref (w.1 i0), .ref (w.1 j1)] τ K := by
  refine tp_enterV (cc := cX2_copyFrom) (maxL := 2) (own := RX2) (by decide) rfl rfl (Nat.le_of_ble_eq_true rfl) (fun g C hR => ?_)
  show Zt w g τ (0, 0) 0 [(0, .ref (w.1 i0)), (1, .ref (w.1 j1))] []
  unfold wp_X2_copyFrom at hw
  refine z_aload_n C 0 (by rfl) dX2_copyFrom_0 ?_
  refine z_aload_n C 1 (by rfl) dX2_copyFrom_1 ?_
  refine z_get C (Cn := RX2) (T := TX2) (N := 4) (ci := 2) h1.2 0 (tE2 h1.1) in_X2_copyFrom_X2 rfl (by decide) mw_X2_copyFrom_0 rfl rfl dX2_copyFrom_2 ?_
  refine z_put C (Cn := RX2) (T := TX2) (N := 4) (ci := 2) h0.2 0 (tE2 h0.1) (tS2_0 h0.1 _) in_X2_copyFrom_X2 tyX2 tyX2_ok nmX2 rfl (by decide) mw_X2_copyFrom_0 rfl rfl (tyX2_ok 0 (by decide)) rfl rfl (Nat.le_of_ble_eq_true rfl) dX2_copyFrom_5 (fun τ21 eτ21 => ?_)
  have hw := hw τ21 eτ21
  refine z_aload_n C 0 (by rfl) dX2_copyFrom_8 ?_
  refine z_aload_n C 1 (by rfl) dX2_copyFrom_9 ?_
  refine z_get C (Cn := RX2) (T := TX2) (N := 4) (ci := 2) h1.2 1 (tE2 h1.1) in_X2_copyFrom_X2 rfl (by decide) mw_X2_copyFrom_1 rfl rfl dX2_copyFrom_10 ?_
  refine z_put C (Cn := RX2) (T := TX2) (N := 4) (ci := 2) h0.2 1 (tE2 h0.1) (tS2_1 h0.1 _) in_X2_copyFrom_X2 tyX2 tyX2_ok nmX2 rfl (by decide) mw_X2_copyFrom_1 rfl rfl (tyX2_ok 1 (by decide)) rfl rfl (Nat.le_of_ble_eq_true rfl) dX2_copyFrom_13 (fun τ22 eτ22 => ?_)
  have hw := hw τ22 eτ22
  refine z_aload_n C 0 (by rfl) dX2_copyFrom_16 ?_
  refine z_get C (Cn := RX2) (T := TX2) (N := 4) (ci := 2) h0.2 2 (tE2 h0.1) in_X2_copyFrom_X2 rfl (by decide) mw_X2_copyFrom_2 rfl rfl dX2_copyFrom_17 ?_
  refine z_aload_n C 1 (by rfl) dX2_copyFrom_20 ?_
  refine z_get C (Cn := RX2) (T := TX2) (N := 4) (ci := 2) h1.2 2 (tE2 h1.1) in_X2_copyFrom_X2 rfl (by decide) mw_X2_copyFrom_2 rfl rfl dX2_copyFrom_21 ?_
  refine zv_v C (As := [.ref (w.1 (j1 + 1))]) (bytes := cX1_copyFrom) (maxL := 2) (F1 := 1) (L1 := 21) (c_X1_copyFrom w _ (i0 + 1) (j1 + 1) _ (tR2_2 h0) (tR2_2 h1) hw) (tR2_2 h0).2 (tE1 (tR2_2 h0).1) rfl 1 gX2_copyFrom_X1_copyFrom rfl (by decide +kernel) ⟨Nat.le_of_ble_eq_true rfl, Nat.le_of_ble_eq_true rfl⟩ rfl (Nat.le_of_ble_eq_true rfl) ⟨Nat.zero_le _, Nat.zero_le _⟩ rfl dX2_copyFrom_24 (fun τ23 hw => ?_)
  refine z_aload_n C 0 (by rfl) dX2_copyFrom_27 ?_
  refine z_get C (Cn := RX2) (T := TX2) (N := 4) (ci := 2) h0.2 3 (tE2 h0.1) in_X2_copyFrom_X2 rfl (by decide) mw_X2_copyFrom_3 rfl rfl dX2_copyFrom_28 ?_
  refine z_aload_n C 1 (by rfl) dX2_copyFrom_31 ?_
  refine z_get C (Cn := RX2) (T := TX2) (N := 4) (ci := 2) h1.2 3 (tE2 h1.1) in_X2_copyFrom_X2 rfl (by decide) mw_X2_copyFrom_3 rfl rfl dX2_copyFrom_32 ?_
  refine zv_v C (As := [.ref (w.1 (j1 + 3))]) (bytes := cX0_copyFrom) (maxL := 2) (F1 := 1) (L1 := 18) (c_X0_copyFrom w _ (i0 + 3) (j1 + 3) _ (tR2_3 h0) (tR2_3 h1) hw) (tR2_3 h0).2 (tE0 (tR2_3 h0).1) rfl 1 gX2_copyFrom_X0_copyFrom rfl (by decide +kernel) ⟨Nat.le_of_ble_eq_true rfl, Nat.le_of_ble_eq_true rfl⟩ rfl (Nat.le_of_ble_eq_true rfl) ⟨Nat.zero_le _, Nat.zero_le _⟩ rfl dX2_copyFrom_35 (fun τ24 hw => ?_)
  exact hR _ _ _ dX2_copyFrom_38 hw
end
section
theorem dX3_init_0 : decode cX3_init 0 = .ok (.aload_n 0, 1) := by decide +kernel
theorem dX3_init_1 : decode cX3_init 1 = .ok (.invokespecial 3, 3) := by decide +kernel
theorem dX3_init_4 : decode cX3_init 4 = .ok (.aload_n 0, 1) := by decide +kernel
theorem dX3_init_5 : decode cX3_init 5 = .ok (.bipush 12, 2) := by decide +kernel
theorem dX3_init_7 : decode cX3_init 7 = .ok (.newarray .int, 2) := by decide +kernel
theorem dX3_init_9 : decode cX3_init 9 = .ok (.putfield 9, 3) := by decide +kernel
theorem dX3_init_12 : decode cX3_init 12 = .ok (.aload_n 0, 1) := by decide +kernel
theorem dX3_init_13 : decode cX3_init 13 = .ok (.bipush 12, 2) := by decide +kernel
theorem dX3_init_15 : decode cX3_init 15 = .ok (.newarray .int, 2) := by decide +kernel
theorem dX3_init_17 : decode cX3_init 17 = .ok (.putfield 15, 3) := by decide +kernel
theorem dX3_init_20 : decode cX3_init 20 = .ok (.aload_n 0, 1) := by decide +kernel
theorem dX3_init_21 : decode cX3_init 21 = .ok (.bipush 12, 2) := by decide +kernel
theorem dX3_init_23 : decode cX3_init 23 = .ok (.newarray .int, 2) := by decide +kernel
theorem dX3_init_25 : decode cX3_init 25 = .ok (.putfield 18, 3) := by decide +kernel
theorem dX3_init_28 : decode cX3_init 28 = .ok (.aload_n 0, 1) := by decide +kernel
theorem dX3_init_29 : decode cX3_init 29 = .ok (.bipush 12, 2) := by decide +kernel
theorem dX3_init_31 : decode cX3_init 31 = .ok (.newarray .int, 2) := by decide +kernel
theorem dX3_init_33 : decode cX3_init 33 = .ok (.putfield 21, 3) := by decide +kernel
theorem dX3_init_36 : decode cX3_init 36 = .ok (.aload_n 0, 1) := by decide +kernel
theorem dX3_init_37 : decode cX3_init 37 = .ok (.bipush 12, 2) := by decide +kernel
theorem dX3_init_39 : decode cX3_init 39 = .ok (.newarray .boolean, 2) := by decide +kernel
theorem dX3_init_41 : decode cX3_init 41 = .ok (.putfield 24, 3) := by decide +kernel
theorem dX3_init_44 : decode cX3_init 44 = .ok (.aload_n 0, 1) := by decide +kernel
theorem dX3_init_45 : decode cX3_init 45 = .ok (.bipush 8, 2) := by decide +kernel
theorem dX3_init_47 : decode cX3_init 47 = .ok (.bipush 8, 2) := by decide +kernel
theorem dX3_init_49 : decode cX3_init 49 = .ok (.multianewarray 28 2, 4) := by decide +kernel
theorem dX3_init_53 : decode cX3_init 53 = .ok (.putfield 30, 3) := by decide +kernel
theorem dX3_init_56 : decode cX3_init 56 = .ok (.aload_n 0, 1) := by decide +kernel
theorem dX3_init_57 : decode cX3_init 57 = .ok (.bipush 8, 2) := by decide +kernel
theorem dX3_init_59 : decode cX3_init 59 = .ok (.newarray .int, 2) := by decide +kernel
theorem dX3_init_61 : decode cX3_init 61 = .ok (.putfield 33, 3) := by decide +kernel
theorem dX3_init_64 : decode cX3_init 64 = .ok (.return_, 1) := by decide +kernel
set_option maxRecDepth 20000 in
theorem ggX3_layNode_X3_measureRoutes : GoodIn wsX3_layNode wsX3_measureRoutes := goodIn_r _ [6, 1, 7, 8, 9, 10, 5, 11, 12, 13, 14, 15, 16, 17, 18, 19, 20, 21, 22, 23, 24, 25, 26, 27, 28] (by decide +kernel) (by decide +kernel)
set_option maxRecDepth 20000 in
theorem gX3_layNode_X3_measureRoutes : GoodIn wsX3_layNode (wsV RX3 40 RX3 yX3_measureRoutes wsX3_measureRoutes) := goodIn_app (goodIn_of _ (by decide +kernel)) ggX3_layNode_X3_measureRoutes
theorem dX3_layNode_0 : decode cX3_layNode 0 = .ok (.aload_n 0, 1) := by decide +kernel
theorem dX3_layNode_1 : decode cX3_layNode 1 = .ok (.dup, 1) := by decide +kernel
theorem dX3_layNode_2 : decode cX3_layNode 2 = .ok (.getfield 36, 3) := by decide +kernel
theorem dX3_layNode_5 : decode cX3_layNode 5 = .ok (.iconst 1, 1) := by decide +kernel
theorem dX3_layNode_6 : decode cX3_layNode 6 = .ok (.iadd, 1) := by decide +kernel
theorem dX3_layNode_7 : decode cX3_layNode 7 = .ok (.putfield 36, 3) := by decide +kernel
theorem dX3_layNode_10 : decode cX3_layNode 10 = .ok (.aload_n 0, 1) := by decide +kernel
theorem dX3_layNode_11 : decode cX3_layNode 11 = .ok (.invokevirtual 40, 3) := by decide +kernel
theorem dX3_layNode_14 : decode cX3_layNode 14 = .ok (.aload_n 0, 1) := by decide +kernel
theorem dX3_layNode_15 : decode cX3_layNode 15 = .ok (.getfield 36, 3) := by decide +kernel
theorem dX3_layNode_18 : decode cX3_layNode 18 = .ok (.iconst 1, 1) := by decide +kernel
theorem dX3_layNode_19 : decode cX3_layNode 19 = .ok (.isub, 1) := by decide +kernel
theorem dX3_layNode_20 : decode cX3_layNode 20 = .ok (.ireturn, 1) := by decide +kernel
set_option maxRecDepth 20000 in
theorem ggX3_layLink_X3_measureRoutes : GoodIn wsX3_layLink wsX3_measureRoutes := goodIn_r _ [11, 12, 13, 14, 15, 16, 10, 17, 1, 6, 2, 3, 4, 18, 19, 20, 21, 22, 23, 24, 25, 26, 27, 28, 29] (by decide +kernel) (by decide +kernel)
set_option maxRecDepth 20000 in
theorem gX3_layLink_X3_measureRoutes : GoodIn wsX3_layLink (wsV RX3 40 RX3 yX3_measureRoutes wsX3_measureRoutes) := goodIn_app (goodIn_of _ (by decide +kernel)) ggX3_layLink_X3_measureRoutes
theorem dX3_layLink_0 : decode cX3_layLink 0 = .ok (.aload_n 0, 1) := by decide +kernel
theorem dX3_layLink_1 : decode cX3_layLink 1 = .ok (.getfield 43, 3) := by decide +kernel
theorem dX3_layLink_4 : decode cX3_layLink 4 = .ok (.istore 5, 2) := by decide +kernel
theorem dX3_layLink_6 : decode cX3_layLink 6 = .ok (.aload_n 0, 1) := by decide +kernel
theorem dX3_layLink_7 : decode cX3_layLink 7 = .ok (.getfield 9, 3) := by decide +kernel
theorem dX3_layLink_10 : decode cX3_layLink 10 = .ok (.iload 5, 2) := by decide +kernel
theorem dX3_layLink_12 : decode cX3_layLink 12 = .ok (.iload_n 1, 1) := by decide +kernel
theorem dX3_layLink_13 : decode cX3_layLink 13 = .ok (.iastore, 1) := by decide +kernel
theorem dX3_layLink_14 : decode cX3_layLink 14 = .ok (.aload_n 0, 1) := by decide +kernel
theorem dX3_layLink_15 : decode cX3_layLink 15 = .ok (.getfield 15, 3) := by decide +kernel
theorem dX3_layLink_18 : decode cX3_layLink 18 = .ok (.iload 5, 2) := by decide +kernel
theorem dX3_layLink_20 : decode cX3_layLink 20 = .ok (.iload_n 2, 1) := by decide +kernel
theorem dX3_layLink_21 : decode cX3_layLink 21 = .ok (.iastore, 1) := by decide +kernel
theorem dX3_layLink_22 : decode cX3_layLink 22 = .ok (.aload_n 0, 1) := by decide +kernel
theorem dX3_layLink_23 : decode cX3_layLink 23 = .ok (.getfield 18, 3) := by decide +kernel
theorem dX3_layLink_26 : decode cX3_layLink 26 = .ok (.iload 5, 2) := by decide +kernel
theorem dX3_layLink_28 : decode cX3_layLink 28 = .ok (.iload_n 3, 1) := by decide +kernel
theorem dX3_layLink_29 : decode cX3_layLink 29 = .ok (.iastore, 1) := by decide +kernel
theorem dX3_layLink_30 : decode cX3_layLink 30 = .ok (.aload_n 0, 1) := by decide +kernel
theorem dX3_layLink_31 : decode cX3_layLink 31 = .ok (.getfield 21, 3) := by decide +kernel
theorem dX3_layLink_34 : decode cX3_layLink 34 = .ok (.iload 5, 2) := by decide +kernel
theorem dX3_layLink_36 : decode cX3_layLink 36 = .ok (.iload 4, 2) := by decide +kernel
theorem dX3_layLink_38 : decode cX3_layLink 38 = .ok (.iastore, 1) := by decide +kernel
theorem dX3_layLink_39 : decode cX3_layLink 39 = .ok (.aload_n 0, 1) := by decide +kernel
theorem dX3_layLink_40 : decode cX3_layLink 40 = .ok (.getfield 24, 3) := by decide +kernel
theorem dX3_layLink_43 : decode cX3_layLink 43 = .ok (.iload 5, 2) := by decide +kernel
theorem dX3_layLink_45 : decode cX3_layLink 45 = .ok (.iconst 1, 1) := by decide +kernel
theorem dX3_layLink_46 : decode cX3_layLink 46 = .ok (.bastore, 1) := by decide +kernel
theorem dX3_layLink_47 : decode cX3_layLink 47 = .ok (.aload_n 0, 1) := by decide +kernel
theorem dX3_layLink_48 : decode cX3_layLink 48 = .ok (.dup, 1) := by decide +kernel
theorem dX3_layLink_49 : decode cX3_layLink 49 = .ok (.getfield 43, 3) := by decide +kernel
theorem dX3_layLink_52 : decode cX3_layLink 52 = .ok (.iconst 1, 1) := by decide +kernel
theorem dX3_layLink_53 : decode cX3_layLink 53 = .ok (.iadd, 1) := by decide +kernel
theorem dX3_layLink_54 : decode cX3_layLink 54 = .ok (.putfield 43, 3) := by decide +kernel
theorem dX3_layLink_57 : decode cX3_layLink 57 = .ok (.aload_n 0, 1) := by decide +kernel
theorem dX3_layLink_58 : decode cX3_layLink 58 = .ok (.invokevirtual 40, 3) := by decide +kernel
theorem dX3_layLink_61 : decode cX3_layLink 61 = .ok (.iload 5, 2) := by decide +kernel
theorem dX3_layLink_63 : decode cX3_layLink 63 = .ok (.ireturn, 1) := by decide +kernel
set_option maxRecDepth 20000 in
theorem ggX3_flip_X3_measureRoutes : GoodIn wsX3_flip wsX3_measureRoutes := goodIn_r _ [6, 7, 8, 9, 10, 11, 5, 12, 13, 1, 14, 15, 16, 17, 18, 19, 20, 21, 22, 23, 24, 25, 26, 27, 28] (by decide +kernel) (by decide +kernel)
set_option maxRecDepth 20000 in
theorem gX3_flip_X3_measureRoutes : GoodIn wsX3_flip (wsV RX3 40 RX3 yX3_measureRoutes wsX3_measureRoutes) := goodIn_app (goodIn_of _ (by decide +kernel)) ggX3_flip_X3_measureRoutes
theorem dX3_flip_0 : decode cX3_flip 0 = .ok (.aload_n 0, 1) := by decide +kernel
theorem dX3_flip_1 : decode cX3_flip 1 = .ok (.getfield 24, 3) := by decide +kernel
theorem dX3_flip_4 : decode cX3_flip 4 = .ok (.iload_n 1, 1) := by decide +kernel
theorem dX3_flip_5 : decode cX3_flip 5 = .ok (.aload_n 0, 1) := by decide +kernel
theorem dX3_flip_6 : decode cX3_flip 6 = .ok (.getfield 24, 3) := by decide +kernel
theorem dX3_flip_9 : decode cX3_flip 9 = .ok (.iload_n 1, 1) := by decide +kernel
theorem dX3_flip_10 : decode cX3_flip 10 = .ok (.baload, 1) := by decide +kernel
theorem dX3_flip_11 : decode cX3_flip 11 = .ok (.ifCond .ne 7, 3) := by decide +kernel
theorem dX3_flip_14 : decode cX3_flip 14 = .ok (.iconst 1, 1) := by decide +kernel
theorem dX3_flip_15 : decode cX3_flip 15 = .ok (.goto 4, 3) := by decide +kernel
theorem dX3_flip_18 : decode cX3_flip 18 = .ok (.iconst 0, 1) := by decide +kernel
theorem dX3_flip_19 : decode cX3_flip 19 = .ok (.bastore, 1) := by decide +kernel
theorem dX3_flip_20 : decode cX3_flip 20 = .ok (.aload_n 0, 1) := by decide +kernel
theorem dX3_flip_21 : decode cX3_flip 21 = .ok (.invokevirtual 40, 3) := by decide +kernel
theorem dX3_flip_24 : decode cX3_flip 24 = .ok (.return_, 1) := by decide +kernel
set_option maxRecDepth 20000 in
theorem ggX3_joins_X3_farEnd : GoodIn wsX3_joins wsX3_farEnd := goodIn_r _ [6, 7, 8, 9, 10, 11, 12, 13, 14, 15, 16, 17] (by decide +kernel) (by decide +kernel)
set_option maxRecDepth 20000 in
theorem gX3_joins_X3_farEnd : GoodIn wsX3_joins (wsV RX3 46 RX3 yX3_farEnd wsX3_farEnd) := goodIn_app (goodIn_of _ (by decide +kernel)) ggX3_joins_X3_farEnd
theorem dX3_joins_0 : decode cX3_joins 0 = .ok (.iconst 0, 1) := by decide +kernel
theorem dX3_joins_1 : decode cX3_joins 1 = .ok (.istore_n 3, 1) := by decide +kernel
theorem dX3_joins_2 : decode cX3_joins 2 = .ok (.iload_n 3, 1) := by decide +kernel
theorem dX3_joins_3 : decode cX3_joins 3 = .ok (.aload_n 0, 1) := by decide +kernel
theorem dX3_joins_4 : decode cX3_joins 4 = .ok (.getfield 43, 3) := by decide +kernel
theorem dX3_joins_7 : decode cX3_joins 7 = .ok (.if_icmp .ge 21, 3) := by decide +kernel
theorem dX3_joins_10 : decode cX3_joins 10 = .ok (.aload_n 0, 1) := by decide +kernel
theorem dX3_joins_11 : decode cX3_joins 11 = .ok (.iload_n 3, 1) := by decide +kernel
theorem dX3_joins_12 : decode cX3_joins 12 = .ok (.iload_n 1, 1) := by decide +kernel
theorem dX3_joins_13 : decode cX3_joins 13 = .ok (.invokevirtual 46, 3) := by decide +kernel
theorem dX3_joins_16 : decode cX3_joins 16 = .ok (.iload_n 2, 1) := by decide +kernel
theorem dX3_joins_17 : decode cX3_joins 17 = .ok (.if_icmp .ne 5, 3) := by decide +kernel
theorem dX3_joins_20 : decode cX3_joins 20 = .ok (.iconst 1, 1) := by decide +kernel
theorem dX3_joins_21 : decode cX3_joins 21 = .ok (.ireturn, 1) := by decide +kernel
theorem dX3_joins_22 : decode cX3_joins 22 = .ok (.iinc 3 1, 3) := by decide +kernel
theorem dX3_joins_25 : decode cX3_joins 25 = .ok (.goto (-23), 3) := by decide +kernel
theorem dX3_joins_28 : decode cX3_joins 28 = .ok (.iconst 0, 1) := by decide +kernel
theorem dX3_joins_29 : decode cX3_joins 29 = .ok (.ireturn, 1) := by decide +kernel
theorem dX3_farEnd_0 : decode cX3_farEnd 0 = .ok (.aload_n 0, 1) := by decide +kernel
theorem dX3_farEnd_1 : decode cX3_farEnd 1 = .ok (.getfield 9, 3) := by decide +kernel
theorem dX3_farEnd_4 : decode cX3_farEnd 4 = .ok (.iload_n 1, 1) := by decide +kernel
theorem dX3_farEnd_5 : decode cX3_farEnd 5 = .ok (.iaload, 1) := by decide +kernel
theorem dX3_farEnd_6 : decode cX3_farEnd 6 = .ok (.iload_n 2, 1) := by decide +kernel
theorem dX3_farEnd_7 : decode cX3_farEnd 7 = .ok (.if_icmp .ne 10, 3) := by decide +kernel
theorem dX3_farEnd_10 : decode cX3_farEnd 10 = .ok (.aload_n 0, 1) := by decide +kernel
theorem dX3_farEnd_11 : decode cX3_farEnd 11 = .ok (.getfield 15, 3) := by decide +kernel
theorem dX3_farEnd_14 : decode cX3_farEnd 14 = .ok (.iload_n 1, 1) := by decide +kernel
theorem dX3_farEnd_15 : decode cX3_farEnd 15 = .ok (.iaload, 1) := by decide +kernel
theorem dX3_farEnd_16 : decode cX3_farEnd 16 = .ok (.ireturn, 1) := by decide +kernel
theorem dX3_farEnd_17 : decode cX3_farEnd 17 = .ok (.aload_n 0, 1) := by decide +kernel
theorem dX3_farEnd_18 : decode cX3_farEnd 18 = .ok (.getfield 15, 3) := by decide +kernel
theorem dX3_farEnd_21 : decode cX3_farEnd 21 = .ok (.iload_n 1, 1) := by decide +kernel
theorem dX3_farEnd_22 : decode cX3_farEnd 22 = .ok (.iaload, 1) := by decide +kernel
theorem dX3_farEnd_23 : decode cX3_farEnd 23 = .ok (.iload_n 2, 1) := by decide +kernel
theorem dX3_farEnd_24 : decode cX3_farEnd 24 = .ok (.if_icmp .ne 12, 3) := by decide +kernel
theorem dX3_farEnd_27 : decode cX3_farEnd 27 = .ok (.aload_n 0, 1) := by decide +kernel
theorem dX3_farEnd_28 : decode cX3_farEnd 28 = .ok (.getfield 9, 3) := by decide +kernel
theorem dX3_farEnd_31 : decode cX3_farEnd 31 = .ok (.iload_n 1, 1) := by decide +kernel
theorem dX3_farEnd_32 : decode cX3_farEnd 32 = .ok (.iaload, 1) := by decide +kernel
theorem dX3_farEnd_33 : decode cX3_farEnd 33 = .ok (.goto 4, 3) := by decide +kernel
theorem dX3_farEnd_36 : decode cX3_farEnd 36 = .ok (.iconst (-1), 1) := by decide +kernel
theorem dX3_farEnd_37 : decode cX3_farEnd 37 = .ok (.ireturn, 1) := by decide +kernel
set_option maxRecDepth 20000 in
theorem ggX3_linkTowards_X3_farEnd : GoodIn wsX3_linkTowards wsX3_farEnd := goodIn_r _ [9, 10, 11, 12, 13, 14, 15, 16, 17, 18, 19, 20] (by decide +kernel) (by decide +kernel)
set_option maxRecDepth 20000 in
theorem gX3_linkTowards_X3_farEnd : GoodIn wsX3_linkTowards (wsV RX3 46 RX3 yX3_farEnd wsX3_farEnd) := goodIn_app (goodIn_of _ (by decide +kernel)) ggX3_linkTowards_X3_farEnd
theorem dX3_linkTowards_0 : decode cX3_linkTowards 0 = .ok (.aload_n 0, 1) := by decide +kernel
theorem dX3_linkTowards_1 : decode cX3_linkTowards 1 = .ok (.getfield 30, 3) := by decide +kernel
theorem dX3_linkTowards_4 : decode cX3_linkTowards 4 = .ok (.iload_n 2, 1) := by decide +kernel
theorem dX3_linkTowards_5 : decode cX3_linkTowards 5 = .ok (.aaload, 1) := by decide +kernel
theorem dX3_linkTowards_6 : decode cX3_linkTowards 6 = .ok (.astore_n 3, 1) := by decide +kernel
theorem dX3_linkTowards_7 : decode cX3_linkTowards 7 = .ok (.iconst 0, 1) := by decide +kernel
theorem dX3_linkTowards_8 : decode cX3_linkTowards 8 = .ok (.istore 4, 2) := by decide +kernel
theorem dX3_linkTowards_10 : decode cX3_linkTowards 10 = .ok (.iload 4, 2) := by decide +kernel
theorem dX3_linkTowards_12 : decode cX3_linkTowards 12 = .ok (.aload_n 0, 1) := by decide +kernel
theorem dX3_linkTowards_13 : decode cX3_linkTowards 13 = .ok (.getfield 43, 3) := by decide +kernel
theorem dX3_linkTowards_16 : decode cX3_linkTowards 16 = .ok (.if_icmp .ge 67, 3) := by decide +kernel
theorem dX3_linkTowards_19 : decode cX3_linkTowards 19 = .ok (.aload_n 0, 1) := by decide +kernel
theorem dX3_linkTowards_20 : decode cX3_linkTowards 20 = .ok (.getfield 24, 3) := by decide +kernel
theorem dX3_linkTowards_23 : decode cX3_linkTowards 23 = .ok (.iload 4, 2) := by decide +kernel
theorem dX3_linkTowards_25 : decode cX3_linkTowards 25 = .ok (.baload, 1) := by decide +kernel
theorem dX3_linkTowards_26 : decode cX3_linkTowards 26 = .ok (.ifCond .eq 13, 3) := by decide +kernel
theorem dX3_linkTowards_29 : decode cX3_linkTowards 29 = .ok (.aload_n 0, 1) := by decide +kernel
theorem dX3_linkTowards_30 : decode cX3_linkTowards 30 = .ok (.iload 4, 2) := by decide +kernel
theorem dX3_linkTowards_32 : decode cX3_linkTowards 32 = .ok (.iload_n 1, 1) := by decide +kernel
theorem dX3_linkTowards_33 : decode cX3_linkTowards 33 = .ok (.invokevirtual 46, 3) := by decide +kernel
theorem dX3_linkTowards_36 : decode cX3_linkTowards 36 = .ok (.goto 4, 3) := by decide +kernel
theorem dX3_linkTowards_39 : decode cX3_linkTowards 39 = .ok (.iconst (-1), 1) := by decide +kernel
theorem dX3_linkTowards_40 : decode cX3_linkTowards 40 = .ok (.istore 5, 2) := by decide +kernel
theorem dX3_linkTowards_42 : decode cX3_linkTowards 42 = .ok (.iload 5, 2) := by decide +kernel
theorem dX3_linkTowards_44 : decode cX3_linkTowards 44 = .ok (.iconst (-1), 1) := by decide +kernel
theorem dX3_linkTowards_45 : decode cX3_linkTowards 45 = .ok (.if_icmp .eq 32, 3) := by decide +kernel
theorem dX3_linkTowards_48 : decode cX3_linkTowards 48 = .ok (.aload_n 3, 1) := by decide +kernel
theorem dX3_linkTowards_49 : decode cX3_linkTowards 49 = .ok (.iload 5, 2) := by decide +kernel
theorem dX3_linkTowards_51 : decode cX3_linkTowards 51 = .ok (.iaload, 1) := by decide +kernel
theorem dX3_linkTowards_52 : decode cX3_linkTowards 52 = .ok (.iconst (-1), 1) := by decide +kernel
theorem dX3_linkTowards_53 : decode cX3_linkTowards 53 = .ok (.if_icmp .eq 24, 3) := by decide +kernel
theorem dX3_linkTowards_56 : decode cX3_linkTowards 56 = .ok (.aload_n 3, 1) := by decide +kernel
theorem dX3_linkTowards_57 : decode cX3_linkTowards 57 = .ok (.iload 5, 2) := by decide +kernel
theorem dX3_linkTowards_59 : decode cX3_linkTowards 59 = .ok (.iaload, 1) := by decide +kernel
theorem dX3_linkTowards_60 : decode cX3_linkTowards 60 = .ok (.aload_n 0, 1) := by decide +kernel
theorem dX3_linkTowards_61 : decode cX3_linkTowards 61 = .ok (.getfield 18, 3) := by decide +kernel
theorem dX3_linkTowards_64 : decode cX3_linkTowards 64 = .ok (.iload 4, 2) := by decide +kernel
theorem dX3_linkTowards_66 : decode cX3_linkTowards 66 = .ok (.iaload, 1) := by decide +kernel
theorem dX3_linkTowards_67 : decode cX3_linkTowards 67 = .ok (.iadd, 1) := by decide +kernel
theorem dX3_linkTowards_68 : decode cX3_linkTowards 68 = .ok (.aload_n 3, 1) := by decide +kernel
theorem dX3_linkTowards_69 : decode cX3_linkTowards 69 = .ok (.iload_n 1, 1) := by decide +kernel
theorem dX3_linkTowards_70 : decode cX3_linkTowards 70 = .ok (.iaload, 1) := by decide +kernel
theorem dX3_linkTowards_71 : decode cX3_linkTowards 71 = .ok (.if_icmp .ne 6, 3) := by decide +kernel
theorem dX3_linkTowards_74 : decode cX3_linkTowards 74 = .ok (.iload 4, 2) := by decide +kernel
theorem dX3_linkTowards_76 : decode cX3_linkTowards 76 = .ok (.ireturn, 1) := by decide +kernel
theorem dX3_linkTowards_77 : decode cX3_linkTowards 77 = .ok (.iinc 4 1, 3) := by decide +kernel
theorem dX3_linkTowards_80 : decode cX3_linkTowards 80 = .ok (.goto (-70), 3) := by decide +kernel
theorem dX3_linkTowards_83 : decode cX3_linkTowards 83 = .ok (.iconst (-1), 1) := by decide +kernel
theorem dX3_linkTowards_84 : decode cX3_linkTowards 84 = .ok (.ireturn, 1) := by decide +kernel
set_option maxRecDepth 20000 in
theorem ggX3_measureRoutes_X3_spread : GoodIn wsX3_measureRoutes wsX3_spread := goodIn_r _ [7, 1, 8, 9, 10, 11, 12, 13, 14, 6, 15, 16, 17, 18, 19, 20, 21, 22, 23, 24] (by decide +kernel) (by decide +kernel)
set_option maxRecDepth 20000 in
theorem gX3_measureRoutes_X3_spread : GoodIn wsX3_measureRoutes (wsV RX3 50 RX3 yX3_spread wsX3_spread) := goodIn_app (goodIn_of _ (by decide +kernel)) ggX3_measureRoutes_X3_spread
theorem dX3_measureRoutes_0 : decode cX3_measureRoutes 0 = .ok (.iconst 0, 1) := by decide +kernel
theorem dX3_measureRoutes_1 : decode cX3_measureRoutes 1 = .ok (.istore_n 1, 1) := by decide +kernel
theorem dX3_measureRoutes_2 : decode cX3_measureRoutes 2 = .ok (.iload_n 1, 1) := by decide +kernel
theorem dX3_measureRoutes_3 : decode cX3_measureRoutes 3 = .ok (.aload_n 0, 1) := by decide +kernel
theorem dX3_measureRoutes_4 : decode cX3_measureRoutes 4 = .ok (.getfield 36, 3) := by decide +kernel
theorem dX3_measureRoutes_7 : decode cX3_measureRoutes 7 = .ok (.if_icmp .ge 21, 3) := by decide +kernel
theorem dX3_measureRoutes_10 : decode cX3_measureRoutes 10 = .ok (.aload_n 0, 1) := by decide +kernel
theorem dX3_measureRoutes_11 : decode cX3_measureRoutes 11 = .ok (.iload_n 1, 1) := by decide +kernel
theorem dX3_measureRoutes_12 : decode cX3_measureRoutes 12 = .ok (.iconst (-1), 1) := by decide +kernel
theorem dX3_measureRoutes_13 : decode cX3_measureRoutes 13 = .ok (.aload_n 0, 1) := by decide +kernel
theorem dX3_measureRoutes_14 : decode cX3_measureRoutes 14 = .ok (.getfield 30, 3) := by decide +kernel
theorem dX3_measureRoutes_17 : decode cX3_measureRoutes 17 = .ok (.iload_n 1, 1) := by decide +kernel
theorem dX3_measureRoutes_18 : decode cX3_measureRoutes 18 = .ok (.aaload, 1) := by decide +kernel
theorem dX3_measureRoutes_19 : decode cX3_measureRoutes 19 = .ok (.invokevirtual 50, 3) := by decide +kernel
theorem dX3_measureRoutes_22 : decode cX3_measureRoutes 22 = .ok (.iinc 1 1, 3) := by decide +kernel
theorem dX3_measureRoutes_25 : decode cX3_measureRoutes 25 = .ok (.goto (-23), 3) := by decide +kernel
theorem dX3_measureRoutes_28 : decode cX3_measureRoutes 28 = .ok (.return_, 1) := by decide +kernel
set_option maxRecDepth 20000 in
theorem ggX3_spread_X3_shorten : GoodIn wsX3_spread wsX3_shorten := goodIn_r _ [10] (by decide +kernel) (by decide +kernel)
set_option maxRecDepth 20000 in
theorem gX3_spread_X3_shorten : GoodIn wsX3_spread (va_wsS RX3 54 yX3_shorten wsX3_shorten) := goodIn_app (goodIn_of _ (by decide +kernel)) ggX3_spread_X3_shorten
theorem dX3_spread_0 : decode cX3_spread 0 = .ok (.iconst 0, 1) := by decide +kernel
theorem dX3_spread_1 : decode cX3_spread 1 = .ok (.istore 4, 2) := by decide +kernel
theorem dX3_spread_3 : decode cX3_spread 3 = .ok (.iload 4, 2) := by decide +kernel
theorem dX3_spread_5 : decode cX3_spread 5 = .ok (.aload_n 3, 1) := by decide +kernel
theorem dX3_spread_6 : decode cX3_spread 6 = .ok (.arraylength, 1) := by decide +kernel
theorem dX3_spread_7 : decode cX3_spread 7 = .ok (.if_icmp .ge 24, 3) := by decide +kernel
theorem dX3_spread_10 : decode cX3_spread 10 = .ok (.aload_n 3, 1) := by decide +kernel
theorem dX3_spread_11 : decode cX3_spread 11 = .ok (.iload 4, 2) := by decide +kernel
theorem dX3_spread_13 : decode cX3_spread 13 = .ok (.iload 4, 2) := by decide +kernel
theorem dX3_spread_15 : decode cX3_spread 15 = .ok (.iload_n 1, 1) := by decide +kernel
theorem dX3_spread_16 : decode cX3_spread 16 = .ok (.if_icmp .ne 7, 3) := by decide +kernel
theorem dX3_spread_19 : decode cX3_spread 19 = .ok (.iconst 0, 1) := by decide +kernel
theorem dX3_spread_20 : decode cX3_spread 20 = .ok (.goto 4, 3) := by decide +kernel
theorem dX3_spread_23 : decode cX3_spread 23 = .ok (.iconst (-1), 1) := by decide +kernel
theorem dX3_spread_24 : decode cX3_spread 24 = .ok (.iastore, 1) := by decide +kernel
theorem dX3_spread_25 : decode cX3_spread 25 = .ok (.iinc 4 1, 3) := by decide +kernel
theorem dX3_spread_28 : decode cX3_spread 28 = .ok (.goto (-25), 3) := by decide +kernel
theorem dX3_spread_31 : decode cX3_spread 31 = .ok (.iconst 1, 1) := by decide +kernel
theorem dX3_spread_32 : decode cX3_spread 32 = .ok (.istore 4, 2) := by decide +kernel
theorem dX3_spread_34 : decode cX3_spread 34 = .ok (.iconst 0, 1) := by decide +kernel
theorem dX3_spread_35 : decode cX3_spread 35 = .ok (.istore 5, 2) := by decide +kernel
theorem dX3_spread_37 : decode cX3_spread 37 = .ok (.iload 5, 2) := by decide +kernel
theorem dX3_spread_39 : decode cX3_spread 39 = .ok (.aload_n 0, 1) := by decide +kernel
theorem dX3_spread_40 : decode cX3_spread 40 = .ok (.getfield 36, 3) := by decide +kernel
theorem dX3_spread_43 : decode cX3_spread 43 = .ok (.if_icmp .ge 127, 3) := by decide +kernel
theorem dX3_spread_46 : decode cX3_spread 46 = .ok (.iload 4, 2) := by decide +kernel
theorem dX3_spread_48 : decode cX3_spread 48 = .ok (.ifCond .eq 122, 3) := by decide +kernel
theorem dX3_spread_51 : decode cX3_spread 51 = .ok (.iconst 0, 1) := by decide +kernel
theorem dX3_spread_52 : decode cX3_spread 52 = .ok (.istore 4, 2) := by decide +kernel
theorem dX3_spread_54 : decode cX3_spread 54 = .ok (.iconst 0, 1) := by decide +kernel
theorem dX3_spread_55 : decode cX3_spread 55 = .ok (.istore 6, 2) := by decide +kernel
theorem dX3_spread_57 : decode cX3_spread 57 = .ok (.iload 6, 2) := by decide +kernel
theorem dX3_spread_59 : decode cX3_spread 59 = .ok (.aload_n 0, 1) := by decide +kernel
theorem dX3_spread_60 : decode cX3_spread 60 = .ok (.getfield 43, 3) := by decide +kernel
theorem dX3_spread_63 : decode cX3_spread 63 = .ok (.if_icmp .ge 101, 3) := by decide +kernel
theorem dX3_spread_66 : decode cX3_spread 66 = .ok (.aload_n 0, 1) := by decide +kernel
theorem dX3_spread_67 : decode cX3_spread 67 = .ok (.getfield 24, 3) := by decide +kernel
theorem dX3_spread_70 : decode cX3_spread 70 = .ok (.iload 6, 2) := by decide +kernel
theorem dX3_spread_72 : decode cX3_spread 72 = .ok (.baload, 1) := by decide +kernel
theorem dX3_spread_73 : decode cX3_spread 73 = .ok (.ifCond .eq 85, 3) := by decide +kernel
theorem dX3_spread_76 : decode cX3_spread 76 = .ok (.iload 6, 2) := by decide +kernel
theorem dX3_spread_78 : decode cX3_spread 78 = .ok (.iload_n 2, 1) := by decide +kernel
theorem dX3_spread_79 : decode cX3_spread 79 = .ok (.if_icmp .eq 79, 3) := by decide +kernel
theorem dX3_spread_82 : decode cX3_spread 82 = .ok (.aload_n 3, 1) := by decide +kernel
theorem dX3_spread_83 : decode cX3_spread 83 = .ok (.aload_n 0, 1) := by decide +kernel
theorem dX3_spread_84 : decode cX3_spread 84 = .ok (.getfield 9, 3) := by decide +kernel
theorem dX3_spread_87 : decode cX3_spread 87 = .ok (.iload 6, 2) := by decide +kernel
theorem dX3_spread_89 : decode cX3_spread 89 = .ok (.iaload, 1) := by decide +kernel
theorem dX3_spread_90 : decode cX3_spread 90 = .ok (.aload_n 0, 1) := by decide +kernel
theorem dX3_spread_91 : decode cX3_spread 91 = .ok (.getfield 15, 3) := by decide +kernel
theorem dX3_spread_94 : decode cX3_spread 94 = .ok (.iload 6, 2) := by decide +kernel
theorem dX3_spread_96 : decode cX3_spread 96 = .ok (.iaload, 1) := by decide +kernel
theorem dX3_spread_97 : decode cX3_spread 97 = .ok (.aload_n 0, 1) := by decide +kernel
theorem dX3_spread_98 : decode cX3_spread 98 = .ok (.getfield 18, 3) := by decide +kernel
theorem dX3_spread_101 : decode cX3_spread 101 = .ok (.iload 6, 2) := by decide +kernel
theorem dX3_spread_103 : decode cX3_spread 103 = .ok (.iaload, 1) := by decide +kernel
theorem dX3_spread_104 : decode cX3_spread 104 = .ok (.invokestatic 54, 3) := by decide +kernel
theorem dX3_spread_107 : decode cX3_spread 107 = .ok (.istore 7, 2) := by decide +kernel
theorem dX3_spread_109 : decode cX3_spread 109 = .ok (.aload_n 3, 1) := by decide +kernel
theorem dX3_spread_110 : decode cX3_spread 110 = .ok (.aload_n 0, 1) := by decide +kernel
theorem dX3_spread_111 : decode cX3_spread 111 = .ok (.getfield 15, 3) := by decide +kernel
theorem dX3_spread_114 : decode cX3_spread 114 = .ok (.iload 6, 2) := by decide +kernel
theorem dX3_spread_116 : decode cX3_spread 116 = .ok (.iaload, 1) := by decide +kernel
theorem dX3_spread_117 : decode cX3_spread 117 = .ok (.aload_n 0, 1) := by decide +kernel
theorem dX3_spread_118 : decode cX3_spread 118 = .ok (.getfield 9, 3) := by decide +kernel
theorem dX3_spread_121 : decode cX3_spread 121 = .ok (.iload 6, 2) := by decide +kernel
theorem dX3_spread_123 : decode cX3_spread 123 = .ok (.iaload, 1) := by decide +kernel
theorem dX3_spread_124 : decode cX3_spread 124 = .ok (.aload_n 0, 1) := by decide +kernel
theorem dX3_spread_125 : decode cX3_spread 125 = .ok (.getfield 18, 3) := by decide +kernel
theorem dX3_spread_128 : decode cX3_spread 128 = .ok (.iload 6, 2) := by decide +kernel
theorem dX3_spread_130 : decode cX3_spread 130 = .ok (.iaload, 1) := by decide +kernel
theorem dX3_spread_131 : decode cX3_spread 131 = .ok (.invokestatic 54, 3) := by decide +kernel
theorem dX3_spread_134 : decode cX3_spread 134 = .ok (.istore 8, 2) := by decide +kernel
theorem dX3_spread_136 : decode cX3_spread 136 = .ok (.iload 4, 2) := by decide +kernel
theorem dX3_spread_138 : decode cX3_spread 138 = .ok (.ifCond .ne 13, 3) := by decide +kernel
theorem dX3_spread_141 : decode cX3_spread 141 = .ok (.iload 7, 2) := by decide +kernel
theorem dX3_spread_143 : decode cX3_spread 143 = .ok (.ifCond .ne 8, 3) := by decide +kernel
theorem dX3_spread_146 : decode cX3_spread 146 = .ok (.iload 8, 2) := by decide +kernel
theorem dX3_spread_148 : decode cX3_spread 148 = .ok (.ifCond .eq 7, 3) := by decide +kernel
theorem dX3_spread_151 : decode cX3_spread 151 = .ok (.iconst 1, 1) := by decide +kernel
theorem dX3_spread_152 : decode cX3_spread 152 = .ok (.goto 4, 3) := by decide +kernel
theorem dX3_spread_155 : decode cX3_spread 155 = .ok (.iconst 0, 1) := by decide +kernel
theorem dX3_spread_156 : decode cX3_spread 156 = .ok (.istore 4, 2) := by decide +kernel
theorem dX3_spread_158 : decode cX3_spread 158 = .ok (.iinc 6 1, 3) := by decide +kernel
theorem dX3_spread_161 : decode cX3_spread 161 = .ok (.goto (-104), 3) := by decide +kernel
theorem dX3_spread_164 : decode cX3_spread 164 = .ok (.iinc 5 1, 3) := by decide +kernel
theorem dX3_spread_167 : decode cX3_spread 167 = .ok (.goto (-130), 3) := by decide +kernel
theorem dX3_spread_170 : decode cX3_spread 170 = .ok (.return_, 1) := by decide +kernel
theorem dX3_shorten_0 : decode cX3_shorten 0 = .ok (.aload_n 0, 1) := by decide +kernel
theorem dX3_shorten_1 : decode cX3_shorten 1 = .ok (.iload_n 2, 1) := by decide +kernel
theorem dX3_shorten_2 : decode cX3_shorten 2 = .ok (.iaload, 1) := by decide +kernel
theorem dX3_shorten_3 : decode cX3_shorten 3 = .ok (.iconst (-1), 1) := by decide +kernel
theorem dX3_shorten_4 : decode cX3_shorten 4 = .ok (.if_icmp .eq 21, 3) := by decide +kernel
theorem dX3_shorten_7 : decode cX3_shorten 7 = .ok (.aload_n 0, 1) := by decide +kernel
theorem dX3_shorten_8 : decode cX3_shorten 8 = .ok (.iload_n 1, 1) := by decide +kernel
theorem dX3_shorten_9 : decode cX3_shorten 9 = .ok (.iaload, 1) := by decide +kernel
theorem dX3_shorten_10 : decode cX3_shorten 10 = .ok (.iconst (-1), 1) := by decide +kernel
theorem dX3_shorten_11 : decode cX3_shorten 11 = .ok (.if_icmp .eq 16, 3) := by decide +kernel
theorem dX3_shorten_14 : decode cX3_shorten 14 = .ok (.aload_n 0, 1) := by decide +kernel
theorem dX3_shorten_15 : decode cX3_shorten 15 = .ok (.iload_n 1, 1) := by decide +kernel
theorem dX3_shorten_16 : decode cX3_shorten 16 = .ok (.iaload, 1) := by decide +kernel
theorem dX3_shorten_17 : decode cX3_shorten 17 = .ok (.aload_n 0, 1) := by decide +kernel
theorem dX3_shorten_18 : decode cX3_shorten 18 = .ok (.iload_n 2, 1) := by decide +kernel
theorem dX3_shorten_19 : decode cX3_shorten 19 = .ok (.iaload, 1) := by decide +kernel
theorem dX3_shorten_20 : decode cX3_shorten 20 = .ok (.iload_n 3, 1) := by decide +kernel
theorem dX3_shorten_21 : decode cX3_shorten 21 = .ok (.iadd, 1) := by decide +kernel
theorem dX3_shorten_22 : decode cX3_shorten 22 = .ok (.if_icmp .gt 5, 3) := by decide +kernel
theorem dX3_shorten_25 : decode cX3_shorten 25 = .ok (.iconst 0, 1) := by decide +kernel
theorem dX3_shorten_26 : decode cX3_shorten 26 = .ok (.ireturn, 1) := by decide +kernel
theorem dX3_shorten_27 : decode cX3_shorten 27 = .ok (.aload_n 0, 1) := by decide +kernel
theorem dX3_shorten_28 : decode cX3_shorten 28 = .ok (.iload_n 1, 1) := by decide +kernel
theorem dX3_shorten_29 : decode cX3_shorten 29 = .ok (.aload_n 0, 1) := by decide +kernel
theorem dX3_shorten_30 : decode cX3_shorten 30 = .ok (.iload_n 2, 1) := by decide +kernel
theorem dX3_shorten_31 : decode cX3_shorten 31 = .ok (.iaload, 1) := by decide +kernel
theorem dX3_shorten_32 : decode cX3_shorten 32 = .ok (.iload_n 3, 1) := by decide +kernel
theorem dX3_shorten_33 : decode cX3_shorten 33 = .ok (.iadd, 1) := by decide +kernel
theorem dX3_shorten_34 : decode cX3_shorten 34 = .ok (.iastore, 1) := by decide +kernel
theorem dX3_shorten_35 : decode cX3_shorten 35 = .ok (.iconst 1, 1) := by decide +kernel
theorem dX3_shorten_36 : decode cX3_shorten 36 = .ok (.ireturn, 1) := by decide +kernel
end
section
def wp_X3_farEnd (τ : TS) (i0 : Nat) (x1 : Int32) (x2 : Int32) (K : TS → Int32 → Prop) : Prop :=
  vp_in x1 12 ∧ (((¬ (τ 2 (Int32.toNatClampNeg x1)) = x2) → (vp_in x1 12 ∧ (((¬ (τ 3 (Int32.toNatClampNeg x1)) = x2) → (K τ (-1))) ∧ (((τ 3 (Int32.toNatClampNeg x1)) = x2) → (vp_in x1 12 ∧ (K τ (τ 2 (Int32.toNatClampNeg x1)))))))) ∧ (((τ 2 (Int32.toNatClampNeg x1)) = x2) → (vp_in x1 12 ∧ (K τ (τ 3 (Int32.toNatClampNeg x1))))))
theorem mw_X3_farEnd_0 : Cond.fieldLink RX3 9 "TidePost$Net" "firsts" "[I" ∈ wsX3_farEnd := List.mem_of_getElem? (i := 1) rfl
theorem mw_X3_farEnd_1 : Cond.fieldLink RX3 15 "TidePost$Net" "seconds" "[I" ∈ wsX3_farEnd := List.mem_of_getElem? (i := 2) rfl
theorem in_X3_farEnd_X3 : ∀ x ∈ wsX30, x ∈ wsX3_farEnd := fun _ h => List.mem_cons_of_mem _ (List.mem_append_right _ h)
set_option maxHeartbeats 4000000 in
set_option maxRecDepth 100000 in
theorem c_X3_farEnd (w : WPar) (τ : TS) (i0 : Nat) (x1 : Int32) (x2 : Int32) (K : TS → Int32 → Prop) (h0 : tp_is i0 3) (hw : wp_X3_farEnd τ i0 x1 x2 K) : MI w yX3_farEnd wsX3_farEnd 0 0 [.ref (w.1 i0), .int x1, .int x2] τ K := by
  refine tp_enterI (cc := cX3_farEnd) (maxL := 3) (own := RX3) (by decide) rfl rfl (Nat.le_of_ble_eq_true rfl) (fun g C hR => ?_)
  show Zt w g τ (0, 0) 0 [(0, .ref (w.1 i0)), (1, .int x1), (2, .int x2)] []
  unfold wp_X3_farEnd at hw
  refine z_aload_n C 0 (by rfl) dX3_farEnd_0 ?_
  refine z_get C (Cn := RX3) (T := TX3) (N := 9) (ci := 3) h0.2 2 (tE3 h0.1) in_X3_farEnd_X3 rfl (by decide) mw_X3_farEnd_0 rfl rfl dX3_farEnd_1 ?_
  refine z_iload_n C 1 (by rfl) dX3_farEnd_4 ?_
  obtain ⟨s21, hw⟩ := hw
  refine z_iald C tR3_2.2 (tE11 tR3_2.1) s21 dX3_farEnd_5 ?_
  refine z_iload_n C 2 (by rfl) dX3_farEnd_6 ?_
  refine z_icmp_ne (tgt := 17) C dX3_farEnd_7 (by decide) (fun c22 => ?_) (fun c22 => ?_)
  · have hw := hw.1 c22
    refine z_aload_n C 0 (by rfl) dX3_farEnd_17 ?_
    refine z_get C (Cn := RX3) (T := TX3) (N := 9) (ci := 3) h0.2 3 (tE3 h0.1) in_X3_farEnd_X3 rfl (by decide) mw_X3_farEnd_1 rfl rfl dX3_farEnd_18 ?_
    refine z_iload_n C 1 (by rfl) dX3_farEnd_21 ?_
    obtain ⟨s23, hw⟩ := hw
    refine z_iald C tR3_3.2 (tE11 tR3_3.1) s23 dX3_farEnd_22 ?_
    refine z_iload_n C 2 (by rfl) dX3_farEnd_23 ?_
    refine z_icmp_ne (tgt := 36) C dX3_farEnd_24 (by decide) (fun c24 => ?_) (fun c24 => ?_)
    · have hw := hw.1 c24
      refine z_iconst C (-1) (by decide) dX3_farEnd_36 ?_
      exact hR _ _ _ _ dX3_farEnd_37 hw
    · have hw := hw.2 c24
      refine z_aload_n C 0 (by rfl) dX3_farEnd_27 ?_
      refine z_get C (Cn := RX3) (T := TX3) (N := 9) (ci := 3) h0.2 2 (tE3 h0.1) in_X3_farEnd_X3 rfl (by decide) mw_X3_farEnd_0 rfl rfl dX3_farEnd_28 ?_
      refine z_iload_n C 1 (by rfl) dX3_farEnd_31 ?_
      obtain ⟨s25, hw⟩ := hw
      refine z_iald C tR3_2.2 (tE11 tR3_2.1) s25 dX3_farEnd_32 ?_
      refine z_goto (tgt := 37) C dX3_farEnd_33 (by decide) ?_
      exact hR _ _ _ _ dX3_farEnd_37 hw
  · have hw := hw.2 c22
    refine z_aload_n C 0 (by rfl) dX3_farEnd_10 ?_
    refine z_get C (Cn := RX3) (T := TX3) (N := 9) (ci := 3) h0.2 3 (tE3 h0.1) in_X3_farEnd_X3 rfl (by decide) mw_X3_farEnd_1 rfl rfl dX3_farEnd_11 ?_
    refine z_iload_n C 1 (by rfl) dX3_farEnd_14 ?_
    obtain ⟨s26, hw⟩ := hw
    refine z_iald C tR3_3.2 (tE11 tR3_3.1) s26 dX3_farEnd_15 ?_
    exact hR _ _ _ _ dX3_farEnd_16 hw
def wp_X3_joins (τ : TS) (i0 : Nat) (x1 : Int32) (x2 : Int32) (K : TS → Int32 → Prop) : Prop :=
  ∃ (I23 : TS → Int32 → Prop) (u23 : TS → Int32 → Nat), I23 τ 0 ∧ ∀ (τ21 : TS) (x22 : Int32), I23 τ21 x22 → ((((τ21 i0 1) ≤ x22) → (K τ21 0)) ∧ ((¬ (τ21 i0 1) ≤ x22) → (wp_X3_farEnd τ21 i0 x22 x1 (fun τ25 x26 => ((¬ x26 = x2) → (∀ x28 : Int32, x28 = x22 + 1 → I23 τ25 x28 ∧ u23 τ25 x28 < u23 τ21 x22)) ∧ ((x26 = x2) → (K τ25 1))))))
theorem mw_X3_joins_0 : Cond.fieldLink RX3 43 "TidePost$Net" "links" "I" ∈ wsX3_joins := List.mem_of_getElem? (i := 1) rfl
theorem in_X3_joins_X3 : ∀ x ∈ wsX30, x ∈ wsX3_joins := fun _ h => List.mem_cons_of_mem _ (List.mem_append_right _ h)
set_option maxHeartbeats 4000000 in
set_option maxRecDepth 100000 in
theorem c_X3_joins (w : WPar) (τ : TS) (i0 : Nat) (x1 : Int32) (x2 : Int32) (K : TS → Int32 → Prop) (h0 : tp_is i0 3) (hw : wp_X3_joins τ i0 x1 x2 K) : MI w yX3_joins wsX3_joins 1 22 [.ref (w.1 i0), .int x1, .int x2] τ K := by
  refine tp_enterZ (cc := cX3_joins) (maxL := 4) (own := RX3) (by decide) rfl rfl (Nat.le_of_ble_eq_true rfl) (fun g C hR => ?_)
  show Zt w g τ (0, 0) 0 [(0, .ref (w.1 i0)), (1, .int x1), (2, .int x2)] []
  unfold wp_X3_joins at hw
  refine z_iconst C 0 (by decide) dX3_joins_0 ?_
  refine z_istore_n C [(3, .int 0), (0, .ref (w.1 i0)), (1, .int x1), (2, .int x2)] dX3_joins_1 (by decide) rfl ?_
  obtain ⟨I23, u23, hI23, hs23⟩ := hw
  have lp23 : ∀ (n23 : Nat) (τ21 : TS) (x22 : Int32), u23 τ21 x22 < n23 → I23 τ21 x22 → Zt w g τ21 (0, 0) 2 [(0, .ref (w.1 i0)), (1, .int x1), (2, .int x2), (3, .int x22)] [] := by
    intro n23
    induction n23 with
    | zero => intro τ21 x22 hlt23; exact absurd hlt23 (Nat.not_lt_zero _)
    | succ n23 ih23 =>
      intro τ21 x22 hlt23 hh23
      have hw := hs23 τ21 x22 hh23
      refine z_iload_n C 3 (by rfl) dX3_joins_2 ?_
      refine z_aload_n C 0 (by rfl) dX3_joins_3 ?_
      refine z_get C (Cn := RX3) (T := TX3) (N := 9) (ci := 3) h0.2 1 (tE3 h0.1) in_X3_joins_X3 rfl (by decide) mw_X3_joins_0 rfl rfl dX3_joins_4 ?_
      refine z_icmp_ge (tgt := 28) C dX3_joins_7 (by decide) (fun c24 => ?_) (fun c24 => ?_)
      · have hw := hw.1 c24
        refine z_iconst C 0 (by decide) dX3_joins_28 ?_
        exact hR _ _ _ _ dX3_joins_29 rfl hw
      · have hw := hw.2 c24
        refine z_aload_n C 0 (by rfl) dX3_joins_10 ?_
        refine z_iload_n C 3 (by rfl) dX3_joins_11 ?_
        refine z_iload_n C 1 (by rfl) dX3_joins_12 ?_
        refine zv_i C (As := [.int x22, .int x1]) (bytes := cX3_farEnd) (maxL := 3) (F1 := 0) (L1 := 0) (c_X3_farEnd w _ i0 x22 x1 _ h0 hw) h0.2 (tE3 h0.1) rfl 2 gX3_joins_X3_farEnd rfl (by decide +kernel) ⟨Nat.le_of_ble_eq_true rfl, Nat.le_of_ble_eq_true rfl⟩ rfl (Nat.le_of_ble_eq_true rfl) ⟨Nat.zero_le _, Nat.zero_le _⟩ rfl dX3_joins_13 (fun x26 τ25 hw => ?_)
        refine z_iload_n C 2 (by rfl) dX3_joins_16 ?_
        refine z_icmp_ne (tgt := 22) C dX3_joins_17 (by decide) (fun c27 => ?_) (fun c27 => ?_)
        · have hw := hw.1 c27
          obtain ⟨x28, ex28⟩ : ∃ z : Int32, z = x22 + 1 := ⟨_, rfl⟩
          have hw := hw x28 ex28
          refine z_iinc C 3 x28 [(3, .int x28), (0, .ref (w.1 i0)), (1, .int x1), (2, .int x2)] dX3_joins_22 (by rfl) (by rw [ex28]; rfl) (by decide) rfl ?_
          refine z_goto (tgt := 2) C dX3_joins_25 (by decide) ?_
          refine z_sub [1, 2, 3, 0] [(0, .ref (w.1 i0)), (1, .int x1), (2, .int x2), (3, .int x28)] rfl ?_
          exact ih23 τ25 x28 (Nat.lt_of_lt_of_le hw.2 (Nat.le_of_lt_succ hlt23)) hw.1
        · have hw := hw.2 c27
          refine z_iconst C 1 (by decide) dX3_joins_20 ?_
          exact hR _ _ _ _ dX3_joins_21 rfl hw
  refine z_sub [1, 2, 3, 0] [(0, .ref (w.1 i0)), (1, .int x1), (2, .int x2), (3, .int 0)] rfl ?_
  exact lp23 _ τ 0 (Nat.lt_succ_self _) hI23
def wp_X3_linkTowards (τ : TS) (i0 : Nat) (x1 : Int32) (x2 : Int32) (K : TS → Int32 → Prop) : Prop :=
  vp_in x2 8 ∧ (∃ (I24 : TS → Int32 → Prop) (u24 : TS → Int32 → Nat), I24 τ 0 ∧ ∀ (τ22 : TS) (x23 : Int32), I24 τ22 x23 → ((((τ22 i0 1) ≤ x23) → (K τ22 (-1))) ∧ ((¬ (τ22 i0 1) ≤ x23) → (vp_in x23 12 ∧ (∃ J27 : TS → Int32 → Prop, (∀ (τ28 : TS) (x29 : Int32), J27 τ28 x29 → (((x29 = (-1)) → (∀ x31 : Int32, x31 = x23 + 1 → I24 τ28 x31 ∧ u24 τ28 x31 < u24 τ22 x23)) ∧ ((¬ x29 = (-1)) → (vp_in x29 8 ∧ ((((τ28 (8 + (Int32.toNatClampNeg x2)) (Int32.toNatClampNeg x29)) = (-1)) → (∀ x34 : Int32, x34 = x23 + 1 → I24 τ28 x34 ∧ u24 τ28 x34 < u24 τ22 x23)) ∧ ((¬ (τ28 (8 + (Int32.toNatClampNeg x2)) (Int32.toNatClampNeg x29)) = (-1)) → (vp_in x29 8 ∧ (vp_in x23 12 ∧ (vp_in x1 8 ∧ (((¬ ((τ28 (8 + (Int32.toNatClampNeg x2)) (Int32.toNatClampNeg x29)) + (τ28 4 (Int32.toNatClampNeg x23))) = (τ28 (8 + (Int32.toNatClampNeg x2)) (Int32.toNatClampNeg x1))) → (∀ x39 : Int32, x39 = x23 + 1 → I24 τ28 x39 ∧ u24 τ28 x39 < u24 τ22 x23)) ∧ ((((τ28 (8 + (Int32.toNatClampNeg x2)) (Int32.toNatClampNeg x29)) + (τ28 4 (Int32.toNatClampNeg x23))) = (τ28 (8 + (Int32.toNatClampNeg x2)) (Int32.toNatClampNeg x1))) → (K τ28 x23)))))))))))) ∧ ((((τ22 6 (Int32.toNatClampNeg x23)) = 0) → (J27 τ22 (-1))) ∧ ((¬ (τ22 6 (Int32.toNatClampNeg x23)) = 0) → (wp_X3_farEnd τ22 i0 x23 x1 (fun τ41 x42 => J27 τ41 x42)))))))))
theorem mw_X3_linkTowards_0 : Cond.fieldLink RX3 30 "TidePost$Net" "distances" "[[I" ∈ wsX3_linkTowards := List.mem_of_getElem? (i := 1) rfl
theorem mw_X3_linkTowards_1 : Cond.fieldLink RX3 43 "TidePost$Net" "links" "I" ∈ wsX3_linkTowards := List.mem_of_getElem? (i := 2) rfl
theorem mw_X3_linkTowards_2 : Cond.fieldLink RX3 24 "TidePost$Net" "up" "[Z" ∈ wsX3_linkTowards := List.mem_of_getElem? (i := 3) rfl
theorem mw_X3_linkTowards_3 : Cond.fieldLink RX3 18 "TidePost$Net" "delays" "[I" ∈ wsX3_linkTowards := List.mem_of_getElem? (i := 4) rfl
theorem in_X3_linkTowards_X3 : ∀ x ∈ wsX30, x ∈ wsX3_linkTowards := fun _ h => List.mem_cons_of_mem _ (List.mem_append_right _ h)
set_option maxHeartbeats 4000000 in
set_option maxRecDepth 100000 in
theorem c_X3_linkTowards (w : WPar) (τ : TS) (i0 : Nat) (x1 : Int32) (x2 : Int32) (K : TS → Int32 → Prop) (h0 : tp_is i0 3) (hw : wp_X3_linkTowards τ i0 x1 x2 K) : MI w yX3_linkTowards wsX3_linkTowards 1 22 [.ref (w.1 i0), .int x1, .int x2] τ K := by
  refine tp_enterI (cc := cX3_linkTowards) (maxL := 6) (own := RX3) (by decide) rfl rfl (Nat.le_of_ble_eq_true rfl) (fun g C hR => ?_)
  show Zt w g τ (0, 0) 0 [(0, .ref (w.1 i0)), (1, .int x1), (2, .int x2)] []
  unfold wp_X3_linkTowards at hw
  refine z_aload_n C 0 (by rfl) dX3_linkTowards_0 ?_
  refine z_get C (Cn := RX3) (T := TX3) (N := 9) (ci := 3) h0.2 7 (tE3 h0.1) in_X3_linkTowards_X3 rfl (by decide) mw_X3_linkTowards_0 rfl rfl dX3_linkTowards_1 ?_
  refine z_iload_n C 2 (by rfl) dX3_linkTowards_4 ?_
  obtain ⟨s21, hw⟩ := hw
  refine z_aald_q4 C tR3_7.2 (tE14 tR3_7.1) s21 (if_pos (tp_lt s21)) dX3_linkTowards_5 ?_
  refine z_astore_n C [(3, .ref (w.1 (8 + (Int32.toNatClampNeg x2)))), (0, .ref (w.1 i0)), (1, .int x1), (2, .int x2)] dX3_linkTowards_6 (by decide) rfl ?_
  refine z_iconst C 0 (by decide) dX3_linkTowards_7 ?_
  refine z_istore C [(4, .int 0), (3, .ref (w.1 (8 + (Int32.toNatClampNeg x2)))), (0, .ref (w.1 i0)), (1, .int x1), (2, .int x2)] dX3_linkTowards_8 (by decide) rfl ?_
  obtain ⟨I24, u24, hI24, hs24⟩ := hw
  have lp24 : ∀ (n24 : Nat) (τ22 : TS) (x23 : Int32), u24 τ22 x23 < n24 → I24 τ22 x23 → Zt w g τ22 (0, 0) 10 [(0, .ref (w.1 i0)), (1, .int x1), (3, .ref (w.1 (8 + (Int32.toNatClampNeg x2)))), (4, .int x23)] [] := by
    intro n24
    induction n24 with
    | zero => intro τ22 x23 hlt24; exact absurd hlt24 (Nat.not_lt_zero _)
    | succ n24 ih24 =>
      intro τ22 x23 hlt24 hh24
      have hw := hs24 τ22 x23 hh24
      refine z_iload C 3 (by rfl) dX3_linkTowards_10 ?_
      refine z_aload_n C 0 (by rfl) dX3_linkTowards_12 ?_
      refine z_get C (Cn := RX3) (T := TX3) (N := 9) (ci := 3) h0.2 1 (tE3 h0.1) in_X3_linkTowards_X3 rfl (by decide) mw_X3_linkTowards_1 rfl rfl dX3_linkTowards_13 ?_
      refine z_icmp_ge (tgt := 83) C dX3_linkTowards_16 (by decide) (fun c25 => ?_) (fun c25 => ?_)
      · have hw := hw.1 c25
        refine z_iconst C (-1) (by decide) dX3_linkTowards_83 ?_
        exact hR _ _ _ _ dX3_linkTowards_84 hw
      · have hw := hw.2 c25
        refine z_aload_n C 0 (by rfl) dX3_linkTowards_19 ?_
        refine z_get C (Cn := RX3) (T := TX3) (N := 9) (ci := 3) h0.2 6 (tE3 h0.1) in_X3_linkTowards_X3 rfl (by decide) mw_X3_linkTowards_2 rfl rfl dX3_linkTowards_20 ?_
        refine z_iload C 3 (by rfl) dX3_linkTowards_23 ?_
        obtain ⟨s26, hw⟩ := hw
        refine z_zald C tR3_6.2 (tE12 tR3_6.1) s26 dX3_linkTowards_25 ?_
        obtain ⟨J27, hJ27, hw⟩ := hw
        have jn27 : ∀ (τ28 : TS) (x29 : Int32), J27 τ28 x29 → Zt w g τ28 (0, 0) 40 [(0, .ref (w.1 i0)), (1, .int x1), (3, .ref (w.1 (8 + (Int32.toNatClampNeg x2)))), (4, .int x23)] [.int x29] := by
          intro τ28 x29 hj27
          have hw := hJ27 τ28 x29 hj27
          refine z_istore C [(5, .int x29), (0, .ref (w.1 i0)), (1, .int x1), (3, .ref (w.1 (8 + (Int32.toNatClampNeg x2)))), (4, .int x23)] dX3_linkTowards_40 (by decide) rfl ?_
          refine z_iload C 0 (by rfl) dX3_linkTowards_42 ?_
          refine z_iconst C (-1) (by decide) dX3_linkTowards_44 ?_
          refine z_icmp_eq (tgt := 77) C dX3_linkTowards_45 (by decide) (fun c30 => ?_) (fun c30 => ?_)
          · have hw := hw.1 c30
            obtain ⟨x31, ex31⟩ : ∃ z : Int32, z = x23 + 1 := ⟨_, rfl⟩
            have hw := hw x31 ex31
            refine z_iinc C 4 x31 [(4, .int x31), (5, .int x29), (0, .ref (w.1 i0)), (1, .int x1), (3, .ref (w.1 (8 + (Int32.toNatClampNeg x2))))] dX3_linkTowards_77 (by rfl) (by rw [ex31]; rfl) (by decide) rfl ?_
            refine z_goto (tgt := 10) C dX3_linkTowards_80 (by decide) ?_
            refine z_sub [2, 3, 4, 0] [(0, .ref (w.1 i0)), (1, .int x1), (3, .ref (w.1 (8 + (Int32.toNatClampNeg x2)))), (4, .int x31)] rfl ?_
            exact ih24 τ28 x31 (Nat.lt_of_lt_of_le hw.2 (Nat.le_of_lt_succ hlt24)) hw.1
          · have hw := hw.2 c30
            refine z_aload_n C 3 (by rfl) dX3_linkTowards_48 ?_
            refine z_iload C 0 (by rfl) dX3_linkTowards_49 ?_
            obtain ⟨s32, hw⟩ := hw
            refine z_iald C (tR14 tR3_7 (tp_lt s21)).2 (tE13 (tR14 tR3_7 (tp_lt s21)).1) s32 dX3_linkTowards_51 ?_
            refine z_iconst C (-1) (by decide) dX3_linkTowards_52 ?_
            refine z_icmp_eq (tgt := 77) C dX3_linkTowards_53 (by decide) (fun c33 => ?_) (fun c33 => ?_)
            · have hw := hw.1 c33
              obtain ⟨x34, ex34⟩ : ∃ z : Int32, z = x23 + 1 := ⟨_, rfl⟩
              have hw := hw x34 ex34
              refine z_iinc C 4 x34 [(4, .int x34), (5, .int x29), (0, .ref (w.1 i0)), (1, .int x1), (3, .ref (w.1 (8 + (Int32.toNatClampNeg x2))))] dX3_linkTowards_77 (by rfl) (by rw [ex34]; rfl) (by decide) rfl ?_
              refine z_goto (tgt := 10) C dX3_linkTowards_80 (by decide) ?_
              refine z_sub [2, 3, 4, 0] [(0, .ref (w.1 i0)), (1, .int x1), (3, .ref (w.1 (8 + (Int32.toNatClampNeg x2)))), (4, .int x34)] rfl ?_
              exact ih24 τ28 x34 (Nat.lt_of_lt_of_le hw.2 (Nat.le_of_lt_succ hlt24)) hw.1
            · have hw := hw.2 c33
              refine z_aload_n C 3 (by rfl) dX3_linkTowards_56 ?_
              refine z_iload C 0 (by rfl) dX3_linkTowards_57 ?_
              obtain ⟨s35, hw⟩ := hw
              refine z_iald C (tR14 tR3_7 (tp_lt s21)).2 (tE13 (tR14 tR3_7 (tp_lt s21)).1) s35 dX3_linkTowards_59 ?_
              refine z_aload_n C 1 (by rfl) dX3_linkTowards_60 ?_
              refine z_get C (Cn := RX3) (T := TX3) (N := 9) (ci := 3) h0.2 4 (tE3 h0.1) in_X3_linkTowards_X3 rfl (by decide) mw_X3_linkTowards_3 rfl rfl dX3_linkTowards_61 ?_
              refine z_iload C 4 (by rfl) dX3_linkTowards_64 ?_
              obtain ⟨s36, hw⟩ := hw
              refine z_iald C tR3_4.2 (tE11 tR3_4.1) s36 dX3_linkTowards_66 ?_
              refine z_iadd C dX3_linkTowards_67 ?_
              refine z_aload_n C 3 (by rfl) dX3_linkTowards_68 ?_
              refine z_iload_n C 2 (by rfl) dX3_linkTowards_69 ?_
              obtain ⟨s37, hw⟩ := hw
              refine z_iald C (tR14 tR3_7 (tp_lt s21)).2 (tE13 (tR14 tR3_7 (tp_lt s21)).1) s37 dX3_linkTowards_70 ?_
              refine z_icmp_ne (tgt := 77) C dX3_linkTowards_71 (by decide) (fun c38 => ?_) (fun c38 => ?_)
              · have hw := hw.1 c38
                obtain ⟨x39, ex39⟩ : ∃ z : Int32, z = x23 + 1 := ⟨_, rfl⟩
                have hw := hw x39 ex39
                refine z_iinc C 4 x39 [(4, .int x39), (5, .int x29), (0, .ref (w.1 i0)), (1, .int x1), (3, .ref (w.1 (8 + (Int32.toNatClampNeg x2))))] dX3_linkTowards_77 (by rfl) (by rw [ex39]; rfl) (by decide) rfl ?_
                refine z_goto (tgt := 10) C dX3_linkTowards_80 (by decide) ?_
                refine z_sub [2, 3, 4, 0] [(0, .ref (w.1 i0)), (1, .int x1), (3, .ref (w.1 (8 + (Int32.toNatClampNeg x2)))), (4, .int x39)] rfl ?_
                exact ih24 τ28 x39 (Nat.lt_of_lt_of_le hw.2 (Nat.le_of_lt_succ hlt24)) hw.1
              · have hw := hw.2 c38
                refine z_iload C 4 (by rfl) dX3_linkTowards_74 ?_
                exact hR _ _ _ _ dX3_linkTowards_76 hw
        refine z_if_eq (tgt := 39) C dX3_linkTowards_26 (by decide) (fun c40 => ?_) (fun c40 => ?_)
        · have hw := hw.1 c40
          refine z_iconst C (-1) (by decide) dX3_linkTowards_39 ?_
          exact jn27 τ22 (-1) hw
        · have hw := hw.2 c40
          refine z_aload_n C 0 (by rfl) dX3_linkTowards_29 ?_
          refine z_iload C 3 (by rfl) dX3_linkTowards_30 ?_
          refine z_iload_n C 1 (by rfl) dX3_linkTowards_32 ?_
          refine zv_i C (As := [.int x23, .int x1]) (bytes := cX3_farEnd) (maxL := 3) (F1 := 0) (L1 := 0) (c_X3_farEnd w _ i0 x23 x1 _ h0 hw) h0.2 (tE3 h0.1) rfl 2 gX3_linkTowards_X3_farEnd rfl (by decide +kernel) ⟨Nat.le_of_ble_eq_true rfl, Nat.le_of_ble_eq_true rfl⟩ rfl (Nat.le_of_ble_eq_true rfl) ⟨Nat.zero_le _, Nat.zero_le _⟩ rfl dX3_linkTowards_33 (fun x42 τ41 hw => ?_)
          refine z_goto (tgt := 40) C dX3_linkTowards_36 (by decide) ?_
          exact jn27 τ41 x42 hw
  refine z_sub [2, 3, 1, 0] [(0, .ref (w.1 i0)), (1, .int x1), (3, .ref (w.1 (8 + (Int32.toNatClampNeg x2)))), (4, .int 0)] rfl ?_
  exact lp24 _ τ 0 (Nat.lt_succ_self _) hI24
def wp_X3_shorten (τ : TS) (j0 : Nat) (x1 : Int32) (x2 : Int32) (x3 : Int32) (K : TS → Int32 → Prop) : Prop :=
  vp_in x2 8 ∧ ((((τ j0 (Int32.toNatClampNeg x2)) = (-1)) → (K τ 0)) ∧ ((¬ (τ j0 (Int32.toNatClampNeg x2)) = (-1)) → (vp_in x1 8 ∧ ((((τ j0 (Int32.toNatClampNeg x1)) = (-1)) → (vp_in x2 8 ∧ (vp_in x1 8 ∧ (∀ τ27 : TS, τ27 = tp_up τ j0 (Int32.toNatClampNeg x1) ((τ j0 (Int32.toNatClampNeg x2)) + x3) → K τ27 1)))) ∧ ((¬ (τ j0 (Int32.toNatClampNeg x1)) = (-1)) → (vp_in x1 8 ∧ (vp_in x2 8 ∧ (((((τ j0 (Int32.toNatClampNeg x2)) + x3) < (τ j0 (Int32.toNatClampNeg x1))) → (vp_in x2 8 ∧ (vp_in x1 8 ∧ (∀ τ33 : TS, τ33 = tp_up τ j0 (Int32.toNatClampNeg x1) ((τ j0 (Int32.toNatClampNeg x2)) + x3) → K τ33 1)))) ∧ ((¬ ((τ j0 (Int32.toNatClampNeg x2)) + x3) < (τ j0 (Int32.toNatClampNeg x1))) → (K τ 0))))))))))
set_option maxHeartbeats 4000000 in
set_option maxRecDepth 100000 in
theorem c_X3_shorten (w : WPar) (τ : TS) (j0 : Nat) (x1 : Int32) (x2 : Int32) (x3 : Int32) (K : TS → Int32 → Prop) (h0 : tp_is j0 13) (hw : wp_X3_shorten τ j0 x1 x2 x3 K) : MI w yX3_shorten wsX3_shorten 0 0 [.ref (w.1 j0), .int x1, .int x2, .int x3] τ K := by
  refine tp_enterZ (cc := cX3_shorten) (maxL := 4) (own := RX3) (by decide) rfl rfl (Nat.le_of_ble_eq_true rfl) (fun g C hR => ?_)
  show Zt w g τ (0, 0) 0 [(0, .ref (w.1 j0)), (1, .int x1), (2, .int x2), (3, .int x3)] []
  unfold wp_X3_shorten at hw
  refine z_aload_n C 0 (by rfl) dX3_shorten_0 ?_
  refine z_iload_n C 2 (by rfl) dX3_shorten_1 ?_
  obtain ⟨s21, hw⟩ := hw
  refine z_iald C h0.2 (tE13 h0.1) s21 dX3_shorten_2 ?_
  refine z_iconst C (-1) (by decide) dX3_shorten_3 ?_
  refine z_icmp_eq (tgt := 25) C dX3_shorten_4 (by decide) (fun c22 => ?_) (fun c22 => ?_)
  · have hw := hw.1 c22
    refine z_iconst C 0 (by decide) dX3_shorten_25 ?_
    exact hR _ _ _ _ dX3_shorten_26 rfl hw
  · have hw := hw.2 c22
    refine z_aload_n C 0 (by rfl) dX3_shorten_7 ?_
    refine z_iload_n C 1 (by rfl) dX3_shorten_8 ?_
    obtain ⟨s23, hw⟩ := hw
    refine z_iald C h0.2 (tE13 h0.1) s23 dX3_shorten_9 ?_
    refine z_iconst C (-1) (by decide) dX3_shorten_10 ?_
    refine z_icmp_eq (tgt := 27) C dX3_shorten_11 (by decide) (fun c24 => ?_) (fun c24 => ?_)
    · have hw := hw.1 c24
      refine z_aload_n C 0 (by rfl) dX3_shorten_27 ?_
      refine z_iload_n C 1 (by rfl) dX3_shorten_28 ?_
      refine z_aload_n C 0 (by rfl) dX3_shorten_29 ?_
      refine z_iload_n C 2 (by rfl) dX3_shorten_30 ?_
      obtain ⟨s25, hw⟩ := hw
      refine z_iald C h0.2 (tE13 h0.1) s25 dX3_shorten_31 ?_
      refine z_iload_n C 3 (by rfl) dX3_shorten_32 ?_
      refine z_iadd C dX3_shorten_33 ?_
      obtain ⟨s26, hw⟩ := hw
      refine z_iast C h0.2 (fun _ => tE13 h0.1) s26 dX3_shorten_34 (fun τ27 eτ27 => ?_)
      have hw := hw τ27 eτ27
      refine z_iconst C 1 (by decide) dX3_shorten_35 ?_
      exact hR _ _ _ _ dX3_shorten_36 rfl hw
    · have hw := hw.2 c24
      refine z_aload_n C 0 (by rfl) dX3_shorten_14 ?_
      refine z_iload_n C 1 (by rfl) dX3_shorten_15 ?_
      obtain ⟨s28, hw⟩ := hw
      refine z_iald C h0.2 (tE13 h0.1) s28 dX3_shorten_16 ?_
      refine z_aload_n C 0 (by rfl) dX3_shorten_17 ?_
      refine z_iload_n C 2 (by rfl) dX3_shorten_18 ?_
      obtain ⟨s29, hw⟩ := hw
      refine z_iald C h0.2 (tE13 h0.1) s29 dX3_shorten_19 ?_
      refine z_iload_n C 3 (by rfl) dX3_shorten_20 ?_
      refine z_iadd C dX3_shorten_21 ?_
      refine z_icmp_gt (tgt := 27) C dX3_shorten_22 (by decide) (fun c30 => ?_) (fun c30 => ?_)
      · have hw := hw.1 c30
        refine z_aload_n C 0 (by rfl) dX3_shorten_27 ?_
        refine z_iload_n C 1 (by rfl) dX3_shorten_28 ?_
        refine z_aload_n C 0 (by rfl) dX3_shorten_29 ?_
        refine z_iload_n C 2 (by rfl) dX3_shorten_30 ?_
        obtain ⟨s31, hw⟩ := hw
        refine z_iald C h0.2 (tE13 h0.1) s31 dX3_shorten_31 ?_
        refine z_iload_n C 3 (by rfl) dX3_shorten_32 ?_
        refine z_iadd C dX3_shorten_33 ?_
        obtain ⟨s32, hw⟩ := hw
        refine z_iast C h0.2 (fun _ => tE13 h0.1) s32 dX3_shorten_34 (fun τ33 eτ33 => ?_)
        have hw := hw τ33 eτ33
        refine z_iconst C 1 (by decide) dX3_shorten_35 ?_
        exact hR _ _ _ _ dX3_shorten_36 rfl hw
      · have hw := hw.2 c30
        refine z_iconst C 0 (by decide) dX3_shorten_25 ?_
        exact hR _ _ _ _ dX3_shorten_26 rfl hw
def wp_X3_spread (τ : TS) (i0 : Nat) (x1 : Int32) (x2 : Int32) (j3 : Nat) (K : TS → Prop) : Prop :=
  ∃ (I23 : TS → Int32 → Prop) (u23 : TS → Int32 → Nat), I23 τ 0 ∧ ∀ (τ21 : TS) (x22 : Int32), I23 τ21 x22 → (((8 ≤ x22) → (∃ (I28 : TS → Int32 → Int32 → Prop) (u28 : TS → Int32 → Int32 → Nat), I28 τ21 1 0 ∧ ∀ (τ25 : TS) (x26 : Int32) (x27 : Int32), I28 τ25 x26 x27 → ((((τ25 i0 0) ≤ x27) → (K τ25)) ∧ ((¬ (τ25 i0 0) ≤ x27) → (((x26 = 0) → (K τ25)) ∧ ((¬ x26 = 0) → (∃ (I34 : TS → Int32 → Int32 → Prop) (u34 : TS → Int32 → Int32 → Nat), I34 τ25 0 0 ∧ ∀ (τ31 : TS) (x32 : Int32) (x33 : Int32), I34 τ31 x32 x33 → ((((τ31 i0 1) ≤ x33) → (∀ x36 : Int32, x36 = x27 + 1 → I28 τ31 x32 x36 ∧ u28 τ31 x32 x36 < u28 τ25 x26 x27)) ∧ ((¬ (τ31 i0 1) ≤ x33) → (vp_in x33 12 ∧ ((((τ31 6 (Int32.toNatClampNeg x33)) = 0) → (∀ x39 : Int32, x39 = x33 + 1 → I34 τ31 x32 x39 ∧ u34 τ31 x32 x39 < u34 τ31 x32 x33)) ∧ ((¬ (τ31 6 (Int32.toNatClampNeg x33)) = 0) → (((x33 = x2) → (∀ x41 : Int32, x41 = x33 + 1 → I34 τ31 x32 x41 ∧ u34 τ31 x32 x41 < u34 τ31 x32 x33)) ∧ ((¬ x33 = x2) → (vp_in x33 12 ∧ (vp_in x33 12 ∧ (vp_in x33 12 ∧ (wp_X3_shorten τ31 j3 (τ31 2 (Int32.toNatClampNeg x33)) (τ31 3 (Int32.toNatClampNeg x33)) (τ31 4 (Int32.toNatClampNeg x33)) (fun τ45 x46 => vp_in x33 12 ∧ (vp_in x33 12 ∧ (vp_in x33 12 ∧ (wp_X3_shorten τ45 j3 (τ45 3 (Int32.toNatClampNeg x33)) (τ45 2 (Int32.toNatClampNeg x33)) (τ45 4 (Int32.toNatClampNeg x33)) (fun τ50 x51 => ((¬ x32 = 0) → (∀ x53 : Int32, x53 = x33 + 1 → I34 τ50 1 x53 ∧ u34 τ50 1 x53 < u34 τ31 x32 x33)) ∧ ((x32 = 0) → (((¬ x46 = 0) → (∀ x55 : Int32, x55 = x33 + 1 → I34 τ50 1 x55 ∧ u34 τ50 1 x55 < u34 τ31 x32 x33)) ∧ ((x46 = 0) → (((x51 = 0) → (∀ x57 : Int32, x57 = x33 + 1 → I34 τ50 0 x57 ∧ u34 τ50 0 x57 < u34 τ31 x32 x33)) ∧ ((¬ x51 = 0) → (∀ x58 : Int32, x58 = x33 + 1 → I34 τ50 1 x58 ∧ u34 τ50 1 x58 < u34 τ31 x32 x33))))))))))))))))))))))))))))) ∧ ((¬ 8 ≤ x22) → (((¬ x22 = x1) → (vp_in x22 8 ∧ (∀ τ61 : TS, τ61 = tp_up τ21 j3 (Int32.toNatClampNeg x22) (-1) → ∀ x62 : Int32, x62 = x22 + 1 → I23 τ61 x62 ∧ u23 τ61 x62 < u23 τ21 x22))) ∧ ((x22 = x1) → (vp_in x22 8 ∧ (∀ τ64 : TS, τ64 = tp_up τ21 j3 (Int32.toNatClampNeg x22) 0 → ∀ x65 : Int32, x65 = x22 + 1 → I23 τ64 x65 ∧ u23 τ64 x65 < u23 τ21 x22))))))
theorem mw_X3_spread_0 : Cond.fieldLink RX3 36 "TidePost$Net" "nodes" "I" ∈ wsX3_spread := List.mem_of_getElem? (i := 1) rfl
theorem mw_X3_spread_1 : Cond.fieldLink RX3 43 "TidePost$Net" "links" "I" ∈ wsX3_spread := List.mem_of_getElem? (i := 2) rfl
theorem mw_X3_spread_2 : Cond.fieldLink RX3 24 "TidePost$Net" "up" "[Z" ∈ wsX3_spread := List.mem_of_getElem? (i := 3) rfl
theorem mw_X3_spread_3 : Cond.fieldLink RX3 9 "TidePost$Net" "firsts" "[I" ∈ wsX3_spread := List.mem_of_getElem? (i := 4) rfl
theorem mw_X3_spread_4 : Cond.fieldLink RX3 15 "TidePost$Net" "seconds" "[I" ∈ wsX3_spread := List.mem_of_getElem? (i := 5) rfl
theorem mw_X3_spread_5 : Cond.fieldLink RX3 18 "TidePost$Net" "delays" "[I" ∈ wsX3_spread := List.mem_of_getElem? (i := 6) rfl
theorem in_X3_spread_X3 : ∀ x ∈ wsX30, x ∈ wsX3_spread := fun _ h => List.mem_cons_of_mem _ (List.mem_append_right _ h)
set_option maxHeartbeats 4000000 in
set_option maxRecDepth 100000 in
theorem c_X3_spread (w : WPar) (τ : TS) (i0 : Nat) (x1 : Int32) (x2 : Int32) (j3 : Nat) (K : TS → Prop) (h0 : tp_is i0 3) (h3 : tp_is j3 13) (hw : wp_X3_spread τ i0 x1 x2 j3 K) : MV w yX3_spread wsX3_spread 1 23 [.ref (w.1 i0), .int x1, .int x2, .ref (w.1 j3)] τ K := by
  refine tp_enterV (cc := cX3_spread) (maxL := 9) (own := RX3) (by decide) rfl rfl (Nat.le_of_ble_eq_true rfl) (fun g C hR => ?_)
  show Zt w g τ (0, 0) 0 [(0, .ref (w.1 i0)), (1, .int x1), (2, .int x2), (3, .ref (w.1 j3))] []
  unfold wp_X3_spread at hw
  refine z_iconst C 0 (by decide) dX3_spread_0 ?_
  refine z_istore C [(4, .int 0), (0, .ref (w.1 i0)), (1, .int x1), (2, .int x2), (3, .ref (w.1 j3))] dX3_spread_1 (by decide) rfl ?_
  obtain ⟨I23, u23, hI23, hs23⟩ := hw
  have lp23 : ∀ (n23 : Nat) (τ21 : TS) (x22 : Int32), u23 τ21 x22 < n23 → I23 τ21 x22 → Zt w g τ21 (0, 0) 3 [(0, .ref (w.1 i0)), (1, .int x1), (2, .int x2), (3, .ref (w.1 j3)), (4, .int x22)] [] := by
    intro n23
    induction n23 with
    | zero => intro τ21 x22 hlt23; exact absurd hlt23 (Nat.not_lt_zero _)
    | succ n23 ih23 =>
      intro τ21 x22 hlt23 hh23
      have hw := hs23 τ21 x22 hh23
      refine z_iload C 4 (by rfl) dX3_spread_3 ?_
      refine z_aload_n C 3 (by rfl) dX3_spread_5 ?_
      refine z_alen C 0 8 h3.2 (tE13 h3.1) rfl rfl dX3_spread_6 ?_
      refine z_icmp_ge (tgt := 31) C dX3_spread_7 (by decide) (fun c24 => ?_) (fun c24 => ?_)
      · have hw := hw.1 c24
        refine z_iconst C 1 (by decide) dX3_spread_31 ?_
        refine z_istore C [(4, .int 1), (0, .ref (w.1 i0)), (1, .int x1), (2, .int x2), (3, .ref (w.1 j3))] dX3_spread_32 (by decide) rfl ?_
        refine z_iconst C 0 (by decide) dX3_spread_34 ?_
        refine z_istore C [(5, .int 0), (4, .int 1), (0, .ref (w.1 i0)), (1, .int x1), (2, .int x2), (3, .ref (w.1 j3))] dX3_spread_35 (by decide) rfl ?_
        obtain ⟨I28, u28, hI28, hs28⟩ := hw
        have lp28 : ∀ (n28 : Nat) (τ25 : TS) (x26 : Int32) (x27 : Int32), u28 τ25 x26 x27 < n28 → I28 τ25 x26 x27 → Zt w g τ25 (0, 0) 37 [(0, .ref (w.1 i0)), (2, .int x2), (3, .ref (w.1 j3)), (4, .int x26), (5, .int x27)] [] := by
          intro n28
          induction n28 with
          | zero => intro τ25 x26 x27 hlt28; exact absurd hlt28 (Nat.not_lt_zero _)
          | succ n28 ih28 =>
            intro τ25 x26 x27 hlt28 hh28
            have hw := hs28 τ25 x26 x27 hh28
            refine z_iload C 4 (by rfl) dX3_spread_37 ?_
            refine z_aload_n C 0 (by rfl) dX3_spread_39 ?_
            refine z_get C (Cn := RX3) (T := TX3) (N := 9) (ci := 3) h0.2 0 (tE3 h0.1) in_X3_spread_X3 rfl (by decide) mw_X3_spread_0 rfl rfl dX3_spread_40 ?_
            refine z_icmp_ge (tgt := 170) C dX3_spread_43 (by decide) (fun c29 => ?_) (fun c29 => ?_)
            · have hw := hw.1 c29
              exact hR _ _ _ dX3_spread_170 hw
            · have hw := hw.2 c29
              refine z_iload C 3 (by rfl) dX3_spread_46 ?_
              refine z_if_eq (tgt := 170) C dX3_spread_48 (by decide) (fun c30 => ?_) (fun c30 => ?_)
              · have hw := hw.1 c30
                exact hR _ _ _ dX3_spread_170 hw
              · have hw := hw.2 c30
                refine z_iconst C 0 (by decide) dX3_spread_51 ?_
                refine z_istore C [(4, .int 0), (0, .ref (w.1 i0)), (2, .int x2), (3, .ref (w.1 j3)), (5, .int x27)] dX3_spread_52 (by decide) rfl ?_
                refine z_iconst C 0 (by decide) dX3_spread_54 ?_
                refine z_istore C [(6, .int 0), (4, .int 0), (0, .ref (w.1 i0)), (2, .int x2), (3, .ref (w.1 j3)), (5, .int x27)] dX3_spread_55 (by decide) rfl ?_
                obtain ⟨I34, u34, hI34, hs34⟩ := hw
                have lp34 : ∀ (n34 : Nat) (τ31 : TS) (x32 : Int32) (x33 : Int32), u34 τ31 x32 x33 < n34 → I34 τ31 x32 x33 → Zt w g τ31 (0, 0) 57 [(0, .ref (w.1 i0)), (2, .int x2), (3, .ref (w.1 j3)), (4, .int x32), (5, .int x27), (6, .int x33)] [] := by
                  intro n34
                  induction n34 with
                  | zero => intro τ31 x32 x33 hlt34; exact absurd hlt34 (Nat.not_lt_zero _)
                  | succ n34 ih34 =>
                    intro τ31 x32 x33 hlt34 hh34
                    have hw := hs34 τ31 x32 x33 hh34
                    refine z_iload C 5 (by rfl) dX3_spread_57 ?_
                    refine z_aload_n C 0 (by rfl) dX3_spread_59 ?_
                    refine z_get C (Cn := RX3) (T := TX3) (N := 9) (ci := 3) h0.2 1 (tE3 h0.1) in_X3_spread_X3 rfl (by decide) mw_X3_spread_1 rfl rfl dX3_spread_60 ?_
                    refine z_icmp_ge (tgt := 164) C dX3_spread_63 (by decide) (fun c35 => ?_) (fun c35 => ?_)
                    · have hw := hw.1 c35
                      obtain ⟨x36, ex36⟩ : ∃ z : Int32, z = x27 + 1 := ⟨_, rfl⟩
                      have hw := hw x36 ex36
                      refine z_iinc C 4 x36 [(5, .int x36), (0, .ref (w.1 i0)), (2, .int x2), (3, .ref (w.1 j3)), (4, .int x32), (6, .int x33)] dX3_spread_164 (by rfl) (by rw [ex36]; rfl) (by decide) rfl ?_
                      refine z_goto (tgt := 37) C dX3_spread_167 (by decide) ?_
                      refine z_sub [1, 2, 3, 4, 0] [(0, .ref (w.1 i0)), (2, .int x2), (3, .ref (w.1 j3)), (4, .int x32), (5, .int x36)] rfl ?_
                      exact ih28 τ31 x32 x36 (Nat.lt_of_lt_of_le hw.2 (Nat.le_of_lt_succ hlt28)) hw.1
                    · have hw := hw.2 c35
                      refine z_aload_n C 0 (by rfl) dX3_spread_66 ?_
                      refine z_get C (Cn := RX3) (T := TX3) (N := 9) (ci := 3) h0.2 6 (tE3 h0.1) in_X3_spread_X3 rfl (by decide) mw_X3_spread_2 rfl rfl dX3_spread_67 ?_
                      refine z_iload C 5 (by rfl) dX3_spread_70 ?_
                      obtain ⟨s37, hw⟩ := hw
                      refine z_zald C tR3_6.2 (tE12 tR3_6.1) s37 dX3_spread_72 ?_
                      refine z_if_eq (tgt := 158) C dX3_spread_73 (by decide) (fun c38 => ?_) (fun c38 => ?_)
                      · have hw := hw.1 c38
                        obtain ⟨x39, ex39⟩ : ∃ z : Int32, z = x33 + 1 := ⟨_, rfl⟩
                        have hw := hw x39 ex39
                        refine z_iinc C 5 x39 [(6, .int x39), (0, .ref (w.1 i0)), (2, .int x2), (3, .ref (w.1 j3)), (4, .int x32), (5, .int x27)] dX3_spread_158 (by rfl) (by rw [ex39]; rfl) (by decide) rfl ?_
                        refine z_goto (tgt := 57) C dX3_spread_161 (by decide) ?_
                        refine z_sub [1, 2, 3, 4, 5, 0] [(0, .ref (w.1 i0)), (2, .int x2), (3, .ref (w.1 j3)), (4, .int x32), (5, .int x27), (6, .int x39)] rfl ?_
                        exact ih34 τ31 x32 x39 (Nat.lt_of_lt_of_le hw.2 (Nat.le_of_lt_succ hlt34)) hw.1
                      · have hw := hw.2 c38
                        refine z_iload C 5 (by rfl) dX3_spread_76 ?_
                        refine z_iload_n C 1 (by rfl) dX3_spread_78 ?_
                        refine z_icmp_eq (tgt := 158) C dX3_spread_79 (by decide) (fun c40 => ?_) (fun c40 => ?_)
                        · have hw := hw.1 c40
                          obtain ⟨x41, ex41⟩ : ∃ z : Int32, z = x33 + 1 := ⟨_, rfl⟩
                          have hw := hw x41 ex41
                          refine z_iinc C 5 x41 [(6, .int x41), (0, .ref (w.1 i0)), (2, .int x2), (3, .ref (w.1 j3)), (4, .int x32), (5, .int x27)] dX3_spread_158 (by rfl) (by rw [ex41]; rfl) (by decide) rfl ?_
                          refine z_goto (tgt := 57) C dX3_spread_161 (by decide) ?_
                          refine z_sub [1, 2, 3, 4, 5, 0] [(0, .ref (w.1 i0)), (2, .int x2), (3, .ref (w.1 j3)), (4, .int x32), (5, .int x27), (6, .int x41)] rfl ?_
                          exact ih34 τ31 x32 x41 (Nat.lt_of_lt_of_le hw.2 (Nat.le_of_lt_succ hlt34)) hw.1
                        · have hw := hw.2 c40
                          refine z_aload_n C 2 (by rfl) dX3_spread_82 ?_
                          refine z_aload_n C 0 (by rfl) dX3_spread_83 ?_
                          refine z_get C (Cn := RX3) (T := TX3) (N := 9) (ci := 3) h0.2 2 (tE3 h0.1) in_X3_spread_X3 rfl (by decide) mw_X3_spread_3 rfl rfl dX3_spread_84 ?_
                          refine z_iload C 5 (by rfl) dX3_spread_87 ?_
                          obtain ⟨s42, hw⟩ := hw
                          refine z_iald C tR3_2.2 (tE11 tR3_2.1) s42 dX3_spread_89 ?_
                          refine z_aload_n C 0 (by rfl) dX3_spread_90 ?_
                          refine z_get C (Cn := RX3) (T := TX3) (N := 9) (ci := 3) h0.2 3 (tE3 h0.1) in_X3_spread_X3 rfl (by decide) mw_X3_spread_4 rfl rfl dX3_spread_91 ?_
                          refine z_iload C 5 (by rfl) dX3_spread_94 ?_
                          obtain ⟨s43, hw⟩ := hw
                          refine z_iald C tR3_3.2 (tE11 tR3_3.1) s43 dX3_spread_96 ?_
                          refine z_aload_n C 0 (by rfl) dX3_spread_97 ?_
                          refine z_get C (Cn := RX3) (T := TX3) (N := 9) (ci := 3) h0.2 4 (tE3 h0.1) in_X3_spread_X3 rfl (by decide) mw_X3_spread_5 rfl rfl dX3_spread_98 ?_
                          refine z_iload C 5 (by rfl) dX3_spread_101 ?_
                          obtain ⟨s44, hw⟩ := hw
                          refine z_iald C tR3_4.2 (tE11 tR3_4.1) s44 dX3_spread_103 ?_
                          refine zs_i C (As := [.ref (w.1 j3), .int (τ31 2 (Int32.toNatClampNeg x33)), .int (τ31 3 (Int32.toNatClampNeg x33)), .int (τ31 4 (Int32.toNatClampNeg x33))]) (bytes := cX3_shorten) (maxL := 4) (F1 := 0) (L1 := 0) (c_X3_shorten w _ j3 (τ31 2 (Int32.toNatClampNeg x33)) (τ31 3 (Int32.toNatClampNeg x33)) (τ31 4 (Int32.toNatClampNeg x33)) _ h3 hw) 4 gX3_spread_X3_shorten rfl (by decide +kernel) ⟨Nat.le_of_ble_eq_true rfl, Nat.le_of_ble_eq_true rfl⟩ rfl (Nat.le_of_ble_eq_true rfl) ⟨Nat.zero_le _, Nat.zero_le _⟩ rfl dX3_spread_104 (fun x46 τ45 hw => ?_)
                          refine z_istore C [(7, .int x46), (0, .ref (w.1 i0)), (2, .int x2), (3, .ref (w.1 j3)), (4, .int x32), (5, .int x27), (6, .int x33)] dX3_spread_107 (by decide) rfl ?_
                          refine z_aload_n C 3 (by rfl) dX3_spread_109 ?_
                          refine z_aload_n C 1 (by rfl) dX3_spread_110 ?_
                          refine z_get C (Cn := RX3) (T := TX3) (N := 9) (ci := 3) h0.2 3 (tE3 h0.1) in_X3_spread_X3 rfl (by decide) mw_X3_spread_4 rfl rfl dX3_spread_111 ?_
                          refine z_iload C 6 (by rfl) dX3_spread_114 ?_
                          obtain ⟨s47, hw⟩ := hw
                          refine z_iald C tR3_3.2 (tE11 tR3_3.1) s47 dX3_spread_116 ?_
                          refine z_aload_n C 1 (by rfl) dX3_spread_117 ?_
                          refine z_get C (Cn := RX3) (T := TX3) (N := 9) (ci := 3) h0.2 2 (tE3 h0.1) in_X3_spread_X3 rfl (by decide) mw_X3_spread_3 rfl rfl dX3_spread_118 ?_
                          refine z_iload C 6 (by rfl) dX3_spread_121 ?_
                          obtain ⟨s48, hw⟩ := hw
                          refine z_iald C tR3_2.2 (tE11 tR3_2.1) s48 dX3_spread_123 ?_
                          refine z_aload_n C 1 (by rfl) dX3_spread_124 ?_
                          refine z_get C (Cn := RX3) (T := TX3) (N := 9) (ci := 3) h0.2 4 (tE3 h0.1) in_X3_spread_X3 rfl (by decide) mw_X3_spread_5 rfl rfl dX3_spread_125 ?_
                          refine z_iload C 6 (by rfl) dX3_spread_128 ?_
                          obtain ⟨s49, hw⟩ := hw
                          refine z_iald C tR3_4.2 (tE11 tR3_4.1) s49 dX3_spread_130 ?_
                          refine zs_i C (As := [.ref (w.1 j3), .int (τ45 3 (Int32.toNatClampNeg x33)), .int (τ45 2 (Int32.toNatClampNeg x33)), .int (τ45 4 (Int32.toNatClampNeg x33))]) (bytes := cX3_shorten) (maxL := 4) (F1 := 0) (L1 := 0) (c_X3_shorten w _ j3 (τ45 3 (Int32.toNatClampNeg x33)) (τ45 2 (Int32.toNatClampNeg x33)) (τ45 4 (Int32.toNatClampNeg x33)) _ h3 hw) 4 gX3_spread_X3_shorten rfl (by decide +kernel) ⟨Nat.le_of_ble_eq_true rfl, Nat.le_of_ble_eq_true rfl⟩ rfl (Nat.le_of_ble_eq_true rfl) ⟨Nat.zero_le _, Nat.zero_le _⟩ rfl dX3_spread_131 (fun x51 τ50 hw => ?_)
                          refine z_istore C [(8, .int x51), (7, .int x46), (0, .ref (w.1 i0)), (2, .int x2), (3, .ref (w.1 j3)), (4, .int x32), (5, .int x27), (6, .int x33)] dX3_spread_134 (by decide) rfl ?_
                          refine z_iload C 5 (by rfl) dX3_spread_136 ?_
                          refine z_if_ne (tgt := 151) C dX3_spread_138 (by decide) (fun c52 => ?_) (fun c52 => ?_)
                          · have hw := hw.1 c52
                            refine z_iconst C 1 (by decide) dX3_spread_151 ?_
                            refine z_goto (tgt := 156) C dX3_spread_152 (by decide) ?_
                            refine z_istore C [(4, .int 1), (8, .int x51), (7, .int x46), (0, .ref (w.1 i0)), (2, .int x2), (3, .ref (w.1 j3)), (5, .int x27), (6, .int x33)] dX3_spread_156 (by decide) rfl ?_
                            obtain ⟨x53, ex53⟩ : ∃ z : Int32, z = x33 + 1 := ⟨_, rfl⟩
                            have hw := hw x53 ex53
                            refine z_iinc C 7 x53 [(6, .int x53), (4, .int 1), (8, .int x51), (7, .int x46), (0, .ref (w.1 i0)), (2, .int x2), (3, .ref (w.1 j3)), (5, .int x27)] dX3_spread_158 (by rfl) (by rw [ex53]; rfl) (by decide) rfl ?_
                            refine z_goto (tgt := 57) C dX3_spread_161 (by decide) ?_
                            refine z_sub [4, 5, 6, 1, 7, 0] [(0, .ref (w.1 i0)), (2, .int x2), (3, .ref (w.1 j3)), (4, .int 1), (5, .int x27), (6, .int x53)] rfl ?_
                            exact ih34 τ50 1 x53 (Nat.lt_of_lt_of_le hw.2 (Nat.le_of_lt_succ hlt34)) hw.1
                          · have hw := hw.2 c52
                            refine z_iload C 1 (by rfl) dX3_spread_141 ?_
                            refine z_if_ne (tgt := 151) C dX3_spread_143 (by decide) (fun c54 => ?_) (fun c54 => ?_)
                            · have hw := hw.1 c54
                              refine z_iconst C 1 (by decide) dX3_spread_151 ?_
                              refine z_goto (tgt := 156) C dX3_spread_152 (by decide) ?_
                              refine z_istore C [(4, .int 1), (8, .int x51), (7, .int x46), (0, .ref (w.1 i0)), (2, .int x2), (3, .ref (w.1 j3)), (5, .int x27), (6, .int x33)] dX3_spread_156 (by decide) rfl ?_
                              obtain ⟨x55, ex55⟩ : ∃ z : Int32, z = x33 + 1 := ⟨_, rfl⟩
                              have hw := hw x55 ex55
                              refine z_iinc C 7 x55 [(6, .int x55), (4, .int 1), (8, .int x51), (7, .int x46), (0, .ref (w.1 i0)), (2, .int x2), (3, .ref (w.1 j3)), (5, .int x27)] dX3_spread_158 (by rfl) (by rw [ex55]; rfl) (by decide) rfl ?_
                              refine z_goto (tgt := 57) C dX3_spread_161 (by decide) ?_
                              refine z_sub [4, 5, 6, 1, 7, 0] [(0, .ref (w.1 i0)), (2, .int x2), (3, .ref (w.1 j3)), (4, .int 1), (5, .int x27), (6, .int x55)] rfl ?_
                              exact ih34 τ50 1 x55 (Nat.lt_of_lt_of_le hw.2 (Nat.le_of_lt_succ hlt34)) hw.1
                            · have hw := hw.2 c54
                              refine z_iload C 0 (by rfl) dX3_spread_146 ?_
                              refine z_if_eq (tgt := 155) C dX3_spread_148 (by decide) (fun c56 => ?_) (fun c56 => ?_)
                              · have hw := hw.1 c56
                                refine z_iconst C 0 (by decide) dX3_spread_155 ?_
                                refine z_istore C [(4, .int 0), (8, .int x51), (7, .int x46), (0, .ref (w.1 i0)), (2, .int x2), (3, .ref (w.1 j3)), (5, .int x27), (6, .int x33)] dX3_spread_156 (by decide) rfl ?_
                                obtain ⟨x57, ex57⟩ : ∃ z : Int32, z = x33 + 1 := ⟨_, rfl⟩
                                have hw := hw x57 ex57
                                refine z_iinc C 7 x57 [(6, .int x57), (4, .int 0), (8, .int x51), (7, .int x46), (0, .ref (w.1 i0)), (2, .int x2), (3, .ref (w.1 j3)), (5, .int x27)] dX3_spread_158 (by rfl) (by rw [ex57]; rfl) (by decide) rfl ?_
                                refine z_goto (tgt := 57) C dX3_spread_161 (by decide) ?_
                                refine z_sub [4, 5, 6, 1, 7, 0] [(0, .ref (w.1 i0)), (2, .int x2), (3, .ref (w.1 j3)), (4, .int 0), (5, .int x27), (6, .int x57)] rfl ?_
                                exact ih34 τ50 0 x57 (Nat.lt_of_lt_of_le hw.2 (Nat.le_of_lt_succ hlt34)) hw.1
                              · have hw := hw.2 c56
                                refine z_iconst C 1 (by decide) dX3_spread_151 ?_
                                refine z_goto (tgt := 156) C dX3_spread_152 (by decide) ?_
                                refine z_istore C [(4, .int 1), (8, .int x51), (7, .int x46), (0, .ref (w.1 i0)), (2, .int x2), (3, .ref (w.1 j3)), (5, .int x27), (6, .int x33)] dX3_spread_156 (by decide) rfl ?_
                                obtain ⟨x58, ex58⟩ : ∃ z : Int32, z = x33 + 1 := ⟨_, rfl⟩
                                have hw := hw x58 ex58
                                refine z_iinc C 7 x58 [(6, .int x58), (4, .int 1), (8, .int x51), (7, .int x46), (0, .ref (w.1 i0)), (2, .int x2), (3, .ref (w.1 j3)), (5, .int x27)] dX3_spread_158 (by rfl) (by rw [ex58]; rfl) (by decide) rfl ?_
                                refine z_goto (tgt := 57) C dX3_spread_161 (by decide) ?_
                                refine z_sub [4, 5, 6, 1, 7, 0] [(0, .ref (w.1 i0)), (2, .int x2), (3, .ref (w.1 j3)), (4, .int 1), (5, .int x27), (6, .int x58)] rfl ?_
                                exact ih34 τ50 1 x58 (Nat.lt_of_lt_of_le hw.2 (Nat.le_of_lt_succ hlt34)) hw.1
                refine z_sub [2, 3, 4, 1, 5, 0] [(0, .ref (w.1 i0)), (2, .int x2), (3, .ref (w.1 j3)), (4, .int 0), (5, .int x27), (6, .int 0)] rfl ?_
                exact lp34 _ τ25 0 0 (Nat.lt_succ_self _) hI34
        refine z_sub [2, 4, 5, 1, 0] [(0, .ref (w.1 i0)), (2, .int x2), (3, .ref (w.1 j3)), (4, .int 1), (5, .int 0)] rfl ?_
        exact lp28 _ τ21 1 0 (Nat.lt_succ_self _) hI28
      · have hw := hw.2 c24
        refine z_aload_n C 3 (by rfl) dX3_spread_10 ?_
        refine z_iload C 4 (by rfl) dX3_spread_11 ?_
        refine z_iload C 4 (by rfl) dX3_spread_13 ?_
        refine z_iload_n C 1 (by rfl) dX3_spread_15 ?_
        refine z_icmp_ne (tgt := 23) C dX3_spread_16 (by decide) (fun c59 => ?_) (fun c59 => ?_)
        · have hw := hw.1 c59
          refine z_iconst C (-1) (by decide) dX3_spread_23 ?_
          obtain ⟨s60, hw⟩ := hw
          refine z_iast C h3.2 (fun _ => tE13 h3.1) s60 dX3_spread_24 (fun τ61 eτ61 => ?_)
          have hw := hw τ61 eτ61
          obtain ⟨x62, ex62⟩ : ∃ z : Int32, z = x22 + 1 := ⟨_, rfl⟩
          have hw := hw x62 ex62
          refine z_iinc C 4 x62 [(4, .int x62), (0, .ref (w.1 i0)), (1, .int x1), (2, .int x2), (3, .ref (w.1 j3))] dX3_spread_25 (by rfl) (by rw [ex62]; rfl) (by decide) rfl ?_
          refine z_goto (tgt := 3) C dX3_spread_28 (by decide) ?_
          refine z_sub [1, 2, 3, 4, 0] [(0, .ref (w.1 i0)), (1, .int x1), (2, .int x2), (3, .ref (w.1 j3)), (4, .int x62)] rfl ?_
          exact ih23 τ61 x62 (Nat.lt_of_lt_of_le hw.2 (Nat.le_of_lt_succ hlt23)) hw.1
        · have hw := hw.2 c59
          refine z_iconst C 0 (by decide) dX3_spread_19 ?_
          refine z_goto (tgt := 24) C dX3_spread_20 (by decide) ?_
          obtain ⟨s63, hw⟩ := hw
          refine z_iast C h3.2 (fun _ => tE13 h3.1) s63 dX3_spread_24 (fun τ64 eτ64 => ?_)
          have hw := hw τ64 eτ64
          obtain ⟨x65, ex65⟩ : ∃ z : Int32, z = x22 + 1 := ⟨_, rfl⟩
          have hw := hw x65 ex65
          refine z_iinc C 4 x65 [(4, .int x65), (0, .ref (w.1 i0)), (1, .int x1), (2, .int x2), (3, .ref (w.1 j3))] dX3_spread_25 (by rfl) (by rw [ex65]; rfl) (by decide) rfl ?_
          refine z_goto (tgt := 3) C dX3_spread_28 (by decide) ?_
          refine z_sub [1, 2, 3, 4, 0] [(0, .ref (w.1 i0)), (1, .int x1), (2, .int x2), (3, .ref (w.1 j3)), (4, .int x65)] rfl ?_
          exact ih23 τ64 x65 (Nat.lt_of_lt_of_le hw.2 (Nat.le_of_lt_succ hlt23)) hw.1
  refine z_sub [1, 2, 3, 4, 0] [(0, .ref (w.1 i0)), (1, .int x1), (2, .int x2), (3, .ref (w.1 j3)), (4, .int 0)] rfl ?_
  exact lp23 _ τ 0 (Nat.lt_succ_self _) hI23
def wp_X3_measureRoutes (τ : TS) (i0 : Nat) (K : TS → Prop) : Prop :=
  ∃ (I23 : TS → Int32 → Prop) (u23 : TS → Int32 → Nat), I23 τ 0 ∧ ∀ (τ21 : TS) (x22 : Int32), I23 τ21 x22 → ((((τ21 i0 0) ≤ x22) → (K τ21)) ∧ ((¬ (τ21 i0 0) ≤ x22) → (vp_in x22 8 ∧ (wp_X3_spread τ21 i0 x22 (-1) (8 + (Int32.toNatClampNeg x22)) (fun τ26 => ∀ x27 : Int32, x27 = x22 + 1 → I23 τ26 x27 ∧ u23 τ26 x27 < u23 τ21 x22)))))
theorem mw_X3_measureRoutes_0 : Cond.fieldLink RX3 36 "TidePost$Net" "nodes" "I" ∈ wsX3_measureRoutes := List.mem_of_getElem? (i := 1) rfl
theorem mw_X3_measureRoutes_1 : Cond.fieldLink RX3 30 "TidePost$Net" "distances" "[[I" ∈ wsX3_measureRoutes := List.mem_of_getElem? (i := 2) rfl
theorem in_X3_measureRoutes_X3 : ∀ x ∈ wsX30, x ∈ wsX3_measureRoutes := fun _ h => List.mem_cons_of_mem _ (List.mem_append_right _ h)
set_option maxHeartbeats 4000000 in
set_option maxRecDepth 100000 in
theorem c_X3_measureRoutes (w : WPar) (τ : TS) (i0 : Nat) (K : TS → Prop) (h0 : tp_is i0 3) (hw : wp_X3_measureRoutes τ i0 K) : MV w yX3_measureRoutes wsX3_measureRoutes 2 51 [.ref (w.1 i0)] τ K := by
  refine tp_enterV (cc := cX3_measureRoutes) (maxL := 2) (own := RX3) (by decide) rfl rfl (Nat.le_of_ble_eq_true rfl) (fun g C hR => ?_)
  show Zt w g τ (0, 0) 0 [(0, .ref (w.1 i0))] []
  unfold wp_X3_measureRoutes at hw
  refine z_iconst C 0 (by decide) dX3_measureRoutes_0 ?_
  refine z_istore_n C [(1, .int 0), (0, .ref (w.1 i0))] dX3_measureRoutes_1 (by decide) rfl ?_
  obtain ⟨I23, u23, hI23, hs23⟩ := hw
  have lp23 : ∀ (n23 : Nat) (τ21 : TS) (x22 : Int32), u23 τ21 x22 < n23 → I23 τ21 x22 → Zt w g τ21 (0, 0) 2 [(0, .ref (w.1 i0)), (1, .int x22)] [] := by
    intro n23
    induction n23 with
    | zero => intro τ21 x22 hlt23; exact absurd hlt23 (Nat.not_lt_zero _)
    | succ n23 ih23 =>
      intro τ21 x22 hlt23 hh23
      have hw := hs23 τ21 x22 hh23
      refine z_iload_n C 1 (by rfl) dX3_measureRoutes_2 ?_
      refine z_aload_n C 0 (by rfl) dX3_measureRoutes_3 ?_
      refine z_get C (Cn := RX3) (T := TX3) (N := 9) (ci := 3) h0.2 0 (tE3 h0.1) in_X3_measureRoutes_X3 rfl (by decide) mw_X3_measureRoutes_0 rfl rfl dX3_measureRoutes_4 ?_
      refine z_icmp_ge (tgt := 28) C dX3_measureRoutes_7 (by decide) (fun c24 => ?_) (fun c24 => ?_)
      · have hw := hw.1 c24
        exact hR _ _ _ dX3_measureRoutes_28 hw
      · have hw := hw.2 c24
        refine z_aload_n C 0 (by rfl) dX3_measureRoutes_10 ?_
        refine z_iload_n C 1 (by rfl) dX3_measureRoutes_11 ?_
        refine z_iconst C (-1) (by decide) dX3_measureRoutes_12 ?_
        refine z_aload_n C 0 (by rfl) dX3_measureRoutes_13 ?_
        refine z_get C (Cn := RX3) (T := TX3) (N := 9) (ci := 3) h0.2 7 (tE3 h0.1) in_X3_measureRoutes_X3 rfl (by decide) mw_X3_measureRoutes_1 rfl rfl dX3_measureRoutes_14 ?_
        refine z_iload_n C 1 (by rfl) dX3_measureRoutes_17 ?_
        obtain ⟨s25, hw⟩ := hw
        refine z_aald_q4 C tR3_7.2 (tE14 tR3_7.1) s25 (if_pos (tp_lt s25)) dX3_measureRoutes_18 ?_
        refine zv_v C (As := [.int x22, .int (-1), .ref (w.1 (8 + (Int32.toNatClampNeg x22)))]) (bytes := cX3_spread) (maxL := 9) (F1 := 1) (L1 := 23) (c_X3_spread w _ i0 x22 (-1) (8 + (Int32.toNatClampNeg x22)) _ h0 (tR14 tR3_7 (tp_lt s25)) hw) h0.2 (tE3 h0.1) rfl 3 gX3_measureRoutes_X3_spread rfl (by decide +kernel) ⟨Nat.le_of_ble_eq_true rfl, Nat.le_of_ble_eq_true rfl⟩ rfl (Nat.le_of_ble_eq_true rfl) ⟨Nat.zero_le _, Nat.zero_le _⟩ rfl dX3_measureRoutes_19 (fun τ26 hw => ?_)
        obtain ⟨x27, ex27⟩ : ∃ z : Int32, z = x22 + 1 := ⟨_, rfl⟩
        have hw := hw x27 ex27
        refine z_iinc C 1 x27 [(1, .int x27), (0, .ref (w.1 i0))] dX3_measureRoutes_22 (by rfl) (by rw [ex27]; rfl) (by decide) rfl ?_
        refine z_goto (tgt := 2) C dX3_measureRoutes_25 (by decide) ?_
        refine z_sub [1, 0] [(0, .ref (w.1 i0)), (1, .int x27)] rfl ?_
        exact ih23 τ26 x27 (Nat.lt_of_lt_of_le hw.2 (Nat.le_of_lt_succ hlt23)) hw.1
  refine z_sub [1, 0] [(0, .ref (w.1 i0)), (1, .int 0)] rfl ?_
  exact lp23 _ τ 0 (Nat.lt_succ_self _) hI23
def wp_X3_layNode (τ : TS) (i0 : Nat) (K : TS → Int32 → Prop) : Prop :=
  ∀ τ21 : TS, τ21 = tp_up τ i0 0 ((τ i0 0) + 1) → wp_X3_measureRoutes τ21 i0 (fun τ22 => K τ22 ((τ22 i0 0) - 1))
theorem mw_X3_layNode_0 : Cond.fieldLink RX3 36 "TidePost$Net" "nodes" "I" ∈ wsX3_layNode := List.mem_of_getElem? (i := 1) rfl
theorem in_X3_layNode_X3 : ∀ x ∈ wsX30, x ∈ wsX3_layNode := fun _ h => List.mem_cons_of_mem _ (List.mem_append_right _ h)
set_option maxHeartbeats 4000000 in
set_option maxRecDepth 100000 in
theorem c_X3_layNode (w : WPar) (τ : TS) (i0 : Nat) (K : TS → Int32 → Prop) (h0 : tp_is i0 3) (hw : wp_X3_layNode τ i0 K) : MI w yX3_layNode wsX3_layNode 3 72 [.ref (w.1 i0)] τ K := by
  refine tp_enterI (cc := cX3_layNode) (maxL := 1) (own := RX3) (by decide) rfl rfl (Nat.le_of_ble_eq_true rfl) (fun g C hR => ?_)
  show Zt w g τ (0, 0) 0 [(0, .ref (w.1 i0))] []
  unfold wp_X3_layNode at hw
  refine z_aload_n C 0 (by rfl) dX3_layNode_0 ?_
  refine z_dup C rfl dX3_layNode_1 ?_
  refine z_get C (Cn := RX3) (T := TX3) (N := 9) (ci := 3) h0.2 0 (tE3 h0.1) in_X3_layNode_X3 rfl (by decide) mw_X3_layNode_0 rfl rfl dX3_layNode_2 ?_
  refine z_iconst C 1 (by decide) dX3_layNode_5 ?_
  refine z_iadd C dX3_layNode_6 ?_
  refine z_put C (Cn := RX3) (T := TX3) (N := 9) (ci := 3) h0.2 0 (tE3 h0.1) (tS3_0 h0.1 _) in_X3_layNode_X3 tyX3 tyX3_ok nmX3 rfl (by decide) mw_X3_layNode_0 rfl rfl (tyX3_ok 0 (by decide)) rfl rfl (Nat.le_of_ble_eq_true rfl) dX3_layNode_7 (fun τ21 eτ21 => ?_)
  have hw := hw τ21 eτ21
  refine z_aload_n C 0 (by rfl) dX3_layNode_10 ?_
  refine zv_v C (As := []) (bytes := cX3_measureRoutes) (maxL := 2) (F1 := 2) (L1 := 51) (c_X3_measureRoutes w _ i0 _ h0 hw) h0.2 (tE3 h0.1) rfl 0 gX3_layNode_X3_measureRoutes rfl (by decide +kernel) ⟨Nat.le_of_ble_eq_true rfl, Nat.le_of_ble_eq_true rfl⟩ rfl (Nat.le_of_ble_eq_true rfl) ⟨Nat.zero_le _, Nat.zero_le _⟩ rfl dX3_layNode_11 (fun τ22 hw => ?_)
  refine z_aload_n C 0 (by rfl) dX3_layNode_14 ?_
  refine z_get C (Cn := RX3) (T := TX3) (N := 9) (ci := 3) h0.2 0 (tE3 h0.1) in_X3_layNode_X3 rfl (by decide) mw_X3_layNode_0 rfl rfl dX3_layNode_15 ?_
  refine z_iconst C 1 (by decide) dX3_layNode_18 ?_
  refine z_isub C dX3_layNode_19 ?_
  exact hR _ _ _ _ dX3_layNode_20 hw
def wp_X3_layLink (τ : TS) (i0 : Nat) (x1 : Int32) (x2 : Int32) (x3 : Int32) (x4 : Int32) (K : TS → Int32 → Prop) : Prop :=
  ∀ x21 : Int32, x21 = (τ i0 1) → vp_in x21 12 ∧ (∀ τ23 : TS, τ23 = tp_up τ 2 (Int32.toNatClampNeg x21) x1 → vp_in x21 12 ∧ (∀ τ25 : TS, τ25 = tp_up τ23 3 (Int32.toNatClampNeg x21) x2 → vp_in x21 12 ∧ (∀ τ27 : TS, τ27 = tp_up τ25 4 (Int32.toNatClampNeg x21) x3 → vp_in x21 12 ∧ (∀ τ29 : TS, τ29 = tp_up τ27 5 (Int32.toNatClampNeg x21) x4 → vp_in x21 12 ∧ (∀ τ31 : TS, τ31 = tp_up τ29 6 (Int32.toNatClampNeg x21) 1 → ∀ τ32 : TS, τ32 = tp_up τ31 i0 1 ((τ31 i0 1) + 1) → wp_X3_measureRoutes τ32 i0 (fun τ33 => K τ33 x21))))))
theorem mw_X3_layLink_0 : Cond.fieldLink RX3 43 "TidePost$Net" "links" "I" ∈ wsX3_layLink := List.mem_of_getElem? (i := 1) rfl
theorem mw_X3_layLink_1 : Cond.fieldLink RX3 9 "TidePost$Net" "firsts" "[I" ∈ wsX3_layLink := List.mem_of_getElem? (i := 2) rfl
theorem mw_X3_layLink_2 : Cond.fieldLink RX3 15 "TidePost$Net" "seconds" "[I" ∈ wsX3_layLink := List.mem_of_getElem? (i := 3) rfl
theorem mw_X3_layLink_3 : Cond.fieldLink RX3 18 "TidePost$Net" "delays" "[I" ∈ wsX3_layLink := List.mem_of_getElem? (i := 4) rfl
theorem mw_X3_layLink_4 : Cond.fieldLink RX3 21 "TidePost$Net" "rooms" "[I" ∈ wsX3_layLink := List.mem_of_getElem? (i := 5) rfl
theorem mw_X3_layLink_5 : Cond.fieldLink RX3 24 "TidePost$Net" "up" "[Z" ∈ wsX3_layLink := List.mem_of_getElem? (i := 6) rfl
theorem in_X3_layLink_X3 : ∀ x ∈ wsX30, x ∈ wsX3_layLink := fun _ h => List.mem_cons_of_mem _ (List.mem_append_right _ h)
set_option maxHeartbeats 4000000 in
set_option maxRecDepth 100000 in
theorem c_X3_layLink (w : WPar) (τ : TS) (i0 : Nat) (x1 : Int32) (x2 : Int32) (x3 : Int32) (x4 : Int32) (K : TS → Int32 → Prop) (h0 : tp_is i0 3) (hw : wp_X3_layLink τ i0 x1 x2 x3 x4 K) : MI w yX3_layLink wsX3_layLink 3 72 [.ref (w.1 i0), .int x1, .int x2, .int x3, .int x4] τ K := by
  refine tp_enterI (cc := cX3_layLink) (maxL := 6) (own := RX3) (by decide) rfl rfl (Nat.le_of_ble_eq_true rfl) (fun g C hR => ?_)
  show Zt w g τ (0, 0) 0 [(0, .ref (w.1 i0)), (1, .int x1), (2, .int x2), (3, .int x3), (4, .int x4)] []
  unfold wp_X3_layLink at hw
  refine z_aload_n C 0 (by rfl) dX3_layLink_0 ?_
  refine z_get C (Cn := RX3) (T := TX3) (N := 9) (ci := 3) h0.2 1 (tE3 h0.1) in_X3_layLink_X3 rfl (by decide) mw_X3_layLink_0 rfl rfl dX3_layLink_1 ?_
  refine z_top (fun x21 ex21 => ?_)
  have hw := hw x21 ex21
  refine z_istore C [(5, .int x21), (0, .ref (w.1 i0)), (1, .int x1), (2, .int x2), (3, .int x3), (4, .int x4)] dX3_layLink_4 (by decide) rfl ?_
  refine z_aload_n C 1 (by rfl) dX3_layLink_6 ?_
  refine z_get C (Cn := RX3) (T := TX3) (N := 9) (ci := 3) h0.2 2 (tE3 h0.1) in_X3_layLink_X3 rfl (by decide) mw_X3_layLink_1 rfl rfl dX3_layLink_7 ?_
  refine z_iload C 0 (by rfl) dX3_layLink_10 ?_
  refine z_iload_n C 2 (by rfl) dX3_layLink_12 ?_
  obtain ⟨s22, hw⟩ := hw
  refine z_iast C tR3_2.2 (fun _ => tE11 tR3_2.1) s22 dX3_layLink_13 (fun τ23 eτ23 => ?_)
  have hw := hw τ23 eτ23
  refine z_aload_n C 1 (by rfl) dX3_layLink_14 ?_
  refine z_get C (Cn := RX3) (T := TX3) (N := 9) (ci := 3) h0.2 3 (tE3 h0.1) in_X3_layLink_X3 rfl (by decide) mw_X3_layLink_2 rfl rfl dX3_layLink_15 ?_
  refine z_iload C 0 (by rfl) dX3_layLink_18 ?_
  refine z_iload_n C 3 (by rfl) dX3_layLink_20 ?_
  obtain ⟨s24, hw⟩ := hw
  refine z_iast C tR3_3.2 (fun _ => tE11 tR3_3.1) s24 dX3_layLink_21 (fun τ25 eτ25 => ?_)
  have hw := hw τ25 eτ25
  refine z_aload_n C 1 (by rfl) dX3_layLink_22 ?_
  refine z_get C (Cn := RX3) (T := TX3) (N := 9) (ci := 3) h0.2 4 (tE3 h0.1) in_X3_layLink_X3 rfl (by decide) mw_X3_layLink_3 rfl rfl dX3_layLink_23 ?_
  refine z_iload C 0 (by rfl) dX3_layLink_26 ?_
  refine z_iload_n C 4 (by rfl) dX3_layLink_28 ?_
  obtain ⟨s26, hw⟩ := hw
  refine z_iast C tR3_4.2 (fun _ => tE11 tR3_4.1) s26 dX3_layLink_29 (fun τ27 eτ27 => ?_)
  have hw := hw τ27 eτ27
  refine z_aload_n C 1 (by rfl) dX3_layLink_30 ?_
  refine z_get C (Cn := RX3) (T := TX3) (N := 9) (ci := 3) h0.2 5 (tE3 h0.1) in_X3_layLink_X3 rfl (by decide) mw_X3_layLink_4 rfl rfl dX3_layLink_31 ?_
  refine z_iload C 0 (by rfl) dX3_layLink_34 ?_
  refine z_iload C 5 (by rfl) dX3_layLink_36 ?_
  obtain ⟨s28, hw⟩ := hw
  refine z_iast C tR3_5.2 (fun _ => tE11 tR3_5.1) s28 dX3_layLink_38 (fun τ29 eτ29 => ?_)
  have hw := hw τ29 eτ29
  refine z_aload_n C 1 (by rfl) dX3_layLink_39 ?_
  refine z_get C (Cn := RX3) (T := TX3) (N := 9) (ci := 3) h0.2 6 (tE3 h0.1) in_X3_layLink_X3 rfl (by decide) mw_X3_layLink_5 rfl rfl dX3_layLink_40 ?_
  refine z_iload C 0 (by rfl) dX3_layLink_43 ?_
  refine z_iconst C 1 (by decide) dX3_layLink_45 ?_
  obtain ⟨s30, hw⟩ := hw
  refine z_zast C tR3_6.2 (fun _ => tE12 tR3_6.1) s30 tp_z1.2.2 dX3_layLink_46 (fun τ31 eτ31 => ?_)
  have hw := hw τ31 eτ31
  refine z_aload_n C 1 (by rfl) dX3_layLink_47 ?_
  refine z_dup C rfl dX3_layLink_48 ?_
  refine z_get C (Cn := RX3) (T := TX3) (N := 9) (ci := 3) h0.2 1 (tE3 h0.1) in_X3_layLink_X3 rfl (by decide) mw_X3_layLink_0 rfl rfl dX3_layLink_49 ?_
  refine z_iconst C 1 (by decide) dX3_layLink_52 ?_
  refine z_iadd C dX3_layLink_53 ?_
  refine z_put C (Cn := RX3) (T := TX3) (N := 9) (ci := 3) h0.2 1 (tE3 h0.1) (tS3_1 h0.1 _) in_X3_layLink_X3 tyX3 tyX3_ok nmX3 rfl (by decide) mw_X3_layLink_0 rfl rfl (tyX3_ok 1 (by decide)) rfl rfl (Nat.le_of_ble_eq_true rfl) dX3_layLink_54 (fun τ32 eτ32 => ?_)
  have hw := hw τ32 eτ32
  refine z_aload_n C 1 (by rfl) dX3_layLink_57 ?_
  refine zv_v C (As := []) (bytes := cX3_measureRoutes) (maxL := 2) (F1 := 2) (L1 := 51) (c_X3_measureRoutes w _ i0 _ h0 hw) h0.2 (tE3 h0.1) rfl 0 gX3_layLink_X3_measureRoutes rfl (by decide +kernel) ⟨Nat.le_of_ble_eq_true rfl, Nat.le_of_ble_eq_true rfl⟩ rfl (Nat.le_of_ble_eq_true rfl) ⟨Nat.zero_le _, Nat.zero_le _⟩ rfl dX3_layLink_58 (fun τ33 hw => ?_)
  refine z_iload C 0 (by rfl) dX3_layLink_61 ?_
  exact hR _ _ _ _ dX3_layLink_63 hw
def wp_X3_flip (τ : TS) (i0 : Nat) (x1 : Int32) (K : TS → Prop) : Prop :=
  vp_in x1 12 ∧ (((¬ (τ 6 (Int32.toNatClampNeg x1)) = 0) → (vp_in x1 12 ∧ (∀ τ24 : TS, τ24 = tp_up τ 6 (Int32.toNatClampNeg x1) 0 → wp_X3_measureRoutes τ24 i0 (fun τ25 => K τ25)))) ∧ (((τ 6 (Int32.toNatClampNeg x1)) = 0) → (vp_in x1 12 ∧ (∀ τ27 : TS, τ27 = tp_up τ 6 (Int32.toNatClampNeg x1) 1 → wp_X3_measureRoutes τ27 i0 (fun τ28 => K τ28)))))
theorem mw_X3_flip_0 : Cond.fieldLink RX3 24 "TidePost$Net" "up" "[Z" ∈ wsX3_flip := List.mem_of_getElem? (i := 1) rfl
theorem in_X3_flip_X3 : ∀ x ∈ wsX30, x ∈ wsX3_flip := fun _ h => List.mem_cons_of_mem _ (List.mem_append_right _ h)
set_option maxHeartbeats 4000000 in
set_option maxRecDepth 100000 in
theorem c_X3_flip (w : WPar) (τ : TS) (i0 : Nat) (x1 : Int32) (K : TS → Prop) (h0 : tp_is i0 3) (hw : wp_X3_flip τ i0 x1 K) : MV w yX3_flip wsX3_flip 3 72 [.ref (w.1 i0), .int x1] τ K := by
  refine tp_enterV (cc := cX3_flip) (maxL := 2) (own := RX3) (by decide) rfl rfl (Nat.le_of_ble_eq_true rfl) (fun g C hR => ?_)
  show Zt w g τ (0, 0) 0 [(0, .ref (w.1 i0)), (1, .int x1)] []
  unfold wp_X3_flip at hw
  refine z_aload_n C 0 (by rfl) dX3_flip_0 ?_
  refine z_get C (Cn := RX3) (T := TX3) (N := 9) (ci := 3) h0.2 6 (tE3 h0.1) in_X3_flip_X3 rfl (by decide) mw_X3_flip_0 rfl rfl dX3_flip_1 ?_
  refine z_iload_n C 1 (by rfl) dX3_flip_4 ?_
  refine z_aload_n C 0 (by rfl) dX3_flip_5 ?_
  refine z_get C (Cn := RX3) (T := TX3) (N := 9) (ci := 3) h0.2 6 (tE3 h0.1) in_X3_flip_X3 rfl (by decide) mw_X3_flip_0 rfl rfl dX3_flip_6 ?_
  refine z_iload_n C 1 (by rfl) dX3_flip_9 ?_
  obtain ⟨s21, hw⟩ := hw
  refine z_zald C tR3_6.2 (tE12 tR3_6.1) s21 dX3_flip_10 ?_
  refine z_if_ne (tgt := 18) C dX3_flip_11 (by decide) (fun c22 => ?_) (fun c22 => ?_)
  · have hw := hw.1 c22
    refine z_iconst C 0 (by decide) dX3_flip_18 ?_
    obtain ⟨s23, hw⟩ := hw
    refine z_zast C tR3_6.2 (fun _ => tE12 tR3_6.1) s23 tp_z0.2.2 dX3_flip_19 (fun τ24 eτ24 => ?_)
    have hw := hw τ24 eτ24
    refine z_aload_n C 0 (by rfl) dX3_flip_20 ?_
    refine zv_v C (As := []) (bytes := cX3_measureRoutes) (maxL := 2) (F1 := 2) (L1 := 51) (c_X3_measureRoutes w _ i0 _ h0 hw) h0.2 (tE3 h0.1) rfl 0 gX3_flip_X3_measureRoutes rfl (by decide +kernel) ⟨Nat.le_of_ble_eq_true rfl, Nat.le_of_ble_eq_true rfl⟩ rfl (Nat.le_of_ble_eq_true rfl) ⟨Nat.zero_le _, Nat.zero_le _⟩ rfl dX3_flip_21 (fun τ25 hw => ?_)
    exact hR _ _ _ dX3_flip_24 hw
  · have hw := hw.2 c22
    refine z_iconst C 1 (by decide) dX3_flip_14 ?_
    refine z_goto (tgt := 19) C dX3_flip_15 (by decide) ?_
    obtain ⟨s26, hw⟩ := hw
    refine z_zast C tR3_6.2 (fun _ => tE12 tR3_6.1) s26 tp_z1.2.2 dX3_flip_19 (fun τ27 eτ27 => ?_)
    have hw := hw τ27 eτ27
    refine z_aload_n C 0 (by rfl) dX3_flip_20 ?_
    refine zv_v C (As := []) (bytes := cX3_measureRoutes) (maxL := 2) (F1 := 2) (L1 := 51) (c_X3_measureRoutes w _ i0 _ h0 hw) h0.2 (tE3 h0.1) rfl 0 gX3_flip_X3_measureRoutes rfl (by decide +kernel) ⟨Nat.le_of_ble_eq_true rfl, Nat.le_of_ble_eq_true rfl⟩ rfl (Nat.le_of_ble_eq_true rfl) ⟨Nat.zero_le _, Nat.zero_le _⟩ rfl dX3_flip_21 (fun τ28 hw => ?_)
    exact hR _ _ _ dX3_flip_24 hw
end
section
set_option maxRecDepth 20000 in
theorem ggX6_init_X7_init : GoodIn wsX6_init wsX7_init := goodIn_r _ [15, 16, 2, 3, 17, 18, 19, 52, 53, 54, 55, 56, 57, 58] (by decide +kernel) (by decide +kernel)
set_option maxRecDepth 20000 in
theorem gX6_init_X7_init : GoodIn wsX6_init (wsX7_init) := ggX6_init_X7_init
set_option maxRecDepth 20000 in
theorem ggX6_init_X2_init : GoodIn wsX6_init wsX2_init := goodIn_r _ [21, 22, 2, 3, 23, 24, 25, 26, 27, 28, 29, 30, 31, 32, 33, 34, 35, 36, 37, 38, 39, 40, 41, 42, 43, 44, 45, 63, 64, 65, 66, 67, 68, 69, 70, 71, 72, 73, 74, 75, 76, 59, 60, 61, 62, 77, 78, 79, 80, 81, 82, 83, 84, 85] (by decide +kernel) (by decide +kernel)
set_option maxRecDepth 20000 in
theorem gX6_init_X2_init_n28 : GoodIn wsX6_init (wsX2_init) := ggX6_init_X2_init
theorem dX6_init_0 : decode cX6_init 0 = .ok (.aload_n 0, 1) := by decide +kernel
theorem dX6_init_1 : decode cX6_init 1 = .ok (.invokespecial 3, 3) := by decide +kernel
theorem dX6_init_4 : decode cX6_init 4 = .ok (.aload_n 0, 1) := by decide +kernel
theorem dX6_init_5 : decode cX6_init 5 = .ok (.bipush 24, 2) := by decide +kernel
theorem dX6_init_7 : decode cX6_init 7 = .ok (.anewarray 9, 3) := by decide +kernel
theorem dX6_init_10 : decode cX6_init 10 = .ok (.putfield 11, 3) := by decide +kernel
theorem dX6_init_13 : decode cX6_init 13 = .ok (.aload_n 0, 1) := by decide +kernel
theorem dX6_init_14 : decode cX6_init 14 = .ok (.bipush 6, 2) := by decide +kernel
theorem dX6_init_16 : decode cX6_init 16 = .ok (.anewarray 17, 3) := by decide +kernel
theorem dX6_init_19 : decode cX6_init 19 = .ok (.putfield 19, 3) := by decide +kernel
theorem dX6_init_22 : decode cX6_init 22 = .ok (.aload_n 0, 1) := by decide +kernel
theorem dX6_init_23 : decode cX6_init 23 = .ok (.aload_n 1, 1) := by decide +kernel
theorem dX6_init_24 : decode cX6_init 24 = .ok (.putfield 23, 3) := by decide +kernel
theorem dX6_init_27 : decode cX6_init 27 = .ok (.iconst 0, 1) := by decide +kernel
theorem dX6_init_28 : decode cX6_init 28 = .ok (.istore_n 2, 1) := by decide +kernel
theorem dX6_init_29 : decode cX6_init 29 = .ok (.iload_n 2, 1) := by decide +kernel
theorem dX6_init_30 : decode cX6_init 30 = .ok (.aload_n 0, 1) := by decide +kernel
theorem dX6_init_31 : decode cX6_init 31 = .ok (.getfield 11, 3) := by decide +kernel
theorem dX6_init_34 : decode cX6_init 34 = .ok (.arraylength, 1) := by decide +kernel
theorem dX6_init_35 : decode cX6_init 35 = .ok (.if_icmp .ge 22, 3) := by decide +kernel
theorem dX6_init_38 : decode cX6_init 38 = .ok (.aload_n 0, 1) := by decide +kernel
theorem dX6_init_39 : decode cX6_init 39 = .ok (.getfield 11, 3) := by decide +kernel
theorem dX6_init_42 : decode cX6_init 42 = .ok (.iload_n 2, 1) := by decide +kernel
theorem dX6_init_43 : decode cX6_init 43 = .ok (.new 9, 3) := by decide +kernel
theorem dX6_init_46 : decode cX6_init 46 = .ok (.dup, 1) := by decide +kernel
theorem dX6_init_47 : decode cX6_init 47 = .ok (.invokespecial 27, 3) := by decide +kernel
theorem dX6_init_50 : decode cX6_init 50 = .ok (.aastore, 1) := by decide +kernel
theorem dX6_init_51 : decode cX6_init 51 = .ok (.iinc 2 1, 3) := by decide +kernel
theorem dX6_init_54 : decode cX6_init 54 = .ok (.goto (-25), 3) := by decide +kernel
theorem dX6_init_57 : decode cX6_init 57 = .ok (.iconst 0, 1) := by decide +kernel
theorem dX6_init_58 : decode cX6_init 58 = .ok (.istore_n 2, 1) := by decide +kernel
theorem dX6_init_59 : decode cX6_init 59 = .ok (.iload_n 2, 1) := by decide +kernel
theorem dX6_init_60 : decode cX6_init 60 = .ok (.aload_n 0, 1) := by decide +kernel
theorem dX6_init_61 : decode cX6_init 61 = .ok (.getfield 19, 3) := by decide +kernel
theorem dX6_init_64 : decode cX6_init 64 = .ok (.arraylength, 1) := by decide +kernel
theorem dX6_init_65 : decode cX6_init 65 = .ok (.if_icmp .ge 22, 3) := by decide +kernel
theorem dX6_init_68 : decode cX6_init 68 = .ok (.aload_n 0, 1) := by decide +kernel
theorem dX6_init_69 : decode cX6_init 69 = .ok (.getfield 19, 3) := by decide +kernel
theorem dX6_init_72 : decode cX6_init 72 = .ok (.iload_n 2, 1) := by decide +kernel
theorem dX6_init_73 : decode cX6_init 73 = .ok (.new 17, 3) := by decide +kernel
theorem dX6_init_76 : decode cX6_init 76 = .ok (.dup, 1) := by decide +kernel
theorem dX6_init_77 : decode cX6_init 77 = .ok (.invokespecial 28, 3) := by decide +kernel
theorem dX6_init_80 : decode cX6_init 80 = .ok (.aastore, 1) := by decide +kernel
theorem dX6_init_81 : decode cX6_init 81 = .ok (.iinc 2 1, 3) := by decide +kernel
theorem dX6_init_84 : decode cX6_init 84 = .ok (.goto (-25), 3) := by decide +kernel
theorem dX6_init_87 : decode cX6_init 87 = .ok (.return_, 1) := by decide +kernel
set_option maxRecDepth 20000 in
theorem ggX6_connect_X1_begin : GoodIn wsX6_connect wsX1_begin := goodIn_r _ [13, 14, 15, 16, 17, 18, 19, 20, 21, 22, 23, 24, 25, 26, 27, 28, 29, 30, 31, 90, 91, 92, 93, 94, 95, 96, 97, 98, 99, 100, 101, 102, 103, 104, 105, 106, 107, 108] (by decide +kernel) (by decide +kernel)
set_option maxRecDepth 20000 in
theorem gX6_connect_X1_begin : GoodIn wsX6_connect (wsV RX6 55 RX1 yX1_begin wsX1_begin) := goodIn_app (goodIn_of _ (by decide +kernel)) ggX6_connect_X1_begin
set_option maxRecDepth 20000 in
theorem ggX6_connect_X6_sendHello : GoodIn wsX6_connect wsX6_sendHello := goodIn_r _ [36, 2, 3, 4, 37, 38, 39, 40, 41, 42, 43, 35, 44, 45, 46, 47, 48, 49, 50, 51, 52, 53, 54, 55, 56, 57, 58, 59, 60, 61, 62, 63, 64, 65, 66, 67, 68, 69, 70, 71, 72, 73, 74, 75, 76, 77, 78, 79, 80, 81, 82, 83, 84, 85, 109, 110, 111, 112, 113, 114, 115, 116, 117, 118, 119, 120, 121, 122, 123, 124] (by decide +kernel) (by decide +kernel)
set_option maxRecDepth 20000 in
theorem gX6_connect_X6_sendHello : GoodIn wsX6_connect (wsV RX6 61 RX6 yX6_sendHello wsX6_sendHello) := goodIn_app (goodIn_of _ (by decide +kernel)) ggX6_connect_X6_sendHello
theorem dX6_connect_0 : decode cX6_connect 0 = .ok (.aload_n 0, 1) := by decide +kernel
theorem dX6_connect_1 : decode cX6_connect 1 = .ok (.getfield 29, 3) := by decide +kernel
theorem dX6_connect_4 : decode cX6_connect 4 = .ok (.istore 4, 2) := by decide +kernel
theorem dX6_connect_6 : decode cX6_connect 6 = .ok (.aload_n 0, 1) := by decide +kernel
theorem dX6_connect_7 : decode cX6_connect 7 = .ok (.getfield 19, 3) := by decide +kernel
theorem dX6_connect_10 : decode cX6_connect 10 = .ok (.iload 4, 2) := by decide +kernel
theorem dX6_connect_12 : decode cX6_connect 12 = .ok (.aaload, 1) := by decide +kernel
theorem dX6_connect_13 : decode cX6_connect 13 = .ok (.astore 5, 2) := by decide +kernel
theorem dX6_connect_15 : decode cX6_connect 15 = .ok (.aload 5, 2) := by decide +kernel
theorem dX6_connect_17 : decode cX6_connect 17 = .ok (.iload_n 1, 1) := by decide +kernel
theorem dX6_connect_18 : decode cX6_connect 18 = .ok (.putfield 33, 3) := by decide +kernel
theorem dX6_connect_21 : decode cX6_connect 21 = .ok (.aload 5, 2) := by decide +kernel
theorem dX6_connect_23 : decode cX6_connect 23 = .ok (.iload_n 2, 1) := by decide +kernel
theorem dX6_connect_24 : decode cX6_connect 24 = .ok (.putfield 36, 3) := by decide +kernel
theorem dX6_connect_27 : decode cX6_connect 27 = .ok (.aload 5, 2) := by decide +kernel
theorem dX6_connect_29 : decode cX6_connect 29 = .ok (.getfield 39, 3) := by decide +kernel
theorem dX6_connect_32 : decode cX6_connect 32 = .ok (.iload_n 3, 1) := by decide +kernel
theorem dX6_connect_33 : decode cX6_connect 33 = .ok (.putfield 43, 3) := by decide +kernel
theorem dX6_connect_36 : decode cX6_connect 36 = .ok (.aload 5, 2) := by decide +kernel
theorem dX6_connect_38 : decode cX6_connect 38 = .ok (.getfield 48, 3) := by decide +kernel
theorem dX6_connect_41 : decode cX6_connect 41 = .ok (.iload_n 3, 1) := by decide +kernel
theorem dX6_connect_42 : decode cX6_connect 42 = .ok (.aload_n 0, 1) := by decide +kernel
theorem dX6_connect_43 : decode cX6_connect 43 = .ok (.getfield 52, 3) := by decide +kernel
theorem dX6_connect_46 : decode cX6_connect 46 = .ok (.invokevirtual 55, 3) := by decide +kernel
theorem dX6_connect_49 : decode cX6_connect 49 = .ok (.aload_n 0, 1) := by decide +kernel
theorem dX6_connect_50 : decode cX6_connect 50 = .ok (.dup, 1) := by decide +kernel
theorem dX6_connect_51 : decode cX6_connect 51 = .ok (.getfield 29, 3) := by decide +kernel
theorem dX6_connect_54 : decode cX6_connect 54 = .ok (.iconst 1, 1) := by decide +kernel
theorem dX6_connect_55 : decode cX6_connect 55 = .ok (.iadd, 1) := by decide +kernel
theorem dX6_connect_56 : decode cX6_connect 56 = .ok (.putfield 29, 3) := by decide +kernel
theorem dX6_connect_59 : decode cX6_connect 59 = .ok (.aload_n 0, 1) := by decide +kernel
theorem dX6_connect_60 : decode cX6_connect 60 = .ok (.iload 4, 2) := by decide +kernel
theorem dX6_connect_62 : decode cX6_connect 62 = .ok (.invokevirtual 61, 3) := by decide +kernel
theorem dX6_connect_65 : decode cX6_connect 65 = .ok (.iload 4, 2) := by decide +kernel
theorem dX6_connect_67 : decode cX6_connect 67 = .ok (.ireturn, 1) := by decide +kernel
set_option maxRecDepth 20000 in
theorem ggX6_dropAll_X7_drop : GoodIn wsX6_dropAll wsX7_drop := goodIn_r _ [7, 8, 9, 10, 17, 18, 19, 20, 21, 22, 23] (by decide +kernel) (by decide +kernel)
set_option maxRecDepth 20000 in
theorem gX6_dropAll_X7_drop : GoodIn wsX6_dropAll (wsV RX6 65 RX7 yX7_drop wsX7_drop) := goodIn_app (goodIn_of _ (by decide +kernel)) ggX6_dropAll_X7_drop
theorem dX6_dropAll_0 : decode cX6_dropAll 0 = .ok (.aload_n 0, 1) := by decide +kernel
theorem dX6_dropAll_1 : decode cX6_dropAll 1 = .ok (.getfield 11, 3) := by decide +kernel
theorem dX6_dropAll_4 : decode cX6_dropAll 4 = .ok (.iconst 2, 1) := by decide +kernel
theorem dX6_dropAll_5 : decode cX6_dropAll 5 = .ok (.iload_n 1, 1) := by decide +kernel
theorem dX6_dropAll_6 : decode cX6_dropAll 6 = .ok (.imul, 1) := by decide +kernel
theorem dX6_dropAll_7 : decode cX6_dropAll 7 = .ok (.aaload, 1) := by decide +kernel
theorem dX6_dropAll_8 : decode cX6_dropAll 8 = .ok (.invokevirtual 65, 3) := by decide +kernel
theorem dX6_dropAll_11 : decode cX6_dropAll 11 = .ok (.aload_n 0, 1) := by decide +kernel
theorem dX6_dropAll_12 : decode cX6_dropAll 12 = .ok (.getfield 11, 3) := by decide +kernel
theorem dX6_dropAll_15 : decode cX6_dropAll 15 = .ok (.iconst 2, 1) := by decide +kernel
theorem dX6_dropAll_16 : decode cX6_dropAll 16 = .ok (.iload_n 1, 1) := by decide +kernel
theorem dX6_dropAll_17 : decode cX6_dropAll 17 = .ok (.imul, 1) := by decide +kernel
theorem dX6_dropAll_18 : decode cX6_dropAll 18 = .ok (.iconst 1, 1) := by decide +kernel
theorem dX6_dropAll_19 : decode cX6_dropAll 19 = .ok (.iadd, 1) := by decide +kernel
theorem dX6_dropAll_20 : decode cX6_dropAll 20 = .ok (.aaload, 1) := by decide +kernel
theorem dX6_dropAll_21 : decode cX6_dropAll 21 = .ok (.invokevirtual 65, 3) := by decide +kernel
theorem dX6_dropAll_24 : decode cX6_dropAll 24 = .ok (.iadd, 1) := by decide +kernel
theorem dX6_dropAll_25 : decode cX6_dropAll 25 = .ok (.istore_n 2, 1) := by decide +kernel
theorem dX6_dropAll_26 : decode cX6_dropAll 26 = .ok (.aload_n 0, 1) := by decide +kernel
theorem dX6_dropAll_27 : decode cX6_dropAll 27 = .ok (.dup, 1) := by decide +kernel
theorem dX6_dropAll_28 : decode cX6_dropAll 28 = .ok (.getfield 69, 3) := by decide +kernel
theorem dX6_dropAll_31 : decode cX6_dropAll 31 = .ok (.iload_n 2, 1) := by decide +kernel
theorem dX6_dropAll_32 : decode cX6_dropAll 32 = .ok (.iadd, 1) := by decide +kernel
theorem dX6_dropAll_33 : decode cX6_dropAll 33 = .ok (.putfield 69, 3) := by decide +kernel
theorem dX6_dropAll_36 : decode cX6_dropAll 36 = .ok (.iload_n 2, 1) := by decide +kernel
theorem dX6_dropAll_37 : decode cX6_dropAll 37 = .ok (.ireturn, 1) := by decide +kernel
set_option maxRecDepth 20000 in
theorem ggX6_tick_X6_letArrive : GoodIn wsX6_tick wsX6_letArrive := goodIn_r _ [6, 7, 8, 9, 1, 10, 11, 12, 13, 14, 15, 16, 17, 18, 19, 20, 21, 22, 23, 24, 25, 5, 26, 27, 28, 29, 30, 31, 32, 33, 34, 35, 36, 37, 38, 39, 40, 41, 42, 43, 44, 45, 46, 47, 48, 49, 50, 51, 52, 53, 54, 55, 56, 57, 58, 59, 60, 61, 62, 63, 64, 65, 66, 67, 68, 69, 70, 71, 72, 73, 74, 75, 76, 77, 78, 79, 80, 81, 82, 83, 84, 85, 86, 87, 88, 89, 90, 91, 92, 93, 94, 95, 96, 97, 98, 99, 100, 101, 102, 103, 104, 105, 106, 107, 108, 109, 110, 111, 112, 113, 114, 115, 116, 117, 118, 119, 120, 121, 122, 123, 124, 125, 126, 127, 128, 129, 130, 131, 132, 133, 134, 135, 136, 137, 138, 139, 140, 141, 142, 143, 144, 145, 146, 147, 148, 149, 150, 151, 152, 153, 154, 155, 156, 157, 158, 159, 160, 161, 162, 163, 164, 165, 166, 167, 168, 222, 223, 224, 225, 226, 227, 228, 229, 230, 231, 232, 233, 234, 235, 236, 237, 238, 239, 240, 241, 242, 243, 244, 245, 246, 247, 248, 249, 250, 251, 252, 253, 254, 255, 256, 257, 258, 259, 260, 261, 262, 263, 264, 265, 266, 267, 268, 269, 270] (by decide +kernel) (by decide +kernel)
set_option maxRecDepth 20000 in
theorem gX6_tick_X6_letArrive : GoodIn wsX6_tick (wsV RX6 72 RX6 yX6_letArrive wsX6_letArrive) := goodIn_app (goodIn_of _ (by decide +kernel)) ggX6_tick_X6_letArrive
set_option maxRecDepth 20000 in
theorem ggX6_tick_X6_letTimersRunOut : GoodIn wsX6_tick wsX6_letTimersRunOut := goodIn_r _ [172, 27, 28, 31, 173, 1, 174, 175, 176, 177, 80, 178, 84, 83, 82, 92, 121, 93, 95, 179, 180, 181, 100, 182, 116, 113, 114, 108, 115, 102, 129, 130, 131, 132, 86, 94, 85, 123, 111, 112, 122, 183, 184, 185, 5, 186, 29, 30, 147, 148, 36, 149, 41, 42, 43, 44, 7, 32, 11, 9, 45, 46, 47, 48, 49, 50, 51, 52, 53, 54, 55, 56, 57, 58, 59, 60, 61, 62, 63, 64, 65, 66, 15, 67, 68, 69, 70, 133, 134, 135, 136, 137, 138, 139, 140, 141, 142, 143, 144, 145, 146, 222, 223, 224, 225, 226, 227, 244, 245, 246, 247, 248, 249, 250, 251, 252, 253, 254, 255, 256, 257, 258, 259, 260, 261, 262, 263, 264, 265, 266, 228, 229, 230, 231, 232, 233, 234, 235, 236, 237, 238, 239, 240, 241, 242, 243] (by decide +kernel) (by decide +kernel)
set_option maxRecDepth 20000 in
theorem gX6_tick_X6_letTimersRunOut : GoodIn wsX6_tick (wsV RX6 75 RX6 yX6_letTimersRunOut wsX6_letTimersRunOut) := goodIn_app (goodIn_of _ (by decide +kernel)) ggX6_tick_X6_letTimersRunOut
set_option maxRecDepth 20000 in
theorem ggX6_tick_X6_letCallersSend : GoodIn wsX6_tick wsX6_letCallersSend := goodIn_r _ [190, 27, 28, 31, 191, 1, 192, 193, 194, 80, 195, 86, 85, 82, 121, 96, 87, 196, 197, 198, 199, 200, 142, 143, 144, 5, 145, 146, 29, 30, 147, 148, 36, 149, 41, 42, 43, 44, 7, 32, 11, 9, 45, 46, 47, 48, 49, 50, 51, 52, 53, 54, 55, 56, 57, 58, 59, 60, 61, 62, 63, 64, 65, 66, 15, 67, 68, 69, 70, 201, 202, 203, 204, 92, 84, 95, 205, 206, 207, 100, 208, 102, 103, 222, 223, 224, 225, 226, 227, 244, 245, 246, 247, 248, 249, 250, 251, 252, 253, 254, 255, 256, 257, 258, 259, 260, 261, 228, 229, 230, 231, 232, 233, 234, 235, 236, 237, 238, 239, 240, 241, 242, 243, 262, 263, 264, 265, 266] (by decide +kernel) (by decide +kernel)
set_option maxRecDepth 20000 in
theorem gX6_tick_X6_letCallersSend : GoodIn wsX6_tick (wsV RX6 78 RX6 yX6_letCallersSend wsX6_letCallersSend) := goodIn_app (goodIn_of _ (by decide +kernel)) ggX6_tick_X6_letCallersSend
set_option maxRecDepth 20000 in
theorem ggX6_tick_X6_letTakeOff : GoodIn wsX6_tick wsX6_letTakeOff := goodIn_r _ [212, 7, 8, 213, 1, 214, 32, 9, 215, 216, 217, 15, 218, 68, 69, 70, 219, 17, 220, 18, 221, 19, 20, 21, 22, 222, 223, 224, 225, 226, 227, 228, 229, 230, 231, 232, 233, 234, 235, 236, 237, 238, 239, 240, 241, 242, 243] (by decide +kernel) (by decide +kernel)
set_option maxRecDepth 20000 in
theorem gX6_tick_X6_letTakeOff : GoodIn wsX6_tick (wsV RX6 81 RX6 yX6_letTakeOff wsX6_letTakeOff) := goodIn_app (goodIn_of _ (by decide +kernel)) ggX6_tick_X6_letTakeOff
theorem dX6_tick_0 : decode cX6_tick 0 = .ok (.aload_n 0, 1) := by decide +kernel
theorem dX6_tick_1 : decode cX6_tick 1 = .ok (.dup, 1) := by decide +kernel
theorem dX6_tick_2 : decode cX6_tick 2 = .ok (.getfield 52, 3) := by decide +kernel
theorem dX6_tick_5 : decode cX6_tick 5 = .ok (.iconst 1, 1) := by decide +kernel
theorem dX6_tick_6 : decode cX6_tick 6 = .ok (.iadd, 1) := by decide +kernel
theorem dX6_tick_7 : decode cX6_tick 7 = .ok (.putfield 52, 3) := by decide +kernel
theorem dX6_tick_10 : decode cX6_tick 10 = .ok (.aload_n 0, 1) := by decide +kernel
theorem dX6_tick_11 : decode cX6_tick 11 = .ok (.invokevirtual 72, 3) := by decide +kernel
theorem dX6_tick_14 : decode cX6_tick 14 = .ok (.aload_n 0, 1) := by decide +kernel
theorem dX6_tick_15 : decode cX6_tick 15 = .ok (.invokevirtual 75, 3) := by decide +kernel
theorem dX6_tick_18 : decode cX6_tick 18 = .ok (.aload_n 0, 1) := by decide +kernel
theorem dX6_tick_19 : decode cX6_tick 19 = .ok (.invokevirtual 78, 3) := by decide +kernel
theorem dX6_tick_22 : decode cX6_tick 22 = .ok (.aload_n 0, 1) := by decide +kernel
theorem dX6_tick_23 : decode cX6_tick 23 = .ok (.invokevirtual 81, 3) := by decide +kernel
theorem dX6_tick_26 : decode cX6_tick 26 = .ok (.return_, 1) := by decide +kernel
set_option maxRecDepth 20000 in
theorem ggX6_letArrive_X7_land : GoodIn wsX6_letArrive wsX7_land := goodIn_r _ [11, 12, 13, 14, 15, 16, 17, 180, 181, 182, 183, 184, 185, 186] (by decide +kernel) (by decide +kernel)
set_option maxRecDepth 20000 in
theorem gX6_letArrive_X7_land : GoodIn wsX6_letArrive (wsV RX6 89 RX7 yX7_land wsX7_land) := goodIn_app (goodIn_of _ (by decide +kernel)) ggX6_letArrive_X7_land
set_option maxRecDepth 20000 in
theorem ggX6_letArrive_X6_arrive : GoodIn wsX6_letArrive wsX6_arrive := goodIn_r _ [22, 23, 24, 25, 26, 27, 4, 28, 29, 30, 31, 32, 33, 34, 35, 36, 37, 38, 39, 21, 40, 1, 6, 3, 41, 42, 43, 44, 45, 46, 47, 48, 49, 50, 51, 52, 53, 54, 55, 56, 57, 58, 59, 60, 61, 62, 10, 63, 64, 65, 66, 67, 68, 69, 70, 71, 72, 73, 74, 75, 76, 77, 78, 79, 80, 81, 82, 83, 84, 85, 86, 87, 88, 89, 90, 91, 92, 93, 94, 95, 96, 97, 98, 99, 100, 101, 102, 103, 104, 105, 106, 107, 108, 109, 110, 111, 112, 113, 114, 115, 116, 117, 118, 119, 120, 121, 122, 123, 124, 125, 126, 127, 128, 129, 130, 131, 132, 133, 134, 135, 136, 137, 138, 139, 140, 141, 142, 143, 144, 145, 146, 147, 148, 149, 150, 151, 152, 153, 154, 155, 156, 157, 158, 159, 160, 161, 162, 163, 164, 165, 166, 167, 168, 169, 170, 187, 188, 189, 190, 171, 172, 173, 174, 175, 176, 177, 178, 179, 180, 181, 182, 183, 184, 185, 186, 191, 192, 193, 194, 195, 196, 197, 198, 199, 200, 201, 202, 203, 204, 205, 206, 207, 208, 209, 210, 211, 212, 213] (by decide +kernel) (by decide +kernel)
set_option maxRecDepth 20000 in
theorem gX6_letArrive_X6_arrive : GoodIn wsX6_letArrive (wsV RX6 100 RX6 yX6_arrive wsX6_arrive) := goodIn_app (goodIn_of _ (by decide +kernel)) ggX6_letArrive_X6_arrive
theorem dX6_letArrive_0 : decode cX6_letArrive 0 = .ok (.iconst 0, 1) := by decide +kernel
theorem dX6_letArrive_1 : decode cX6_letArrive 1 = .ok (.istore_n 1, 1) := by decide +kernel
theorem dX6_letArrive_2 : decode cX6_letArrive 2 = .ok (.iload_n 1, 1) := by decide +kernel
theorem dX6_letArrive_3 : decode cX6_letArrive 3 = .ok (.aload_n 0, 1) := by decide +kernel
theorem dX6_letArrive_4 : decode cX6_letArrive 4 = .ok (.getfield 23, 3) := by decide +kernel
theorem dX6_letArrive_7 : decode cX6_letArrive 7 = .ok (.getfield 84, 3) := by decide +kernel
theorem dX6_letArrive_10 : decode cX6_letArrive 10 = .ok (.if_icmp .ge 75, 3) := by decide +kernel
theorem dX6_letArrive_13 : decode cX6_letArrive 13 = .ok (.iconst 0, 1) := by decide +kernel
theorem dX6_letArrive_14 : decode cX6_letArrive 14 = .ok (.istore_n 2, 1) := by decide +kernel
theorem dX6_letArrive_15 : decode cX6_letArrive 15 = .ok (.iload_n 2, 1) := by decide +kernel
theorem dX6_letArrive_16 : decode cX6_letArrive 16 = .ok (.iconst 2, 1) := by decide +kernel
theorem dX6_letArrive_17 : decode cX6_letArrive 17 = .ok (.if_icmp .ge 62, 3) := by decide +kernel
theorem dX6_letArrive_20 : decode cX6_letArrive 20 = .ok (.aload_n 0, 1) := by decide +kernel
theorem dX6_letArrive_21 : decode cX6_letArrive 21 = .ok (.getfield 11, 3) := by decide +kernel
theorem dX6_letArrive_24 : decode cX6_letArrive 24 = .ok (.iconst 2, 1) := by decide +kernel
theorem dX6_letArrive_25 : decode cX6_letArrive 25 = .ok (.iload_n 1, 1) := by decide +kernel
theorem dX6_letArrive_26 : decode cX6_letArrive 26 = .ok (.imul, 1) := by decide +kernel
theorem dX6_letArrive_27 : decode cX6_letArrive 27 = .ok (.iload_n 2, 1) := by decide +kernel
theorem dX6_letArrive_28 : decode cX6_letArrive 28 = .ok (.iadd, 1) := by decide +kernel
theorem dX6_letArrive_29 : decode cX6_letArrive 29 = .ok (.aaload, 1) := by decide +kernel
theorem dX6_letArrive_30 : decode cX6_letArrive 30 = .ok (.aload_n 0, 1) := by decide +kernel
theorem dX6_letArrive_31 : decode cX6_letArrive 31 = .ok (.getfield 52, 3) := by decide +kernel
theorem dX6_letArrive_34 : decode cX6_letArrive 34 = .ok (.invokevirtual 89, 3) := by decide +kernel
theorem dX6_letArrive_37 : decode cX6_letArrive 37 = .ok (.istore_n 3, 1) := by decide +kernel
theorem dX6_letArrive_38 : decode cX6_letArrive 38 = .ok (.iload_n 3, 1) := by decide +kernel
theorem dX6_letArrive_39 : decode cX6_letArrive 39 = .ok (.iconst (-1), 1) := by decide +kernel
theorem dX6_letArrive_40 : decode cX6_letArrive 40 = .ok (.if_icmp .eq 33, 3) := by decide +kernel
theorem dX6_letArrive_43 : decode cX6_letArrive 43 = .ok (.aload_n 0, 1) := by decide +kernel
theorem dX6_letArrive_44 : decode cX6_letArrive 44 = .ok (.iload_n 3, 1) := by decide +kernel
theorem dX6_letArrive_45 : decode cX6_letArrive 45 = .ok (.iload_n 2, 1) := by decide +kernel
theorem dX6_letArrive_46 : decode cX6_letArrive 46 = .ok (.ifCond .ne 15, 3) := by decide +kernel
theorem dX6_letArrive_49 : decode cX6_letArrive 49 = .ok (.aload_n 0, 1) := by decide +kernel
theorem dX6_letArrive_50 : decode cX6_letArrive 50 = .ok (.getfield 23, 3) := by decide +kernel
theorem dX6_letArrive_53 : decode cX6_letArrive 53 = .ok (.getfield 93, 3) := by decide +kernel
theorem dX6_letArrive_56 : decode cX6_letArrive 56 = .ok (.iload_n 1, 1) := by decide +kernel
theorem dX6_letArrive_57 : decode cX6_letArrive 57 = .ok (.iaload, 1) := by decide +kernel
theorem dX6_letArrive_58 : decode cX6_letArrive 58 = .ok (.goto 12, 3) := by decide +kernel
theorem dX6_letArrive_61 : decode cX6_letArrive 61 = .ok (.aload_n 0, 1) := by decide +kernel
theorem dX6_letArrive_62 : decode cX6_letArrive 62 = .ok (.getfield 23, 3) := by decide +kernel
theorem dX6_letArrive_65 : decode cX6_letArrive 65 = .ok (.getfield 97, 3) := by decide +kernel
theorem dX6_letArrive_68 : decode cX6_letArrive 68 = .ok (.iload_n 1, 1) := by decide +kernel
theorem dX6_letArrive_69 : decode cX6_letArrive 69 = .ok (.iaload, 1) := by decide +kernel
theorem dX6_letArrive_70 : decode cX6_letArrive 70 = .ok (.invokevirtual 100, 3) := by decide +kernel
theorem dX6_letArrive_73 : decode cX6_letArrive 73 = .ok (.iinc 2 1, 3) := by decide +kernel
theorem dX6_letArrive_76 : decode cX6_letArrive 76 = .ok (.goto (-61), 3) := by decide +kernel
theorem dX6_letArrive_79 : decode cX6_letArrive 79 = .ok (.iinc 1 1, 3) := by decide +kernel
theorem dX6_letArrive_82 : decode cX6_letArrive 82 = .ok (.goto (-80), 3) := by decide +kernel
theorem dX6_letArrive_85 : decode cX6_letArrive 85 = .ok (.return_, 1) := by decide +kernel
set_option maxRecDepth 20000 in
theorem ggX6_arrive_X4_connectionOf : GoodIn wsX6_arrive wsX4_connectionOf := goodIn_r _ [12] (by decide +kernel) (by decide +kernel)
set_option maxRecDepth 20000 in
theorem gX6_arrive_X4_connectionOf : GoodIn wsX6_arrive (va_wsS RX6 103 yX4_connectionOf wsX4_connectionOf) := goodIn_app (goodIn_of _ (by decide +kernel)) ggX6_arrive_X4_connectionOf
set_option maxRecDepth 20000 in
theorem ggX6_arrive_X4_kindOf : GoodIn wsX6_arrive wsX4_kindOf := goodIn_r _ [15] (by decide +kernel) (by decide +kernel)
set_option maxRecDepth 20000 in
theorem gX6_arrive_X4_kindOf : GoodIn wsX6_arrive (va_wsS RX6 108 yX4_kindOf wsX4_kindOf) := goodIn_app (goodIn_of _ (by decide +kernel)) ggX6_arrive_X4_kindOf
set_option maxRecDepth 20000 in
theorem ggX6_arrive_X6_send : GoodIn wsX6_arrive wsX6_send := goodIn_r _ [20, 21, 7, 22, 23, 24, 25, 26, 27, 28, 29, 30, 31, 32, 33, 34, 35, 36, 37, 38, 39, 40, 41, 11, 42, 43, 44, 45, 46, 47, 48, 49, 50, 149, 150, 151, 152, 153, 154, 159, 160, 161, 162, 163, 164, 165, 166, 167, 168, 169, 170, 171, 172, 173, 174] (by decide +kernel) (by decide +kernel)
set_option maxRecDepth 20000 in
theorem gX6_arrive_X6_send : GoodIn wsX6_arrive (wsV RX6 111 RX6 yX6_send wsX6_send) := goodIn_app (goodIn_of _ (by decide +kernel)) ggX6_arrive_X6_send
set_option maxRecDepth 20000 in
theorem ggX6_arrive_X4_numberOf : GoodIn wsX6_arrive wsX4_numberOf := goodIn_r _ [53] (by decide +kernel) (by decide +kernel)
set_option maxRecDepth 20000 in
theorem gX6_arrive_X4_numberOf : GoodIn wsX6_arrive (va_wsS RX6 115 yX4_numberOf wsX4_numberOf) := goodIn_app (goodIn_of _ (by decide +kernel)) ggX6_arrive_X4_numberOf
set_option maxRecDepth 20000 in
theorem ggX6_arrive_X4_roomOf : GoodIn wsX6_arrive wsX4_roomOf := goodIn_r _ [56] (by decide +kernel) (by decide +kernel)
set_option maxRecDepth 20000 in
theorem gX6_arrive_X4_roomOf : GoodIn wsX6_arrive (va_wsS RX6 118 yX4_roomOf wsX4_roomOf) := goodIn_app (goodIn_of _ (by decide +kernel)) ggX6_arrive_X4_roomOf
set_option maxRecDepth 20000 in
theorem ggX6_arrive_X1_takeAnswer : GoodIn wsX6_arrive wsX1_takeAnswer := goodIn_r _ [61, 62, 63, 64, 65, 66, 67, 68, 69, 70, 60, 71, 72, 73, 74, 75, 76, 77, 78, 79, 80, 81, 82, 83, 84, 85, 86, 87, 88, 89, 90, 91, 92, 93, 94, 95, 96, 97, 98, 99, 100, 101, 102, 103, 104, 105, 106, 107, 108, 109, 110, 111, 112, 175, 176, 177, 178, 179, 180, 181, 182, 183, 184, 185, 186, 187, 188, 189, 190, 191, 192, 193] (by decide +kernel) (by decide +kernel)
set_option maxRecDepth 20000 in
theorem gX6_arrive_X1_takeAnswer : GoodIn wsX6_arrive (wsV RX6 121 RX1 yX1_takeAnswer wsX1_takeAnswer) := goodIn_app (goodIn_of _ (by decide +kernel)) ggX6_arrive_X1_takeAnswer
set_option maxRecDepth 20000 in
theorem ggX6_arrive_X1_baseAgain : GoodIn wsX6_arrive wsX1_baseAgain := goodIn_r _ [116, 117, 72, 65, 118, 119, 120, 80, 121, 82, 175, 176, 177, 178, 179, 180, 181, 182, 183, 184, 185, 186, 187, 188, 189, 190, 191, 192, 193] (by decide +kernel) (by decide +kernel)
set_option maxRecDepth 20000 in
theorem gX6_arrive_X1_baseAgain : GoodIn wsX6_arrive (wsV RX6 125 RX1 yX1_baseAgain wsX1_baseAgain) := goodIn_app (goodIn_of _ (by decide +kernel)) ggX6_arrive_X1_baseAgain
set_option maxRecDepth 20000 in
theorem ggX6_arrive_X6_sendThing : GoodIn wsX6_arrive wsX6_sendThing := goodIn_r _ [125, 2, 5, 126, 3, 4, 127, 128, 11, 129, 16, 17, 18, 19, 20, 21, 7, 22, 23, 24, 25, 26, 27, 28, 29, 30, 31, 32, 33, 34, 35, 36, 37, 38, 39, 40, 41, 42, 43, 44, 45, 46, 47, 48, 49, 50, 149, 150, 151, 152, 153, 154, 155, 156, 157, 158, 175, 176, 177, 178, 179, 180, 181, 182, 183, 184, 185, 186, 187, 188, 159, 160, 161, 162, 163, 164, 165, 166, 167, 168, 169, 170, 171, 172, 173, 174] (by decide +kernel) (by decide +kernel)
set_option maxRecDepth 20000 in
theorem gX6_arrive_X6_sendThing : GoodIn wsX6_arrive (wsV RX6 128 RX6 yX6_sendThing wsX6_sendThing) := goodIn_app (goodIn_of _ (by decide +kernel)) ggX6_arrive_X6_sendThing
set_option maxRecDepth 20000 in
theorem ggX6_arrive_X0_take : GoodIn wsX6_arrive wsX0_take := goodIn_r _ [134, 135, 136, 137, 138, 194, 195, 196, 197] (by decide +kernel) (by decide +kernel)
set_option maxRecDepth 20000 in
theorem gX6_arrive_X0_take : GoodIn wsX6_arrive (wsV RX6 131 RX0 yX0_take wsX0_take) := goodIn_app (goodIn_of _ (by decide +kernel)) ggX6_arrive_X0_take
set_option maxRecDepth 20000 in
theorem ggX6_arrive_X6_sendAnswer : GoodIn wsX6_arrive wsX6_sendAnswer := goodIn_r _ [142, 2, 8, 143, 4, 3, 144, 145, 146, 133, 147, 137, 138, 135, 148, 91, 88, 92, 127, 128, 11, 129, 16, 17, 18, 19, 20, 21, 7, 22, 23, 24, 25, 26, 27, 28, 29, 30, 31, 32, 33, 34, 35, 36, 37, 38, 39, 40, 41, 42, 43, 44, 45, 46, 47, 48, 49, 50, 149, 150, 151, 152, 153, 154, 155, 156, 157, 158, 194, 195, 196, 197, 159, 160, 161, 162, 163, 164, 165, 166, 167, 168, 169, 170, 171, 172, 173, 174] (by decide +kernel) (by decide +kernel)
set_option maxRecDepth 20000 in
theorem gX6_arrive_X6_sendAnswer : GoodIn wsX6_arrive (wsV RX6 135 RX6 yX6_sendAnswer wsX6_sendAnswer) := goodIn_app (goodIn_of _ (by decide +kernel)) ggX6_arrive_X6_sendAnswer
theorem dX6_arrive_0 : decode cX6_arrive 0 = .ok (.iload_n 1, 1) := by decide +kernel
theorem dX6_arrive_1 : decode cX6_arrive 1 = .ok (.invokestatic 103, 3) := by decide +kernel
theorem dX6_arrive_4 : decode cX6_arrive 4 = .ok (.istore_n 3, 1) := by decide +kernel
theorem dX6_arrive_5 : decode cX6_arrive 5 = .ok (.iload_n 3, 1) := by decide +kernel
theorem dX6_arrive_6 : decode cX6_arrive 6 = .ok (.aload_n 0, 1) := by decide +kernel
theorem dX6_arrive_7 : decode cX6_arrive 7 = .ok (.getfield 29, 3) := by decide +kernel
theorem dX6_arrive_10 : decode cX6_arrive 10 = .ok (.if_icmp .lt 4, 3) := by decide +kernel
theorem dX6_arrive_13 : decode cX6_arrive 13 = .ok (.return_, 1) := by decide +kernel
theorem dX6_arrive_14 : decode cX6_arrive 14 = .ok (.aload_n 0, 1) := by decide +kernel
theorem dX6_arrive_15 : decode cX6_arrive 15 = .ok (.getfield 19, 3) := by decide +kernel
theorem dX6_arrive_18 : decode cX6_arrive 18 = .ok (.iload_n 3, 1) := by decide +kernel
theorem dX6_arrive_19 : decode cX6_arrive 19 = .ok (.aaload, 1) := by decide +kernel
theorem dX6_arrive_20 : decode cX6_arrive 20 = .ok (.astore 4, 2) := by decide +kernel
theorem dX6_arrive_22 : decode cX6_arrive 22 = .ok (.iload_n 1, 1) := by decide +kernel
theorem dX6_arrive_23 : decode cX6_arrive 23 = .ok (.invokestatic 108, 3) := by decide +kernel
theorem dX6_arrive_26 : decode cX6_arrive 26 = .ok (.iconst 3, 1) := by decide +kernel
theorem dX6_arrive_27 : decode cX6_arrive 27 = .ok (.if_icmp .ne 7, 3) := by decide +kernel
theorem dX6_arrive_30 : decode cX6_arrive 30 = .ok (.iconst 1, 1) := by decide +kernel
theorem dX6_arrive_31 : decode cX6_arrive 31 = .ok (.goto 4, 3) := by decide +kernel
theorem dX6_arrive_34 : decode cX6_arrive 34 = .ok (.iconst 0, 1) := by decide +kernel
theorem dX6_arrive_35 : decode cX6_arrive 35 = .ok (.istore 5, 2) := by decide +kernel
theorem dX6_arrive_37 : decode cX6_arrive 37 = .ok (.iload 5, 2) := by decide +kernel
theorem dX6_arrive_39 : decode cX6_arrive 39 = .ok (.ifCond .eq 11, 3) := by decide +kernel
theorem dX6_arrive_42 : decode cX6_arrive 42 = .ok (.aload 4, 2) := by decide +kernel
theorem dX6_arrive_44 : decode cX6_arrive 44 = .ok (.getfield 33, 3) := by decide +kernel
theorem dX6_arrive_47 : decode cX6_arrive 47 = .ok (.goto 8, 3) := by decide +kernel
theorem dX6_arrive_50 : decode cX6_arrive 50 = .ok (.aload 4, 2) := by decide +kernel
theorem dX6_arrive_52 : decode cX6_arrive 52 = .ok (.getfield 36, 3) := by decide +kernel
theorem dX6_arrive_55 : decode cX6_arrive 55 = .ok (.istore 6, 2) := by decide +kernel
theorem dX6_arrive_57 : decode cX6_arrive 57 = .ok (.iload_n 2, 1) := by decide +kernel
theorem dX6_arrive_58 : decode cX6_arrive 58 = .ok (.iload 6, 2) := by decide +kernel
theorem dX6_arrive_60 : decode cX6_arrive 60 = .ok (.if_icmp .eq 14, 3) := by decide +kernel
theorem dX6_arrive_63 : decode cX6_arrive 63 = .ok (.aload_n 0, 1) := by decide +kernel
theorem dX6_arrive_64 : decode cX6_arrive 64 = .ok (.iload_n 1, 1) := by decide +kernel
theorem dX6_arrive_65 : decode cX6_arrive 65 = .ok (.iload_n 2, 1) := by decide +kernel
theorem dX6_arrive_66 : decode cX6_arrive 66 = .ok (.iload 6, 2) := by decide +kernel
theorem dX6_arrive_68 : decode cX6_arrive 68 = .ok (.invokevirtual 111, 3) := by decide +kernel
theorem dX6_arrive_71 : decode cX6_arrive 71 = .ok (.goto 106, 3) := by decide +kernel
theorem dX6_arrive_74 : decode cX6_arrive 74 = .ok (.iload 5, 2) := by decide +kernel
theorem dX6_arrive_76 : decode cX6_arrive 76 = .ok (.ifCond .eq 43, 3) := by decide +kernel
theorem dX6_arrive_79 : decode cX6_arrive 79 = .ok (.aload 4, 2) := by decide +kernel
theorem dX6_arrive_81 : decode cX6_arrive 81 = .ok (.getfield 48, 3) := by decide +kernel
theorem dX6_arrive_84 : decode cX6_arrive 84 = .ok (.astore 7, 2) := by decide +kernel
theorem dX6_arrive_86 : decode cX6_arrive 86 = .ok (.aload 7, 2) := by decide +kernel
theorem dX6_arrive_88 : decode cX6_arrive 88 = .ok (.iload_n 1, 1) := by decide +kernel
theorem dX6_arrive_89 : decode cX6_arrive 89 = .ok (.invokestatic 115, 3) := by decide +kernel
theorem dX6_arrive_92 : decode cX6_arrive 92 = .ok (.iload_n 1, 1) := by decide +kernel
theorem dX6_arrive_93 : decode cX6_arrive 93 = .ok (.invokestatic 118, 3) := by decide +kernel
theorem dX6_arrive_96 : decode cX6_arrive 96 = .ok (.aload_n 0, 1) := by decide +kernel
theorem dX6_arrive_97 : decode cX6_arrive 97 = .ok (.getfield 52, 3) := by decide +kernel
theorem dX6_arrive_100 : decode cX6_arrive 100 = .ok (.invokevirtual 121, 3) := by decide +kernel
theorem dX6_arrive_103 : decode cX6_arrive 103 = .ok (.ifCond .eq 13, 3) := by decide +kernel
theorem dX6_arrive_106 : decode cX6_arrive 106 = .ok (.aload_n 0, 1) := by decide +kernel
theorem dX6_arrive_107 : decode cX6_arrive 107 = .ok (.iload_n 3, 1) := by decide +kernel
theorem dX6_arrive_108 : decode cX6_arrive 108 = .ok (.aload 7, 2) := by decide +kernel
theorem dX6_arrive_110 : decode cX6_arrive 110 = .ok (.invokevirtual 125, 3) := by decide +kernel
theorem dX6_arrive_113 : decode cX6_arrive 113 = .ok (.invokevirtual 128, 3) := by decide +kernel
theorem dX6_arrive_116 : decode cX6_arrive 116 = .ok (.goto 61, 3) := by decide +kernel
theorem dX6_arrive_119 : decode cX6_arrive 119 = .ok (.iload_n 1, 1) := by decide +kernel
theorem dX6_arrive_120 : decode cX6_arrive 120 = .ok (.invokestatic 108, 3) := by decide +kernel
theorem dX6_arrive_123 : decode cX6_arrive 123 = .ok (.ifCond .eq 49, 3) := by decide +kernel
theorem dX6_arrive_126 : decode cX6_arrive 126 = .ok (.iload_n 1, 1) := by decide +kernel
theorem dX6_arrive_127 : decode cX6_arrive 127 = .ok (.invokestatic 108, 3) := by decide +kernel
theorem dX6_arrive_130 : decode cX6_arrive 130 = .ok (.iconst 1, 1) := by decide +kernel
theorem dX6_arrive_131 : decode cX6_arrive 131 = .ok (.if_icmp .ne 7, 3) := by decide +kernel
theorem dX6_arrive_134 : decode cX6_arrive 134 = .ok (.iconst 1, 1) := by decide +kernel
theorem dX6_arrive_135 : decode cX6_arrive 135 = .ok (.goto 4, 3) := by decide +kernel
theorem dX6_arrive_138 : decode cX6_arrive 138 = .ok (.iconst 0, 1) := by decide +kernel
theorem dX6_arrive_139 : decode cX6_arrive 139 = .ok (.istore 7, 2) := by decide +kernel
theorem dX6_arrive_141 : decode cX6_arrive 141 = .ok (.aload_n 0, 1) := by decide +kernel
theorem dX6_arrive_142 : decode cX6_arrive 142 = .ok (.dup, 1) := by decide +kernel
theorem dX6_arrive_143 : decode cX6_arrive 143 = .ok (.getfield 69, 3) := by decide +kernel
theorem dX6_arrive_146 : decode cX6_arrive 146 = .ok (.aload 4, 2) := by decide +kernel
theorem dX6_arrive_148 : decode cX6_arrive 148 = .ok (.getfield 39, 3) := by decide +kernel
theorem dX6_arrive_151 : decode cX6_arrive 151 = .ok (.iload_n 1, 1) := by decide +kernel
theorem dX6_arrive_152 : decode cX6_arrive 152 = .ok (.invokestatic 115, 3) := by decide +kernel
theorem dX6_arrive_155 : decode cX6_arrive 155 = .ok (.iload 7, 2) := by decide +kernel
theorem dX6_arrive_157 : decode cX6_arrive 157 = .ok (.invokevirtual 131, 3) := by decide +kernel
theorem dX6_arrive_160 : decode cX6_arrive 160 = .ok (.ifCond .eq 7, 3) := by decide +kernel
theorem dX6_arrive_163 : decode cX6_arrive 163 = .ok (.iconst 0, 1) := by decide +kernel
theorem dX6_arrive_164 : decode cX6_arrive 164 = .ok (.goto 4, 3) := by decide +kernel
theorem dX6_arrive_167 : decode cX6_arrive 167 = .ok (.iconst 1, 1) := by decide +kernel
theorem dX6_arrive_168 : decode cX6_arrive 168 = .ok (.iadd, 1) := by decide +kernel
theorem dX6_arrive_169 : decode cX6_arrive 169 = .ok (.putfield 69, 3) := by decide +kernel
theorem dX6_arrive_172 : decode cX6_arrive 172 = .ok (.aload_n 0, 1) := by decide +kernel
theorem dX6_arrive_173 : decode cX6_arrive 173 = .ok (.iload_n 3, 1) := by decide +kernel
theorem dX6_arrive_174 : decode cX6_arrive 174 = .ok (.invokevirtual 135, 3) := by decide +kernel
theorem dX6_arrive_177 : decode cX6_arrive 177 = .ok (.return_, 1) := by decide +kernel
set_option maxRecDepth 20000 in
theorem ggX6_letTimersRunOut_X1_runOut : GoodIn wsX6_letTimersRunOut wsX1_runOut := goodIn_r _ [11, 12, 13, 14, 15, 16, 17, 18, 19, 20, 21, 22, 23, 24, 25, 26, 27, 28, 29, 30, 31, 32, 10, 33, 34, 35, 36, 37, 38, 39, 40, 111, 112, 113, 114, 115, 116, 117, 118, 119, 120, 121, 122, 123, 124, 125, 126, 127, 128, 129] (by decide +kernel) (by decide +kernel)
set_option maxRecDepth 20000 in
theorem gX6_letTimersRunOut_X1_runOut : GoodIn wsX6_letTimersRunOut (wsV RX6 141 RX1 yX1_runOut wsX1_runOut) := goodIn_app (goodIn_of _ (by decide +kernel)) ggX6_letTimersRunOut_X1_runOut
set_option maxRecDepth 20000 in
theorem ggX6_letTimersRunOut_X6_sendHello : GoodIn wsX6_letTimersRunOut wsX6_sendHello := goodIn_r _ [45, 2, 46, 47, 48, 49, 50, 51, 52, 53, 54, 44, 55, 56, 57, 58, 59, 60, 61, 62, 63, 64, 65, 66, 67, 68, 69, 70, 71, 72, 73, 74, 75, 76, 77, 78, 79, 80, 81, 82, 83, 84, 85, 86, 101, 102, 103, 104, 105, 106, 107, 108, 109, 110, 130, 131, 132, 133, 134, 135, 136, 137, 138, 139, 140, 141, 142, 143, 144, 145] (by decide +kernel) (by decide +kernel)
set_option maxRecDepth 20000 in
theorem gX6_letTimersRunOut_X6_sendHello : GoodIn wsX6_letTimersRunOut (wsV RX6 61 RX6 yX6_sendHello wsX6_sendHello) := goodIn_app (goodIn_of _ (by decide +kernel)) ggX6_letTimersRunOut_X6_sendHello
set_option maxRecDepth 20000 in
theorem ggX6_letTimersRunOut_X1_baseAgain : GoodIn wsX6_letTimersRunOut wsX1_baseAgain := goodIn_r _ [90, 91, 15, 36, 92, 93, 94, 22, 95, 29, 111, 112, 113, 114, 115, 116, 117, 118, 119, 120, 121, 122, 123, 124, 125, 126, 127, 128, 129] (by decide +kernel) (by decide +kernel)
set_option maxRecDepth 20000 in
theorem gX6_letTimersRunOut_X1_baseAgain : GoodIn wsX6_letTimersRunOut (wsV RX6 125 RX1 yX1_baseAgain wsX1_baseAgain) := goodIn_app (goodIn_of _ (by decide +kernel)) ggX6_letTimersRunOut_X1_baseAgain
set_option maxRecDepth 20000 in
theorem ggX6_letTimersRunOut_X6_sendThing : GoodIn wsX6_letTimersRunOut wsX6_sendThing := goodIn_r _ [99, 2, 3, 100, 46, 47, 48, 49, 50, 51, 52, 53, 54, 44, 55, 56, 57, 58, 59, 60, 61, 62, 63, 64, 65, 66, 67, 68, 69, 70, 71, 72, 73, 74, 75, 76, 77, 78, 79, 80, 81, 82, 83, 84, 85, 86, 101, 102, 103, 104, 105, 106, 107, 108, 109, 110, 111, 112, 113, 114, 115, 116, 117, 118, 119, 120, 121, 122, 123, 124, 130, 131, 132, 133, 134, 135, 136, 137, 138, 139, 140, 141, 142, 143, 144, 145] (by decide +kernel) (by decide +kernel)
set_option maxRecDepth 20000 in
theorem gX6_letTimersRunOut_X6_sendThing : GoodIn wsX6_letTimersRunOut (wsV RX6 128 RX6 yX6_sendThing wsX6_sendThing) := goodIn_app (goodIn_of _ (by decide +kernel)) ggX6_letTimersRunOut_X6_sendThing
theorem dX6_letTimersRunOut_0 : decode cX6_letTimersRunOut 0 = .ok (.iconst 0, 1) := by decide +kernel
theorem dX6_letTimersRunOut_1 : decode cX6_letTimersRunOut 1 = .ok (.istore_n 1, 1) := by decide +kernel
theorem dX6_letTimersRunOut_2 : decode cX6_letTimersRunOut 2 = .ok (.iload_n 1, 1) := by decide +kernel
theorem dX6_letTimersRunOut_3 : decode cX6_letTimersRunOut 3 = .ok (.aload_n 0, 1) := by decide +kernel
theorem dX6_letTimersRunOut_4 : decode cX6_letTimersRunOut 4 = .ok (.getfield 29, 3) := by decide +kernel
theorem dX6_letTimersRunOut_7 : decode cX6_letTimersRunOut 7 = .ok (.if_icmp .ge 65, 3) := by decide +kernel
theorem dX6_letTimersRunOut_10 : decode cX6_letTimersRunOut 10 = .ok (.aload_n 0, 1) := by decide +kernel
theorem dX6_letTimersRunOut_11 : decode cX6_letTimersRunOut 11 = .ok (.getfield 19, 3) := by decide +kernel
theorem dX6_letTimersRunOut_14 : decode cX6_letTimersRunOut 14 = .ok (.iload_n 1, 1) := by decide +kernel
theorem dX6_letTimersRunOut_15 : decode cX6_letTimersRunOut 15 = .ok (.aaload, 1) := by decide +kernel
theorem dX6_letTimersRunOut_16 : decode cX6_letTimersRunOut 16 = .ok (.getfield 48, 3) := by decide +kernel
theorem dX6_letTimersRunOut_19 : decode cX6_letTimersRunOut 19 = .ok (.astore_n 2, 1) := by decide +kernel
theorem dX6_letTimersRunOut_20 : decode cX6_letTimersRunOut 20 = .ok (.aload_n 2, 1) := by decide +kernel
theorem dX6_letTimersRunOut_21 : decode cX6_letTimersRunOut 21 = .ok (.getfield 138, 3) := by decide +kernel
theorem dX6_letTimersRunOut_24 : decode cX6_letTimersRunOut 24 = .ok (.aload_n 0, 1) := by decide +kernel
theorem dX6_letTimersRunOut_25 : decode cX6_letTimersRunOut 25 = .ok (.getfield 52, 3) := by decide +kernel
theorem dX6_letTimersRunOut_28 : decode cX6_letTimersRunOut 28 = .ok (.if_icmp .ne 38, 3) := by decide +kernel
theorem dX6_letTimersRunOut_31 : decode cX6_letTimersRunOut 31 = .ok (.aload_n 2, 1) := by decide +kernel
theorem dX6_letTimersRunOut_32 : decode cX6_letTimersRunOut 32 = .ok (.aload_n 0, 1) := by decide +kernel
theorem dX6_letTimersRunOut_33 : decode cX6_letTimersRunOut 33 = .ok (.getfield 52, 3) := by decide +kernel
theorem dX6_letTimersRunOut_36 : decode cX6_letTimersRunOut 36 = .ok (.invokevirtual 141, 3) := by decide +kernel
theorem dX6_letTimersRunOut_39 : decode cX6_letTimersRunOut 39 = .ok (.ifCond .eq 27, 3) := by decide +kernel
theorem dX6_letTimersRunOut_42 : decode cX6_letTimersRunOut 42 = .ok (.aload_n 2, 1) := by decide +kernel
theorem dX6_letTimersRunOut_43 : decode cX6_letTimersRunOut 43 = .ok (.getfield 145, 3) := by decide +kernel
theorem dX6_letTimersRunOut_46 : decode cX6_letTimersRunOut 46 = .ok (.ifCond .ne 11, 3) := by decide +kernel
theorem dX6_letTimersRunOut_49 : decode cX6_letTimersRunOut 49 = .ok (.aload_n 0, 1) := by decide +kernel
theorem dX6_letTimersRunOut_50 : decode cX6_letTimersRunOut 50 = .ok (.iload_n 1, 1) := by decide +kernel
theorem dX6_letTimersRunOut_51 : decode cX6_letTimersRunOut 51 = .ok (.invokevirtual 61, 3) := by decide +kernel
theorem dX6_letTimersRunOut_54 : decode cX6_letTimersRunOut 54 = .ok (.goto 12, 3) := by decide +kernel
theorem dX6_letTimersRunOut_57 : decode cX6_letTimersRunOut 57 = .ok (.aload_n 0, 1) := by decide +kernel
theorem dX6_letTimersRunOut_58 : decode cX6_letTimersRunOut 58 = .ok (.iload_n 1, 1) := by decide +kernel
theorem dX6_letTimersRunOut_59 : decode cX6_letTimersRunOut 59 = .ok (.aload_n 2, 1) := by decide +kernel
theorem dX6_letTimersRunOut_60 : decode cX6_letTimersRunOut 60 = .ok (.invokevirtual 125, 3) := by decide +kernel
theorem dX6_letTimersRunOut_63 : decode cX6_letTimersRunOut 63 = .ok (.invokevirtual 128, 3) := by decide +kernel
theorem dX6_letTimersRunOut_66 : decode cX6_letTimersRunOut 66 = .ok (.iinc 1 1, 3) := by decide +kernel
theorem dX6_letTimersRunOut_69 : decode cX6_letTimersRunOut 69 = .ok (.goto (-67), 3) := by decide +kernel
theorem dX6_letTimersRunOut_72 : decode cX6_letTimersRunOut 72 = .ok (.return_, 1) := by decide +kernel
set_option maxRecDepth 20000 in
theorem ggX6_letCallersSend_X1_maySend : GoodIn wsX6_letCallersSend wsX1_maySend := goodIn_r _ [10, 11, 12, 13, 14, 15, 16, 17, 18, 19, 9, 20, 21, 93, 94, 95, 96, 97, 98, 99, 100, 101, 102, 103, 104, 105, 106] (by decide +kernel) (by decide +kernel)
set_option maxRecDepth 20000 in
theorem gX6_letCallersSend_X1_maySend : GoodIn wsX6_letCallersSend (wsV RX6 148 RX1 yX1_maySend wsX1_maySend) := goodIn_app (goodIn_of _ (by decide +kernel)) ggX6_letCallersSend_X1_maySend
set_option maxRecDepth 20000 in
theorem ggX6_letCallersSend_X6_sendThing : GoodIn wsX6_letCallersSend wsX6_sendThing := goodIn_r _ [26, 2, 3, 27, 28, 29, 30, 31, 32, 33, 34, 35, 36, 25, 37, 38, 39, 40, 41, 42, 43, 44, 45, 46, 47, 48, 49, 50, 51, 52, 53, 54, 55, 56, 57, 58, 59, 60, 61, 62, 63, 64, 65, 66, 67, 68, 83, 84, 85, 86, 87, 88, 89, 90, 91, 92, 93, 94, 95, 96, 97, 98, 99, 100, 101, 102, 103, 104, 105, 106, 107, 108, 109, 110, 111, 112, 113, 114, 115, 116, 117, 118, 119, 120, 121, 122] (by decide +kernel) (by decide +kernel)
set_option maxRecDepth 20000 in
theorem gX6_letCallersSend_X6_sendThing : GoodIn wsX6_letCallersSend (wsV RX6 128 RX6 yX6_sendThing wsX6_sendThing) := goodIn_app (goodIn_of _ (by decide +kernel)) ggX6_letCallersSend_X6_sendThing
set_option maxRecDepth 20000 in
theorem ggX6_letCallersSend_X1_sent : GoodIn wsX6_letCallersSend wsX1_sent := goodIn_r _ [72, 73, 11, 74, 75, 76, 77, 78, 79, 80, 81, 82, 93, 94, 95, 96, 97, 98, 99, 100, 101, 102, 103, 104, 105, 106, 123, 124, 125, 126, 127] (by decide +kernel) (by decide +kernel)
set_option maxRecDepth 20000 in
theorem gX6_letCallersSend_X1_sent : GoodIn wsX6_letCallersSend (wsV RX6 155 RX1 yX1_sent wsX1_sent) := goodIn_app (goodIn_of _ (by decide +kernel)) ggX6_letCallersSend_X1_sent
theorem dX6_letCallersSend_0 : decode cX6_letCallersSend 0 = .ok (.iconst 0, 1) := by decide +kernel
theorem dX6_letCallersSend_1 : decode cX6_letCallersSend 1 = .ok (.istore_n 1, 1) := by decide +kernel
theorem dX6_letCallersSend_2 : decode cX6_letCallersSend 2 = .ok (.iload_n 1, 1) := by decide +kernel
theorem dX6_letCallersSend_3 : decode cX6_letCallersSend 3 = .ok (.aload_n 0, 1) := by decide +kernel
theorem dX6_letCallersSend_4 : decode cX6_letCallersSend 4 = .ok (.getfield 29, 3) := by decide +kernel
theorem dX6_letCallersSend_7 : decode cX6_letCallersSend 7 = .ok (.if_icmp .ge 58, 3) := by decide +kernel
theorem dX6_letCallersSend_10 : decode cX6_letCallersSend 10 = .ok (.aload_n 0, 1) := by decide +kernel
theorem dX6_letCallersSend_11 : decode cX6_letCallersSend 11 = .ok (.getfield 19, 3) := by decide +kernel
theorem dX6_letCallersSend_14 : decode cX6_letCallersSend 14 = .ok (.iload_n 1, 1) := by decide +kernel
theorem dX6_letCallersSend_15 : decode cX6_letCallersSend 15 = .ok (.aaload, 1) := by decide +kernel
theorem dX6_letCallersSend_16 : decode cX6_letCallersSend 16 = .ok (.getfield 48, 3) := by decide +kernel
theorem dX6_letCallersSend_19 : decode cX6_letCallersSend 19 = .ok (.astore_n 2, 1) := by decide +kernel
theorem dX6_letCallersSend_20 : decode cX6_letCallersSend 20 = .ok (.iconst 0, 1) := by decide +kernel
theorem dX6_letCallersSend_21 : decode cX6_letCallersSend 21 = .ok (.istore_n 3, 1) := by decide +kernel
theorem dX6_letCallersSend_22 : decode cX6_letCallersSend 22 = .ok (.iload_n 3, 1) := by decide +kernel
theorem dX6_letCallersSend_23 : decode cX6_letCallersSend 23 = .ok (.sipush 201, 3) := by decide +kernel
theorem dX6_letCallersSend_26 : decode cX6_letCallersSend 26 = .ok (.if_icmp .ge 33, 3) := by decide +kernel
theorem dX6_letCallersSend_29 : decode cX6_letCallersSend 29 = .ok (.aload_n 2, 1) := by decide +kernel
theorem dX6_letCallersSend_30 : decode cX6_letCallersSend 30 = .ok (.invokevirtual 148, 3) := by decide +kernel
theorem dX6_letCallersSend_33 : decode cX6_letCallersSend 33 = .ok (.ifCond .eq 26, 3) := by decide +kernel
theorem dX6_letCallersSend_36 : decode cX6_letCallersSend 36 = .ok (.aload_n 0, 1) := by decide +kernel
theorem dX6_letCallersSend_37 : decode cX6_letCallersSend 37 = .ok (.iload_n 1, 1) := by decide +kernel
theorem dX6_letCallersSend_38 : decode cX6_letCallersSend 38 = .ok (.aload_n 2, 1) := by decide +kernel
theorem dX6_letCallersSend_39 : decode cX6_letCallersSend 39 = .ok (.getfield 152, 3) := by decide +kernel
theorem dX6_letCallersSend_42 : decode cX6_letCallersSend 42 = .ok (.invokevirtual 128, 3) := by decide +kernel
theorem dX6_letCallersSend_45 : decode cX6_letCallersSend 45 = .ok (.aload_n 2, 1) := by decide +kernel
theorem dX6_letCallersSend_46 : decode cX6_letCallersSend 46 = .ok (.aload_n 0, 1) := by decide +kernel
theorem dX6_letCallersSend_47 : decode cX6_letCallersSend 47 = .ok (.getfield 52, 3) := by decide +kernel
theorem dX6_letCallersSend_50 : decode cX6_letCallersSend 50 = .ok (.invokevirtual 155, 3) := by decide +kernel
theorem dX6_letCallersSend_53 : decode cX6_letCallersSend 53 = .ok (.iinc 3 1, 3) := by decide +kernel
theorem dX6_letCallersSend_56 : decode cX6_letCallersSend 56 = .ok (.goto (-34), 3) := by decide +kernel
theorem dX6_letCallersSend_59 : decode cX6_letCallersSend 59 = .ok (.iinc 1 1, 3) := by decide +kernel
theorem dX6_letCallersSend_62 : decode cX6_letCallersSend 62 = .ok (.goto (-60), 3) := by decide +kernel
theorem dX6_letCallersSend_65 : decode cX6_letCallersSend 65 = .ok (.return_, 1) := by decide +kernel
set_option maxRecDepth 20000 in
theorem ggX6_letTakeOff_X7_takeOff : GoodIn wsX6_letTakeOff wsX7_takeOff := goodIn_r _ [12, 13, 14, 15, 16, 17, 18, 19, 20, 21, 22, 23, 24, 40, 41, 42, 43, 44, 45, 46] (by decide +kernel) (by decide +kernel)
set_option maxRecDepth 20000 in
theorem gX6_letTakeOff_X7_takeOff : GoodIn wsX6_letTakeOff (wsV RX6 165 RX7 yX7_takeOff wsX7_takeOff) := goodIn_app (goodIn_of _ (by decide +kernel)) ggX6_letTakeOff_X7_takeOff
theorem dX6_letTakeOff_0 : decode cX6_letTakeOff 0 = .ok (.iconst 0, 1) := by decide +kernel
theorem dX6_letTakeOff_1 : decode cX6_letTakeOff 1 = .ok (.istore_n 1, 1) := by decide +kernel
theorem dX6_letTakeOff_2 : decode cX6_letTakeOff 2 = .ok (.iload_n 1, 1) := by decide +kernel
theorem dX6_letTakeOff_3 : decode cX6_letTakeOff 3 = .ok (.aload_n 0, 1) := by decide +kernel
theorem dX6_letTakeOff_4 : decode cX6_letTakeOff 4 = .ok (.getfield 23, 3) := by decide +kernel
theorem dX6_letTakeOff_7 : decode cX6_letTakeOff 7 = .ok (.getfield 84, 3) := by decide +kernel
theorem dX6_letTakeOff_10 : decode cX6_letTakeOff 10 = .ok (.if_icmp .ge 96, 3) := by decide +kernel
theorem dX6_letTakeOff_13 : decode cX6_letTakeOff 13 = .ok (.aload_n 0, 1) := by decide +kernel
theorem dX6_letTakeOff_14 : decode cX6_letTakeOff 14 = .ok (.getfield 23, 3) := by decide +kernel
theorem dX6_letTakeOff_17 : decode cX6_letTakeOff 17 = .ok (.getfield 158, 3) := by decide +kernel
theorem dX6_letTakeOff_20 : decode cX6_letTakeOff 20 = .ok (.iload_n 1, 1) := by decide +kernel
theorem dX6_letTakeOff_21 : decode cX6_letTakeOff 21 = .ok (.baload, 1) := by decide +kernel
theorem dX6_letTakeOff_22 : decode cX6_letTakeOff 22 = .ok (.ifCond .eq 78, 3) := by decide +kernel
theorem dX6_letTakeOff_25 : decode cX6_letTakeOff 25 = .ok (.aload_n 0, 1) := by decide +kernel
theorem dX6_letTakeOff_26 : decode cX6_letTakeOff 26 = .ok (.getfield 52, 3) := by decide +kernel
theorem dX6_letTakeOff_29 : decode cX6_letTakeOff 29 = .ok (.aload_n 0, 1) := by decide +kernel
theorem dX6_letTakeOff_30 : decode cX6_letTakeOff 30 = .ok (.getfield 23, 3) := by decide +kernel
theorem dX6_letTakeOff_33 : decode cX6_letTakeOff 33 = .ok (.getfield 162, 3) := by decide +kernel
theorem dX6_letTakeOff_36 : decode cX6_letTakeOff 36 = .ok (.iload_n 1, 1) := by decide +kernel
theorem dX6_letTakeOff_37 : decode cX6_letTakeOff 37 = .ok (.iaload, 1) := by decide +kernel
theorem dX6_letTakeOff_38 : decode cX6_letTakeOff 38 = .ok (.iadd, 1) := by decide +kernel
theorem dX6_letTakeOff_39 : decode cX6_letTakeOff 39 = .ok (.istore_n 2, 1) := by decide +kernel
theorem dX6_letTakeOff_40 : decode cX6_letTakeOff 40 = .ok (.aload_n 0, 1) := by decide +kernel
theorem dX6_letTakeOff_41 : decode cX6_letTakeOff 41 = .ok (.dup, 1) := by decide +kernel
theorem dX6_letTakeOff_42 : decode cX6_letTakeOff 42 = .ok (.getfield 69, 3) := by decide +kernel
theorem dX6_letTakeOff_45 : decode cX6_letTakeOff 45 = .ok (.aload_n 0, 1) := by decide +kernel
theorem dX6_letTakeOff_46 : decode cX6_letTakeOff 46 = .ok (.getfield 11, 3) := by decide +kernel
theorem dX6_letTakeOff_49 : decode cX6_letTakeOff 49 = .ok (.iconst 2, 1) := by decide +kernel
theorem dX6_letTakeOff_50 : decode cX6_letTakeOff 50 = .ok (.iload_n 1, 1) := by decide +kernel
theorem dX6_letTakeOff_51 : decode cX6_letTakeOff 51 = .ok (.imul, 1) := by decide +kernel
theorem dX6_letTakeOff_52 : decode cX6_letTakeOff 52 = .ok (.aaload, 1) := by decide +kernel
theorem dX6_letTakeOff_53 : decode cX6_letTakeOff 53 = .ok (.iload_n 2, 1) := by decide +kernel
theorem dX6_letTakeOff_54 : decode cX6_letTakeOff 54 = .ok (.invokevirtual 165, 3) := by decide +kernel
theorem dX6_letTakeOff_57 : decode cX6_letTakeOff 57 = .ok (.ifCond .eq 7, 3) := by decide +kernel
theorem dX6_letTakeOff_60 : decode cX6_letTakeOff 60 = .ok (.iconst 1, 1) := by decide +kernel
theorem dX6_letTakeOff_61 : decode cX6_letTakeOff 61 = .ok (.goto 4, 3) := by decide +kernel
theorem dX6_letTakeOff_64 : decode cX6_letTakeOff 64 = .ok (.iconst 0, 1) := by decide +kernel
theorem dX6_letTakeOff_65 : decode cX6_letTakeOff 65 = .ok (.iadd, 1) := by decide +kernel
theorem dX6_letTakeOff_66 : decode cX6_letTakeOff 66 = .ok (.putfield 69, 3) := by decide +kernel
theorem dX6_letTakeOff_69 : decode cX6_letTakeOff 69 = .ok (.aload_n 0, 1) := by decide +kernel
theorem dX6_letTakeOff_70 : decode cX6_letTakeOff 70 = .ok (.dup, 1) := by decide +kernel
theorem dX6_letTakeOff_71 : decode cX6_letTakeOff 71 = .ok (.getfield 69, 3) := by decide +kernel
theorem dX6_letTakeOff_74 : decode cX6_letTakeOff 74 = .ok (.aload_n 0, 1) := by decide +kernel
theorem dX6_letTakeOff_75 : decode cX6_letTakeOff 75 = .ok (.getfield 11, 3) := by decide +kernel
theorem dX6_letTakeOff_78 : decode cX6_letTakeOff 78 = .ok (.iconst 2, 1) := by decide +kernel
theorem dX6_letTakeOff_79 : decode cX6_letTakeOff 79 = .ok (.iload_n 1, 1) := by decide +kernel
theorem dX6_letTakeOff_80 : decode cX6_letTakeOff 80 = .ok (.imul, 1) := by decide +kernel
theorem dX6_letTakeOff_81 : decode cX6_letTakeOff 81 = .ok (.iconst 1, 1) := by decide +kernel
theorem dX6_letTakeOff_82 : decode cX6_letTakeOff 82 = .ok (.iadd, 1) := by decide +kernel
theorem dX6_letTakeOff_83 : decode cX6_letTakeOff 83 = .ok (.aaload, 1) := by decide +kernel
theorem dX6_letTakeOff_84 : decode cX6_letTakeOff 84 = .ok (.iload_n 2, 1) := by decide +kernel
theorem dX6_letTakeOff_85 : decode cX6_letTakeOff 85 = .ok (.invokevirtual 165, 3) := by decide +kernel
theorem dX6_letTakeOff_88 : decode cX6_letTakeOff 88 = .ok (.ifCond .eq 7, 3) := by decide +kernel
theorem dX6_letTakeOff_91 : decode cX6_letTakeOff 91 = .ok (.iconst 1, 1) := by decide +kernel
theorem dX6_letTakeOff_92 : decode cX6_letTakeOff 92 = .ok (.goto 4, 3) := by decide +kernel
theorem dX6_letTakeOff_95 : decode cX6_letTakeOff 95 = .ok (.iconst 0, 1) := by decide +kernel
theorem dX6_letTakeOff_96 : decode cX6_letTakeOff 96 = .ok (.iadd, 1) := by decide +kernel
theorem dX6_letTakeOff_97 : decode cX6_letTakeOff 97 = .ok (.putfield 69, 3) := by decide +kernel
theorem dX6_letTakeOff_100 : decode cX6_letTakeOff 100 = .ok (.iinc 1 1, 3) := by decide +kernel
theorem dX6_letTakeOff_103 : decode cX6_letTakeOff 103 = .ok (.goto (-101), 3) := by decide +kernel
theorem dX6_letTakeOff_106 : decode cX6_letTakeOff 106 = .ok (.return_, 1) := by decide +kernel
set_option maxRecDepth 20000 in
theorem ggX6_sendHello_X4_of : GoodIn wsX6_sendHello wsX4_of := goodIn_r _ [7] (by decide +kernel) (by decide +kernel)
set_option maxRecDepth 20000 in
theorem gX6_sendHello_X4_of : GoodIn wsX6_sendHello (va_wsS RX6 168 yX4_of wsX4_of) := goodIn_app (goodIn_of _ (by decide +kernel)) ggX6_sendHello_X4_of
set_option maxRecDepth 20000 in
theorem ggX6_sendHello_X6_send : GoodIn wsX6_sendHello wsX6_send := goodIn_r _ [12, 13, 14, 15, 16, 17, 18, 19, 20, 21, 22, 23, 24, 25, 26, 27, 28, 29, 30, 31, 32, 33, 34, 6, 35, 36, 37, 38, 39, 40, 41, 42, 43, 44, 45, 46, 47, 48, 49, 54, 55, 56, 57, 58, 59, 60, 61, 62, 63, 64, 65, 66, 67, 68, 69] (by decide +kernel) (by decide +kernel)
set_option maxRecDepth 20000 in
theorem gX6_sendHello_X6_send : GoodIn wsX6_sendHello (wsV RX6 111 RX6 yX6_send wsX6_send) := goodIn_app (goodIn_of _ (by decide +kernel)) ggX6_sendHello_X6_send
theorem dX6_sendHello_0 : decode cX6_sendHello 0 = .ok (.aload_n 0, 1) := by decide +kernel
theorem dX6_sendHello_1 : decode cX6_sendHello 1 = .ok (.getfield 19, 3) := by decide +kernel
theorem dX6_sendHello_4 : decode cX6_sendHello 4 = .ok (.iload_n 1, 1) := by decide +kernel
theorem dX6_sendHello_5 : decode cX6_sendHello 5 = .ok (.aaload, 1) := by decide +kernel
theorem dX6_sendHello_6 : decode cX6_sendHello 6 = .ok (.astore_n 2, 1) := by decide +kernel
theorem dX6_sendHello_7 : decode cX6_sendHello 7 = .ok (.iload_n 1, 1) := by decide +kernel
theorem dX6_sendHello_8 : decode cX6_sendHello 8 = .ok (.iconst 0, 1) := by decide +kernel
theorem dX6_sendHello_9 : decode cX6_sendHello 9 = .ok (.iconst 0, 1) := by decide +kernel
theorem dX6_sendHello_10 : decode cX6_sendHello 10 = .ok (.iconst 0, 1) := by decide +kernel
theorem dX6_sendHello_11 : decode cX6_sendHello 11 = .ok (.invokestatic 168, 3) := by decide +kernel
theorem dX6_sendHello_14 : decode cX6_sendHello 14 = .ok (.istore_n 3, 1) := by decide +kernel
theorem dX6_sendHello_15 : decode cX6_sendHello 15 = .ok (.aload_n 0, 1) := by decide +kernel
theorem dX6_sendHello_16 : decode cX6_sendHello 16 = .ok (.iload_n 3, 1) := by decide +kernel
theorem dX6_sendHello_17 : decode cX6_sendHello 17 = .ok (.aload_n 2, 1) := by decide +kernel
theorem dX6_sendHello_18 : decode cX6_sendHello 18 = .ok (.getfield 33, 3) := by decide +kernel
theorem dX6_sendHello_21 : decode cX6_sendHello 21 = .ok (.aload_n 2, 1) := by decide +kernel
theorem dX6_sendHello_22 : decode cX6_sendHello 22 = .ok (.getfield 36, 3) := by decide +kernel
theorem dX6_sendHello_25 : decode cX6_sendHello 25 = .ok (.invokevirtual 111, 3) := by decide +kernel
theorem dX6_sendHello_28 : decode cX6_sendHello 28 = .ok (.return_, 1) := by decide +kernel
set_option maxRecDepth 20000 in
theorem ggX6_sendThing_X4_of : GoodIn wsX6_sendThing wsX4_of := goodIn_r _ [9] (by decide +kernel) (by decide +kernel)
set_option maxRecDepth 20000 in
theorem gX6_sendThing_X4_of : GoodIn wsX6_sendThing (va_wsS RX6 168 yX4_of wsX4_of) := goodIn_app (goodIn_of _ (by decide +kernel)) ggX6_sendThing_X4_of
set_option maxRecDepth 20000 in
theorem ggX6_sendThing_X6_send : GoodIn wsX6_sendThing wsX6_send := goodIn_r _ [14, 15, 16, 17, 18, 19, 20, 21, 22, 23, 24, 25, 26, 27, 28, 29, 30, 31, 32, 33, 34, 35, 36, 8, 37, 38, 39, 40, 41, 42, 43, 44, 45, 46, 47, 48, 49, 50, 51, 70, 71, 72, 73, 74, 75, 76, 77, 78, 79, 80, 81, 82, 83, 84, 85] (by decide +kernel) (by decide +kernel)
set_option maxRecDepth 20000 in
theorem gX6_sendThing_X6_send : GoodIn wsX6_sendThing (wsV RX6 111 RX6 yX6_send wsX6_send) := goodIn_app (goodIn_of _ (by decide +kernel)) ggX6_sendThing_X6_send
theorem dX6_sendThing_0 : decode cX6_sendThing 0 = .ok (.aload_n 0, 1) := by decide +kernel
theorem dX6_sendThing_1 : decode cX6_sendThing 1 = .ok (.getfield 19, 3) := by decide +kernel
theorem dX6_sendThing_4 : decode cX6_sendThing 4 = .ok (.iload_n 1, 1) := by decide +kernel
theorem dX6_sendThing_5 : decode cX6_sendThing 5 = .ok (.aaload, 1) := by decide +kernel
theorem dX6_sendThing_6 : decode cX6_sendThing 6 = .ok (.astore_n 3, 1) := by decide +kernel
theorem dX6_sendThing_7 : decode cX6_sendThing 7 = .ok (.iload_n 2, 1) := by decide +kernel
theorem dX6_sendThing_8 : decode cX6_sendThing 8 = .ok (.aload_n 3, 1) := by decide +kernel
theorem dX6_sendThing_9 : decode cX6_sendThing 9 = .ok (.getfield 48, 3) := by decide +kernel
theorem dX6_sendThing_12 : decode cX6_sendThing 12 = .ok (.getfield 172, 3) := by decide +kernel
theorem dX6_sendThing_15 : decode cX6_sendThing 15 = .ok (.if_icmp .ge 7, 3) := by decide +kernel
theorem dX6_sendThing_18 : decode cX6_sendThing 18 = .ok (.iconst 1, 1) := by decide +kernel
theorem dX6_sendThing_19 : decode cX6_sendThing 19 = .ok (.goto 4, 3) := by decide +kernel
theorem dX6_sendThing_22 : decode cX6_sendThing 22 = .ok (.iconst 2, 1) := by decide +kernel
theorem dX6_sendThing_23 : decode cX6_sendThing 23 = .ok (.istore 4, 2) := by decide +kernel
theorem dX6_sendThing_25 : decode cX6_sendThing 25 = .ok (.iload_n 1, 1) := by decide +kernel
theorem dX6_sendThing_26 : decode cX6_sendThing 26 = .ok (.iload 4, 2) := by decide +kernel
theorem dX6_sendThing_28 : decode cX6_sendThing 28 = .ok (.iload_n 2, 1) := by decide +kernel
theorem dX6_sendThing_29 : decode cX6_sendThing 29 = .ok (.iconst 0, 1) := by decide +kernel
theorem dX6_sendThing_30 : decode cX6_sendThing 30 = .ok (.invokestatic 168, 3) := by decide +kernel
theorem dX6_sendThing_33 : decode cX6_sendThing 33 = .ok (.istore 5, 2) := by decide +kernel
theorem dX6_sendThing_35 : decode cX6_sendThing 35 = .ok (.aload_n 0, 1) := by decide +kernel
theorem dX6_sendThing_36 : decode cX6_sendThing 36 = .ok (.iload 5, 2) := by decide +kernel
theorem dX6_sendThing_38 : decode cX6_sendThing 38 = .ok (.aload_n 3, 1) := by decide +kernel
theorem dX6_sendThing_39 : decode cX6_sendThing 39 = .ok (.getfield 33, 3) := by decide +kernel
theorem dX6_sendThing_42 : decode cX6_sendThing 42 = .ok (.aload_n 3, 1) := by decide +kernel
theorem dX6_sendThing_43 : decode cX6_sendThing 43 = .ok (.getfield 36, 3) := by decide +kernel
theorem dX6_sendThing_46 : decode cX6_sendThing 46 = .ok (.invokevirtual 111, 3) := by decide +kernel
theorem dX6_sendThing_49 : decode cX6_sendThing 49 = .ok (.return_, 1) := by decide +kernel
set_option maxRecDepth 20000 in
theorem ggX6_sendAnswer_X0_spare : GoodIn wsX6_sendAnswer wsX0_spare := goodIn_r _ [10, 11, 12, 13, 14, 15, 16, 17, 68, 69, 70, 71] (by decide +kernel) (by decide +kernel)
set_option maxRecDepth 20000 in
theorem gX6_sendAnswer_X0_spare : GoodIn wsX6_sendAnswer (wsV RX6 178 RX0 yX0_spare wsX0_spare) := goodIn_app (goodIn_of _ (by decide +kernel)) ggX6_sendAnswer_X0_spare
set_option maxRecDepth 20000 in
theorem ggX6_sendAnswer_X4_of : GoodIn wsX6_sendAnswer wsX4_of := goodIn_r _ [21] (by decide +kernel) (by decide +kernel)
set_option maxRecDepth 20000 in
theorem gX6_sendAnswer_X4_of : GoodIn wsX6_sendAnswer (va_wsS RX6 168 yX4_of wsX4_of) := goodIn_app (goodIn_of _ (by decide +kernel)) ggX6_sendAnswer_X4_of
set_option maxRecDepth 20000 in
theorem ggX6_sendAnswer_X6_send : GoodIn wsX6_sendAnswer wsX6_send := goodIn_r _ [26, 27, 28, 29, 30, 31, 32, 33, 34, 35, 36, 37, 38, 39, 40, 41, 42, 43, 44, 45, 46, 47, 48, 20, 49, 50, 51, 52, 53, 54, 55, 56, 57, 58, 59, 60, 61, 62, 63, 72, 73, 74, 75, 76, 77, 78, 79, 80, 81, 82, 83, 84, 85, 86, 87] (by decide +kernel) (by decide +kernel)
set_option maxRecDepth 20000 in
theorem gX6_sendAnswer_X6_send : GoodIn wsX6_sendAnswer (wsV RX6 111 RX6 yX6_send wsX6_send) := goodIn_app (goodIn_of _ (by decide +kernel)) ggX6_sendAnswer_X6_send
theorem dX6_sendAnswer_0 : decode cX6_sendAnswer 0 = .ok (.aload_n 0, 1) := by decide +kernel
theorem dX6_sendAnswer_1 : decode cX6_sendAnswer 1 = .ok (.getfield 19, 3) := by decide +kernel
theorem dX6_sendAnswer_4 : decode cX6_sendAnswer 4 = .ok (.iload_n 1, 1) := by decide +kernel
theorem dX6_sendAnswer_5 : decode cX6_sendAnswer 5 = .ok (.aaload, 1) := by decide +kernel
theorem dX6_sendAnswer_6 : decode cX6_sendAnswer 6 = .ok (.astore_n 2, 1) := by decide +kernel
theorem dX6_sendAnswer_7 : decode cX6_sendAnswer 7 = .ok (.aload_n 2, 1) := by decide +kernel
theorem dX6_sendAnswer_8 : decode cX6_sendAnswer 8 = .ok (.getfield 39, 3) := by decide +kernel
theorem dX6_sendAnswer_11 : decode cX6_sendAnswer 11 = .ok (.astore_n 3, 1) := by decide +kernel
theorem dX6_sendAnswer_12 : decode cX6_sendAnswer 12 = .ok (.iload_n 1, 1) := by decide +kernel
theorem dX6_sendAnswer_13 : decode cX6_sendAnswer 13 = .ok (.iconst 3, 1) := by decide +kernel
theorem dX6_sendAnswer_14 : decode cX6_sendAnswer 14 = .ok (.aload_n 3, 1) := by decide +kernel
theorem dX6_sendAnswer_15 : decode cX6_sendAnswer 15 = .ok (.getfield 175, 3) := by decide +kernel
theorem dX6_sendAnswer_18 : decode cX6_sendAnswer 18 = .ok (.aload_n 3, 1) := by decide +kernel
theorem dX6_sendAnswer_19 : decode cX6_sendAnswer 19 = .ok (.invokevirtual 178, 3) := by decide +kernel
theorem dX6_sendAnswer_22 : decode cX6_sendAnswer 22 = .ok (.invokestatic 168, 3) := by decide +kernel
theorem dX6_sendAnswer_25 : decode cX6_sendAnswer 25 = .ok (.istore 4, 2) := by decide +kernel
theorem dX6_sendAnswer_27 : decode cX6_sendAnswer 27 = .ok (.aload_n 0, 1) := by decide +kernel
theorem dX6_sendAnswer_28 : decode cX6_sendAnswer 28 = .ok (.iload 4, 2) := by decide +kernel
theorem dX6_sendAnswer_30 : decode cX6_sendAnswer 30 = .ok (.aload_n 2, 1) := by decide +kernel
theorem dX6_sendAnswer_31 : decode cX6_sendAnswer 31 = .ok (.getfield 36, 3) := by decide +kernel
theorem dX6_sendAnswer_34 : decode cX6_sendAnswer 34 = .ok (.aload_n 2, 1) := by decide +kernel
theorem dX6_sendAnswer_35 : decode cX6_sendAnswer 35 = .ok (.getfield 33, 3) := by decide +kernel
theorem dX6_sendAnswer_38 : decode cX6_sendAnswer 38 = .ok (.invokevirtual 111, 3) := by decide +kernel
theorem dX6_sendAnswer_41 : decode cX6_sendAnswer 41 = .ok (.return_, 1) := by decide +kernel
set_option maxRecDepth 20000 in
theorem ggX6_send_X3_linkTowards : GoodIn wsX6_send wsX3_linkTowards := goodIn_r _ [10, 11, 12, 13, 14, 15, 16, 17, 9, 18, 19, 20, 39, 40, 41, 42, 43, 44, 45, 46, 47] (by decide +kernel) (by decide +kernel)
set_option maxRecDepth 20000 in
theorem gX6_send_X3_linkTowards : GoodIn wsX6_send (wsV RX6 181 RX3 yX3_linkTowards wsX3_linkTowards) := goodIn_app (goodIn_of _ (by decide +kernel)) ggX6_send_X3_linkTowards
set_option maxRecDepth 20000 in
theorem ggX6_send_X4_hopsOf : GoodIn wsX6_send wsX4_hopsOf := goodIn_r _ [24] (by decide +kernel) (by decide +kernel)
set_option maxRecDepth 20000 in
theorem gX6_send_X4_hopsOf : GoodIn wsX6_send (va_wsS RX6 185 yX4_hopsOf wsX4_hopsOf) := goodIn_app (goodIn_of _ (by decide +kernel)) ggX6_send_X4_hopsOf
set_option maxRecDepth 20000 in
theorem ggX6_send_X7_join : GoodIn wsX6_send wsX7_join := goodIn_r _ [29, 30, 31, 32, 48, 49, 50, 51, 52, 53, 54] (by decide +kernel) (by decide +kernel)
set_option maxRecDepth 20000 in
theorem gX6_send_X7_join : GoodIn wsX6_send (wsV RX6 191 RX7 yX7_join wsX7_join) := goodIn_app (goodIn_of _ (by decide +kernel)) ggX6_send_X7_join
theorem dX6_send_0 : decode cX6_send 0 = .ok (.aload_n 0, 1) := by decide +kernel
theorem dX6_send_1 : decode cX6_send 1 = .ok (.getfield 23, 3) := by decide +kernel
theorem dX6_send_4 : decode cX6_send 4 = .ok (.iload_n 2, 1) := by decide +kernel
theorem dX6_send_5 : decode cX6_send 5 = .ok (.iload_n 3, 1) := by decide +kernel
theorem dX6_send_6 : decode cX6_send 6 = .ok (.invokevirtual 181, 3) := by decide +kernel
theorem dX6_send_9 : decode cX6_send 9 = .ok (.istore 4, 2) := by decide +kernel
theorem dX6_send_11 : decode cX6_send 11 = .ok (.iload 4, 2) := by decide +kernel
theorem dX6_send_13 : decode cX6_send 13 = .ok (.iconst (-1), 1) := by decide +kernel
theorem dX6_send_14 : decode cX6_send 14 = .ok (.if_icmp .eq 12, 3) := by decide +kernel
theorem dX6_send_17 : decode cX6_send 17 = .ok (.iload_n 1, 1) := by decide +kernel
theorem dX6_send_18 : decode cX6_send 18 = .ok (.invokestatic 185, 3) := by decide +kernel
theorem dX6_send_21 : decode cX6_send 21 = .ok (.bipush 16, 2) := by decide +kernel
theorem dX6_send_23 : decode cX6_send 23 = .ok (.if_icmp .lt 14, 3) := by decide +kernel
theorem dX6_send_26 : decode cX6_send 26 = .ok (.aload_n 0, 1) := by decide +kernel
theorem dX6_send_27 : decode cX6_send 27 = .ok (.dup, 1) := by decide +kernel
theorem dX6_send_28 : decode cX6_send 28 = .ok (.getfield 69, 3) := by decide +kernel
theorem dX6_send_31 : decode cX6_send 31 = .ok (.iconst 1, 1) := by decide +kernel
theorem dX6_send_32 : decode cX6_send 32 = .ok (.iadd, 1) := by decide +kernel
theorem dX6_send_33 : decode cX6_send 33 = .ok (.putfield 69, 3) := by decide +kernel
theorem dX6_send_36 : decode cX6_send 36 = .ok (.return_, 1) := by decide +kernel
theorem dX6_send_37 : decode cX6_send 37 = .ok (.aload_n 0, 1) := by decide +kernel
theorem dX6_send_38 : decode cX6_send 38 = .ok (.getfield 23, 3) := by decide +kernel
theorem dX6_send_41 : decode cX6_send 41 = .ok (.getfield 97, 3) := by decide +kernel
theorem dX6_send_44 : decode cX6_send 44 = .ok (.iload 4, 2) := by decide +kernel
theorem dX6_send_46 : decode cX6_send 46 = .ok (.iaload, 1) := by decide +kernel
theorem dX6_send_47 : decode cX6_send 47 = .ok (.iload_n 2, 1) := by decide +kernel
theorem dX6_send_48 : decode cX6_send 48 = .ok (.if_icmp .ne 7, 3) := by decide +kernel
theorem dX6_send_51 : decode cX6_send 51 = .ok (.iconst 0, 1) := by decide +kernel
theorem dX6_send_52 : decode cX6_send 52 = .ok (.goto 4, 3) := by decide +kernel
theorem dX6_send_55 : decode cX6_send 55 = .ok (.iconst 1, 1) := by decide +kernel
theorem dX6_send_56 : decode cX6_send 56 = .ok (.istore 5, 2) := by decide +kernel
theorem dX6_send_58 : decode cX6_send 58 = .ok (.aload_n 0, 1) := by decide +kernel
theorem dX6_send_59 : decode cX6_send 59 = .ok (.getfield 11, 3) := by decide +kernel
theorem dX6_send_62 : decode cX6_send 62 = .ok (.iconst 2, 1) := by decide +kernel
theorem dX6_send_63 : decode cX6_send 63 = .ok (.iload 4, 2) := by decide +kernel
theorem dX6_send_65 : decode cX6_send 65 = .ok (.imul, 1) := by decide +kernel
theorem dX6_send_66 : decode cX6_send 66 = .ok (.iload 5, 2) := by decide +kernel
theorem dX6_send_68 : decode cX6_send 68 = .ok (.iadd, 1) := by decide +kernel
theorem dX6_send_69 : decode cX6_send 69 = .ok (.aaload, 1) := by decide +kernel
theorem dX6_send_70 : decode cX6_send 70 = .ok (.iload_n 1, 1) := by decide +kernel
theorem dX6_send_71 : decode cX6_send 71 = .ok (.aload_n 0, 1) := by decide +kernel
theorem dX6_send_72 : decode cX6_send 72 = .ok (.getfield 23, 3) := by decide +kernel
theorem dX6_send_75 : decode cX6_send 75 = .ok (.getfield 188, 3) := by decide +kernel
theorem dX6_send_78 : decode cX6_send 78 = .ok (.iload 4, 2) := by decide +kernel
theorem dX6_send_80 : decode cX6_send 80 = .ok (.iaload, 1) := by decide +kernel
theorem dX6_send_81 : decode cX6_send 81 = .ok (.invokevirtual 191, 3) := by decide +kernel
theorem dX6_send_84 : decode cX6_send 84 = .ok (.ifCond .ne 13, 3) := by decide +kernel
theorem dX6_send_87 : decode cX6_send 87 = .ok (.aload_n 0, 1) := by decide +kernel
theorem dX6_send_88 : decode cX6_send 88 = .ok (.dup, 1) := by decide +kernel
theorem dX6_send_89 : decode cX6_send 89 = .ok (.getfield 69, 3) := by decide +kernel
theorem dX6_send_92 : decode cX6_send 92 = .ok (.iconst 1, 1) := by decide +kernel
theorem dX6_send_93 : decode cX6_send 93 = .ok (.iadd, 1) := by decide +kernel
theorem dX6_send_94 : decode cX6_send 94 = .ok (.putfield 69, 3) := by decide +kernel
theorem dX6_send_97 : decode cX6_send 97 = .ok (.return_, 1) := by decide +kernel
set_option maxRecDepth 20000 in
theorem ggX6_copyFrom_X7_copyFrom : GoodIn wsX6_copyFrom wsX7_copyFrom := goodIn_r _ [12, 13, 14, 15, 16, 17, 18, 19, 20, 21, 22, 23, 87, 88, 89, 90, 91, 92, 93] (by decide +kernel) (by decide +kernel)
set_option maxRecDepth 20000 in
theorem gX6_copyFrom_X7_copyFrom : GoodIn wsX6_copyFrom (wsV RX6 195 RX7 yX7_copyFrom wsX7_copyFrom) := goodIn_app (goodIn_of _ (by decide +kernel)) ggX6_copyFrom_X7_copyFrom
set_option maxRecDepth 20000 in
theorem ggX6_copyFrom_X2_copyFrom : GoodIn wsX6_copyFrom wsX2_copyFrom := goodIn_r _ [28, 29, 30, 31, 32, 33, 34, 35, 36, 37, 38, 39, 40, 41, 42, 43, 44, 45, 46, 47, 48, 49, 50, 51, 52, 53, 54, 55, 56, 57, 58, 59, 60, 61, 62, 63, 64, 65, 66, 67, 68, 69, 70, 71, 15, 16, 17, 94, 95, 96, 97, 98, 99, 100, 101, 102, 103, 104, 105, 106, 107, 108, 109, 110, 111, 112, 113, 114, 115, 116, 117, 118, 119, 120] (by decide +kernel) (by decide +kernel)
set_option maxRecDepth 20000 in
theorem gX6_copyFrom_X2_copyFrom : GoodIn wsX6_copyFrom (wsV RX6 199 RX2 yX2_copyFrom wsX2_copyFrom) := goodIn_app (goodIn_of _ (by decide +kernel)) ggX6_copyFrom_X2_copyFrom
theorem dX6_copyFrom_0 : decode cX6_copyFrom 0 = .ok (.iconst 0, 1) := by decide +kernel
theorem dX6_copyFrom_1 : decode cX6_copyFrom 1 = .ok (.istore_n 2, 1) := by decide +kernel
theorem dX6_copyFrom_2 : decode cX6_copyFrom 2 = .ok (.iload_n 2, 1) := by decide +kernel
theorem dX6_copyFrom_3 : decode cX6_copyFrom 3 = .ok (.iconst 2, 1) := by decide +kernel
theorem dX6_copyFrom_4 : decode cX6_copyFrom 4 = .ok (.aload_n 0, 1) := by decide +kernel
theorem dX6_copyFrom_5 : decode cX6_copyFrom 5 = .ok (.getfield 23, 3) := by decide +kernel
theorem dX6_copyFrom_8 : decode cX6_copyFrom 8 = .ok (.getfield 84, 3) := by decide +kernel
theorem dX6_copyFrom_11 : decode cX6_copyFrom 11 = .ok (.imul, 1) := by decide +kernel
theorem dX6_copyFrom_12 : decode cX6_copyFrom 12 = .ok (.if_icmp .ge 24, 3) := by decide +kernel
theorem dX6_copyFrom_15 : decode cX6_copyFrom 15 = .ok (.aload_n 0, 1) := by decide +kernel
theorem dX6_copyFrom_16 : decode cX6_copyFrom 16 = .ok (.getfield 11, 3) := by decide +kernel
theorem dX6_copyFrom_19 : decode cX6_copyFrom 19 = .ok (.iload_n 2, 1) := by decide +kernel
theorem dX6_copyFrom_20 : decode cX6_copyFrom 20 = .ok (.aaload, 1) := by decide +kernel
theorem dX6_copyFrom_21 : decode cX6_copyFrom 21 = .ok (.aload_n 1, 1) := by decide +kernel
theorem dX6_copyFrom_22 : decode cX6_copyFrom 22 = .ok (.getfield 11, 3) := by decide +kernel
theorem dX6_copyFrom_25 : decode cX6_copyFrom 25 = .ok (.iload_n 2, 1) := by decide +kernel
theorem dX6_copyFrom_26 : decode cX6_copyFrom 26 = .ok (.aaload, 1) := by decide +kernel
theorem dX6_copyFrom_27 : decode cX6_copyFrom 27 = .ok (.invokevirtual 195, 3) := by decide +kernel
theorem dX6_copyFrom_30 : decode cX6_copyFrom 30 = .ok (.iinc 2 1, 3) := by decide +kernel
theorem dX6_copyFrom_33 : decode cX6_copyFrom 33 = .ok (.goto (-31), 3) := by decide +kernel
theorem dX6_copyFrom_36 : decode cX6_copyFrom 36 = .ok (.iconst 0, 1) := by decide +kernel
theorem dX6_copyFrom_37 : decode cX6_copyFrom 37 = .ok (.istore_n 2, 1) := by decide +kernel
theorem dX6_copyFrom_38 : decode cX6_copyFrom 38 = .ok (.iload_n 2, 1) := by decide +kernel
theorem dX6_copyFrom_39 : decode cX6_copyFrom 39 = .ok (.aload_n 1, 1) := by decide +kernel
theorem dX6_copyFrom_40 : decode cX6_copyFrom 40 = .ok (.getfield 29, 3) := by decide +kernel
theorem dX6_copyFrom_43 : decode cX6_copyFrom 43 = .ok (.if_icmp .ge 24, 3) := by decide +kernel
theorem dX6_copyFrom_46 : decode cX6_copyFrom 46 = .ok (.aload_n 0, 1) := by decide +kernel
theorem dX6_copyFrom_47 : decode cX6_copyFrom 47 = .ok (.getfield 19, 3) := by decide +kernel
theorem dX6_copyFrom_50 : decode cX6_copyFrom 50 = .ok (.iload_n 2, 1) := by decide +kernel
theorem dX6_copyFrom_51 : decode cX6_copyFrom 51 = .ok (.aaload, 1) := by decide +kernel
theorem dX6_copyFrom_52 : decode cX6_copyFrom 52 = .ok (.aload_n 1, 1) := by decide +kernel
theorem dX6_copyFrom_53 : decode cX6_copyFrom 53 = .ok (.getfield 19, 3) := by decide +kernel
theorem dX6_copyFrom_56 : decode cX6_copyFrom 56 = .ok (.iload_n 2, 1) := by decide +kernel
theorem dX6_copyFrom_57 : decode cX6_copyFrom 57 = .ok (.aaload, 1) := by decide +kernel
theorem dX6_copyFrom_58 : decode cX6_copyFrom 58 = .ok (.invokevirtual 199, 3) := by decide +kernel
theorem dX6_copyFrom_61 : decode cX6_copyFrom 61 = .ok (.iinc 2 1, 3) := by decide +kernel
theorem dX6_copyFrom_64 : decode cX6_copyFrom 64 = .ok (.goto (-26), 3) := by decide +kernel
theorem dX6_copyFrom_67 : decode cX6_copyFrom 67 = .ok (.aload_n 0, 1) := by decide +kernel
theorem dX6_copyFrom_68 : decode cX6_copyFrom 68 = .ok (.aload_n 1, 1) := by decide +kernel
theorem dX6_copyFrom_69 : decode cX6_copyFrom 69 = .ok (.getfield 29, 3) := by decide +kernel
theorem dX6_copyFrom_72 : decode cX6_copyFrom 72 = .ok (.putfield 29, 3) := by decide +kernel
theorem dX6_copyFrom_75 : decode cX6_copyFrom 75 = .ok (.aload_n 0, 1) := by decide +kernel
theorem dX6_copyFrom_76 : decode cX6_copyFrom 76 = .ok (.aload_n 1, 1) := by decide +kernel
theorem dX6_copyFrom_77 : decode cX6_copyFrom 77 = .ok (.getfield 52, 3) := by decide +kernel
theorem dX6_copyFrom_80 : decode cX6_copyFrom 80 = .ok (.putfield 52, 3) := by decide +kernel
theorem dX6_copyFrom_83 : decode cX6_copyFrom 83 = .ok (.aload_n 0, 1) := by decide +kernel
theorem dX6_copyFrom_84 : decode cX6_copyFrom 84 = .ok (.aload_n 1, 1) := by decide +kernel
theorem dX6_copyFrom_85 : decode cX6_copyFrom 85 = .ok (.getfield 69, 3) := by decide +kernel
theorem dX6_copyFrom_88 : decode cX6_copyFrom 88 = .ok (.putfield 69, 3) := by decide +kernel
theorem dX6_copyFrom_91 : decode cX6_copyFrom 91 = .ok (.return_, 1) := by decide +kernel
end
section
def wp_X6_send (τ : TS) (i0 : Nat) (x1 : Int32) (x2 : Int32) (x3 : Int32) (K : TS → Prop) : Prop :=
  wp_X3_linkTowards τ 1 x2 x3 (fun τ21 x22 => ((x22 = (-1)) → (∀ τ24 : TS, τ24 = tp_up τ21 i0 5 ((τ21 i0 5) + 1) → K τ24)) ∧ ((¬ x22 = (-1)) → (wp_X4_hopsOf τ21 x1 (fun τ25 x26 => ((x26 < 16) → (vp_in x22 12 ∧ (((¬ (τ25 2 (Int32.toNatClampNeg x22)) = x2) → (vp_in ((2 * x22) + 1) 24 ∧ (vp_in x22 12 ∧ (wp_X7_join τ25 ((i0 + 1) + 2 + 3 * (Int32.toNatClampNeg ((2 * x22) + 1))) x1 (τ25 5 (Int32.toNatClampNeg x22)) (fun τ32 x33 => ((¬ x33 = 0) → (K τ32)) ∧ ((x33 = 0) → (∀ τ35 : TS, τ35 = tp_up τ32 i0 5 ((τ32 i0 5) + 1) → K τ35))))))) ∧ (((τ25 2 (Int32.toNatClampNeg x22)) = x2) → (vp_in ((2 * x22) + 0) 24 ∧ (vp_in x22 12 ∧ (wp_X7_join τ25 ((i0 + 1) + 2 + 3 * (Int32.toNatClampNeg ((2 * x22) + 0))) x1 (τ25 5 (Int32.toNatClampNeg x22)) (fun τ38 x39 => ((¬ x39 = 0) → (K τ38)) ∧ ((x39 = 0) → (∀ τ41 : TS, τ41 = tp_up τ38 i0 5 ((τ38 i0 5) + 1) → K τ41)))))))))) ∧ ((¬ x26 < 16) → (∀ τ42 : TS, τ42 = tp_up τ25 i0 5 ((τ25 i0 5) + 1) → K τ42))))))
theorem mw_X6_send_0 : Cond.fieldLink RX6 23 "TidePost$Traffic" "net" "LTidePost$Net;" ∈ wsX6_send := List.mem_of_getElem? (i := 1) rfl
theorem mw_X6_send_1 : Cond.fieldLink RX6 69 "TidePost$Traffic" "lost" "I" ∈ wsX6_send := List.mem_of_getElem? (i := 2) rfl
theorem mw_X6_send_2 : Cond.fieldLink RX6 97 "TidePost$Net" "firsts" "[I" ∈ wsX6_send := List.mem_of_getElem? (i := 3) rfl
theorem mw_X6_send_3 : Cond.fieldLink RX6 11 "TidePost$Traffic" "ways" "[LTidePost$Way;" ∈ wsX6_send := List.mem_of_getElem? (i := 4) rfl
theorem mw_X6_send_4 : Cond.fieldLink RX6 188 "TidePost$Net" "rooms" "[I" ∈ wsX6_send := List.mem_of_getElem? (i := 5) rfl
theorem in_X6_send_X6 : ∀ x ∈ wsX60, x ∈ wsX6_send := fun _ h => List.mem_cons_of_mem _ (List.mem_append_left _ (List.mem_append_left _ (List.mem_append_right _ h)))
theorem in_X6_send_X3 : ∀ x ∈ wsX30, x ∈ wsX6_send := fun _ h => List.mem_cons_of_mem _ (List.mem_append_left _ (List.mem_append_right _ h))
set_option maxHeartbeats 4000000 in
set_option maxRecDepth 100000 in
theorem c_X6_send (w : WPar) (τ : TS) (i0 : Nat) (x1 : Int32) (x2 : Int32) (x3 : Int32) (K : TS → Prop) (h0 : tp_is i0 5) (hw : wp_X6_send τ i0 x1 x2 x3 K) : MV w yX6_send wsX6_send 2 47 [.ref (w.1 i0), .int x1, .int x2, .int x3] τ K := by
  refine tp_enterV (cc := cX6_send) (maxL := 6) (own := RX6) (by decide) rfl rfl (Nat.le_of_ble_eq_true rfl) (fun g C hR => ?_)
  show Zt w g τ (0, 0) 0 [(0, .ref (w.1 i0)), (1, .int x1), (2, .int x2), (3, .int x3)] []
  unfold wp_X6_send at hw
  refine z_aload_n C 0 (by rfl) dX6_send_0 ?_
  refine z_get C (Cn := RX6) (T := TX6) (N := 6) (ci := 5) h0.2 0 (tE5 h0.1) in_X6_send_X6 rfl (by decide) mw_X6_send_0 rfl rfl dX6_send_1 ?_
  refine z_iload_n C 2 (by rfl) dX6_send_4 ?_
  refine z_iload_n C 3 (by rfl) dX6_send_5 ?_
  refine zv_i C (As := [.int x2, .int x3]) (bytes := cX3_linkTowards) (maxL := 6) (F1 := 1) (L1 := 22) (c_X3_linkTowards w _ 1 x2 x3 _ tR5_0 hw) tR5_0.2 (tE3 tR5_0.1) rfl 2 gX6_send_X3_linkTowards rfl (by decide +kernel) ⟨Nat.le_of_ble_eq_true rfl, Nat.le_of_ble_eq_true rfl⟩ rfl (Nat.le_of_ble_eq_true rfl) ⟨Nat.zero_le _, Nat.zero_le _⟩ rfl dX6_send_6 (fun x22 τ21 hw => ?_)
  refine z_istore C [(4, .int x22), (0, .ref (w.1 i0)), (1, .int x1), (2, .int x2), (3, .int x3)] dX6_send_9 (by decide) rfl ?_
  refine z_iload C 0 (by rfl) dX6_send_11 ?_
  refine z_iconst C (-1) (by decide) dX6_send_13 ?_
  refine z_icmp_eq (tgt := 26) C dX6_send_14 (by decide) (fun c23 => ?_) (fun c23 => ?_)
  · have hw := hw.1 c23
    refine z_aload_n C 1 (by rfl) dX6_send_26 ?_
    refine z_dup C rfl dX6_send_27 ?_
    refine z_get C (Cn := RX6) (T := TX6) (N := 6) (ci := 5) h0.2 5 (tE5 h0.1) in_X6_send_X6 rfl (by decide) mw_X6_send_1 rfl rfl dX6_send_28 ?_
    refine z_iconst C 1 (by decide) dX6_send_31 ?_
    refine z_iadd C dX6_send_32 ?_
    refine z_put C (Cn := RX6) (T := TX6) (N := 6) (ci := 5) h0.2 5 (tE5 h0.1) (tS5_5 h0.1 _) in_X6_send_X6 tyX6 tyX6_ok nmX6 rfl (by decide) mw_X6_send_1 rfl rfl (tyX6_ok 5 (by decide)) rfl rfl (Nat.le_of_ble_eq_true rfl) dX6_send_33 (fun τ24 eτ24 => ?_)
    have hw := hw τ24 eτ24
    exact hR _ _ _ dX6_send_36 hw
  · have hw := hw.2 c23
    refine z_iload_n C 2 (by rfl) dX6_send_17 ?_
    refine zs_i C (As := [.int x1]) (bytes := cX4_hopsOf) (maxL := 1) (F1 := 0) (L1 := 0) (c_X4_hopsOf w _ x1 _  hw) 1 gX6_send_X4_hopsOf rfl (by decide +kernel) ⟨Nat.le_of_ble_eq_true rfl, Nat.le_of_ble_eq_true rfl⟩ rfl (Nat.le_of_ble_eq_true rfl) ⟨Nat.zero_le _, Nat.zero_le _⟩ rfl dX6_send_18 (fun x26 τ25 hw => ?_)
    refine z_bipush C 16 (by decide) dX6_send_21 ?_
    refine z_icmp_lt (tgt := 37) C dX6_send_23 (by decide) (fun c27 => ?_) (fun c27 => ?_)
    · have hw := hw.1 c27
      refine z_aload_n C 1 (by rfl) dX6_send_37 ?_
      refine z_get C (Cn := RX6) (T := TX6) (N := 6) (ci := 5) h0.2 0 (tE5 h0.1) in_X6_send_X6 rfl (by decide) mw_X6_send_0 rfl rfl dX6_send_38 ?_
      refine z_get C (Cn := RX3) (T := TX3) (N := 9) (ci := 3) tR5_0.2 2 (tE3 tR5_0.1) in_X6_send_X3 rfl (by decide) mw_X6_send_2 rfl rfl dX6_send_41 ?_
      refine z_iload C 0 (by rfl) dX6_send_44 ?_
      obtain ⟨s28, hw⟩ := hw
      refine z_iald C tR3_2.2 (tE11 tR3_2.1) s28 dX6_send_46 ?_
      refine z_iload_n C 3 (by rfl) dX6_send_47 ?_
      refine z_icmp_ne (tgt := 55) C dX6_send_48 (by decide) (fun c29 => ?_) (fun c29 => ?_)
      · have hw := hw.1 c29
        refine z_iconst C 1 (by decide) dX6_send_55 ?_
        refine z_istore C [(5, .int 1), (4, .int x22), (0, .ref (w.1 i0)), (1, .int x1), (2, .int x2), (3, .int x3)] dX6_send_56 (by decide) rfl ?_
        refine z_aload_n C 2 (by rfl) dX6_send_58 ?_
        refine z_get C (Cn := RX6) (T := TX6) (N := 6) (ci := 5) h0.2 1 (tE5 h0.1) in_X6_send_X6 rfl (by decide) mw_X6_send_3 rfl rfl dX6_send_59 ?_
        refine z_iconst C 2 (by decide) dX6_send_62 ?_
        refine z_iload C 1 (by rfl) dX6_send_63 ?_
        refine z_imul C dX6_send_65 ?_
        refine z_iload C 0 (by rfl) dX6_send_66 ?_
        refine z_iadd C dX6_send_68 ?_
        obtain ⟨s30, hw⟩ := hw
        refine z_aald_q2 C (tR5_1 h0).2 (tE15 (tR5_1 h0).1) s30 (if_pos (tp_lt s30)) dX6_send_69 ?_
        refine z_iload_n C 3 (by rfl) dX6_send_70 ?_
        refine z_aload_n C 2 (by rfl) dX6_send_71 ?_
        refine z_get C (Cn := RX6) (T := TX6) (N := 6) (ci := 5) h0.2 0 (tE5 h0.1) in_X6_send_X6 rfl (by decide) mw_X6_send_0 rfl rfl dX6_send_72 ?_
        refine z_get C (Cn := RX3) (T := TX3) (N := 9) (ci := 3) tR5_0.2 5 (tE3 tR5_0.1) in_X6_send_X3 rfl (by decide) mw_X6_send_4 rfl rfl dX6_send_75 ?_
        refine z_iload C 1 (by rfl) dX6_send_78 ?_
        obtain ⟨s31, hw⟩ := hw
        refine z_iald C tR3_5.2 (tE11 tR3_5.1) s31 dX6_send_80 ?_
        refine zv_i C (As := [.int x1, .int (τ25 5 (Int32.toNatClampNeg x22))]) (bytes := cX7_join) (maxL := 3) (F1 := 0) (L1 := 0) (c_X7_join w _ ((i0 + 1) + 2 + 3 * (Int32.toNatClampNeg ((2 * x22) + 1))) x1 (τ25 5 (Int32.toNatClampNeg x22)) _ (tR15 (tR5_1 h0) (tp_lt s30)) hw) (tR15 (tR5_1 h0) (tp_lt s30)).2 (tE6 (tR15 (tR5_1 h0) (tp_lt s30)).1) rfl 2 gX6_send_X7_join rfl (by decide +kernel) ⟨Nat.le_of_ble_eq_true rfl, Nat.le_of_ble_eq_true rfl⟩ rfl (Nat.le_of_ble_eq_true rfl) ⟨Nat.zero_le _, Nat.zero_le _⟩ rfl dX6_send_81 (fun x33 τ32 hw => ?_)
        refine z_if_ne (tgt := 97) C dX6_send_84 (by decide) (fun c34 => ?_) (fun c34 => ?_)
        · have hw := hw.1 c34
          exact hR _ _ _ dX6_send_97 hw
        · have hw := hw.2 c34
          refine z_aload_n C 2 (by rfl) dX6_send_87 ?_
          refine z_dup C rfl dX6_send_88 ?_
          refine z_get C (Cn := RX6) (T := TX6) (N := 6) (ci := 5) h0.2 5 (tE5 h0.1) in_X6_send_X6 rfl (by decide) mw_X6_send_1 rfl rfl dX6_send_89 ?_
          refine z_iconst C 1 (by decide) dX6_send_92 ?_
          refine z_iadd C dX6_send_93 ?_
          refine z_put C (Cn := RX6) (T := TX6) (N := 6) (ci := 5) h0.2 5 (tE5 h0.1) (tS5_5 h0.1 _) in_X6_send_X6 tyX6 tyX6_ok nmX6 rfl (by decide) mw_X6_send_1 rfl rfl (tyX6_ok 5 (by decide)) rfl rfl (Nat.le_of_ble_eq_true rfl) dX6_send_94 (fun τ35 eτ35 => ?_)
          have hw := hw τ35 eτ35
          exact hR _ _ _ dX6_send_97 hw
      · have hw := hw.2 c29
        refine z_iconst C 0 (by decide) dX6_send_51 ?_
        refine z_goto (tgt := 56) C dX6_send_52 (by decide) ?_
        refine z_istore C [(5, .int 0), (4, .int x22), (0, .ref (w.1 i0)), (1, .int x1), (2, .int x2), (3, .int x3)] dX6_send_56 (by decide) rfl ?_
        refine z_aload_n C 2 (by rfl) dX6_send_58 ?_
        refine z_get C (Cn := RX6) (T := TX6) (N := 6) (ci := 5) h0.2 1 (tE5 h0.1) in_X6_send_X6 rfl (by decide) mw_X6_send_3 rfl rfl dX6_send_59 ?_
        refine z_iconst C 2 (by decide) dX6_send_62 ?_
        refine z_iload C 1 (by rfl) dX6_send_63 ?_
        refine z_imul C dX6_send_65 ?_
        refine z_iload C 0 (by rfl) dX6_send_66 ?_
        refine z_iadd C dX6_send_68 ?_
        obtain ⟨s36, hw⟩ := hw
        refine z_aald_q2 C (tR5_1 h0).2 (tE15 (tR5_1 h0).1) s36 (if_pos (tp_lt s36)) dX6_send_69 ?_
        refine z_iload_n C 3 (by rfl) dX6_send_70 ?_
        refine z_aload_n C 2 (by rfl) dX6_send_71 ?_
        refine z_get C (Cn := RX6) (T := TX6) (N := 6) (ci := 5) h0.2 0 (tE5 h0.1) in_X6_send_X6 rfl (by decide) mw_X6_send_0 rfl rfl dX6_send_72 ?_
        refine z_get C (Cn := RX3) (T := TX3) (N := 9) (ci := 3) tR5_0.2 5 (tE3 tR5_0.1) in_X6_send_X3 rfl (by decide) mw_X6_send_4 rfl rfl dX6_send_75 ?_
        refine z_iload C 1 (by rfl) dX6_send_78 ?_
        obtain ⟨s37, hw⟩ := hw
        refine z_iald C tR3_5.2 (tE11 tR3_5.1) s37 dX6_send_80 ?_
        refine zv_i C (As := [.int x1, .int (τ25 5 (Int32.toNatClampNeg x22))]) (bytes := cX7_join) (maxL := 3) (F1 := 0) (L1 := 0) (c_X7_join w _ ((i0 + 1) + 2 + 3 * (Int32.toNatClampNeg ((2 * x22) + 0))) x1 (τ25 5 (Int32.toNatClampNeg x22)) _ (tR15 (tR5_1 h0) (tp_lt s36)) hw) (tR15 (tR5_1 h0) (tp_lt s36)).2 (tE6 (tR15 (tR5_1 h0) (tp_lt s36)).1) rfl 2 gX6_send_X7_join rfl (by decide +kernel) ⟨Nat.le_of_ble_eq_true rfl, Nat.le_of_ble_eq_true rfl⟩ rfl (Nat.le_of_ble_eq_true rfl) ⟨Nat.zero_le _, Nat.zero_le _⟩ rfl dX6_send_81 (fun x39 τ38 hw => ?_)
        refine z_if_ne (tgt := 97) C dX6_send_84 (by decide) (fun c40 => ?_) (fun c40 => ?_)
        · have hw := hw.1 c40
          exact hR _ _ _ dX6_send_97 hw
        · have hw := hw.2 c40
          refine z_aload_n C 2 (by rfl) dX6_send_87 ?_
          refine z_dup C rfl dX6_send_88 ?_
          refine z_get C (Cn := RX6) (T := TX6) (N := 6) (ci := 5) h0.2 5 (tE5 h0.1) in_X6_send_X6 rfl (by decide) mw_X6_send_1 rfl rfl dX6_send_89 ?_
          refine z_iconst C 1 (by decide) dX6_send_92 ?_
          refine z_iadd C dX6_send_93 ?_
          refine z_put C (Cn := RX6) (T := TX6) (N := 6) (ci := 5) h0.2 5 (tE5 h0.1) (tS5_5 h0.1 _) in_X6_send_X6 tyX6 tyX6_ok nmX6 rfl (by decide) mw_X6_send_1 rfl rfl (tyX6_ok 5 (by decide)) rfl rfl (Nat.le_of_ble_eq_true rfl) dX6_send_94 (fun τ41 eτ41 => ?_)
          have hw := hw τ41 eτ41
          exact hR _ _ _ dX6_send_97 hw
    · have hw := hw.2 c27
      refine z_aload_n C 1 (by rfl) dX6_send_26 ?_
      refine z_dup C rfl dX6_send_27 ?_
      refine z_get C (Cn := RX6) (T := TX6) (N := 6) (ci := 5) h0.2 5 (tE5 h0.1) in_X6_send_X6 rfl (by decide) mw_X6_send_1 rfl rfl dX6_send_28 ?_
      refine z_iconst C 1 (by decide) dX6_send_31 ?_
      refine z_iadd C dX6_send_32 ?_
      refine z_put C (Cn := RX6) (T := TX6) (N := 6) (ci := 5) h0.2 5 (tE5 h0.1) (tS5_5 h0.1 _) in_X6_send_X6 tyX6 tyX6_ok nmX6 rfl (by decide) mw_X6_send_1 rfl rfl (tyX6_ok 5 (by decide)) rfl rfl (Nat.le_of_ble_eq_true rfl) dX6_send_33 (fun τ42 eτ42 => ?_)
      have hw := hw τ42 eτ42
      exact hR _ _ _ dX6_send_36 hw
def wp_X6_sendHello (τ : TS) (i0 : Nat) (x1 : Int32) (K : TS → Prop) : Prop :=
  vp_in x1 6 ∧ (wp_X4_of τ x1 0 0 0 (fun τ22 x23 => wp_X6_send τ22 i0 x23 (τ22 ((i0 + 2) + 73 + 5 * (Int32.toNatClampNeg x1)) 0) (τ22 ((i0 + 2) + 73 + 5 * (Int32.toNatClampNeg x1)) 1) (fun τ24 => K τ24)))
theorem mw_X6_sendHello_0 : Cond.fieldLink RX6 19 "TidePost$Traffic" "all" "[LTidePost$Connection;" ∈ wsX6_sendHello := List.mem_of_getElem? (i := 1) rfl
theorem mw_X6_sendHello_1 : Cond.fieldLink RX6 33 "TidePost$Connection" "callerNode" "I" ∈ wsX6_sendHello := List.mem_of_getElem? (i := 2) rfl
theorem mw_X6_sendHello_2 : Cond.fieldLink RX6 36 "TidePost$Connection" "calleeNode" "I" ∈ wsX6_sendHello := List.mem_of_getElem? (i := 3) rfl
theorem in_X6_sendHello_X6 : ∀ x ∈ wsX60, x ∈ wsX6_sendHello := fun _ h => List.mem_cons_of_mem _ (List.mem_append_left _ (List.mem_append_left _ (List.mem_append_left _ (List.mem_append_right _ h))))
theorem in_X6_sendHello_X2 : ∀ x ∈ wsX20, x ∈ wsX6_sendHello := fun _ h => List.mem_cons_of_mem _ (List.mem_append_left _ (List.mem_append_left _ (List.mem_append_right _ h)))
set_option maxHeartbeats 4000000 in
set_option maxRecDepth 100000 in
theorem c_X6_sendHello (w : WPar) (τ : TS) (i0 : Nat) (x1 : Int32) (K : TS → Prop) (h0 : tp_is i0 5) (hw : wp_X6_sendHello τ i0 x1 K) : MV w yX6_sendHello wsX6_sendHello 3 72 [.ref (w.1 i0), .int x1] τ K := by
  refine tp_enterV (cc := cX6_sendHello) (maxL := 4) (own := RX6) (by decide) rfl rfl (Nat.le_of_ble_eq_true rfl) (fun g C hR => ?_)
  show Zt w g τ (0, 0) 0 [(0, .ref (w.1 i0)), (1, .int x1)] []
  unfold wp_X6_sendHello at hw
  refine z_aload_n C 0 (by rfl) dX6_sendHello_0 ?_
  refine z_get C (Cn := RX6) (T := TX6) (N := 6) (ci := 5) h0.2 2 (tE5 h0.1) in_X6_sendHello_X6 rfl (by decide) mw_X6_sendHello_0 rfl rfl dX6_sendHello_1 ?_
  refine z_iload_n C 1 (by rfl) dX6_sendHello_4 ?_
  obtain ⟨s21, hw⟩ := hw
  refine z_aald_q3 C (tR5_2 h0).2 (tE16 (tR5_2 h0).1) s21 (if_pos (tp_lt s21)) dX6_sendHello_5 ?_
  refine z_astore_n C [(2, .ref (w.1 ((i0 + 2) + 73 + 5 * (Int32.toNatClampNeg x1)))), (0, .ref (w.1 i0)), (1, .int x1)] dX6_sendHello_6 (by decide) rfl ?_
  refine z_iload_n C 2 (by rfl) dX6_sendHello_7 ?_
  refine z_iconst C 0 (by decide) dX6_sendHello_8 ?_
  refine z_iconst C 0 (by decide) dX6_sendHello_9 ?_
  refine z_iconst C 0 (by decide) dX6_sendHello_10 ?_
  refine zs_i C (As := [.int x1, .int 0, .int 0, .int 0]) (bytes := cX4_of) (maxL := 4) (F1 := 0) (L1 := 0) (c_X4_of w _ x1 0 0 0 _  hw) 4 gX6_sendHello_X4_of rfl (by decide +kernel) ⟨Nat.le_of_ble_eq_true rfl, Nat.le_of_ble_eq_true rfl⟩ rfl (Nat.le_of_ble_eq_true rfl) ⟨Nat.zero_le _, Nat.zero_le _⟩ rfl dX6_sendHello_11 (fun x23 τ22 hw => ?_)
  refine z_istore_n C [(3, .int x23), (2, .ref (w.1 ((i0 + 2) + 73 + 5 * (Int32.toNatClampNeg x1)))), (0, .ref (w.1 i0)), (1, .int x1)] dX6_sendHello_14 (by decide) rfl ?_
  refine z_aload_n C 2 (by rfl) dX6_sendHello_15 ?_
  refine z_iload_n C 0 (by rfl) dX6_sendHello_16 ?_
  refine z_aload_n C 1 (by rfl) dX6_sendHello_17 ?_
  refine z_get C (Cn := RX2) (T := TX2) (N := 4) (ci := 2) (tR16 (tR5_2 h0) (tp_lt s21)).2 0 (tE2 (tR16 (tR5_2 h0) (tp_lt s21)).1) in_X6_sendHello_X2 rfl (by decide) mw_X6_sendHello_1 rfl rfl dX6_sendHello_18 ?_
  refine z_aload_n C 1 (by rfl) dX6_sendHello_21 ?_
  refine z_get C (Cn := RX2) (T := TX2) (N := 4) (ci := 2) (tR16 (tR5_2 h0) (tp_lt s21)).2 1 (tE2 (tR16 (tR5_2 h0) (tp_lt s21)).1) in_X6_sendHello_X2 rfl (by decide) mw_X6_sendHello_2 rfl rfl dX6_sendHello_22 ?_
  refine zv_v C (As := [.int x23, .int (τ22 ((i0 + 2) + 73 + 5 * (Int32.toNatClampNeg x1)) 0), .int (τ22 ((i0 + 2) + 73 + 5 * (Int32.toNatClampNeg x1)) 1)]) (bytes := cX6_send) (maxL := 6) (F1 := 2) (L1 := 47) (c_X6_send w _ i0 x23 (τ22 ((i0 + 2) + 73 + 5 * (Int32.toNatClampNeg x1)) 0) (τ22 ((i0 + 2) + 73 + 5 * (Int32.toNatClampNeg x1)) 1) _ h0 hw) h0.2 (tE5 h0.1) rfl 3 gX6_sendHello_X6_send rfl (by decide +kernel) ⟨Nat.le_of_ble_eq_true rfl, Nat.le_of_ble_eq_true rfl⟩ rfl (Nat.le_of_ble_eq_true rfl) ⟨Nat.zero_le _, Nat.zero_le _⟩ rfl dX6_sendHello_25 (fun τ24 hw => ?_)
  exact hR _ _ _ dX6_sendHello_28 hw
def wp_X6_sendThing (τ : TS) (i0 : Nat) (x1 : Int32) (x2 : Int32) (K : TS → Prop) : Prop :=
  vp_in x1 6 ∧ ((((τ (((i0 + 2) + 73 + 5 * (Int32.toNatClampNeg x1)) + 1) 1) ≤ x2) → (wp_X4_of τ x1 2 x2 0 (fun τ23 x24 => wp_X6_send τ23 i0 x24 (τ23 ((i0 + 2) + 73 + 5 * (Int32.toNatClampNeg x1)) 0) (τ23 ((i0 + 2) + 73 + 5 * (Int32.toNatClampNeg x1)) 1) (fun τ25 => K τ25)))) ∧ ((¬ (τ (((i0 + 2) + 73 + 5 * (Int32.toNatClampNeg x1)) + 1) 1) ≤ x2) → (wp_X4_of τ x1 1 x2 0 (fun τ26 x27 => wp_X6_send τ26 i0 x27 (τ26 ((i0 + 2) + 73 + 5 * (Int32.toNatClampNeg x1)) 0) (τ26 ((i0 + 2) + 73 + 5 * (Int32.toNatClampNeg x1)) 1) (fun τ28 => K τ28)))))
theorem mw_X6_sendThing_0 : Cond.fieldLink RX6 19 "TidePost$Traffic" "all" "[LTidePost$Connection;" ∈ wsX6_sendThing := List.mem_of_getElem? (i := 1) rfl
theorem mw_X6_sendThing_1 : Cond.fieldLink RX6 48 "TidePost$Connection" "caller" "LTidePost$Caller;" ∈ wsX6_sendThing := List.mem_of_getElem? (i := 2) rfl
theorem mw_X6_sendThing_2 : Cond.fieldLink RX6 172 "TidePost$Caller" "given" "I" ∈ wsX6_sendThing := List.mem_of_getElem? (i := 3) rfl
theorem mw_X6_sendThing_3 : Cond.fieldLink RX6 33 "TidePost$Connection" "callerNode" "I" ∈ wsX6_sendThing := List.mem_of_getElem? (i := 4) rfl
theorem mw_X6_sendThing_4 : Cond.fieldLink RX6 36 "TidePost$Connection" "calleeNode" "I" ∈ wsX6_sendThing := List.mem_of_getElem? (i := 5) rfl
theorem in_X6_sendThing_X6 : ∀ x ∈ wsX60, x ∈ wsX6_sendThing := fun _ h => List.mem_cons_of_mem _ (List.mem_append_left _ (List.mem_append_left _ (List.mem_append_left _ (List.mem_append_left _ (List.mem_append_right _ h)))))
theorem in_X6_sendThing_X2 : ∀ x ∈ wsX20, x ∈ wsX6_sendThing := fun _ h => List.mem_cons_of_mem _ (List.mem_append_left _ (List.mem_append_left _ (List.mem_append_left _ (List.mem_append_right _ h))))
theorem in_X6_sendThing_X1 : ∀ x ∈ wsX10, x ∈ wsX6_sendThing := fun _ h => List.mem_cons_of_mem _ (List.mem_append_left _ (List.mem_append_left _ (List.mem_append_right _ h)))
set_option maxHeartbeats 4000000 in
set_option maxRecDepth 100000 in
theorem c_X6_sendThing (w : WPar) (τ : TS) (i0 : Nat) (x1 : Int32) (x2 : Int32) (K : TS → Prop) (h0 : tp_is i0 5) (hw : wp_X6_sendThing τ i0 x1 x2 K) : MV w yX6_sendThing wsX6_sendThing 3 72 [.ref (w.1 i0), .int x1, .int x2] τ K := by
  refine tp_enterV (cc := cX6_sendThing) (maxL := 6) (own := RX6) (by decide) rfl rfl (Nat.le_of_ble_eq_true rfl) (fun g C hR => ?_)
  show Zt w g τ (0, 0) 0 [(0, .ref (w.1 i0)), (1, .int x1), (2, .int x2)] []
  unfold wp_X6_sendThing at hw
  refine z_aload_n C 0 (by rfl) dX6_sendThing_0 ?_
  refine z_get C (Cn := RX6) (T := TX6) (N := 6) (ci := 5) h0.2 2 (tE5 h0.1) in_X6_sendThing_X6 rfl (by decide) mw_X6_sendThing_0 rfl rfl dX6_sendThing_1 ?_
  refine z_iload_n C 1 (by rfl) dX6_sendThing_4 ?_
  obtain ⟨s21, hw⟩ := hw
  refine z_aald_q3 C (tR5_2 h0).2 (tE16 (tR5_2 h0).1) s21 (if_pos (tp_lt s21)) dX6_sendThing_5 ?_
  refine z_astore_n C [(3, .ref (w.1 ((i0 + 2) + 73 + 5 * (Int32.toNatClampNeg x1)))), (0, .ref (w.1 i0)), (1, .int x1), (2, .int x2)] dX6_sendThing_6 (by decide) rfl ?_
  refine z_iload_n C 3 (by rfl) dX6_sendThing_7 ?_
  refine z_aload_n C 0 (by rfl) dX6_sendThing_8 ?_
  refine z_get C (Cn := RX2) (T := TX2) (N := 4) (ci := 2) (tR16 (tR5_2 h0) (tp_lt s21)).2 2 (tE2 (tR16 (tR5_2 h0) (tp_lt s21)).1) in_X6_sendThing_X2 rfl (by decide) mw_X6_sendThing_1 rfl rfl dX6_sendThing_9 ?_
  refine z_get C (Cn := RX1) (T := TX1) (N := 14) (ci := 1) (tR2_2 (tR16 (tR5_2 h0) (tp_lt s21))).2 1 (tE1 (tR2_2 (tR16 (tR5_2 h0) (tp_lt s21))).1) in_X6_sendThing_X1 rfl (by decide) mw_X6_sendThing_2 rfl rfl dX6_sendThing_12 ?_
  refine z_icmp_ge (tgt := 22) C dX6_sendThing_15 (by decide) (fun c22 => ?_) (fun c22 => ?_)
  · have hw := hw.1 c22
    refine z_iconst C 2 (by decide) dX6_sendThing_22 ?_
    refine z_istore C [(4, .int 2), (3, .ref (w.1 ((i0 + 2) + 73 + 5 * (Int32.toNatClampNeg x1)))), (0, .ref (w.1 i0)), (1, .int x1), (2, .int x2)] dX6_sendThing_23 (by decide) rfl ?_
    refine z_iload_n C 3 (by rfl) dX6_sendThing_25 ?_
    refine z_iload C 0 (by rfl) dX6_sendThing_26 ?_
    refine z_iload_n C 4 (by rfl) dX6_sendThing_28 ?_
    refine z_iconst C 0 (by decide) dX6_sendThing_29 ?_
    refine zs_i C (As := [.int x1, .int 2, .int x2, .int 0]) (bytes := cX4_of) (maxL := 4) (F1 := 0) (L1 := 0) (c_X4_of w _ x1 2 x2 0 _  hw) 4 gX6_sendThing_X4_of rfl (by decide +kernel) ⟨Nat.le_of_ble_eq_true rfl, Nat.le_of_ble_eq_true rfl⟩ rfl (Nat.le_of_ble_eq_true rfl) ⟨Nat.zero_le _, Nat.zero_le _⟩ rfl dX6_sendThing_30 (fun x24 τ23 hw => ?_)
    refine z_istore C [(5, .int x24), (4, .int 2), (3, .ref (w.1 ((i0 + 2) + 73 + 5 * (Int32.toNatClampNeg x1)))), (0, .ref (w.1 i0)), (1, .int x1), (2, .int x2)] dX6_sendThing_33 (by decide) rfl ?_
    refine z_aload_n C 3 (by rfl) dX6_sendThing_35 ?_
    refine z_iload C 0 (by rfl) dX6_sendThing_36 ?_
    refine z_aload_n C 2 (by rfl) dX6_sendThing_38 ?_
    refine z_get C (Cn := RX2) (T := TX2) (N := 4) (ci := 2) (tR16 (tR5_2 h0) (tp_lt s21)).2 0 (tE2 (tR16 (tR5_2 h0) (tp_lt s21)).1) in_X6_sendThing_X2 rfl (by decide) mw_X6_sendThing_3 rfl rfl dX6_sendThing_39 ?_
    refine z_aload_n C 2 (by rfl) dX6_sendThing_42 ?_
    refine z_get C (Cn := RX2) (T := TX2) (N := 4) (ci := 2) (tR16 (tR5_2 h0) (tp_lt s21)).2 1 (tE2 (tR16 (tR5_2 h0) (tp_lt s21)).1) in_X6_sendThing_X2 rfl (by decide) mw_X6_sendThing_4 rfl rfl dX6_sendThing_43 ?_
    refine zv_v C (As := [.int x24, .int (τ23 ((i0 + 2) + 73 + 5 * (Int32.toNatClampNeg x1)) 0), .int (τ23 ((i0 + 2) + 73 + 5 * (Int32.toNatClampNeg x1)) 1)]) (bytes := cX6_send) (maxL := 6) (F1 := 2) (L1 := 47) (c_X6_send w _ i0 x24 (τ23 ((i0 + 2) + 73 + 5 * (Int32.toNatClampNeg x1)) 0) (τ23 ((i0 + 2) + 73 + 5 * (Int32.toNatClampNeg x1)) 1) _ h0 hw) h0.2 (tE5 h0.1) rfl 3 gX6_sendThing_X6_send rfl (by decide +kernel) ⟨Nat.le_of_ble_eq_true rfl, Nat.le_of_ble_eq_true rfl⟩ rfl (Nat.le_of_ble_eq_true rfl) ⟨Nat.zero_le _, Nat.zero_le _⟩ rfl dX6_sendThing_46 (fun τ25 hw => ?_)
    exact hR _ _ _ dX6_sendThing_49 hw
  · have hw := hw.2 c22
    refine z_iconst C 1 (by decide) dX6_sendThing_18 ?_
    refine z_goto (tgt := 23) C dX6_sendThing_19 (by decide) ?_
    refine z_istore C [(4, .int 1), (3, .ref (w.1 ((i0 + 2) + 73 + 5 * (Int32.toNatClampNeg x1)))), (0, .ref (w.1 i0)), (1, .int x1), (2, .int x2)] dX6_sendThing_23 (by decide) rfl ?_
    refine z_iload_n C 3 (by rfl) dX6_sendThing_25 ?_
    refine z_iload C 0 (by rfl) dX6_sendThing_26 ?_
    refine z_iload_n C 4 (by rfl) dX6_sendThing_28 ?_
    refine z_iconst C 0 (by decide) dX6_sendThing_29 ?_
    refine zs_i C (As := [.int x1, .int 1, .int x2, .int 0]) (bytes := cX4_of) (maxL := 4) (F1 := 0) (L1 := 0) (c_X4_of w _ x1 1 x2 0 _  hw) 4 gX6_sendThing_X4_of rfl (by decide +kernel) ⟨Nat.le_of_ble_eq_true rfl, Nat.le_of_ble_eq_true rfl⟩ rfl (Nat.le_of_ble_eq_true rfl) ⟨Nat.zero_le _, Nat.zero_le _⟩ rfl dX6_sendThing_30 (fun x27 τ26 hw => ?_)
    refine z_istore C [(5, .int x27), (4, .int 1), (3, .ref (w.1 ((i0 + 2) + 73 + 5 * (Int32.toNatClampNeg x1)))), (0, .ref (w.1 i0)), (1, .int x1), (2, .int x2)] dX6_sendThing_33 (by decide) rfl ?_
    refine z_aload_n C 3 (by rfl) dX6_sendThing_35 ?_
    refine z_iload C 0 (by rfl) dX6_sendThing_36 ?_
    refine z_aload_n C 2 (by rfl) dX6_sendThing_38 ?_
    refine z_get C (Cn := RX2) (T := TX2) (N := 4) (ci := 2) (tR16 (tR5_2 h0) (tp_lt s21)).2 0 (tE2 (tR16 (tR5_2 h0) (tp_lt s21)).1) in_X6_sendThing_X2 rfl (by decide) mw_X6_sendThing_3 rfl rfl dX6_sendThing_39 ?_
    refine z_aload_n C 2 (by rfl) dX6_sendThing_42 ?_
    refine z_get C (Cn := RX2) (T := TX2) (N := 4) (ci := 2) (tR16 (tR5_2 h0) (tp_lt s21)).2 1 (tE2 (tR16 (tR5_2 h0) (tp_lt s21)).1) in_X6_sendThing_X2 rfl (by decide) mw_X6_sendThing_4 rfl rfl dX6_sendThing_43 ?_
    refine zv_v C (As := [.int x27, .int (τ26 ((i0 + 2) + 73 + 5 * (Int32.toNatClampNeg x1)) 0), .int (τ26 ((i0 + 2) + 73 + 5 * (Int32.toNatClampNeg x1)) 1)]) (bytes := cX6_send) (maxL := 6) (F1 := 2) (L1 := 47) (c_X6_send w _ i0 x27 (τ26 ((i0 + 2) + 73 + 5 * (Int32.toNatClampNeg x1)) 0) (τ26 ((i0 + 2) + 73 + 5 * (Int32.toNatClampNeg x1)) 1) _ h0 hw) h0.2 (tE5 h0.1) rfl 3 gX6_sendThing_X6_send rfl (by decide +kernel) ⟨Nat.le_of_ble_eq_true rfl, Nat.le_of_ble_eq_true rfl⟩ rfl (Nat.le_of_ble_eq_true rfl) ⟨Nat.zero_le _, Nat.zero_le _⟩ rfl dX6_sendThing_46 (fun τ28 hw => ?_)
    exact hR _ _ _ dX6_sendThing_49 hw
def wp_X6_sendAnswer (τ : TS) (i0 : Nat) (x1 : Int32) (K : TS → Prop) : Prop :=
  vp_in x1 6 ∧ (wp_X0_spare τ (((i0 + 2) + 73 + 5 * (Int32.toNatClampNeg x1)) + 3) (fun τ22 x23 => wp_X4_of τ22 x1 3 (τ (((i0 + 2) + 73 + 5 * (Int32.toNatClampNeg x1)) + 3) 1) x23 (fun τ24 x25 => wp_X6_send τ24 i0 x25 (τ24 ((i0 + 2) + 73 + 5 * (Int32.toNatClampNeg x1)) 1) (τ24 ((i0 + 2) + 73 + 5 * (Int32.toNatClampNeg x1)) 0) (fun τ26 => K τ26))))
theorem mw_X6_sendAnswer_0 : Cond.fieldLink RX6 19 "TidePost$Traffic" "all" "[LTidePost$Connection;" ∈ wsX6_sendAnswer := List.mem_of_getElem? (i := 1) rfl
theorem mw_X6_sendAnswer_1 : Cond.fieldLink RX6 39 "TidePost$Connection" "callee" "LTidePost$Callee;" ∈ wsX6_sendAnswer := List.mem_of_getElem? (i := 2) rfl
theorem mw_X6_sendAnswer_2 : Cond.fieldLink RX6 175 "TidePost$Callee" "wanted" "I" ∈ wsX6_sendAnswer := List.mem_of_getElem? (i := 3) rfl
theorem mw_X6_sendAnswer_3 : Cond.fieldLink RX6 36 "TidePost$Connection" "calleeNode" "I" ∈ wsX6_sendAnswer := List.mem_of_getElem? (i := 4) rfl
theorem mw_X6_sendAnswer_4 : Cond.fieldLink RX6 33 "TidePost$Connection" "callerNode" "I" ∈ wsX6_sendAnswer := List.mem_of_getElem? (i := 5) rfl
theorem in_X6_sendAnswer_X6 : ∀ x ∈ wsX60, x ∈ wsX6_sendAnswer := fun _ h => List.mem_cons_of_mem _ (List.mem_append_left _ (List.mem_append_left _ (List.mem_append_left _ (List.mem_append_left _ (List.mem_append_right _ h)))))
theorem in_X6_sendAnswer_X2 : ∀ x ∈ wsX20, x ∈ wsX6_sendAnswer := fun _ h => List.mem_cons_of_mem _ (List.mem_append_left _ (List.mem_append_left _ (List.mem_append_left _ (List.mem_append_right _ h))))
theorem in_X6_sendAnswer_X0 : ∀ x ∈ wsX00, x ∈ wsX6_sendAnswer := fun _ h => List.mem_cons_of_mem _ (List.mem_append_left _ (List.mem_append_left _ (List.mem_append_right _ h)))
set_option maxHeartbeats 4000000 in
set_option maxRecDepth 100000 in
theorem c_X6_sendAnswer (w : WPar) (τ : TS) (i0 : Nat) (x1 : Int32) (K : TS → Prop) (h0 : tp_is i0 5) (hw : wp_X6_sendAnswer τ i0 x1 K) : MV w yX6_sendAnswer wsX6_sendAnswer 3 72 [.ref (w.1 i0), .int x1] τ K := by
  refine tp_enterV (cc := cX6_sendAnswer) (maxL := 5) (own := RX6) (by decide) rfl rfl (Nat.le_of_ble_eq_true rfl) (fun g C hR => ?_)
  show Zt w g τ (0, 0) 0 [(0, .ref (w.1 i0)), (1, .int x1)] []
  unfold wp_X6_sendAnswer at hw
  refine z_aload_n C 0 (by rfl) dX6_sendAnswer_0 ?_
  refine z_get C (Cn := RX6) (T := TX6) (N := 6) (ci := 5) h0.2 2 (tE5 h0.1) in_X6_sendAnswer_X6 rfl (by decide) mw_X6_sendAnswer_0 rfl rfl dX6_sendAnswer_1 ?_
  refine z_iload_n C 1 (by rfl) dX6_sendAnswer_4 ?_
  obtain ⟨s21, hw⟩ := hw
  refine z_aald_q3 C (tR5_2 h0).2 (tE16 (tR5_2 h0).1) s21 (if_pos (tp_lt s21)) dX6_sendAnswer_5 ?_
  refine z_astore_n C [(2, .ref (w.1 ((i0 + 2) + 73 + 5 * (Int32.toNatClampNeg x1)))), (0, .ref (w.1 i0)), (1, .int x1)] dX6_sendAnswer_6 (by decide) rfl ?_
  refine z_aload_n C 0 (by rfl) dX6_sendAnswer_7 ?_
  refine z_get C (Cn := RX2) (T := TX2) (N := 4) (ci := 2) (tR16 (tR5_2 h0) (tp_lt s21)).2 3 (tE2 (tR16 (tR5_2 h0) (tp_lt s21)).1) in_X6_sendAnswer_X2 rfl (by decide) mw_X6_sendAnswer_1 rfl rfl dX6_sendAnswer_8 ?_
  refine z_astore_n C [(3, .ref (w.1 (((i0 + 2) + 73 + 5 * (Int32.toNatClampNeg x1)) + 3))), (2, .ref (w.1 ((i0 + 2) + 73 + 5 * (Int32.toNatClampNeg x1)))), (0, .ref (w.1 i0)), (1, .int x1)] dX6_sendAnswer_11 (by decide) rfl ?_
  refine z_iload_n C 3 (by rfl) dX6_sendAnswer_12 ?_
  refine z_iconst C 3 (by decide) dX6_sendAnswer_13 ?_
  refine z_aload_n C 0 (by rfl) dX6_sendAnswer_14 ?_
  refine z_get C (Cn := RX0) (T := TX0) (N := 4) (ci := 0) (tR2_3 (tR16 (tR5_2 h0) (tp_lt s21))).2 1 (tE0 (tR2_3 (tR16 (tR5_2 h0) (tp_lt s21))).1) in_X6_sendAnswer_X0 rfl (by decide) mw_X6_sendAnswer_2 rfl rfl dX6_sendAnswer_15 ?_
  refine z_aload_n C 0 (by rfl) dX6_sendAnswer_18 ?_
  refine zv_i C (As := []) (bytes := cX0_spare) (maxL := 1) (F1 := 1) (L1 := 13) (c_X0_spare w _ (((i0 + 2) + 73 + 5 * (Int32.toNatClampNeg x1)) + 3) _ (tR2_3 (tR16 (tR5_2 h0) (tp_lt s21))) hw) (tR2_3 (tR16 (tR5_2 h0) (tp_lt s21))).2 (tE0 (tR2_3 (tR16 (tR5_2 h0) (tp_lt s21))).1) rfl 0 gX6_sendAnswer_X0_spare rfl (by decide +kernel) ⟨Nat.le_of_ble_eq_true rfl, Nat.le_of_ble_eq_true rfl⟩ rfl (Nat.le_of_ble_eq_true rfl) ⟨Nat.zero_le _, Nat.zero_le _⟩ rfl dX6_sendAnswer_19 (fun x23 τ22 hw => ?_)
  refine zs_i C (As := [.int x1, .int 3, .int (τ (((i0 + 2) + 73 + 5 * (Int32.toNatClampNeg x1)) + 3) 1), .int x23]) (bytes := cX4_of) (maxL := 4) (F1 := 0) (L1 := 0) (c_X4_of w _ x1 3 (τ (((i0 + 2) + 73 + 5 * (Int32.toNatClampNeg x1)) + 3) 1) x23 _  hw) 4 gX6_sendAnswer_X4_of rfl (by decide +kernel) ⟨Nat.le_of_ble_eq_true rfl, Nat.le_of_ble_eq_true rfl⟩ rfl (Nat.le_of_ble_eq_true rfl) ⟨Nat.zero_le _, Nat.zero_le _⟩ rfl dX6_sendAnswer_22 (fun x25 τ24 hw => ?_)
  refine z_istore C [(4, .int x25), (3, .ref (w.1 (((i0 + 2) + 73 + 5 * (Int32.toNatClampNeg x1)) + 3))), (2, .ref (w.1 ((i0 + 2) + 73 + 5 * (Int32.toNatClampNeg x1)))), (0, .ref (w.1 i0)), (1, .int x1)] dX6_sendAnswer_25 (by decide) rfl ?_
  refine z_aload_n C 3 (by rfl) dX6_sendAnswer_27 ?_
  refine z_iload C 0 (by rfl) dX6_sendAnswer_28 ?_
  refine z_aload_n C 2 (by rfl) dX6_sendAnswer_30 ?_
  refine z_get C (Cn := RX2) (T := TX2) (N := 4) (ci := 2) (tR16 (tR5_2 h0) (tp_lt s21)).2 1 (tE2 (tR16 (tR5_2 h0) (tp_lt s21)).1) in_X6_sendAnswer_X2 rfl (by decide) mw_X6_sendAnswer_3 rfl rfl dX6_sendAnswer_31 ?_
  refine z_aload_n C 2 (by rfl) dX6_sendAnswer_34 ?_
  refine z_get C (Cn := RX2) (T := TX2) (N := 4) (ci := 2) (tR16 (tR5_2 h0) (tp_lt s21)).2 0 (tE2 (tR16 (tR5_2 h0) (tp_lt s21)).1) in_X6_sendAnswer_X2 rfl (by decide) mw_X6_sendAnswer_4 rfl rfl dX6_sendAnswer_35 ?_
  refine zv_v C (As := [.int x25, .int (τ24 ((i0 + 2) + 73 + 5 * (Int32.toNatClampNeg x1)) 1), .int (τ24 ((i0 + 2) + 73 + 5 * (Int32.toNatClampNeg x1)) 0)]) (bytes := cX6_send) (maxL := 6) (F1 := 2) (L1 := 47) (c_X6_send w _ i0 x25 (τ24 ((i0 + 2) + 73 + 5 * (Int32.toNatClampNeg x1)) 1) (τ24 ((i0 + 2) + 73 + 5 * (Int32.toNatClampNeg x1)) 0) _ h0 hw) h0.2 (tE5 h0.1) rfl 3 gX6_sendAnswer_X6_send rfl (by decide +kernel) ⟨Nat.le_of_ble_eq_true rfl, Nat.le_of_ble_eq_true rfl⟩ rfl (Nat.le_of_ble_eq_true rfl) ⟨Nat.zero_le _, Nat.zero_le _⟩ rfl dX6_sendAnswer_38 (fun τ26 hw => ?_)
  exact hR _ _ _ dX6_sendAnswer_41 hw
def wp_X6_connect (τ : TS) (i0 : Nat) (x1 : Int32) (x2 : Int32) (x3 : Int32) (K : TS → Int32 → Prop) : Prop :=
  ∀ x21 : Int32, x21 = (τ i0 3) → vp_in x21 6 ∧ (∀ τ23 : TS, τ23 = tp_up τ ((i0 + 2) + 73 + 5 * (Int32.toNatClampNeg x21)) 0 x1 → ∀ τ24 : TS, τ24 = tp_up τ23 ((i0 + 2) + 73 + 5 * (Int32.toNatClampNeg x21)) 1 x2 → ∀ τ25 : TS, τ25 = tp_up τ24 (((i0 + 2) + 73 + 5 * (Int32.toNatClampNeg x21)) + 3) 0 x3 → wp_X1_begin τ25 (((i0 + 2) + 73 + 5 * (Int32.toNatClampNeg x21)) + 1) x3 (τ25 i0 4) (fun τ26 => ∀ τ27 : TS, τ27 = tp_up τ26 i0 3 ((τ26 i0 3) + 1) → wp_X6_sendHello τ27 i0 x21 (fun τ28 => K τ28 x21)))
theorem mw_X6_connect_0 : Cond.fieldLink RX6 29 "TidePost$Traffic" "made" "I" ∈ wsX6_connect := List.mem_of_getElem? (i := 1) rfl
theorem mw_X6_connect_1 : Cond.fieldLink RX6 19 "TidePost$Traffic" "all" "[LTidePost$Connection;" ∈ wsX6_connect := List.mem_of_getElem? (i := 2) rfl
theorem mw_X6_connect_2 : Cond.fieldLink RX6 33 "TidePost$Connection" "callerNode" "I" ∈ wsX6_connect := List.mem_of_getElem? (i := 3) rfl
theorem mw_X6_connect_3 : Cond.fieldLink RX6 36 "TidePost$Connection" "calleeNode" "I" ∈ wsX6_connect := List.mem_of_getElem? (i := 4) rfl
theorem mw_X6_connect_4 : Cond.fieldLink RX6 39 "TidePost$Connection" "callee" "LTidePost$Callee;" ∈ wsX6_connect := List.mem_of_getElem? (i := 5) rfl
theorem mw_X6_connect_5 : Cond.fieldLink RX6 43 "TidePost$Callee" "buffer" "I" ∈ wsX6_connect := List.mem_of_getElem? (i := 6) rfl
theorem mw_X6_connect_6 : Cond.fieldLink RX6 48 "TidePost$Connection" "caller" "LTidePost$Caller;" ∈ wsX6_connect := List.mem_of_getElem? (i := 7) rfl
theorem mw_X6_connect_7 : Cond.fieldLink RX6 52 "TidePost$Traffic" "clock" "I" ∈ wsX6_connect := List.mem_of_getElem? (i := 8) rfl
theorem in_X6_connect_X6 : ∀ x ∈ wsX60, x ∈ wsX6_connect := fun _ h => List.mem_cons_of_mem _ (List.mem_append_left _ (List.mem_append_left _ (List.mem_append_left _ (List.mem_append_left _ (List.mem_append_left _ (List.mem_append_left _ (List.mem_append_right _ h)))))))
theorem in_X6_connect_X2 : ∀ x ∈ wsX20, x ∈ wsX6_connect := fun _ h => List.mem_cons_of_mem _ (List.mem_append_left _ (List.mem_append_left _ (List.mem_append_left _ (List.mem_append_left _ (List.mem_append_left _ (List.mem_append_right _ h))))))
theorem in_X6_connect_X0 : ∀ x ∈ wsX00, x ∈ wsX6_connect := fun _ h => List.mem_cons_of_mem _ (List.mem_append_left _ (List.mem_append_left _ (List.mem_append_left _ (List.mem_append_left _ (List.mem_append_right _ h)))))
set_option maxHeartbeats 4000000 in
set_option maxRecDepth 100000 in
theorem c_X6_connect (w : WPar) (τ : TS) (i0 : Nat) (x1 : Int32) (x2 : Int32) (x3 : Int32) (K : TS → Int32 → Prop) (h0 : tp_is i0 5) (hw : wp_X6_connect τ i0 x1 x2 x3 K) : MI w yX6_connect wsX6_connect 4 95 [.ref (w.1 i0), .int x1, .int x2, .int x3] τ K := by
  refine tp_enterI (cc := cX6_connect) (maxL := 6) (own := RX6) (by decide) rfl rfl (Nat.le_of_ble_eq_true rfl) (fun g C hR => ?_)
  show Zt w g τ (0, 0) 0 [(0, .ref (w.1 i0)), (1, .int x1), (2, .int x2), (3, .int x3)] []
  unfold wp_X6_connect at hw
  refine z_aload_n C 0 (by rfl) dX6_connect_0 ?_
  refine z_get C (Cn := RX6) (T := TX6) (N := 6) (ci := 5) h0.2 3 (tE5 h0.1) in_X6_connect_X6 rfl (by decide) mw_X6_connect_0 rfl rfl dX6_connect_1 ?_
  refine z_top (fun x21 ex21 => ?_)
  have hw := hw x21 ex21
  refine z_istore C [(4, .int x21), (0, .ref (w.1 i0)), (1, .int x1), (2, .int x2), (3, .int x3)] dX6_connect_4 (by decide) rfl ?_
  refine z_aload_n C 1 (by rfl) dX6_connect_6 ?_
  refine z_get C (Cn := RX6) (T := TX6) (N := 6) (ci := 5) h0.2 2 (tE5 h0.1) in_X6_connect_X6 rfl (by decide) mw_X6_connect_1 rfl rfl dX6_connect_7 ?_
  refine z_iload C 0 (by rfl) dX6_connect_10 ?_
  obtain ⟨s22, hw⟩ := hw
  refine z_aald_q3 C (tR5_2 h0).2 (tE16 (tR5_2 h0).1) s22 (if_pos (tp_lt s22)) dX6_connect_12 ?_
  refine z_astore C [(5, .ref (w.1 ((i0 + 2) + 73 + 5 * (Int32.toNatClampNeg x21)))), (4, .int x21), (0, .ref (w.1 i0)), (1, .int x1), (2, .int x2), (3, .int x3)] dX6_connect_13 (by decide) rfl ?_
  refine z_aload C 0 (by rfl) dX6_connect_15 ?_
  refine z_iload_n C 3 (by rfl) dX6_connect_17 ?_
  refine z_put C (Cn := RX2) (T := TX2) (N := 4) (ci := 2) (tR16 (tR5_2 h0) (tp_lt s22)).2 0 (tE2 (tR16 (tR5_2 h0) (tp_lt s22)).1) (tS2_0 (tR16 (tR5_2 h0) (tp_lt s22)).1 _) in_X6_connect_X2 tyX2 tyX2_ok nmX2 rfl (by decide) mw_X6_connect_2 rfl rfl (tyX2_ok 0 (by decide)) rfl rfl (Nat.le_of_ble_eq_true rfl) dX6_connect_18 (fun τ23 eτ23 => ?_)
  have hw := hw τ23 eτ23
  refine z_aload C 0 (by rfl) dX6_connect_21 ?_
  refine z_iload_n C 4 (by rfl) dX6_connect_23 ?_
  refine z_put C (Cn := RX2) (T := TX2) (N := 4) (ci := 2) (tR16 (tR5_2 h0) (tp_lt s22)).2 1 (tE2 (tR16 (tR5_2 h0) (tp_lt s22)).1) (tS2_1 (tR16 (tR5_2 h0) (tp_lt s22)).1 _) in_X6_connect_X2 tyX2 tyX2_ok nmX2 rfl (by decide) mw_X6_connect_3 rfl rfl (tyX2_ok 1 (by decide)) rfl rfl (Nat.le_of_ble_eq_true rfl) dX6_connect_24 (fun τ24 eτ24 => ?_)
  have hw := hw τ24 eτ24
  refine z_aload C 0 (by rfl) dX6_connect_27 ?_
  refine z_get C (Cn := RX2) (T := TX2) (N := 4) (ci := 2) (tR16 (tR5_2 h0) (tp_lt s22)).2 3 (tE2 (tR16 (tR5_2 h0) (tp_lt s22)).1) in_X6_connect_X2 rfl (by decide) mw_X6_connect_4 rfl rfl dX6_connect_29 ?_
  refine z_iload_n C 5 (by rfl) dX6_connect_32 ?_
  refine z_put C (Cn := RX0) (T := TX0) (N := 4) (ci := 0) (tR2_3 (tR16 (tR5_2 h0) (tp_lt s22))).2 0 (tE0 (tR2_3 (tR16 (tR5_2 h0) (tp_lt s22))).1) (tS0_0 (tR2_3 (tR16 (tR5_2 h0) (tp_lt s22))).1 _) in_X6_connect_X0 tyX0 tyX0_ok nmX0 rfl (by decide) mw_X6_connect_5 rfl rfl (tyX0_ok 0 (by decide)) rfl rfl (Nat.le_of_ble_eq_true rfl) dX6_connect_33 (fun τ25 eτ25 => ?_)
  have hw := hw τ25 eτ25
  refine z_aload C 0 (by rfl) dX6_connect_36 ?_
  refine z_get C (Cn := RX2) (T := TX2) (N := 4) (ci := 2) (tR16 (tR5_2 h0) (tp_lt s22)).2 2 (tE2 (tR16 (tR5_2 h0) (tp_lt s22)).1) in_X6_connect_X2 rfl (by decide) mw_X6_connect_6 rfl rfl dX6_connect_38 ?_
  refine z_iload_n C 5 (by rfl) dX6_connect_41 ?_
  refine z_aload_n C 2 (by rfl) dX6_connect_42 ?_
  refine z_get C (Cn := RX6) (T := TX6) (N := 6) (ci := 5) h0.2 4 (tE5 h0.1) in_X6_connect_X6 rfl (by decide) mw_X6_connect_7 rfl rfl dX6_connect_43 ?_
  refine zv_v C (As := [.int x3, .int (τ25 i0 4)]) (bytes := cX1_begin) (maxL := 3) (F1 := 1) (L1 := 20) (c_X1_begin w _ (((i0 + 2) + 73 + 5 * (Int32.toNatClampNeg x21)) + 1) x3 (τ25 i0 4) _ (tR2_2 (tR16 (tR5_2 h0) (tp_lt s22))) hw) (tR2_2 (tR16 (tR5_2 h0) (tp_lt s22))).2 (tE1 (tR2_2 (tR16 (tR5_2 h0) (tp_lt s22))).1) rfl 2 gX6_connect_X1_begin rfl (by decide +kernel) ⟨Nat.le_of_ble_eq_true rfl, Nat.le_of_ble_eq_true rfl⟩ rfl (Nat.le_of_ble_eq_true rfl) ⟨Nat.zero_le _, Nat.zero_le _⟩ rfl dX6_connect_46 (fun τ26 hw => ?_)
  refine z_aload_n C 2 (by rfl) dX6_connect_49 ?_
  refine z_dup C rfl dX6_connect_50 ?_
  refine z_get C (Cn := RX6) (T := TX6) (N := 6) (ci := 5) h0.2 3 (tE5 h0.1) in_X6_connect_X6 rfl (by decide) mw_X6_connect_0 rfl rfl dX6_connect_51 ?_
  refine z_iconst C 1 (by decide) dX6_connect_54 ?_
  refine z_iadd C dX6_connect_55 ?_
  refine z_put C (Cn := RX6) (T := TX6) (N := 6) (ci := 5) h0.2 3 (tE5 h0.1) (tS5_3 h0.1 _) in_X6_connect_X6 tyX6 tyX6_ok nmX6 rfl (by decide) mw_X6_connect_0 rfl rfl (tyX6_ok 3 (by decide)) rfl rfl (Nat.le_of_ble_eq_true rfl) dX6_connect_56 (fun τ27 eτ27 => ?_)
  have hw := hw τ27 eτ27
  refine z_aload_n C 2 (by rfl) dX6_connect_59 ?_
  refine z_iload C 1 (by rfl) dX6_connect_60 ?_
  refine zv_v C (As := [.int x21]) (bytes := cX6_sendHello) (maxL := 4) (F1 := 3) (L1 := 72) (c_X6_sendHello w _ i0 x21 _ h0 hw) h0.2 (tE5 h0.1) rfl 1 gX6_connect_X6_sendHello rfl (by decide +kernel) ⟨Nat.le_of_ble_eq_true rfl, Nat.le_of_ble_eq_true rfl⟩ rfl (Nat.le_of_ble_eq_true rfl) ⟨Nat.zero_le _, Nat.zero_le _⟩ rfl dX6_connect_62 (fun τ28 hw => ?_)
  refine z_iload C 1 (by rfl) dX6_connect_65 ?_
  exact hR _ _ _ _ dX6_connect_67 hw
def wp_X6_dropAll (τ : TS) (i0 : Nat) (x1 : Int32) (K : TS → Int32 → Prop) : Prop :=
  vp_in (2 * x1) 24 ∧ (wp_X7_drop τ ((i0 + 1) + 2 + 3 * (Int32.toNatClampNeg (2 * x1))) (fun τ22 x23 => vp_in ((2 * x1) + 1) 24 ∧ (wp_X7_drop τ22 ((i0 + 1) + 2 + 3 * (Int32.toNatClampNeg ((2 * x1) + 1))) (fun τ25 x26 => ∀ x27 : Int32, x27 = (x23 + x26) → ∀ τ28 : TS, τ28 = tp_up τ25 i0 5 ((τ25 i0 5) + x27) → K τ28 x27))))
theorem mw_X6_dropAll_0 : Cond.fieldLink RX6 11 "TidePost$Traffic" "ways" "[LTidePost$Way;" ∈ wsX6_dropAll := List.mem_of_getElem? (i := 1) rfl
theorem mw_X6_dropAll_1 : Cond.fieldLink RX6 69 "TidePost$Traffic" "lost" "I" ∈ wsX6_dropAll := List.mem_of_getElem? (i := 2) rfl
theorem in_X6_dropAll_X6 : ∀ x ∈ wsX60, x ∈ wsX6_dropAll := fun _ h => List.mem_cons_of_mem _ (List.mem_append_left _ (List.mem_append_right _ h))
set_option maxHeartbeats 4000000 in
set_option maxRecDepth 100000 in
theorem c_X6_dropAll (w : WPar) (τ : TS) (i0 : Nat) (x1 : Int32) (K : TS → Int32 → Prop) (h0 : tp_is i0 5) (hw : wp_X6_dropAll τ i0 x1 K) : MI w yX6_dropAll wsX6_dropAll 1 22 [.ref (w.1 i0), .int x1] τ K := by
  refine tp_enterI (cc := cX6_dropAll) (maxL := 3) (own := RX6) (by decide) rfl rfl (Nat.le_of_ble_eq_true rfl) (fun g C hR => ?_)
  show Zt w g τ (0, 0) 0 [(0, .ref (w.1 i0)), (1, .int x1)] []
  unfold wp_X6_dropAll at hw
  refine z_aload_n C 0 (by rfl) dX6_dropAll_0 ?_
  refine z_get C (Cn := RX6) (T := TX6) (N := 6) (ci := 5) h0.2 1 (tE5 h0.1) in_X6_dropAll_X6 rfl (by decide) mw_X6_dropAll_0 rfl rfl dX6_dropAll_1 ?_
  refine z_iconst C 2 (by decide) dX6_dropAll_4 ?_
  refine z_iload_n C 1 (by rfl) dX6_dropAll_5 ?_
  refine z_imul C dX6_dropAll_6 ?_
  obtain ⟨s21, hw⟩ := hw
  refine z_aald_q2 C (tR5_1 h0).2 (tE15 (tR5_1 h0).1) s21 (if_pos (tp_lt s21)) dX6_dropAll_7 ?_
  refine zv_i C (As := []) (bytes := cX7_drop) (maxL := 3) (F1 := 0) (L1 := 0) (c_X7_drop w _ ((i0 + 1) + 2 + 3 * (Int32.toNatClampNeg (2 * x1))) _ (tR15 (tR5_1 h0) (tp_lt s21)) hw) (tR15 (tR5_1 h0) (tp_lt s21)).2 (tE6 (tR15 (tR5_1 h0) (tp_lt s21)).1) rfl 0 gX6_dropAll_X7_drop rfl (by decide +kernel) ⟨Nat.le_of_ble_eq_true rfl, Nat.le_of_ble_eq_true rfl⟩ rfl (Nat.le_of_ble_eq_true rfl) ⟨Nat.zero_le _, Nat.zero_le _⟩ rfl dX6_dropAll_8 (fun x23 τ22 hw => ?_)
  refine z_aload_n C 0 (by rfl) dX6_dropAll_11 ?_
  refine z_get C (Cn := RX6) (T := TX6) (N := 6) (ci := 5) h0.2 1 (tE5 h0.1) in_X6_dropAll_X6 rfl (by decide) mw_X6_dropAll_0 rfl rfl dX6_dropAll_12 ?_
  refine z_iconst C 2 (by decide) dX6_dropAll_15 ?_
  refine z_iload_n C 1 (by rfl) dX6_dropAll_16 ?_
  refine z_imul C dX6_dropAll_17 ?_
  refine z_iconst C 1 (by decide) dX6_dropAll_18 ?_
  refine z_iadd C dX6_dropAll_19 ?_
  obtain ⟨s24, hw⟩ := hw
  refine z_aald_q2 C (tR5_1 h0).2 (tE15 (tR5_1 h0).1) s24 (if_pos (tp_lt s24)) dX6_dropAll_20 ?_
  refine zv_i C (As := []) (bytes := cX7_drop) (maxL := 3) (F1 := 0) (L1 := 0) (c_X7_drop w _ ((i0 + 1) + 2 + 3 * (Int32.toNatClampNeg ((2 * x1) + 1))) _ (tR15 (tR5_1 h0) (tp_lt s24)) hw) (tR15 (tR5_1 h0) (tp_lt s24)).2 (tE6 (tR15 (tR5_1 h0) (tp_lt s24)).1) rfl 0 gX6_dropAll_X7_drop rfl (by decide +kernel) ⟨Nat.le_of_ble_eq_true rfl, Nat.le_of_ble_eq_true rfl⟩ rfl (Nat.le_of_ble_eq_true rfl) ⟨Nat.zero_le _, Nat.zero_le _⟩ rfl dX6_dropAll_21 (fun x26 τ25 hw => ?_)
  refine z_iadd C dX6_dropAll_24 ?_
  refine z_top (fun x27 ex27 => ?_)
  have hw := hw x27 ex27
  refine z_istore_n C [(2, .int x27), (0, .ref (w.1 i0)), (1, .int x1)] dX6_dropAll_25 (by decide) rfl ?_
  refine z_aload_n C 1 (by rfl) dX6_dropAll_26 ?_
  refine z_dup C rfl dX6_dropAll_27 ?_
  refine z_get C (Cn := RX6) (T := TX6) (N := 6) (ci := 5) h0.2 5 (tE5 h0.1) in_X6_dropAll_X6 rfl (by decide) mw_X6_dropAll_1 rfl rfl dX6_dropAll_28 ?_
  refine z_iload_n C 0 (by rfl) dX6_dropAll_31 ?_
  refine z_iadd C dX6_dropAll_32 ?_
  refine z_put C (Cn := RX6) (T := TX6) (N := 6) (ci := 5) h0.2 5 (tE5 h0.1) (tS5_5 h0.1 _) in_X6_dropAll_X6 tyX6 tyX6_ok nmX6 rfl (by decide) mw_X6_dropAll_1 rfl rfl (tyX6_ok 5 (by decide)) rfl rfl (Nat.le_of_ble_eq_true rfl) dX6_dropAll_33 (fun τ28 eτ28 => ?_)
  have hw := hw τ28 eτ28
  refine z_iload_n C 0 (by rfl) dX6_dropAll_36 ?_
  exact hR _ _ _ _ dX6_dropAll_37 hw
def wp_X6_arrive (τ : TS) (i0 : Nat) (x1 : Int32) (x2 : Int32) (K : TS → Prop) : Prop :=
  wp_X4_connectionOf τ x1 (fun τ21 x22 => ((x22 < (τ21 i0 3)) → (vp_in x22 6 ∧ (wp_X4_kindOf τ21 x1 (fun τ25 x26 => ∃ J27 : Int32 → Prop, (∀ (x28 : Int32), J27 x28 → (∃ J29 : Int32 → Prop, (∀ (x30 : Int32), J29 x30 → (((x2 = x30) → (((x28 = 0) → (wp_X4_kindOf τ25 x1 (fun τ33 x34 => ((x34 = 0) → (wp_X6_sendAnswer τ33 i0 x22 (fun τ36 => K τ36))) ∧ ((¬ x34 = 0) → (wp_X4_kindOf τ33 x1 (fun τ37 x38 => ∃ J39 : Int32 → Prop, (∀ (x40 : Int32), J39 x40 → (wp_X4_numberOf τ37 x1 (fun τ41 x42 => wp_X0_take τ41 (((i0 + 2) + 73 + 5 * (Int32.toNatClampNeg x22)) + 3) x42 x40 (fun τ43 x44 => ((x44 = 0) → (∀ τ46 : TS, τ46 = tp_up τ43 i0 5 ((τ37 i0 5) + 1) → wp_X6_sendAnswer τ46 i0 x22 (fun τ47 => K τ47))) ∧ ((¬ x44 = 0) → (∀ τ48 : TS, τ48 = tp_up τ43 i0 5 ((τ37 i0 5) + 0) → wp_X6_sendAnswer τ48 i0 x22 (fun τ49 => K τ49))))))) ∧ (((¬ x38 = 1) → (J39 0)) ∧ ((x38 = 1) → (J39 1))))))))) ∧ ((¬ x28 = 0) → (wp_X4_numberOf τ25 x1 (fun τ51 x52 => wp_X4_roomOf τ51 x1 (fun τ53 x54 => wp_X1_takeAnswer τ53 (((i0 + 2) + 73 + 5 * (Int32.toNatClampNeg x22)) + 1) x52 x54 (τ53 i0 4) (fun τ55 x56 => ((x56 = 0) → (K τ55)) ∧ ((¬ x56 = 0) → (wp_X1_baseAgain τ55 (((i0 + 2) + 73 + 5 * (Int32.toNatClampNeg x22)) + 1) (fun τ58 x59 => wp_X6_sendThing τ58 i0 x22 x59 (fun τ60 => K τ60))))))))))) ∧ ((¬ x2 = x30) → (wp_X6_send τ25 i0 x1 x2 x30 (fun τ61 => K τ61))))) ∧ (((x28 = 0) → (J29 (τ25 ((i0 + 2) + 73 + 5 * (Int32.toNatClampNeg x22)) 1))) ∧ ((¬ x28 = 0) → (J29 (τ25 ((i0 + 2) + 73 + 5 * (Int32.toNatClampNeg x22)) 0)))))) ∧ (((¬ x26 = 3) → (J27 0)) ∧ ((x26 = 3) → (J27 1))))))) ∧ ((¬ x22 < (τ21 i0 3)) → (K τ21)))
theorem mw_X6_arrive_0 : Cond.fieldLink RX6 29 "TidePost$Traffic" "made" "I" ∈ wsX6_arrive := List.mem_of_getElem? (i := 1) rfl
theorem mw_X6_arrive_1 : Cond.fieldLink RX6 19 "TidePost$Traffic" "all" "[LTidePost$Connection;" ∈ wsX6_arrive := List.mem_of_getElem? (i := 2) rfl
theorem mw_X6_arrive_3 : Cond.fieldLink RX6 36 "TidePost$Connection" "calleeNode" "I" ∈ wsX6_arrive := List.mem_of_getElem? (i := 4) rfl
theorem mw_X6_arrive_2 : Cond.fieldLink RX6 33 "TidePost$Connection" "callerNode" "I" ∈ wsX6_arrive := List.mem_of_getElem? (i := 3) rfl
theorem mw_X6_arrive_6 : Cond.fieldLink RX6 69 "TidePost$Traffic" "lost" "I" ∈ wsX6_arrive := List.mem_of_getElem? (i := 7) rfl
theorem mw_X6_arrive_7 : Cond.fieldLink RX6 39 "TidePost$Connection" "callee" "LTidePost$Callee;" ∈ wsX6_arrive := List.mem_of_getElem? (i := 8) rfl
theorem mw_X6_arrive_4 : Cond.fieldLink RX6 48 "TidePost$Connection" "caller" "LTidePost$Caller;" ∈ wsX6_arrive := List.mem_of_getElem? (i := 5) rfl
theorem mw_X6_arrive_5 : Cond.fieldLink RX6 52 "TidePost$Traffic" "clock" "I" ∈ wsX6_arrive := List.mem_of_getElem? (i := 6) rfl
theorem in_X6_arrive_X6 : ∀ x ∈ wsX60, x ∈ wsX6_arrive := fun _ h => List.mem_cons_of_mem _ (List.mem_append_left _ (List.mem_append_left _ (List.mem_append_left _ (List.mem_append_left _ (List.mem_append_left _ (List.mem_append_left _ (List.mem_append_right _ h)))))))
theorem in_X6_arrive_X2 : ∀ x ∈ wsX20, x ∈ wsX6_arrive := fun _ h => List.mem_cons_of_mem _ (List.mem_append_left _ (List.mem_append_left _ (List.mem_append_left _ (List.mem_append_left _ (List.mem_append_left _ (List.mem_append_right _ h))))))
set_option maxHeartbeats 4000000 in
set_option maxRecDepth 100000 in
theorem c_X6_arrive (w : WPar) (τ : TS) (i0 : Nat) (x1 : Int32) (x2 : Int32) (K : TS → Prop) (h0 : tp_is i0 5) (hw : wp_X6_arrive τ i0 x1 x2 K) : MV w yX6_arrive wsX6_arrive 4 97 [.ref (w.1 i0), .int x1, .int x2] τ K := by
  refine tp_enterV (cc := cX6_arrive) (maxL := 8) (own := RX6) (by decide) rfl rfl (Nat.le_of_ble_eq_true rfl) (fun g C hR => ?_)
  show Zt w g τ (0, 0) 0 [(0, .ref (w.1 i0)), (1, .int x1), (2, .int x2)] []
  unfold wp_X6_arrive at hw
  refine z_iload_n C 1 (by rfl) dX6_arrive_0 ?_
  refine zs_i C (As := [.int x1]) (bytes := cX4_connectionOf) (maxL := 1) (F1 := 0) (L1 := 0) (c_X4_connectionOf w _ x1 _  hw) 1 gX6_arrive_X4_connectionOf rfl (by decide +kernel) ⟨Nat.le_of_ble_eq_true rfl, Nat.le_of_ble_eq_true rfl⟩ rfl (Nat.le_of_ble_eq_true rfl) ⟨Nat.zero_le _, Nat.zero_le _⟩ rfl dX6_arrive_1 (fun x22 τ21 hw => ?_)
  refine z_istore_n C [(3, .int x22), (0, .ref (w.1 i0)), (1, .int x1), (2, .int x2)] dX6_arrive_4 (by decide) rfl ?_
  refine z_iload_n C 0 (by rfl) dX6_arrive_5 ?_
  refine z_aload_n C 1 (by rfl) dX6_arrive_6 ?_
  refine z_get C (Cn := RX6) (T := TX6) (N := 6) (ci := 5) h0.2 3 (tE5 h0.1) in_X6_arrive_X6 rfl (by decide) mw_X6_arrive_0 rfl rfl dX6_arrive_7 ?_
  refine z_icmp_lt (tgt := 14) C dX6_arrive_10 (by decide) (fun c23 => ?_) (fun c23 => ?_)
  · have hw := hw.1 c23
    refine z_aload_n C 1 (by rfl) dX6_arrive_14 ?_
    refine z_get C (Cn := RX6) (T := TX6) (N := 6) (ci := 5) h0.2 2 (tE5 h0.1) in_X6_arrive_X6 rfl (by decide) mw_X6_arrive_1 rfl rfl dX6_arrive_15 ?_
    refine z_iload_n C 0 (by rfl) dX6_arrive_18 ?_
    obtain ⟨s24, hw⟩ := hw
    refine z_aald_q3 C (tR5_2 h0).2 (tE16 (tR5_2 h0).1) s24 (if_pos (tp_lt s24)) dX6_arrive_19 ?_
    refine z_astore C [(4, .ref (w.1 ((i0 + 2) + 73 + 5 * (Int32.toNatClampNeg x22)))), (3, .int x22), (0, .ref (w.1 i0)), (1, .int x1), (2, .int x2)] dX6_arrive_20 (by decide) rfl ?_
    refine z_iload_n C 3 (by rfl) dX6_arrive_22 ?_
    refine zs_i C (As := [.int x1]) (bytes := cX4_kindOf) (maxL := 1) (F1 := 0) (L1 := 0) (c_X4_kindOf w _ x1 _  hw) 1 gX6_arrive_X4_kindOf rfl (by decide +kernel) ⟨Nat.le_of_ble_eq_true rfl, Nat.le_of_ble_eq_true rfl⟩ rfl (Nat.le_of_ble_eq_true rfl) ⟨Nat.zero_le _, Nat.zero_le _⟩ rfl dX6_arrive_23 (fun x26 τ25 hw => ?_)
    refine z_iconst C 3 (by decide) dX6_arrive_26 ?_
    obtain ⟨J27, hJ27, hw⟩ := hw
    have jn27 : ∀ (x28 : Int32), J27 x28 → Zt w g τ25 (0, 0) 35 [(0, .ref (w.1 i0)), (1, .int x1), (2, .int x2), (3, .int x22), (4, .ref (w.1 ((i0 + 2) + 73 + 5 * (Int32.toNatClampNeg x22))))] [.int x28] := by
      intro x28 hj27
      have hw := hJ27 x28 hj27
      refine z_istore C [(5, .int x28), (0, .ref (w.1 i0)), (1, .int x1), (2, .int x2), (3, .int x22), (4, .ref (w.1 ((i0 + 2) + 73 + 5 * (Int32.toNatClampNeg x22))))] dX6_arrive_35 (by decide) rfl ?_
      refine z_iload C 0 (by rfl) dX6_arrive_37 ?_
      obtain ⟨J29, hJ29, hw⟩ := hw
      have jn29 : ∀ (x30 : Int32), J29 x30 → Zt w g τ25 (0, 0) 55 [(0, .ref (w.1 i0)), (1, .int x1), (2, .int x2), (3, .int x22), (4, .ref (w.1 ((i0 + 2) + 73 + 5 * (Int32.toNatClampNeg x22)))), (5, .int x28)] [.int x30] := by
        intro x30 hj29
        have hw := hJ29 x30 hj29
        refine z_istore C [(6, .int x30), (0, .ref (w.1 i0)), (1, .int x1), (2, .int x2), (3, .int x22), (4, .ref (w.1 ((i0 + 2) + 73 + 5 * (Int32.toNatClampNeg x22)))), (5, .int x28)] dX6_arrive_55 (by decide) rfl ?_
        refine z_iload_n C 3 (by rfl) dX6_arrive_57 ?_
        refine z_iload C 0 (by rfl) dX6_arrive_58 ?_
        refine z_icmp_eq (tgt := 74) C dX6_arrive_60 (by decide) (fun c31 => ?_) (fun c31 => ?_)
        · have hw := hw.1 c31
          refine z_iload C 6 (by rfl) dX6_arrive_74 ?_
          refine z_if_eq (tgt := 119) C dX6_arrive_76 (by decide) (fun c32 => ?_) (fun c32 => ?_)
          · have hw := hw.1 c32
            refine z_iload_n C 2 (by rfl) dX6_arrive_119 ?_
            refine zs_i C (As := [.int x1]) (bytes := cX4_kindOf) (maxL := 1) (F1 := 0) (L1 := 0) (c_X4_kindOf w _ x1 _  hw) 1 gX6_arrive_X4_kindOf rfl (by decide +kernel) ⟨Nat.le_of_ble_eq_true rfl, Nat.le_of_ble_eq_true rfl⟩ rfl (Nat.le_of_ble_eq_true rfl) ⟨Nat.zero_le _, Nat.zero_le _⟩ rfl dX6_arrive_120 (fun x34 τ33 hw => ?_)
            refine z_if_eq (tgt := 172) C dX6_arrive_123 (by decide) (fun c35 => ?_) (fun c35 => ?_)
            · have hw := hw.1 c35
              refine z_aload_n C 1 (by rfl) dX6_arrive_172 ?_
              refine z_iload_n C 4 (by rfl) dX6_arrive_173 ?_
              refine zv_v C (As := [.int x22]) (bytes := cX6_sendAnswer) (maxL := 5) (F1 := 3) (L1 := 72) (c_X6_sendAnswer w _ i0 x22 _ h0 hw) h0.2 (tE5 h0.1) rfl 1 gX6_arrive_X6_sendAnswer rfl (by decide +kernel) ⟨Nat.le_of_ble_eq_true rfl, Nat.le_of_ble_eq_true rfl⟩ rfl (Nat.le_of_ble_eq_true rfl) ⟨Nat.zero_le _, Nat.zero_le _⟩ rfl dX6_arrive_174 (fun τ36 hw => ?_)
              exact hR _ _ _ dX6_arrive_177 hw
            · have hw := hw.2 c35
              refine z_iload_n C 2 (by rfl) dX6_arrive_126 ?_
              refine zs_i C (As := [.int x1]) (bytes := cX4_kindOf) (maxL := 1) (F1 := 0) (L1 := 0) (c_X4_kindOf w _ x1 _  hw) 1 gX6_arrive_X4_kindOf rfl (by decide +kernel) ⟨Nat.le_of_ble_eq_true rfl, Nat.le_of_ble_eq_true rfl⟩ rfl (Nat.le_of_ble_eq_true rfl) ⟨Nat.zero_le _, Nat.zero_le _⟩ rfl dX6_arrive_127 (fun x38 τ37 hw => ?_)
              refine z_iconst C 1 (by decide) dX6_arrive_130 ?_
              obtain ⟨J39, hJ39, hw⟩ := hw
              have jn39 : ∀ (x40 : Int32), J39 x40 → Zt w g τ37 (0, 0) 139 [(0, .ref (w.1 i0)), (1, .int x1), (3, .int x22), (4, .ref (w.1 ((i0 + 2) + 73 + 5 * (Int32.toNatClampNeg x22))))] [.int x40] := by
                intro x40 hj39
                have hw := hJ39 x40 hj39
                refine z_istore C [(7, .int x40), (0, .ref (w.1 i0)), (1, .int x1), (3, .int x22), (4, .ref (w.1 ((i0 + 2) + 73 + 5 * (Int32.toNatClampNeg x22))))] dX6_arrive_139 (by decide) rfl ?_
                refine z_aload_n C 1 (by rfl) dX6_arrive_141 ?_
                refine z_dup C rfl dX6_arrive_142 ?_
                refine z_get C (Cn := RX6) (T := TX6) (N := 6) (ci := 5) h0.2 5 (tE5 h0.1) in_X6_arrive_X6 rfl (by decide) mw_X6_arrive_6 rfl rfl dX6_arrive_143 ?_
                refine z_aload C 4 (by rfl) dX6_arrive_146 ?_
                refine z_get C (Cn := RX2) (T := TX2) (N := 4) (ci := 2) (tR16 (tR5_2 h0) (tp_lt s24)).2 3 (tE2 (tR16 (tR5_2 h0) (tp_lt s24)).1) in_X6_arrive_X2 rfl (by decide) mw_X6_arrive_7 rfl rfl dX6_arrive_148 ?_
                refine z_iload_n C 2 (by rfl) dX6_arrive_151 ?_
                refine zs_i C (As := [.int x1]) (bytes := cX4_numberOf) (maxL := 1) (F1 := 0) (L1 := 0) (c_X4_numberOf w _ x1 _  hw) 1 gX6_arrive_X4_numberOf rfl (by decide +kernel) ⟨Nat.le_of_ble_eq_true rfl, Nat.le_of_ble_eq_true rfl⟩ rfl (Nat.le_of_ble_eq_true rfl) ⟨Nat.zero_le _, Nat.zero_le _⟩ rfl dX6_arrive_152 (fun x42 τ41 hw => ?_)
                refine z_iload C 0 (by rfl) dX6_arrive_155 ?_
                refine zv_i C (As := [.int x42, .int x40]) (bytes := cX0_take) (maxL := 3) (F1 := 0) (L1 := 0) (c_X0_take w _ (((i0 + 2) + 73 + 5 * (Int32.toNatClampNeg x22)) + 3) x42 x40 _ (tR2_3 (tR16 (tR5_2 h0) (tp_lt s24))) hw) (tR2_3 (tR16 (tR5_2 h0) (tp_lt s24))).2 (tE0 (tR2_3 (tR16 (tR5_2 h0) (tp_lt s24))).1) rfl 2 gX6_arrive_X0_take rfl (by decide +kernel) ⟨Nat.le_of_ble_eq_true rfl, Nat.le_of_ble_eq_true rfl⟩ rfl (Nat.le_of_ble_eq_true rfl) ⟨Nat.zero_le _, Nat.zero_le _⟩ rfl dX6_arrive_157 (fun x44 τ43 hw => ?_)
                refine z_if_eq (tgt := 167) C dX6_arrive_160 (by decide) (fun c45 => ?_) (fun c45 => ?_)
                · have hw := hw.1 c45
                  refine z_iconst C 1 (by decide) dX6_arrive_167 ?_
                  refine z_iadd C dX6_arrive_168 ?_
                  refine z_put C (Cn := RX6) (T := TX6) (N := 6) (ci := 5) h0.2 5 (tE5 h0.1) (tS5_5 h0.1 _) in_X6_arrive_X6 tyX6 tyX6_ok nmX6 rfl (by decide) mw_X6_arrive_6 rfl rfl (tyX6_ok 5 (by decide)) rfl rfl (Nat.le_of_ble_eq_true rfl) dX6_arrive_169 (fun τ46 eτ46 => ?_)
                  have hw := hw τ46 eτ46
                  refine z_aload_n C 1 (by rfl) dX6_arrive_172 ?_
                  refine z_iload_n C 3 (by rfl) dX6_arrive_173 ?_
                  refine zv_v C (As := [.int x22]) (bytes := cX6_sendAnswer) (maxL := 5) (F1 := 3) (L1 := 72) (c_X6_sendAnswer w _ i0 x22 _ h0 hw) h0.2 (tE5 h0.1) rfl 1 gX6_arrive_X6_sendAnswer rfl (by decide +kernel) ⟨Nat.le_of_ble_eq_true rfl, Nat.le_of_ble_eq_true rfl⟩ rfl (Nat.le_of_ble_eq_true rfl) ⟨Nat.zero_le _, Nat.zero_le _⟩ rfl dX6_arrive_174 (fun τ47 hw => ?_)
                  exact hR _ _ _ dX6_arrive_177 hw
                · have hw := hw.2 c45
                  refine z_iconst C 0 (by decide) dX6_arrive_163 ?_
                  refine z_goto (tgt := 168) C dX6_arrive_164 (by decide) ?_
                  refine z_iadd C dX6_arrive_168 ?_
                  refine z_put C (Cn := RX6) (T := TX6) (N := 6) (ci := 5) h0.2 5 (tE5 h0.1) (tS5_5 h0.1 _) in_X6_arrive_X6 tyX6 tyX6_ok nmX6 rfl (by decide) mw_X6_arrive_6 rfl rfl (tyX6_ok 5 (by decide)) rfl rfl (Nat.le_of_ble_eq_true rfl) dX6_arrive_169 (fun τ48 eτ48 => ?_)
                  have hw := hw τ48 eτ48
                  refine z_aload_n C 1 (by rfl) dX6_arrive_172 ?_
                  refine z_iload_n C 3 (by rfl) dX6_arrive_173 ?_
                  refine zv_v C (As := [.int x22]) (bytes := cX6_sendAnswer) (maxL := 5) (F1 := 3) (L1 := 72) (c_X6_sendAnswer w _ i0 x22 _ h0 hw) h0.2 (tE5 h0.1) rfl 1 gX6_arrive_X6_sendAnswer rfl (by decide +kernel) ⟨Nat.le_of_ble_eq_true rfl, Nat.le_of_ble_eq_true rfl⟩ rfl (Nat.le_of_ble_eq_true rfl) ⟨Nat.zero_le _, Nat.zero_le _⟩ rfl dX6_arrive_174 (fun τ49 hw => ?_)
                  exact hR _ _ _ dX6_arrive_177 hw
              refine z_icmp_ne (tgt := 138) C dX6_arrive_131 (by decide) (fun c50 => ?_) (fun c50 => ?_)
              · have hw := hw.1 c50
                refine z_iconst C 0 (by decide) dX6_arrive_138 ?_
                refine z_sub [1, 2, 4, 5] [(0, .ref (w.1 i0)), (1, .int x1), (3, .int x22), (4, .ref (w.1 ((i0 + 2) + 73 + 5 * (Int32.toNatClampNeg x22))))] rfl ?_
                exact jn39 0 hw
              · have hw := hw.2 c50
                refine z_iconst C 1 (by decide) dX6_arrive_134 ?_
                refine z_goto (tgt := 139) C dX6_arrive_135 (by decide) ?_
                refine z_sub [1, 2, 4, 5] [(0, .ref (w.1 i0)), (1, .int x1), (3, .int x22), (4, .ref (w.1 ((i0 + 2) + 73 + 5 * (Int32.toNatClampNeg x22))))] rfl ?_
                exact jn39 1 hw
          · have hw := hw.2 c32
            refine z_aload C 5 (by rfl) dX6_arrive_79 ?_
            refine z_get C (Cn := RX2) (T := TX2) (N := 4) (ci := 2) (tR16 (tR5_2 h0) (tp_lt s24)).2 2 (tE2 (tR16 (tR5_2 h0) (tp_lt s24)).1) in_X6_arrive_X2 rfl (by decide) mw_X6_arrive_4 rfl rfl dX6_arrive_81 ?_
            refine z_astore C [(7, .ref (w.1 (((i0 + 2) + 73 + 5 * (Int32.toNatClampNeg x22)) + 1))), (6, .int x30), (0, .ref (w.1 i0)), (1, .int x1), (2, .int x2), (3, .int x22), (4, .ref (w.1 ((i0 + 2) + 73 + 5 * (Int32.toNatClampNeg x22)))), (5, .int x28)] dX6_arrive_84 (by decide) rfl ?_
            refine z_aload C 0 (by rfl) dX6_arrive_86 ?_
            refine z_iload_n C 3 (by rfl) dX6_arrive_88 ?_
            refine zs_i C (As := [.int x1]) (bytes := cX4_numberOf) (maxL := 1) (F1 := 0) (L1 := 0) (c_X4_numberOf w _ x1 _  hw) 1 gX6_arrive_X4_numberOf rfl (by decide +kernel) ⟨Nat.le_of_ble_eq_true rfl, Nat.le_of_ble_eq_true rfl⟩ rfl (Nat.le_of_ble_eq_true rfl) ⟨Nat.zero_le _, Nat.zero_le _⟩ rfl dX6_arrive_89 (fun x52 τ51 hw => ?_)
            refine z_iload_n C 3 (by rfl) dX6_arrive_92 ?_
            refine zs_i C (As := [.int x1]) (bytes := cX4_roomOf) (maxL := 1) (F1 := 0) (L1 := 0) (c_X4_roomOf w _ x1 _  hw) 1 gX6_arrive_X4_roomOf rfl (by decide +kernel) ⟨Nat.le_of_ble_eq_true rfl, Nat.le_of_ble_eq_true rfl⟩ rfl (Nat.le_of_ble_eq_true rfl) ⟨Nat.zero_le _, Nat.zero_le _⟩ rfl dX6_arrive_93 (fun x54 τ53 hw => ?_)
            refine z_aload_n C 2 (by rfl) dX6_arrive_96 ?_
            refine z_get C (Cn := RX6) (T := TX6) (N := 6) (ci := 5) h0.2 4 (tE5 h0.1) in_X6_arrive_X6 rfl (by decide) mw_X6_arrive_5 rfl rfl dX6_arrive_97 ?_
            refine zv_i C (As := [.int x52, .int x54, .int (τ53 i0 4)]) (bytes := cX1_takeAnswer) (maxL := 4) (F1 := 3) (L1 := 63) (c_X1_takeAnswer w _ (((i0 + 2) + 73 + 5 * (Int32.toNatClampNeg x22)) + 1) x52 x54 (τ53 i0 4) _ (tR2_2 (tR16 (tR5_2 h0) (tp_lt s24))) hw) (tR2_2 (tR16 (tR5_2 h0) (tp_lt s24))).2 (tE1 (tR2_2 (tR16 (tR5_2 h0) (tp_lt s24))).1) rfl 3 gX6_arrive_X1_takeAnswer rfl (by decide +kernel) ⟨Nat.le_of_ble_eq_true rfl, Nat.le_of_ble_eq_true rfl⟩ rfl (Nat.le_of_ble_eq_true rfl) ⟨Nat.zero_le _, Nat.zero_le _⟩ rfl dX6_arrive_100 (fun x56 τ55 hw => ?_)
            refine z_if_eq (tgt := 116) C dX6_arrive_103 (by decide) (fun c57 => ?_) (fun c57 => ?_)
            · have hw := hw.1 c57
              refine z_goto (tgt := 177) C dX6_arrive_116 (by decide) ?_
              exact hR _ _ _ dX6_arrive_177 hw
            · have hw := hw.2 c57
              refine z_aload_n C 2 (by rfl) dX6_arrive_106 ?_
              refine z_iload_n C 5 (by rfl) dX6_arrive_107 ?_
              refine z_aload C 0 (by rfl) dX6_arrive_108 ?_
              refine zv_i C (As := []) (bytes := cX1_baseAgain) (maxL := 1) (F1 := 1) (L1 := 21) (c_X1_baseAgain w _ (((i0 + 2) + 73 + 5 * (Int32.toNatClampNeg x22)) + 1) _ (tR2_2 (tR16 (tR5_2 h0) (tp_lt s24))) hw) (tR2_2 (tR16 (tR5_2 h0) (tp_lt s24))).2 (tE1 (tR2_2 (tR16 (tR5_2 h0) (tp_lt s24))).1) rfl 0 gX6_arrive_X1_baseAgain rfl (by decide +kernel) ⟨Nat.le_of_ble_eq_true rfl, Nat.le_of_ble_eq_true rfl⟩ rfl (Nat.le_of_ble_eq_true rfl) ⟨Nat.zero_le _, Nat.zero_le _⟩ rfl dX6_arrive_110 (fun x59 τ58 hw => ?_)
              refine zv_v C (As := [.int x22, .int x59]) (bytes := cX6_sendThing) (maxL := 6) (F1 := 3) (L1 := 72) (c_X6_sendThing w _ i0 x22 x59 _ h0 hw) h0.2 (tE5 h0.1) rfl 2 gX6_arrive_X6_sendThing rfl (by decide +kernel) ⟨Nat.le_of_ble_eq_true rfl, Nat.le_of_ble_eq_true rfl⟩ rfl (Nat.le_of_ble_eq_true rfl) ⟨Nat.zero_le _, Nat.zero_le _⟩ rfl dX6_arrive_113 (fun τ60 hw => ?_)
              refine z_goto (tgt := 177) C dX6_arrive_116 (by decide) ?_
              exact hR _ _ _ dX6_arrive_177 hw
        · have hw := hw.2 c31
          refine z_aload_n C 1 (by rfl) dX6_arrive_63 ?_
          refine z_iload_n C 2 (by rfl) dX6_arrive_64 ?_
          refine z_iload_n C 3 (by rfl) dX6_arrive_65 ?_
          refine z_iload C 0 (by rfl) dX6_arrive_66 ?_
          refine zv_v C (As := [.int x1, .int x2, .int x30]) (bytes := cX6_send) (maxL := 6) (F1 := 2) (L1 := 47) (c_X6_send w _ i0 x1 x2 x30 _ h0 hw) h0.2 (tE5 h0.1) rfl 3 gX6_arrive_X6_send rfl (by decide +kernel) ⟨Nat.le_of_ble_eq_true rfl, Nat.le_of_ble_eq_true rfl⟩ rfl (Nat.le_of_ble_eq_true rfl) ⟨Nat.zero_le _, Nat.zero_le _⟩ rfl dX6_arrive_68 (fun τ61 hw => ?_)
          refine z_goto (tgt := 177) C dX6_arrive_71 (by decide) ?_
          exact hR _ _ _ dX6_arrive_177 hw
      refine z_if_eq (tgt := 50) C dX6_arrive_39 (by decide) (fun c62 => ?_) (fun c62 => ?_)
      · have hw := hw.1 c62
        refine z_aload C 5 (by rfl) dX6_arrive_50 ?_
        refine z_get C (Cn := RX2) (T := TX2) (N := 4) (ci := 2) (tR16 (tR5_2 h0) (tp_lt s24)).2 1 (tE2 (tR16 (tR5_2 h0) (tp_lt s24)).1) in_X6_arrive_X2 rfl (by decide) mw_X6_arrive_3 rfl rfl dX6_arrive_52 ?_
        refine z_sub [1, 2, 3, 4, 5, 0] [(0, .ref (w.1 i0)), (1, .int x1), (2, .int x2), (3, .int x22), (4, .ref (w.1 ((i0 + 2) + 73 + 5 * (Int32.toNatClampNeg x22)))), (5, .int x28)] rfl ?_
        exact jn29 (τ25 ((i0 + 2) + 73 + 5 * (Int32.toNatClampNeg x22)) 1) hw
      · have hw := hw.2 c62
        refine z_aload C 5 (by rfl) dX6_arrive_42 ?_
        refine z_get C (Cn := RX2) (T := TX2) (N := 4) (ci := 2) (tR16 (tR5_2 h0) (tp_lt s24)).2 0 (tE2 (tR16 (tR5_2 h0) (tp_lt s24)).1) in_X6_arrive_X2 rfl (by decide) mw_X6_arrive_2 rfl rfl dX6_arrive_44 ?_
        refine z_goto (tgt := 55) C dX6_arrive_47 (by decide) ?_
        refine z_sub [1, 2, 3, 4, 5, 0] [(0, .ref (w.1 i0)), (1, .int x1), (2, .int x2), (3, .int x22), (4, .ref (w.1 ((i0 + 2) + 73 + 5 * (Int32.toNatClampNeg x22)))), (5, .int x28)] rfl ?_
        exact jn29 (τ25 ((i0 + 2) + 73 + 5 * (Int32.toNatClampNeg x22)) 0) hw
    refine z_icmp_ne (tgt := 34) C dX6_arrive_27 (by decide) (fun c63 => ?_) (fun c63 => ?_)
    · have hw := hw.1 c63
      refine z_iconst C 0 (by decide) dX6_arrive_34 ?_
      refine z_sub [2, 3, 4, 1, 0] [(0, .ref (w.1 i0)), (1, .int x1), (2, .int x2), (3, .int x22), (4, .ref (w.1 ((i0 + 2) + 73 + 5 * (Int32.toNatClampNeg x22))))] rfl ?_
      exact jn27 0 hw
    · have hw := hw.2 c63
      refine z_iconst C 1 (by decide) dX6_arrive_30 ?_
      refine z_goto (tgt := 35) C dX6_arrive_31 (by decide) ?_
      refine z_sub [2, 3, 4, 1, 0] [(0, .ref (w.1 i0)), (1, .int x1), (2, .int x2), (3, .int x22), (4, .ref (w.1 ((i0 + 2) + 73 + 5 * (Int32.toNatClampNeg x22))))] rfl ?_
      exact jn27 1 hw
  · have hw := hw.2 c23
    exact hR _ _ _ dX6_arrive_13 hw
def wp_X6_letArrive (τ : TS) (i0 : Nat) (K : TS → Prop) : Prop :=
  ∃ (I23 : TS → Int32 → Prop) (u23 : TS → Int32 → Nat), I23 τ 0 ∧ ∀ (τ21 : TS) (x22 : Int32), I23 τ21 x22 → ((((τ21 1 1) ≤ x22) → (K τ21)) ∧ ((¬ (τ21 1 1) ≤ x22) → (∃ (I27 : TS → Int32 → Prop) (u27 : TS → Int32 → Nat), I27 τ21 0 ∧ ∀ (τ25 : TS) (x26 : Int32), I27 τ25 x26 → (((2 ≤ x26) → (∀ x29 : Int32, x29 = x22 + 1 → I23 τ25 x29 ∧ u23 τ25 x29 < u23 τ21 x22)) ∧ ((¬ 2 ≤ x26) → (vp_in ((2 * x22) + x26) 24 ∧ (wp_X7_land τ25 ((i0 + 1) + 2 + 3 * (Int32.toNatClampNeg ((2 * x22) + x26))) (τ25 i0 4) (fun τ31 x32 => ((x32 = (-1)) → (∀ x34 : Int32, x34 = x26 + 1 → I27 τ31 x34 ∧ u27 τ31 x34 < u27 τ25 x26)) ∧ ((¬ x32 = (-1)) → (((¬ x26 = 0) → (vp_in x22 12 ∧ (wp_X6_arrive τ31 i0 x32 (τ31 2 (Int32.toNatClampNeg x22)) (fun τ37 => ∀ x38 : Int32, x38 = x26 + 1 → I27 τ37 x38 ∧ u27 τ37 x38 < u27 τ25 x26)))) ∧ ((x26 = 0) → (vp_in x22 12 ∧ (wp_X6_arrive τ31 i0 x32 (τ31 3 (Int32.toNatClampNeg x22)) (fun τ40 => ∀ x41 : Int32, x41 = x26 + 1 → I27 τ40 x41 ∧ u27 τ40 x41 < u27 τ25 x26))))))))))))))
theorem mw_X6_letArrive_0 : Cond.fieldLink RX6 23 "TidePost$Traffic" "net" "LTidePost$Net;" ∈ wsX6_letArrive := List.mem_of_getElem? (i := 1) rfl
theorem mw_X6_letArrive_1 : Cond.fieldLink RX6 84 "TidePost$Net" "links" "I" ∈ wsX6_letArrive := List.mem_of_getElem? (i := 2) rfl
theorem mw_X6_letArrive_2 : Cond.fieldLink RX6 11 "TidePost$Traffic" "ways" "[LTidePost$Way;" ∈ wsX6_letArrive := List.mem_of_getElem? (i := 3) rfl
theorem mw_X6_letArrive_3 : Cond.fieldLink RX6 52 "TidePost$Traffic" "clock" "I" ∈ wsX6_letArrive := List.mem_of_getElem? (i := 4) rfl
theorem mw_X6_letArrive_5 : Cond.fieldLink RX6 97 "TidePost$Net" "firsts" "[I" ∈ wsX6_letArrive := List.mem_of_getElem? (i := 6) rfl
theorem mw_X6_letArrive_4 : Cond.fieldLink RX6 93 "TidePost$Net" "seconds" "[I" ∈ wsX6_letArrive := List.mem_of_getElem? (i := 5) rfl
theorem in_X6_letArrive_X6 : ∀ x ∈ wsX60, x ∈ wsX6_letArrive := fun _ h => List.mem_cons_of_mem _ (List.mem_append_left _ (List.mem_append_left _ (List.mem_append_left _ (List.mem_append_left _ (List.mem_append_left _ (List.mem_append_left _ (List.mem_append_right _ h)))))))
theorem in_X6_letArrive_X3 : ∀ x ∈ wsX30, x ∈ wsX6_letArrive := fun _ h => List.mem_cons_of_mem _ (List.mem_append_left _ (List.mem_append_left _ (List.mem_append_left _ (List.mem_append_left _ (List.mem_append_left _ (List.mem_append_right _ h))))))
set_option maxHeartbeats 4000000 in
set_option maxRecDepth 100000 in
theorem c_X6_letArrive (w : WPar) (τ : TS) (i0 : Nat) (K : TS → Prop) (h0 : tp_is i0 5) (hw : wp_X6_letArrive τ i0 K) : MV w yX6_letArrive wsX6_letArrive 5 124 [.ref (w.1 i0)] τ K := by
  refine tp_enterV (cc := cX6_letArrive) (maxL := 4) (own := RX6) (by decide) rfl rfl (Nat.le_of_ble_eq_true rfl) (fun g C hR => ?_)
  show Zt w g τ (0, 0) 0 [(0, .ref (w.1 i0))] []
  unfold wp_X6_letArrive at hw
  refine z_iconst C 0 (by decide) dX6_letArrive_0 ?_
  refine z_istore_n C [(1, .int 0), (0, .ref (w.1 i0))] dX6_letArrive_1 (by decide) rfl ?_
  obtain ⟨I23, u23, hI23, hs23⟩ := hw
  have lp23 : ∀ (n23 : Nat) (τ21 : TS) (x22 : Int32), u23 τ21 x22 < n23 → I23 τ21 x22 → Zt w g τ21 (0, 0) 2 [(0, .ref (w.1 i0)), (1, .int x22)] [] := by
    intro n23
    induction n23 with
    | zero => intro τ21 x22 hlt23; exact absurd hlt23 (Nat.not_lt_zero _)
    | succ n23 ih23 =>
      intro τ21 x22 hlt23 hh23
      have hw := hs23 τ21 x22 hh23
      refine z_iload_n C 1 (by rfl) dX6_letArrive_2 ?_
      refine z_aload_n C 0 (by rfl) dX6_letArrive_3 ?_
      refine z_get C (Cn := RX6) (T := TX6) (N := 6) (ci := 5) h0.2 0 (tE5 h0.1) in_X6_letArrive_X6 rfl (by decide) mw_X6_letArrive_0 rfl rfl dX6_letArrive_4 ?_
      refine z_get C (Cn := RX3) (T := TX3) (N := 9) (ci := 3) tR5_0.2 1 (tE3 tR5_0.1) in_X6_letArrive_X3 rfl (by decide) mw_X6_letArrive_1 rfl rfl dX6_letArrive_7 ?_
      refine z_icmp_ge (tgt := 85) C dX6_letArrive_10 (by decide) (fun c24 => ?_) (fun c24 => ?_)
      · have hw := hw.1 c24
        exact hR _ _ _ dX6_letArrive_85 hw
      · have hw := hw.2 c24
        refine z_iconst C 0 (by decide) dX6_letArrive_13 ?_
        refine z_istore_n C [(2, .int 0), (0, .ref (w.1 i0)), (1, .int x22)] dX6_letArrive_14 (by decide) rfl ?_
        obtain ⟨I27, u27, hI27, hs27⟩ := hw
        have lp27 : ∀ (n27 : Nat) (τ25 : TS) (x26 : Int32), u27 τ25 x26 < n27 → I27 τ25 x26 → Zt w g τ25 (0, 0) 15 [(0, .ref (w.1 i0)), (1, .int x22), (2, .int x26)] [] := by
          intro n27
          induction n27 with
          | zero => intro τ25 x26 hlt27; exact absurd hlt27 (Nat.not_lt_zero _)
          | succ n27 ih27 =>
            intro τ25 x26 hlt27 hh27
            have hw := hs27 τ25 x26 hh27
            refine z_iload_n C 2 (by rfl) dX6_letArrive_15 ?_
            refine z_iconst C 2 (by decide) dX6_letArrive_16 ?_
            refine z_icmp_ge (tgt := 79) C dX6_letArrive_17 (by decide) (fun c28 => ?_) (fun c28 => ?_)
            · have hw := hw.1 c28
              obtain ⟨x29, ex29⟩ : ∃ z : Int32, z = x22 + 1 := ⟨_, rfl⟩
              have hw := hw x29 ex29
              refine z_iinc C 1 x29 [(1, .int x29), (0, .ref (w.1 i0)), (2, .int x26)] dX6_letArrive_79 (by rfl) (by rw [ex29]; rfl) (by decide) rfl ?_
              refine z_goto (tgt := 2) C dX6_letArrive_82 (by decide) ?_
              refine z_sub [1, 0] [(0, .ref (w.1 i0)), (1, .int x29)] rfl ?_
              exact ih23 τ25 x29 (Nat.lt_of_lt_of_le hw.2 (Nat.le_of_lt_succ hlt23)) hw.1
            · have hw := hw.2 c28
              refine z_aload_n C 0 (by rfl) dX6_letArrive_20 ?_
              refine z_get C (Cn := RX6) (T := TX6) (N := 6) (ci := 5) h0.2 1 (tE5 h0.1) in_X6_letArrive_X6 rfl (by decide) mw_X6_letArrive_2 rfl rfl dX6_letArrive_21 ?_
              refine z_iconst C 2 (by decide) dX6_letArrive_24 ?_
              refine z_iload_n C 1 (by rfl) dX6_letArrive_25 ?_
              refine z_imul C dX6_letArrive_26 ?_
              refine z_iload_n C 2 (by rfl) dX6_letArrive_27 ?_
              refine z_iadd C dX6_letArrive_28 ?_
              obtain ⟨s30, hw⟩ := hw
              refine z_aald_q2 C (tR5_1 h0).2 (tE15 (tR5_1 h0).1) s30 (if_pos (tp_lt s30)) dX6_letArrive_29 ?_
              refine z_aload_n C 0 (by rfl) dX6_letArrive_30 ?_
              refine z_get C (Cn := RX6) (T := TX6) (N := 6) (ci := 5) h0.2 4 (tE5 h0.1) in_X6_letArrive_X6 rfl (by decide) mw_X6_letArrive_3 rfl rfl dX6_letArrive_31 ?_
              refine zv_i C (As := [.int (τ25 i0 4)]) (bytes := cX7_land) (maxL := 4) (F1 := 1) (L1 := 22) (c_X7_land w _ ((i0 + 1) + 2 + 3 * (Int32.toNatClampNeg ((2 * x22) + x26))) (τ25 i0 4) _ (tR15 (tR5_1 h0) (tp_lt s30)) hw) (tR15 (tR5_1 h0) (tp_lt s30)).2 (tE6 (tR15 (tR5_1 h0) (tp_lt s30)).1) rfl 1 gX6_letArrive_X7_land rfl (by decide +kernel) ⟨Nat.le_of_ble_eq_true rfl, Nat.le_of_ble_eq_true rfl⟩ rfl (Nat.le_of_ble_eq_true rfl) ⟨Nat.zero_le _, Nat.zero_le _⟩ rfl dX6_letArrive_34 (fun x32 τ31 hw => ?_)
              refine z_istore_n C [(3, .int x32), (0, .ref (w.1 i0)), (1, .int x22), (2, .int x26)] dX6_letArrive_37 (by decide) rfl ?_
              refine z_iload_n C 0 (by rfl) dX6_letArrive_38 ?_
              refine z_iconst C (-1) (by decide) dX6_letArrive_39 ?_
              refine z_icmp_eq (tgt := 73) C dX6_letArrive_40 (by decide) (fun c33 => ?_) (fun c33 => ?_)
              · have hw := hw.1 c33
                obtain ⟨x34, ex34⟩ : ∃ z : Int32, z = x26 + 1 := ⟨_, rfl⟩
                have hw := hw x34 ex34
                refine z_iinc C 3 x34 [(2, .int x34), (3, .int x32), (0, .ref (w.1 i0)), (1, .int x22)] dX6_letArrive_73 (by rfl) (by rw [ex34]; rfl) (by decide) rfl ?_
                refine z_goto (tgt := 15) C dX6_letArrive_76 (by decide) ?_
                refine z_sub [2, 3, 0] [(0, .ref (w.1 i0)), (1, .int x22), (2, .int x34)] rfl ?_
                exact ih27 τ31 x34 (Nat.lt_of_lt_of_le hw.2 (Nat.le_of_lt_succ hlt27)) hw.1
              · have hw := hw.2 c33
                refine z_aload_n C 1 (by rfl) dX6_letArrive_43 ?_
                refine z_iload_n C 0 (by rfl) dX6_letArrive_44 ?_
                refine z_iload_n C 3 (by rfl) dX6_letArrive_45 ?_
                refine z_if_ne (tgt := 61) C dX6_letArrive_46 (by decide) (fun c35 => ?_) (fun c35 => ?_)
                · have hw := hw.1 c35
                  refine z_aload_n C 1 (by rfl) dX6_letArrive_61 ?_
                  refine z_get C (Cn := RX6) (T := TX6) (N := 6) (ci := 5) h0.2 0 (tE5 h0.1) in_X6_letArrive_X6 rfl (by decide) mw_X6_letArrive_0 rfl rfl dX6_letArrive_62 ?_
                  refine z_get C (Cn := RX3) (T := TX3) (N := 9) (ci := 3) tR5_0.2 2 (tE3 tR5_0.1) in_X6_letArrive_X3 rfl (by decide) mw_X6_letArrive_5 rfl rfl dX6_letArrive_65 ?_
                  refine z_iload_n C 2 (by rfl) dX6_letArrive_68 ?_
                  obtain ⟨s36, hw⟩ := hw
                  refine z_iald C tR3_2.2 (tE11 tR3_2.1) s36 dX6_letArrive_69 ?_
                  refine zv_v C (As := [.int x32, .int (τ31 2 (Int32.toNatClampNeg x22))]) (bytes := cX6_arrive) (maxL := 8) (F1 := 4) (L1 := 97) (c_X6_arrive w _ i0 x32 (τ31 2 (Int32.toNatClampNeg x22)) _ h0 hw) h0.2 (tE5 h0.1) rfl 2 gX6_letArrive_X6_arrive rfl (by decide +kernel) ⟨Nat.le_of_ble_eq_true rfl, Nat.le_of_ble_eq_true rfl⟩ rfl (Nat.le_of_ble_eq_true rfl) ⟨Nat.zero_le _, Nat.zero_le _⟩ rfl dX6_letArrive_70 (fun τ37 hw => ?_)
                  obtain ⟨x38, ex38⟩ : ∃ z : Int32, z = x26 + 1 := ⟨_, rfl⟩
                  have hw := hw x38 ex38
                  refine z_iinc C 3 x38 [(2, .int x38), (3, .int x32), (0, .ref (w.1 i0)), (1, .int x22)] dX6_letArrive_73 (by rfl) (by rw [ex38]; rfl) (by decide) rfl ?_
                  refine z_goto (tgt := 15) C dX6_letArrive_76 (by decide) ?_
                  refine z_sub [2, 3, 0] [(0, .ref (w.1 i0)), (1, .int x22), (2, .int x38)] rfl ?_
                  exact ih27 τ37 x38 (Nat.lt_of_lt_of_le hw.2 (Nat.le_of_lt_succ hlt27)) hw.1
                · have hw := hw.2 c35
                  refine z_aload_n C 1 (by rfl) dX6_letArrive_49 ?_
                  refine z_get C (Cn := RX6) (T := TX6) (N := 6) (ci := 5) h0.2 0 (tE5 h0.1) in_X6_letArrive_X6 rfl (by decide) mw_X6_letArrive_0 rfl rfl dX6_letArrive_50 ?_
                  refine z_get C (Cn := RX3) (T := TX3) (N := 9) (ci := 3) tR5_0.2 3 (tE3 tR5_0.1) in_X6_letArrive_X3 rfl (by decide) mw_X6_letArrive_4 rfl rfl dX6_letArrive_53 ?_
                  refine z_iload_n C 2 (by rfl) dX6_letArrive_56 ?_
                  obtain ⟨s39, hw⟩ := hw
                  refine z_iald C tR3_3.2 (tE11 tR3_3.1) s39 dX6_letArrive_57 ?_
                  refine z_goto (tgt := 70) C dX6_letArrive_58 (by decide) ?_
                  refine zv_v C (As := [.int x32, .int (τ31 3 (Int32.toNatClampNeg x22))]) (bytes := cX6_arrive) (maxL := 8) (F1 := 4) (L1 := 97) (c_X6_arrive w _ i0 x32 (τ31 3 (Int32.toNatClampNeg x22)) _ h0 hw) h0.2 (tE5 h0.1) rfl 2 gX6_letArrive_X6_arrive rfl (by decide +kernel) ⟨Nat.le_of_ble_eq_true rfl, Nat.le_of_ble_eq_true rfl⟩ rfl (Nat.le_of_ble_eq_true rfl) ⟨Nat.zero_le _, Nat.zero_le _⟩ rfl dX6_letArrive_70 (fun τ40 hw => ?_)
                  obtain ⟨x41, ex41⟩ : ∃ z : Int32, z = x26 + 1 := ⟨_, rfl⟩
                  have hw := hw x41 ex41
                  refine z_iinc C 3 x41 [(2, .int x41), (3, .int x32), (0, .ref (w.1 i0)), (1, .int x22)] dX6_letArrive_73 (by rfl) (by rw [ex41]; rfl) (by decide) rfl ?_
                  refine z_goto (tgt := 15) C dX6_letArrive_76 (by decide) ?_
                  refine z_sub [2, 3, 0] [(0, .ref (w.1 i0)), (1, .int x22), (2, .int x41)] rfl ?_
                  exact ih27 τ40 x41 (Nat.lt_of_lt_of_le hw.2 (Nat.le_of_lt_succ hlt27)) hw.1
        refine z_sub [1, 2, 0] [(0, .ref (w.1 i0)), (1, .int x22), (2, .int 0)] rfl ?_
        exact lp27 _ τ21 0 (Nat.lt_succ_self _) hI27
  refine z_sub [1, 0] [(0, .ref (w.1 i0)), (1, .int 0)] rfl ?_
  exact lp23 _ τ 0 (Nat.lt_succ_self _) hI23
def wp_X6_letTimersRunOut (τ : TS) (i0 : Nat) (K : TS → Prop) : Prop :=
  ∃ (I23 : TS → Int32 → Prop) (u23 : TS → Int32 → Nat), I23 τ 0 ∧ ∀ (τ21 : TS) (x22 : Int32), I23 τ21 x22 → ((((τ21 i0 3) ≤ x22) → (K τ21)) ∧ ((¬ (τ21 i0 3) ≤ x22) → (vp_in x22 6 ∧ (((¬ (τ21 (((i0 + 2) + 73 + 5 * (Int32.toNatClampNeg x22)) + 1) 10) = (τ21 i0 4)) → (∀ x27 : Int32, x27 = x22 + 1 → I23 τ21 x27 ∧ u23 τ21 x27 < u23 τ21 x22)) ∧ (((τ21 (((i0 + 2) + 73 + 5 * (Int32.toNatClampNeg x22)) + 1) 10) = (τ21 i0 4)) → (wp_X1_runOut τ21 (((i0 + 2) + 73 + 5 * (Int32.toNatClampNeg x22)) + 1) (τ21 i0 4) (fun τ28 x29 => ((x29 = 0) → (∀ x31 : Int32, x31 = x22 + 1 → I23 τ28 x31 ∧ u23 τ28 x31 < u23 τ21 x22)) ∧ ((¬ x29 = 0) → (((¬ (τ28 (((i0 + 2) + 73 + 5 * (Int32.toNatClampNeg x22)) + 1) 0) = 0) → (wp_X1_baseAgain τ28 (((i0 + 2) + 73 + 5 * (Int32.toNatClampNeg x22)) + 1) (fun τ33 x34 => wp_X6_sendThing τ33 i0 x22 x34 (fun τ35 => ∀ x36 : Int32, x36 = x22 + 1 → I23 τ35 x36 ∧ u23 τ35 x36 < u23 τ21 x22)))) ∧ (((τ28 (((i0 + 2) + 73 + 5 * (Int32.toNatClampNeg x22)) + 1) 0) = 0) → (wp_X6_sendHello τ28 i0 x22 (fun τ37 => ∀ x38 : Int32, x38 = x22 + 1 → I23 τ37 x38 ∧ u23 τ37 x38 < u23 τ21 x22))))))))))))
theorem mw_X6_letTimersRunOut_0 : Cond.fieldLink RX6 29 "TidePost$Traffic" "made" "I" ∈ wsX6_letTimersRunOut := List.mem_of_getElem? (i := 1) rfl
theorem mw_X6_letTimersRunOut_1 : Cond.fieldLink RX6 19 "TidePost$Traffic" "all" "[LTidePost$Connection;" ∈ wsX6_letTimersRunOut := List.mem_of_getElem? (i := 2) rfl
theorem mw_X6_letTimersRunOut_2 : Cond.fieldLink RX6 48 "TidePost$Connection" "caller" "LTidePost$Caller;" ∈ wsX6_letTimersRunOut := List.mem_of_getElem? (i := 3) rfl
theorem mw_X6_letTimersRunOut_3 : Cond.fieldLink RX6 138 "TidePost$Caller" "timer" "I" ∈ wsX6_letTimersRunOut := List.mem_of_getElem? (i := 4) rfl
theorem mw_X6_letTimersRunOut_4 : Cond.fieldLink RX6 52 "TidePost$Traffic" "clock" "I" ∈ wsX6_letTimersRunOut := List.mem_of_getElem? (i := 5) rfl
theorem mw_X6_letTimersRunOut_5 : Cond.fieldLink RX6 145 "TidePost$Caller" "state" "I" ∈ wsX6_letTimersRunOut := List.mem_of_getElem? (i := 6) rfl
theorem in_X6_letTimersRunOut_X6 : ∀ x ∈ wsX60, x ∈ wsX6_letTimersRunOut := fun _ h => List.mem_cons_of_mem _ (List.mem_append_left _ (List.mem_append_left _ (List.mem_append_left _ (List.mem_append_left _ (List.mem_append_left _ (List.mem_append_right _ h))))))
theorem in_X6_letTimersRunOut_X2 : ∀ x ∈ wsX20, x ∈ wsX6_letTimersRunOut := fun _ h => List.mem_cons_of_mem _ (List.mem_append_left _ (List.mem_append_left _ (List.mem_append_left _ (List.mem_append_left _ (List.mem_append_right _ h)))))
theorem in_X6_letTimersRunOut_X1 : ∀ x ∈ wsX10, x ∈ wsX6_letTimersRunOut := fun _ h => List.mem_cons_of_mem _ (List.mem_append_left _ (List.mem_append_left _ (List.mem_append_left _ (List.mem_append_right _ h))))
set_option maxHeartbeats 4000000 in
set_option maxRecDepth 100000 in
theorem c_X6_letTimersRunOut (w : WPar) (τ : TS) (i0 : Nat) (K : TS → Prop) (h0 : tp_is i0 5) (hw : wp_X6_letTimersRunOut τ i0 K) : MV w yX6_letTimersRunOut wsX6_letTimersRunOut 4 97 [.ref (w.1 i0)] τ K := by
  refine tp_enterV (cc := cX6_letTimersRunOut) (maxL := 3) (own := RX6) (by decide) rfl rfl (Nat.le_of_ble_eq_true rfl) (fun g C hR => ?_)
  show Zt w g τ (0, 0) 0 [(0, .ref (w.1 i0))] []
  unfold wp_X6_letTimersRunOut at hw
  refine z_iconst C 0 (by decide) dX6_letTimersRunOut_0 ?_
  refine z_istore_n C [(1, .int 0), (0, .ref (w.1 i0))] dX6_letTimersRunOut_1 (by decide) rfl ?_
  obtain ⟨I23, u23, hI23, hs23⟩ := hw
  have lp23 : ∀ (n23 : Nat) (τ21 : TS) (x22 : Int32), u23 τ21 x22 < n23 → I23 τ21 x22 → Zt w g τ21 (0, 0) 2 [(0, .ref (w.1 i0)), (1, .int x22)] [] := by
    intro n23
    induction n23 with
    | zero => intro τ21 x22 hlt23; exact absurd hlt23 (Nat.not_lt_zero _)
    | succ n23 ih23 =>
      intro τ21 x22 hlt23 hh23
      have hw := hs23 τ21 x22 hh23
      refine z_iload_n C 1 (by rfl) dX6_letTimersRunOut_2 ?_
      refine z_aload_n C 0 (by rfl) dX6_letTimersRunOut_3 ?_
      refine z_get C (Cn := RX6) (T := TX6) (N := 6) (ci := 5) h0.2 3 (tE5 h0.1) in_X6_letTimersRunOut_X6 rfl (by decide) mw_X6_letTimersRunOut_0 rfl rfl dX6_letTimersRunOut_4 ?_
      refine z_icmp_ge (tgt := 72) C dX6_letTimersRunOut_7 (by decide) (fun c24 => ?_) (fun c24 => ?_)
      · have hw := hw.1 c24
        exact hR _ _ _ dX6_letTimersRunOut_72 hw
      · have hw := hw.2 c24
        refine z_aload_n C 0 (by rfl) dX6_letTimersRunOut_10 ?_
        refine z_get C (Cn := RX6) (T := TX6) (N := 6) (ci := 5) h0.2 2 (tE5 h0.1) in_X6_letTimersRunOut_X6 rfl (by decide) mw_X6_letTimersRunOut_1 rfl rfl dX6_letTimersRunOut_11 ?_
        refine z_iload_n C 1 (by rfl) dX6_letTimersRunOut_14 ?_
        obtain ⟨s25, hw⟩ := hw
        refine z_aald_q3 C (tR5_2 h0).2 (tE16 (tR5_2 h0).1) s25 (if_pos (tp_lt s25)) dX6_letTimersRunOut_15 ?_
        refine z_get C (Cn := RX2) (T := TX2) (N := 4) (ci := 2) (tR16 (tR5_2 h0) (tp_lt s25)).2 2 (tE2 (tR16 (tR5_2 h0) (tp_lt s25)).1) in_X6_letTimersRunOut_X2 rfl (by decide) mw_X6_letTimersRunOut_2 rfl rfl dX6_letTimersRunOut_16 ?_
        refine z_astore_n C [(2, .ref (w.1 (((i0 + 2) + 73 + 5 * (Int32.toNatClampNeg x22)) + 1))), (0, .ref (w.1 i0)), (1, .int x22)] dX6_letTimersRunOut_19 (by decide) rfl ?_
        refine z_aload_n C 0 (by rfl) dX6_letTimersRunOut_20 ?_
        refine z_get C (Cn := RX1) (T := TX1) (N := 14) (ci := 1) (tR2_2 (tR16 (tR5_2 h0) (tp_lt s25))).2 10 (tE1 (tR2_2 (tR16 (tR5_2 h0) (tp_lt s25))).1) in_X6_letTimersRunOut_X1 rfl (by decide) mw_X6_letTimersRunOut_3 rfl rfl dX6_letTimersRunOut_21 ?_
        refine z_aload_n C 1 (by rfl) dX6_letTimersRunOut_24 ?_
        refine z_get C (Cn := RX6) (T := TX6) (N := 6) (ci := 5) h0.2 4 (tE5 h0.1) in_X6_letTimersRunOut_X6 rfl (by decide) mw_X6_letTimersRunOut_4 rfl rfl dX6_letTimersRunOut_25 ?_
        refine z_icmp_ne (tgt := 66) C dX6_letTimersRunOut_28 (by decide) (fun c26 => ?_) (fun c26 => ?_)
        · have hw := hw.1 c26
          obtain ⟨x27, ex27⟩ : ∃ z : Int32, z = x22 + 1 := ⟨_, rfl⟩
          have hw := hw x27 ex27
          refine z_iinc C 2 x27 [(1, .int x27), (2, .ref (w.1 (((i0 + 2) + 73 + 5 * (Int32.toNatClampNeg x22)) + 1))), (0, .ref (w.1 i0))] dX6_letTimersRunOut_66 (by rfl) (by rw [ex27]; rfl) (by decide) rfl ?_
          refine z_goto (tgt := 2) C dX6_letTimersRunOut_69 (by decide) ?_
          refine z_sub [2, 0] [(0, .ref (w.1 i0)), (1, .int x27)] rfl ?_
          exact ih23 τ21 x27 (Nat.lt_of_lt_of_le hw.2 (Nat.le_of_lt_succ hlt23)) hw.1
        · have hw := hw.2 c26
          refine z_aload_n C 0 (by rfl) dX6_letTimersRunOut_31 ?_
          refine z_aload_n C 1 (by rfl) dX6_letTimersRunOut_32 ?_
          refine z_get C (Cn := RX6) (T := TX6) (N := 6) (ci := 5) h0.2 4 (tE5 h0.1) in_X6_letTimersRunOut_X6 rfl (by decide) mw_X6_letTimersRunOut_4 rfl rfl dX6_letTimersRunOut_33 ?_
          refine zv_i C (As := [.int (τ21 i0 4)]) (bytes := cX1_runOut) (maxL := 2) (F1 := 2) (L1 := 34) (c_X1_runOut w _ (((i0 + 2) + 73 + 5 * (Int32.toNatClampNeg x22)) + 1) (τ21 i0 4) _ (tR2_2 (tR16 (tR5_2 h0) (tp_lt s25))) hw) (tR2_2 (tR16 (tR5_2 h0) (tp_lt s25))).2 (tE1 (tR2_2 (tR16 (tR5_2 h0) (tp_lt s25))).1) rfl 1 gX6_letTimersRunOut_X1_runOut rfl (by decide +kernel) ⟨Nat.le_of_ble_eq_true rfl, Nat.le_of_ble_eq_true rfl⟩ rfl (Nat.le_of_ble_eq_true rfl) ⟨Nat.zero_le _, Nat.zero_le _⟩ rfl dX6_letTimersRunOut_36 (fun x29 τ28 hw => ?_)
          refine z_if_eq (tgt := 66) C dX6_letTimersRunOut_39 (by decide) (fun c30 => ?_) (fun c30 => ?_)
          · have hw := hw.1 c30
            obtain ⟨x31, ex31⟩ : ∃ z : Int32, z = x22 + 1 := ⟨_, rfl⟩
            have hw := hw x31 ex31
            refine z_iinc C 2 x31 [(1, .int x31), (2, .ref (w.1 (((i0 + 2) + 73 + 5 * (Int32.toNatClampNeg x22)) + 1))), (0, .ref (w.1 i0))] dX6_letTimersRunOut_66 (by rfl) (by rw [ex31]; rfl) (by decide) rfl ?_
            refine z_goto (tgt := 2) C dX6_letTimersRunOut_69 (by decide) ?_
            refine z_sub [2, 0] [(0, .ref (w.1 i0)), (1, .int x31)] rfl ?_
            exact ih23 τ28 x31 (Nat.lt_of_lt_of_le hw.2 (Nat.le_of_lt_succ hlt23)) hw.1
          · have hw := hw.2 c30
            refine z_aload_n C 0 (by rfl) dX6_letTimersRunOut_42 ?_
            refine z_get C (Cn := RX1) (T := TX1) (N := 14) (ci := 1) (tR2_2 (tR16 (tR5_2 h0) (tp_lt s25))).2 0 (tE1 (tR2_2 (tR16 (tR5_2 h0) (tp_lt s25))).1) in_X6_letTimersRunOut_X1 rfl (by decide) mw_X6_letTimersRunOut_5 rfl rfl dX6_letTimersRunOut_43 ?_
            refine z_if_ne (tgt := 57) C dX6_letTimersRunOut_46 (by decide) (fun c32 => ?_) (fun c32 => ?_)
            · have hw := hw.1 c32
              refine z_aload_n C 1 (by rfl) dX6_letTimersRunOut_57 ?_
              refine z_iload_n C 2 (by rfl) dX6_letTimersRunOut_58 ?_
              refine z_aload_n C 0 (by rfl) dX6_letTimersRunOut_59 ?_
              refine zv_i C (As := []) (bytes := cX1_baseAgain) (maxL := 1) (F1 := 1) (L1 := 21) (c_X1_baseAgain w _ (((i0 + 2) + 73 + 5 * (Int32.toNatClampNeg x22)) + 1) _ (tR2_2 (tR16 (tR5_2 h0) (tp_lt s25))) hw) (tR2_2 (tR16 (tR5_2 h0) (tp_lt s25))).2 (tE1 (tR2_2 (tR16 (tR5_2 h0) (tp_lt s25))).1) rfl 0 gX6_letTimersRunOut_X1_baseAgain rfl (by decide +kernel) ⟨Nat.le_of_ble_eq_true rfl, Nat.le_of_ble_eq_true rfl⟩ rfl (Nat.le_of_ble_eq_true rfl) ⟨Nat.zero_le _, Nat.zero_le _⟩ rfl dX6_letTimersRunOut_60 (fun x34 τ33 hw => ?_)
              refine zv_v C (As := [.int x22, .int x34]) (bytes := cX6_sendThing) (maxL := 6) (F1 := 3) (L1 := 72) (c_X6_sendThing w _ i0 x22 x34 _ h0 hw) h0.2 (tE5 h0.1) rfl 2 gX6_letTimersRunOut_X6_sendThing rfl (by decide +kernel) ⟨Nat.le_of_ble_eq_true rfl, Nat.le_of_ble_eq_true rfl⟩ rfl (Nat.le_of_ble_eq_true rfl) ⟨Nat.zero_le _, Nat.zero_le _⟩ rfl dX6_letTimersRunOut_63 (fun τ35 hw => ?_)
              obtain ⟨x36, ex36⟩ : ∃ z : Int32, z = x22 + 1 := ⟨_, rfl⟩
              have hw := hw x36 ex36
              refine z_iinc C 2 x36 [(1, .int x36), (2, .ref (w.1 (((i0 + 2) + 73 + 5 * (Int32.toNatClampNeg x22)) + 1))), (0, .ref (w.1 i0))] dX6_letTimersRunOut_66 (by rfl) (by rw [ex36]; rfl) (by decide) rfl ?_
              refine z_goto (tgt := 2) C dX6_letTimersRunOut_69 (by decide) ?_
              refine z_sub [2, 0] [(0, .ref (w.1 i0)), (1, .int x36)] rfl ?_
              exact ih23 τ35 x36 (Nat.lt_of_lt_of_le hw.2 (Nat.le_of_lt_succ hlt23)) hw.1
            · have hw := hw.2 c32
              refine z_aload_n C 1 (by rfl) dX6_letTimersRunOut_49 ?_
              refine z_iload_n C 2 (by rfl) dX6_letTimersRunOut_50 ?_
              refine zv_v C (As := [.int x22]) (bytes := cX6_sendHello) (maxL := 4) (F1 := 3) (L1 := 72) (c_X6_sendHello w _ i0 x22 _ h0 hw) h0.2 (tE5 h0.1) rfl 1 gX6_letTimersRunOut_X6_sendHello rfl (by decide +kernel) ⟨Nat.le_of_ble_eq_true rfl, Nat.le_of_ble_eq_true rfl⟩ rfl (Nat.le_of_ble_eq_true rfl) ⟨Nat.zero_le _, Nat.zero_le _⟩ rfl dX6_letTimersRunOut_51 (fun τ37 hw => ?_)
              refine z_goto (tgt := 66) C dX6_letTimersRunOut_54 (by decide) ?_
              obtain ⟨x38, ex38⟩ : ∃ z : Int32, z = x22 + 1 := ⟨_, rfl⟩
              have hw := hw x38 ex38
              refine z_iinc C 2 x38 [(1, .int x38), (2, .ref (w.1 (((i0 + 2) + 73 + 5 * (Int32.toNatClampNeg x22)) + 1))), (0, .ref (w.1 i0))] dX6_letTimersRunOut_66 (by rfl) (by rw [ex38]; rfl) (by decide) rfl ?_
              refine z_goto (tgt := 2) C dX6_letTimersRunOut_69 (by decide) ?_
              refine z_sub [2, 0] [(0, .ref (w.1 i0)), (1, .int x38)] rfl ?_
              exact ih23 τ37 x38 (Nat.lt_of_lt_of_le hw.2 (Nat.le_of_lt_succ hlt23)) hw.1
  refine z_sub [1, 0] [(0, .ref (w.1 i0)), (1, .int 0)] rfl ?_
  exact lp23 _ τ 0 (Nat.lt_succ_self _) hI23
def wp_X6_letCallersSend (τ : TS) (i0 : Nat) (K : TS → Prop) : Prop :=
  ∃ (I23 : TS → Int32 → Prop) (u23 : TS → Int32 → Nat), I23 τ 0 ∧ ∀ (τ21 : TS) (x22 : Int32), I23 τ21 x22 → ((((τ21 i0 3) ≤ x22) → (K τ21)) ∧ ((¬ (τ21 i0 3) ≤ x22) → (vp_in x22 6 ∧ (∃ (I28 : TS → Int32 → Prop) (u28 : TS → Int32 → Nat), I28 τ21 0 ∧ ∀ (τ26 : TS) (x27 : Int32), I28 τ26 x27 → (((201 ≤ x27) → (∀ x30 : Int32, x30 = x22 + 1 → I23 τ26 x30 ∧ u23 τ26 x30 < u23 τ21 x22)) ∧ ((¬ 201 ≤ x27) → (wp_X1_maySend τ26 (((i0 + 2) + 73 + 5 * (Int32.toNatClampNeg x22)) + 1) (fun τ31 x32 => ((x32 = 0) → (∀ x34 : Int32, x34 = x22 + 1 → I23 τ31 x34 ∧ u23 τ31 x34 < u23 τ21 x22)) ∧ ((¬ x32 = 0) → (wp_X6_sendThing τ31 i0 x22 (τ31 (((i0 + 2) + 73 + 5 * (Int32.toNatClampNeg x22)) + 1) 4) (fun τ35 => wp_X1_sent τ35 (((i0 + 2) + 73 + 5 * (Int32.toNatClampNeg x22)) + 1) (τ35 i0 4) (fun τ36 => ∀ x37 : Int32, x37 = x27 + 1 → I28 τ36 x37 ∧ u28 τ36 x37 < u28 τ26 x27))))))))))))
theorem mw_X6_letCallersSend_0 : Cond.fieldLink RX6 29 "TidePost$Traffic" "made" "I" ∈ wsX6_letCallersSend := List.mem_of_getElem? (i := 1) rfl
theorem mw_X6_letCallersSend_1 : Cond.fieldLink RX6 19 "TidePost$Traffic" "all" "[LTidePost$Connection;" ∈ wsX6_letCallersSend := List.mem_of_getElem? (i := 2) rfl
theorem mw_X6_letCallersSend_2 : Cond.fieldLink RX6 48 "TidePost$Connection" "caller" "LTidePost$Caller;" ∈ wsX6_letCallersSend := List.mem_of_getElem? (i := 3) rfl
theorem mw_X6_letCallersSend_3 : Cond.fieldLink RX6 152 "TidePost$Caller" "next" "I" ∈ wsX6_letCallersSend := List.mem_of_getElem? (i := 4) rfl
theorem mw_X6_letCallersSend_4 : Cond.fieldLink RX6 52 "TidePost$Traffic" "clock" "I" ∈ wsX6_letCallersSend := List.mem_of_getElem? (i := 5) rfl
theorem in_X6_letCallersSend_X6 : ∀ x ∈ wsX60, x ∈ wsX6_letCallersSend := fun _ h => List.mem_cons_of_mem _ (List.mem_append_left _ (List.mem_append_left _ (List.mem_append_left _ (List.mem_append_left _ (List.mem_append_left _ (List.mem_append_right _ h))))))
theorem in_X6_letCallersSend_X2 : ∀ x ∈ wsX20, x ∈ wsX6_letCallersSend := fun _ h => List.mem_cons_of_mem _ (List.mem_append_left _ (List.mem_append_left _ (List.mem_append_left _ (List.mem_append_left _ (List.mem_append_right _ h)))))
theorem in_X6_letCallersSend_X1 : ∀ x ∈ wsX10, x ∈ wsX6_letCallersSend := fun _ h => List.mem_cons_of_mem _ (List.mem_append_left _ (List.mem_append_left _ (List.mem_append_left _ (List.mem_append_right _ h))))
set_option maxHeartbeats 4000000 in
set_option maxRecDepth 100000 in
theorem c_X6_letCallersSend (w : WPar) (τ : TS) (i0 : Nat) (K : TS → Prop) (h0 : tp_is i0 5) (hw : wp_X6_letCallersSend τ i0 K) : MV w yX6_letCallersSend wsX6_letCallersSend 4 97 [.ref (w.1 i0)] τ K := by
  refine tp_enterV (cc := cX6_letCallersSend) (maxL := 4) (own := RX6) (by decide) rfl rfl (Nat.le_of_ble_eq_true rfl) (fun g C hR => ?_)
  show Zt w g τ (0, 0) 0 [(0, .ref (w.1 i0))] []
  unfold wp_X6_letCallersSend at hw
  refine z_iconst C 0 (by decide) dX6_letCallersSend_0 ?_
  refine z_istore_n C [(1, .int 0), (0, .ref (w.1 i0))] dX6_letCallersSend_1 (by decide) rfl ?_
  obtain ⟨I23, u23, hI23, hs23⟩ := hw
  have lp23 : ∀ (n23 : Nat) (τ21 : TS) (x22 : Int32), u23 τ21 x22 < n23 → I23 τ21 x22 → Zt w g τ21 (0, 0) 2 [(0, .ref (w.1 i0)), (1, .int x22)] [] := by
    intro n23
    induction n23 with
    | zero => intro τ21 x22 hlt23; exact absurd hlt23 (Nat.not_lt_zero _)
    | succ n23 ih23 =>
      intro τ21 x22 hlt23 hh23
      have hw := hs23 τ21 x22 hh23
      refine z_iload_n C 1 (by rfl) dX6_letCallersSend_2 ?_
      refine z_aload_n C 0 (by rfl) dX6_letCallersSend_3 ?_
      refine z_get C (Cn := RX6) (T := TX6) (N := 6) (ci := 5) h0.2 3 (tE5 h0.1) in_X6_letCallersSend_X6 rfl (by decide) mw_X6_letCallersSend_0 rfl rfl dX6_letCallersSend_4 ?_
      refine z_icmp_ge (tgt := 65) C dX6_letCallersSend_7 (by decide) (fun c24 => ?_) (fun c24 => ?_)
      · have hw := hw.1 c24
        exact hR _ _ _ dX6_letCallersSend_65 hw
      · have hw := hw.2 c24
        refine z_aload_n C 0 (by rfl) dX6_letCallersSend_10 ?_
        refine z_get C (Cn := RX6) (T := TX6) (N := 6) (ci := 5) h0.2 2 (tE5 h0.1) in_X6_letCallersSend_X6 rfl (by decide) mw_X6_letCallersSend_1 rfl rfl dX6_letCallersSend_11 ?_
        refine z_iload_n C 1 (by rfl) dX6_letCallersSend_14 ?_
        obtain ⟨s25, hw⟩ := hw
        refine z_aald_q3 C (tR5_2 h0).2 (tE16 (tR5_2 h0).1) s25 (if_pos (tp_lt s25)) dX6_letCallersSend_15 ?_
        refine z_get C (Cn := RX2) (T := TX2) (N := 4) (ci := 2) (tR16 (tR5_2 h0) (tp_lt s25)).2 2 (tE2 (tR16 (tR5_2 h0) (tp_lt s25)).1) in_X6_letCallersSend_X2 rfl (by decide) mw_X6_letCallersSend_2 rfl rfl dX6_letCallersSend_16 ?_
        refine z_astore_n C [(2, .ref (w.1 (((i0 + 2) + 73 + 5 * (Int32.toNatClampNeg x22)) + 1))), (0, .ref (w.1 i0)), (1, .int x22)] dX6_letCallersSend_19 (by decide) rfl ?_
        refine z_iconst C 0 (by decide) dX6_letCallersSend_20 ?_
        refine z_istore_n C [(3, .int 0), (2, .ref (w.1 (((i0 + 2) + 73 + 5 * (Int32.toNatClampNeg x22)) + 1))), (0, .ref (w.1 i0)), (1, .int x22)] dX6_letCallersSend_21 (by decide) rfl ?_
        obtain ⟨I28, u28, hI28, hs28⟩ := hw
        have lp28 : ∀ (n28 : Nat) (τ26 : TS) (x27 : Int32), u28 τ26 x27 < n28 → I28 τ26 x27 → Zt w g τ26 (0, 0) 22 [(0, .ref (w.1 i0)), (1, .int x22), (2, .ref (w.1 (((i0 + 2) + 73 + 5 * (Int32.toNatClampNeg x22)) + 1))), (3, .int x27)] [] := by
          intro n28
          induction n28 with
          | zero => intro τ26 x27 hlt28; exact absurd hlt28 (Nat.not_lt_zero _)
          | succ n28 ih28 =>
            intro τ26 x27 hlt28 hh28
            have hw := hs28 τ26 x27 hh28
            refine z_iload_n C 3 (by rfl) dX6_letCallersSend_22 ?_
            refine z_sipush C 201 (by decide) dX6_letCallersSend_23 ?_
            refine z_icmp_ge (tgt := 59) C dX6_letCallersSend_26 (by decide) (fun c29 => ?_) (fun c29 => ?_)
            · have hw := hw.1 c29
              obtain ⟨x30, ex30⟩ : ∃ z : Int32, z = x22 + 1 := ⟨_, rfl⟩
              have hw := hw x30 ex30
              refine z_iinc C 1 x30 [(1, .int x30), (0, .ref (w.1 i0)), (2, .ref (w.1 (((i0 + 2) + 73 + 5 * (Int32.toNatClampNeg x22)) + 1))), (3, .int x27)] dX6_letCallersSend_59 (by rfl) (by rw [ex30]; rfl) (by decide) rfl ?_
              refine z_goto (tgt := 2) C dX6_letCallersSend_62 (by decide) ?_
              refine z_sub [1, 0] [(0, .ref (w.1 i0)), (1, .int x30)] rfl ?_
              exact ih23 τ26 x30 (Nat.lt_of_lt_of_le hw.2 (Nat.le_of_lt_succ hlt23)) hw.1
            · have hw := hw.2 c29
              refine z_aload_n C 2 (by rfl) dX6_letCallersSend_29 ?_
              refine zv_i C (As := []) (bytes := cX1_maySend) (maxL := 3) (F1 := 1) (L1 := 20) (c_X1_maySend w _ (((i0 + 2) + 73 + 5 * (Int32.toNatClampNeg x22)) + 1) _ (tR2_2 (tR16 (tR5_2 h0) (tp_lt s25))) hw) (tR2_2 (tR16 (tR5_2 h0) (tp_lt s25))).2 (tE1 (tR2_2 (tR16 (tR5_2 h0) (tp_lt s25))).1) rfl 0 gX6_letCallersSend_X1_maySend rfl (by decide +kernel) ⟨Nat.le_of_ble_eq_true rfl, Nat.le_of_ble_eq_true rfl⟩ rfl (Nat.le_of_ble_eq_true rfl) ⟨Nat.zero_le _, Nat.zero_le _⟩ rfl dX6_letCallersSend_30 (fun x32 τ31 hw => ?_)
              refine z_if_eq (tgt := 59) C dX6_letCallersSend_33 (by decide) (fun c33 => ?_) (fun c33 => ?_)
              · have hw := hw.1 c33
                obtain ⟨x34, ex34⟩ : ∃ z : Int32, z = x22 + 1 := ⟨_, rfl⟩
                have hw := hw x34 ex34
                refine z_iinc C 1 x34 [(1, .int x34), (0, .ref (w.1 i0)), (2, .ref (w.1 (((i0 + 2) + 73 + 5 * (Int32.toNatClampNeg x22)) + 1))), (3, .int x27)] dX6_letCallersSend_59 (by rfl) (by rw [ex34]; rfl) (by decide) rfl ?_
                refine z_goto (tgt := 2) C dX6_letCallersSend_62 (by decide) ?_
                refine z_sub [1, 0] [(0, .ref (w.1 i0)), (1, .int x34)] rfl ?_
                exact ih23 τ31 x34 (Nat.lt_of_lt_of_le hw.2 (Nat.le_of_lt_succ hlt23)) hw.1
              · have hw := hw.2 c33
                refine z_aload_n C 0 (by rfl) dX6_letCallersSend_36 ?_
                refine z_iload_n C 1 (by rfl) dX6_letCallersSend_37 ?_
                refine z_aload_n C 2 (by rfl) dX6_letCallersSend_38 ?_
                refine z_get C (Cn := RX1) (T := TX1) (N := 14) (ci := 1) (tR2_2 (tR16 (tR5_2 h0) (tp_lt s25))).2 4 (tE1 (tR2_2 (tR16 (tR5_2 h0) (tp_lt s25))).1) in_X6_letCallersSend_X1 rfl (by decide) mw_X6_letCallersSend_3 rfl rfl dX6_letCallersSend_39 ?_
                refine zv_v C (As := [.int x22, .int (τ31 (((i0 + 2) + 73 + 5 * (Int32.toNatClampNeg x22)) + 1) 4)]) (bytes := cX6_sendThing) (maxL := 6) (F1 := 3) (L1 := 72) (c_X6_sendThing w _ i0 x22 (τ31 (((i0 + 2) + 73 + 5 * (Int32.toNatClampNeg x22)) + 1) 4) _ h0 hw) h0.2 (tE5 h0.1) rfl 2 gX6_letCallersSend_X6_sendThing rfl (by decide +kernel) ⟨Nat.le_of_ble_eq_true rfl, Nat.le_of_ble_eq_true rfl⟩ rfl (Nat.le_of_ble_eq_true rfl) ⟨Nat.zero_le _, Nat.zero_le _⟩ rfl dX6_letCallersSend_42 (fun τ35 hw => ?_)
                refine z_aload_n C 2 (by rfl) dX6_letCallersSend_45 ?_
                refine z_aload_n C 0 (by rfl) dX6_letCallersSend_46 ?_
                refine z_get C (Cn := RX6) (T := TX6) (N := 6) (ci := 5) h0.2 4 (tE5 h0.1) in_X6_letCallersSend_X6 rfl (by decide) mw_X6_letCallersSend_4 rfl rfl dX6_letCallersSend_47 ?_
                refine zv_v C (As := [.int (τ35 i0 4)]) (bytes := cX1_sent) (maxL := 2) (F1 := 1) (L1 := 22) (c_X1_sent w _ (((i0 + 2) + 73 + 5 * (Int32.toNatClampNeg x22)) + 1) (τ35 i0 4) _ (tR2_2 (tR16 (tR5_2 h0) (tp_lt s25))) hw) (tR2_2 (tR16 (tR5_2 h0) (tp_lt s25))).2 (tE1 (tR2_2 (tR16 (tR5_2 h0) (tp_lt s25))).1) rfl 1 gX6_letCallersSend_X1_sent rfl (by decide +kernel) ⟨Nat.le_of_ble_eq_true rfl, Nat.le_of_ble_eq_true rfl⟩ rfl (Nat.le_of_ble_eq_true rfl) ⟨Nat.zero_le _, Nat.zero_le _⟩ rfl dX6_letCallersSend_50 (fun τ36 hw => ?_)
                obtain ⟨x37, ex37⟩ : ∃ z : Int32, z = x27 + 1 := ⟨_, rfl⟩
                have hw := hw x37 ex37
                refine z_iinc C 3 x37 [(3, .int x37), (0, .ref (w.1 i0)), (1, .int x22), (2, .ref (w.1 (((i0 + 2) + 73 + 5 * (Int32.toNatClampNeg x22)) + 1)))] dX6_letCallersSend_53 (by rfl) (by rw [ex37]; rfl) (by decide) rfl ?_
                refine z_goto (tgt := 22) C dX6_letCallersSend_56 (by decide) ?_
                refine z_sub [1, 2, 3, 0] [(0, .ref (w.1 i0)), (1, .int x22), (2, .ref (w.1 (((i0 + 2) + 73 + 5 * (Int32.toNatClampNeg x22)) + 1))), (3, .int x37)] rfl ?_
                exact ih28 τ36 x37 (Nat.lt_of_lt_of_le hw.2 (Nat.le_of_lt_succ hlt28)) hw.1
        refine z_sub [2, 3, 1, 0] [(0, .ref (w.1 i0)), (1, .int x22), (2, .ref (w.1 (((i0 + 2) + 73 + 5 * (Int32.toNatClampNeg x22)) + 1))), (3, .int 0)] rfl ?_
        exact lp28 _ τ21 0 (Nat.lt_succ_self _) hI28
  refine z_sub [1, 0] [(0, .ref (w.1 i0)), (1, .int 0)] rfl ?_
  exact lp23 _ τ 0 (Nat.lt_succ_self _) hI23
def wp_X6_letTakeOff (τ : TS) (i0 : Nat) (K : TS → Prop) : Prop :=
  ∃ (I23 : TS → Int32 → Prop) (u23 : TS → Int32 → Nat), I23 τ 0 ∧ ∀ (τ21 : TS) (x22 : Int32), I23 τ21 x22 → ((((τ21 1 1) ≤ x22) → (K τ21)) ∧ ((¬ (τ21 1 1) ≤ x22) → (vp_in x22 12 ∧ ((((τ21 6 (Int32.toNatClampNeg x22)) = 0) → (∀ x27 : Int32, x27 = x22 + 1 → I23 τ21 x27 ∧ u23 τ21 x27 < u23 τ21 x22)) ∧ ((¬ (τ21 6 (Int32.toNatClampNeg x22)) = 0) → (vp_in x22 12 ∧ (∀ x29 : Int32, x29 = ((τ21 i0 4) + (τ21 4 (Int32.toNatClampNeg x22))) → vp_in (2 * x22) 24 ∧ (wp_X7_takeOff τ21 ((i0 + 1) + 2 + 3 * (Int32.toNatClampNeg (2 * x22))) x29 (fun τ31 x32 => ∃ J33 : Int32 → Prop, (∀ (x34 : Int32), J33 x34 → (∀ τ35 : TS, τ35 = tp_up τ31 i0 5 ((τ21 i0 5) + x34) → vp_in ((2 * x22) + 1) 24 ∧ (wp_X7_takeOff τ35 ((i0 + 1) + 2 + 3 * (Int32.toNatClampNeg ((2 * x22) + 1))) x29 (fun τ37 x38 => ((x38 = 0) → (∀ τ40 : TS, τ40 = tp_up τ37 i0 5 ((τ35 i0 5) + 0) → ∀ x41 : Int32, x41 = x22 + 1 → I23 τ40 x41 ∧ u23 τ40 x41 < u23 τ21 x22)) ∧ ((¬ x38 = 0) → (∀ τ42 : TS, τ42 = tp_up τ37 i0 5 ((τ35 i0 5) + 1) → ∀ x43 : Int32, x43 = x22 + 1 → I23 τ42 x43 ∧ u23 τ42 x43 < u23 τ21 x22)))))) ∧ (((x32 = 0) → (J33 0)) ∧ ((¬ x32 = 0) → (J33 1))))))))))))
theorem mw_X6_letTakeOff_0 : Cond.fieldLink RX6 23 "TidePost$Traffic" "net" "LTidePost$Net;" ∈ wsX6_letTakeOff := List.mem_of_getElem? (i := 1) rfl
theorem mw_X6_letTakeOff_1 : Cond.fieldLink RX6 84 "TidePost$Net" "links" "I" ∈ wsX6_letTakeOff := List.mem_of_getElem? (i := 2) rfl
theorem mw_X6_letTakeOff_2 : Cond.fieldLink RX6 158 "TidePost$Net" "up" "[Z" ∈ wsX6_letTakeOff := List.mem_of_getElem? (i := 3) rfl
theorem mw_X6_letTakeOff_3 : Cond.fieldLink RX6 52 "TidePost$Traffic" "clock" "I" ∈ wsX6_letTakeOff := List.mem_of_getElem? (i := 4) rfl
theorem mw_X6_letTakeOff_4 : Cond.fieldLink RX6 162 "TidePost$Net" "delays" "[I" ∈ wsX6_letTakeOff := List.mem_of_getElem? (i := 5) rfl
theorem mw_X6_letTakeOff_5 : Cond.fieldLink RX6 69 "TidePost$Traffic" "lost" "I" ∈ wsX6_letTakeOff := List.mem_of_getElem? (i := 6) rfl
theorem mw_X6_letTakeOff_6 : Cond.fieldLink RX6 11 "TidePost$Traffic" "ways" "[LTidePost$Way;" ∈ wsX6_letTakeOff := List.mem_of_getElem? (i := 7) rfl
theorem in_X6_letTakeOff_X6 : ∀ x ∈ wsX60, x ∈ wsX6_letTakeOff := fun _ h => List.mem_cons_of_mem _ (List.mem_append_left _ (List.mem_append_left _ (List.mem_append_right _ h)))
theorem in_X6_letTakeOff_X3 : ∀ x ∈ wsX30, x ∈ wsX6_letTakeOff := fun _ h => List.mem_cons_of_mem _ (List.mem_append_left _ (List.mem_append_right _ h))
set_option maxHeartbeats 4000000 in
set_option maxRecDepth 100000 in
theorem c_X6_letTakeOff (w : WPar) (τ : TS) (i0 : Nat) (K : TS → Prop) (h0 : tp_is i0 5) (hw : wp_X6_letTakeOff τ i0 K) : MV w yX6_letTakeOff wsX6_letTakeOff 2 44 [.ref (w.1 i0)] τ K := by
  refine tp_enterV (cc := cX6_letTakeOff) (maxL := 3) (own := RX6) (by decide) rfl rfl (Nat.le_of_ble_eq_true rfl) (fun g C hR => ?_)
  show Zt w g τ (0, 0) 0 [(0, .ref (w.1 i0))] []
  unfold wp_X6_letTakeOff at hw
  refine z_iconst C 0 (by decide) dX6_letTakeOff_0 ?_
  refine z_istore_n C [(1, .int 0), (0, .ref (w.1 i0))] dX6_letTakeOff_1 (by decide) rfl ?_
  obtain ⟨I23, u23, hI23, hs23⟩ := hw
  have lp23 : ∀ (n23 : Nat) (τ21 : TS) (x22 : Int32), u23 τ21 x22 < n23 → I23 τ21 x22 → Zt w g τ21 (0, 0) 2 [(0, .ref (w.1 i0)), (1, .int x22)] [] := by
    intro n23
    induction n23 with
    | zero => intro τ21 x22 hlt23; exact absurd hlt23 (Nat.not_lt_zero _)
    | succ n23 ih23 =>
      intro τ21 x22 hlt23 hh23
      have hw := hs23 τ21 x22 hh23
      refine z_iload_n C 1 (by rfl) dX6_letTakeOff_2 ?_
      refine z_aload_n C 0 (by rfl) dX6_letTakeOff_3 ?_
      refine z_get C (Cn := RX6) (T := TX6) (N := 6) (ci := 5) h0.2 0 (tE5 h0.1) in_X6_letTakeOff_X6 rfl (by decide) mw_X6_letTakeOff_0 rfl rfl dX6_letTakeOff_4 ?_
      refine z_get C (Cn := RX3) (T := TX3) (N := 9) (ci := 3) tR5_0.2 1 (tE3 tR5_0.1) in_X6_letTakeOff_X3 rfl (by decide) mw_X6_letTakeOff_1 rfl rfl dX6_letTakeOff_7 ?_
      refine z_icmp_ge (tgt := 106) C dX6_letTakeOff_10 (by decide) (fun c24 => ?_) (fun c24 => ?_)
      · have hw := hw.1 c24
        exact hR _ _ _ dX6_letTakeOff_106 hw
      · have hw := hw.2 c24
        refine z_aload_n C 0 (by rfl) dX6_letTakeOff_13 ?_
        refine z_get C (Cn := RX6) (T := TX6) (N := 6) (ci := 5) h0.2 0 (tE5 h0.1) in_X6_letTakeOff_X6 rfl (by decide) mw_X6_letTakeOff_0 rfl rfl dX6_letTakeOff_14 ?_
        refine z_get C (Cn := RX3) (T := TX3) (N := 9) (ci := 3) tR5_0.2 6 (tE3 tR5_0.1) in_X6_letTakeOff_X3 rfl (by decide) mw_X6_letTakeOff_2 rfl rfl dX6_letTakeOff_17 ?_
        refine z_iload_n C 1 (by rfl) dX6_letTakeOff_20 ?_
        obtain ⟨s25, hw⟩ := hw
        refine z_zald C tR3_6.2 (tE12 tR3_6.1) s25 dX6_letTakeOff_21 ?_
        refine z_if_eq (tgt := 100) C dX6_letTakeOff_22 (by decide) (fun c26 => ?_) (fun c26 => ?_)
        · have hw := hw.1 c26
          obtain ⟨x27, ex27⟩ : ∃ z : Int32, z = x22 + 1 := ⟨_, rfl⟩
          have hw := hw x27 ex27
          refine z_iinc C 1 x27 [(1, .int x27), (0, .ref (w.1 i0))] dX6_letTakeOff_100 (by rfl) (by rw [ex27]; rfl) (by decide) rfl ?_
          refine z_goto (tgt := 2) C dX6_letTakeOff_103 (by decide) ?_
          refine z_sub [1, 0] [(0, .ref (w.1 i0)), (1, .int x27)] rfl ?_
          exact ih23 τ21 x27 (Nat.lt_of_lt_of_le hw.2 (Nat.le_of_lt_succ hlt23)) hw.1
        · have hw := hw.2 c26
          refine z_aload_n C 0 (by rfl) dX6_letTakeOff_25 ?_
          refine z_get C (Cn := RX6) (T := TX6) (N := 6) (ci := 5) h0.2 4 (tE5 h0.1) in_X6_letTakeOff_X6 rfl (by decide) mw_X6_letTakeOff_3 rfl rfl dX6_letTakeOff_26 ?_
          refine z_aload_n C 0 (by rfl) dX6_letTakeOff_29 ?_
          refine z_get C (Cn := RX6) (T := TX6) (N := 6) (ci := 5) h0.2 0 (tE5 h0.1) in_X6_letTakeOff_X6 rfl (by decide) mw_X6_letTakeOff_0 rfl rfl dX6_letTakeOff_30 ?_
          refine z_get C (Cn := RX3) (T := TX3) (N := 9) (ci := 3) tR5_0.2 4 (tE3 tR5_0.1) in_X6_letTakeOff_X3 rfl (by decide) mw_X6_letTakeOff_4 rfl rfl dX6_letTakeOff_33 ?_
          refine z_iload_n C 1 (by rfl) dX6_letTakeOff_36 ?_
          obtain ⟨s28, hw⟩ := hw
          refine z_iald C tR3_4.2 (tE11 tR3_4.1) s28 dX6_letTakeOff_37 ?_
          refine z_iadd C dX6_letTakeOff_38 ?_
          refine z_top (fun x29 ex29 => ?_)
          have hw := hw x29 ex29
          refine z_istore_n C [(2, .int x29), (0, .ref (w.1 i0)), (1, .int x22)] dX6_letTakeOff_39 (by decide) rfl ?_
          refine z_aload_n C 1 (by rfl) dX6_letTakeOff_40 ?_
          refine z_dup C rfl dX6_letTakeOff_41 ?_
          refine z_get C (Cn := RX6) (T := TX6) (N := 6) (ci := 5) h0.2 5 (tE5 h0.1) in_X6_letTakeOff_X6 rfl (by decide) mw_X6_letTakeOff_5 rfl rfl dX6_letTakeOff_42 ?_
          refine z_aload_n C 1 (by rfl) dX6_letTakeOff_45 ?_
          refine z_get C (Cn := RX6) (T := TX6) (N := 6) (ci := 5) h0.2 1 (tE5 h0.1) in_X6_letTakeOff_X6 rfl (by decide) mw_X6_letTakeOff_6 rfl rfl dX6_letTakeOff_46 ?_
          refine z_iconst C 2 (by decide) dX6_letTakeOff_49 ?_
          refine z_iload_n C 2 (by rfl) dX6_letTakeOff_50 ?_
          refine z_imul C dX6_letTakeOff_51 ?_
          obtain ⟨s30, hw⟩ := hw
          refine z_aald_q2 C (tR5_1 h0).2 (tE15 (tR5_1 h0).1) s30 (if_pos (tp_lt s30)) dX6_letTakeOff_52 ?_
          refine z_iload_n C 0 (by rfl) dX6_letTakeOff_53 ?_
          refine zv_i C (As := [.int x29]) (bytes := cX7_takeOff) (maxL := 3) (F1 := 1) (L1 := 22) (c_X7_takeOff w _ ((i0 + 1) + 2 + 3 * (Int32.toNatClampNeg (2 * x22))) x29 _ (tR15 (tR5_1 h0) (tp_lt s30)) hw) (tR15 (tR5_1 h0) (tp_lt s30)).2 (tE6 (tR15 (tR5_1 h0) (tp_lt s30)).1) rfl 1 gX6_letTakeOff_X7_takeOff rfl (by decide +kernel) ⟨Nat.le_of_ble_eq_true rfl, Nat.le_of_ble_eq_true rfl⟩ rfl (Nat.le_of_ble_eq_true rfl) ⟨Nat.zero_le _, Nat.zero_le _⟩ rfl dX6_letTakeOff_54 (fun x32 τ31 hw => ?_)
          obtain ⟨J33, hJ33, hw⟩ := hw
          have jn33 : ∀ (x34 : Int32), J33 x34 → Zt w g τ31 (0, 0) 65 [(0, .ref (w.1 i0)), (1, .int x22), (2, .int x29)] [.int x34, .int (τ21 i0 5), .ref (w.1 i0)] := by
            intro x34 hj33
            have hw := hJ33 x34 hj33
            refine z_iadd C dX6_letTakeOff_65 ?_
            refine z_put C (Cn := RX6) (T := TX6) (N := 6) (ci := 5) h0.2 5 (tE5 h0.1) (tS5_5 h0.1 _) in_X6_letTakeOff_X6 tyX6 tyX6_ok nmX6 rfl (by decide) mw_X6_letTakeOff_5 rfl rfl (tyX6_ok 5 (by decide)) rfl rfl (Nat.le_of_ble_eq_true rfl) dX6_letTakeOff_66 (fun τ35 eτ35 => ?_)
            have hw := hw τ35 eτ35
            refine z_aload_n C 0 (by rfl) dX6_letTakeOff_69 ?_
            refine z_dup C rfl dX6_letTakeOff_70 ?_
            refine z_get C (Cn := RX6) (T := TX6) (N := 6) (ci := 5) h0.2 5 (tE5 h0.1) in_X6_letTakeOff_X6 rfl (by decide) mw_X6_letTakeOff_5 rfl rfl dX6_letTakeOff_71 ?_
            refine z_aload_n C 0 (by rfl) dX6_letTakeOff_74 ?_
            refine z_get C (Cn := RX6) (T := TX6) (N := 6) (ci := 5) h0.2 1 (tE5 h0.1) in_X6_letTakeOff_X6 rfl (by decide) mw_X6_letTakeOff_6 rfl rfl dX6_letTakeOff_75 ?_
            refine z_iconst C 2 (by decide) dX6_letTakeOff_78 ?_
            refine z_iload_n C 1 (by rfl) dX6_letTakeOff_79 ?_
            refine z_imul C dX6_letTakeOff_80 ?_
            refine z_iconst C 1 (by decide) dX6_letTakeOff_81 ?_
            refine z_iadd C dX6_letTakeOff_82 ?_
            obtain ⟨s36, hw⟩ := hw
            refine z_aald_q2 C (tR5_1 h0).2 (tE15 (tR5_1 h0).1) s36 (if_pos (tp_lt s36)) dX6_letTakeOff_83 ?_
            refine z_iload_n C 2 (by rfl) dX6_letTakeOff_84 ?_
            refine zv_i C (As := [.int x29]) (bytes := cX7_takeOff) (maxL := 3) (F1 := 1) (L1 := 22) (c_X7_takeOff w _ ((i0 + 1) + 2 + 3 * (Int32.toNatClampNeg ((2 * x22) + 1))) x29 _ (tR15 (tR5_1 h0) (tp_lt s36)) hw) (tR15 (tR5_1 h0) (tp_lt s36)).2 (tE6 (tR15 (tR5_1 h0) (tp_lt s36)).1) rfl 1 gX6_letTakeOff_X7_takeOff rfl (by decide +kernel) ⟨Nat.le_of_ble_eq_true rfl, Nat.le_of_ble_eq_true rfl⟩ rfl (Nat.le_of_ble_eq_true rfl) ⟨Nat.zero_le _, Nat.zero_le _⟩ rfl dX6_letTakeOff_85 (fun x38 τ37 hw => ?_)
            refine z_if_eq (tgt := 95) C dX6_letTakeOff_88 (by decide) (fun c39 => ?_) (fun c39 => ?_)
            · have hw := hw.1 c39
              refine z_iconst C 0 (by decide) dX6_letTakeOff_95 ?_
              refine z_iadd C dX6_letTakeOff_96 ?_
              refine z_put C (Cn := RX6) (T := TX6) (N := 6) (ci := 5) h0.2 5 (tE5 h0.1) (tS5_5 h0.1 _) in_X6_letTakeOff_X6 tyX6 tyX6_ok nmX6 rfl (by decide) mw_X6_letTakeOff_5 rfl rfl (tyX6_ok 5 (by decide)) rfl rfl (Nat.le_of_ble_eq_true rfl) dX6_letTakeOff_97 (fun τ40 eτ40 => ?_)
              have hw := hw τ40 eτ40
              obtain ⟨x41, ex41⟩ : ∃ z : Int32, z = x22 + 1 := ⟨_, rfl⟩
              have hw := hw x41 ex41
              refine z_iinc C 1 x41 [(1, .int x41), (0, .ref (w.1 i0)), (2, .int x29)] dX6_letTakeOff_100 (by rfl) (by rw [ex41]; rfl) (by decide) rfl ?_
              refine z_goto (tgt := 2) C dX6_letTakeOff_103 (by decide) ?_
              refine z_sub [1, 0] [(0, .ref (w.1 i0)), (1, .int x41)] rfl ?_
              exact ih23 τ40 x41 (Nat.lt_of_lt_of_le hw.2 (Nat.le_of_lt_succ hlt23)) hw.1
            · have hw := hw.2 c39
              refine z_iconst C 1 (by decide) dX6_letTakeOff_91 ?_
              refine z_goto (tgt := 96) C dX6_letTakeOff_92 (by decide) ?_
              refine z_iadd C dX6_letTakeOff_96 ?_
              refine z_put C (Cn := RX6) (T := TX6) (N := 6) (ci := 5) h0.2 5 (tE5 h0.1) (tS5_5 h0.1 _) in_X6_letTakeOff_X6 tyX6 tyX6_ok nmX6 rfl (by decide) mw_X6_letTakeOff_5 rfl rfl (tyX6_ok 5 (by decide)) rfl rfl (Nat.le_of_ble_eq_true rfl) dX6_letTakeOff_97 (fun τ42 eτ42 => ?_)
              have hw := hw τ42 eτ42
              obtain ⟨x43, ex43⟩ : ∃ z : Int32, z = x22 + 1 := ⟨_, rfl⟩
              have hw := hw x43 ex43
              refine z_iinc C 1 x43 [(1, .int x43), (0, .ref (w.1 i0)), (2, .int x29)] dX6_letTakeOff_100 (by rfl) (by rw [ex43]; rfl) (by decide) rfl ?_
              refine z_goto (tgt := 2) C dX6_letTakeOff_103 (by decide) ?_
              refine z_sub [1, 0] [(0, .ref (w.1 i0)), (1, .int x43)] rfl ?_
              exact ih23 τ42 x43 (Nat.lt_of_lt_of_le hw.2 (Nat.le_of_lt_succ hlt23)) hw.1
          refine z_if_eq (tgt := 64) C dX6_letTakeOff_57 (by decide) (fun c44 => ?_) (fun c44 => ?_)
          · have hw := hw.1 c44
            refine z_iconst C 0 (by decide) dX6_letTakeOff_64 ?_
            refine z_sub [1, 2, 0] [(0, .ref (w.1 i0)), (1, .int x22), (2, .int x29)] rfl ?_
            exact jn33 0 hw
          · have hw := hw.2 c44
            refine z_iconst C 1 (by decide) dX6_letTakeOff_60 ?_
            refine z_goto (tgt := 65) C dX6_letTakeOff_61 (by decide) ?_
            refine z_sub [1, 2, 0] [(0, .ref (w.1 i0)), (1, .int x22), (2, .int x29)] rfl ?_
            exact jn33 1 hw
  refine z_sub [1, 0] [(0, .ref (w.1 i0)), (1, .int 0)] rfl ?_
  exact lp23 _ τ 0 (Nat.lt_succ_self _) hI23
def wp_X6_tick (τ : TS) (i0 : Nat) (K : TS → Prop) : Prop :=
  ∀ τ21 : TS, τ21 = tp_up τ i0 4 ((τ i0 4) + 1) → wp_X6_letArrive τ21 i0 (fun τ22 => wp_X6_letTimersRunOut τ22 i0 (fun τ23 => wp_X6_letCallersSend τ23 i0 (fun τ24 => wp_X6_letTakeOff τ24 i0 (fun τ25 => K τ25))))
theorem mw_X6_tick_0 : Cond.fieldLink RX6 52 "TidePost$Traffic" "clock" "I" ∈ wsX6_tick := List.mem_of_getElem? (i := 1) rfl
theorem in_X6_tick_X6 : ∀ x ∈ wsX60, x ∈ wsX6_tick := fun _ h => List.mem_cons_of_mem _ (List.mem_append_left _ (List.mem_append_left _ (List.mem_append_left _ (List.mem_append_left _ (List.mem_append_left _ (List.mem_append_left _ (List.mem_append_right _ h)))))))
set_option maxHeartbeats 4000000 in
set_option maxRecDepth 100000 in
theorem c_X6_tick (w : WPar) (τ : TS) (i0 : Nat) (K : TS → Prop) (h0 : tp_is i0 5) (hw : wp_X6_tick τ i0 K) : MV w yX6_tick wsX6_tick 6 147 [.ref (w.1 i0)] τ K := by
  refine tp_enterV (cc := cX6_tick) (maxL := 1) (own := RX6) (by decide) rfl rfl (Nat.le_of_ble_eq_true rfl) (fun g C hR => ?_)
  show Zt w g τ (0, 0) 0 [(0, .ref (w.1 i0))] []
  unfold wp_X6_tick at hw
  refine z_aload_n C 0 (by rfl) dX6_tick_0 ?_
  refine z_dup C rfl dX6_tick_1 ?_
  refine z_get C (Cn := RX6) (T := TX6) (N := 6) (ci := 5) h0.2 4 (tE5 h0.1) in_X6_tick_X6 rfl (by decide) mw_X6_tick_0 rfl rfl dX6_tick_2 ?_
  refine z_iconst C 1 (by decide) dX6_tick_5 ?_
  refine z_iadd C dX6_tick_6 ?_
  refine z_put C (Cn := RX6) (T := TX6) (N := 6) (ci := 5) h0.2 4 (tE5 h0.1) (tS5_4 h0.1 _) in_X6_tick_X6 tyX6 tyX6_ok nmX6 rfl (by decide) mw_X6_tick_0 rfl rfl (tyX6_ok 4 (by decide)) rfl rfl (Nat.le_of_ble_eq_true rfl) dX6_tick_7 (fun τ21 eτ21 => ?_)
  have hw := hw τ21 eτ21
  refine z_aload_n C 0 (by rfl) dX6_tick_10 ?_
  refine zv_v C (As := []) (bytes := cX6_letArrive) (maxL := 4) (F1 := 5) (L1 := 124) (c_X6_letArrive w _ i0 _ h0 hw) h0.2 (tE5 h0.1) rfl 0 gX6_tick_X6_letArrive rfl (by decide +kernel) ⟨Nat.le_of_ble_eq_true rfl, Nat.le_of_ble_eq_true rfl⟩ rfl (Nat.le_of_ble_eq_true rfl) ⟨Nat.zero_le _, Nat.zero_le _⟩ rfl dX6_tick_11 (fun τ22 hw => ?_)
  refine z_aload_n C 0 (by rfl) dX6_tick_14 ?_
  refine zv_v C (As := []) (bytes := cX6_letTimersRunOut) (maxL := 3) (F1 := 4) (L1 := 97) (c_X6_letTimersRunOut w _ i0 _ h0 hw) h0.2 (tE5 h0.1) rfl 0 gX6_tick_X6_letTimersRunOut rfl (by decide +kernel) ⟨Nat.le_of_ble_eq_true rfl, Nat.le_of_ble_eq_true rfl⟩ rfl (Nat.le_of_ble_eq_true rfl) ⟨Nat.zero_le _, Nat.zero_le _⟩ rfl dX6_tick_15 (fun τ23 hw => ?_)
  refine z_aload_n C 0 (by rfl) dX6_tick_18 ?_
  refine zv_v C (As := []) (bytes := cX6_letCallersSend) (maxL := 4) (F1 := 4) (L1 := 97) (c_X6_letCallersSend w _ i0 _ h0 hw) h0.2 (tE5 h0.1) rfl 0 gX6_tick_X6_letCallersSend rfl (by decide +kernel) ⟨Nat.le_of_ble_eq_true rfl, Nat.le_of_ble_eq_true rfl⟩ rfl (Nat.le_of_ble_eq_true rfl) ⟨Nat.zero_le _, Nat.zero_le _⟩ rfl dX6_tick_19 (fun τ24 hw => ?_)
  refine z_aload_n C 0 (by rfl) dX6_tick_22 ?_
  refine zv_v C (As := []) (bytes := cX6_letTakeOff) (maxL := 3) (F1 := 2) (L1 := 44) (c_X6_letTakeOff w _ i0 _ h0 hw) h0.2 (tE5 h0.1) rfl 0 gX6_tick_X6_letTakeOff rfl (by decide +kernel) ⟨Nat.le_of_ble_eq_true rfl, Nat.le_of_ble_eq_true rfl⟩ rfl (Nat.le_of_ble_eq_true rfl) ⟨Nat.zero_le _, Nat.zero_le _⟩ rfl dX6_tick_23 (fun τ25 hw => ?_)
  exact hR _ _ _ dX6_tick_26 hw
def wp_X6_copyFrom (τ : TS) (i0 : Nat) (j1 : Nat) (K : TS → Prop) : Prop :=
  ∃ (I23 : TS → Int32 → Prop) (u23 : TS → Int32 → Nat), I23 τ 0 ∧ ∀ (τ21 : TS) (x22 : Int32), I23 τ21 x22 → ((((2 * (τ21 1 1)) ≤ x22) → (∃ (I27 : TS → Int32 → Prop) (u27 : TS → Int32 → Nat), I27 τ21 0 ∧ ∀ (τ25 : TS) (x26 : Int32), I27 τ25 x26 → ((((τ25 j1 3) ≤ x26) → (∀ τ29 : TS, τ29 = tp_up τ25 i0 3 (τ25 j1 3) → ∀ τ30 : TS, τ30 = tp_up τ29 i0 4 (τ29 j1 4) → ∀ τ31 : TS, τ31 = tp_up τ30 i0 5 (τ30 j1 5) → K τ31)) ∧ ((¬ (τ25 j1 3) ≤ x26) → (vp_in x26 6 ∧ (vp_in x26 6 ∧ (wp_X2_copyFrom τ25 ((i0 + 2) + 73 + 5 * (Int32.toNatClampNeg x26)) ((j1 + 2) + 73 + 5 * (Int32.toNatClampNeg x26)) (fun τ34 => ∀ x35 : Int32, x35 = x26 + 1 → I27 τ34 x35 ∧ u27 τ34 x35 < u27 τ25 x26)))))))) ∧ ((¬ (2 * (τ21 1 1)) ≤ x22) → (vp_in x22 24 ∧ (vp_in x22 24 ∧ (wp_X7_copyFrom τ21 ((i0 + 1) + 2 + 3 * (Int32.toNatClampNeg x22)) ((j1 + 1) + 2 + 3 * (Int32.toNatClampNeg x22)) (fun τ38 => ∀ x39 : Int32, x39 = x22 + 1 → I23 τ38 x39 ∧ u23 τ38 x39 < u23 τ21 x22))))))
theorem mw_X6_copyFrom_0 : Cond.fieldLink RX6 23 "TidePost$Traffic" "net" "LTidePost$Net;" ∈ wsX6_copyFrom := List.mem_of_getElem? (i := 1) rfl
theorem mw_X6_copyFrom_1 : Cond.fieldLink RX6 84 "TidePost$Net" "links" "I" ∈ wsX6_copyFrom := List.mem_of_getElem? (i := 2) rfl
theorem mw_X6_copyFrom_3 : Cond.fieldLink RX6 29 "TidePost$Traffic" "made" "I" ∈ wsX6_copyFrom := List.mem_of_getElem? (i := 4) rfl
theorem mw_X6_copyFrom_5 : Cond.fieldLink RX6 52 "TidePost$Traffic" "clock" "I" ∈ wsX6_copyFrom := List.mem_of_getElem? (i := 6) rfl
theorem mw_X6_copyFrom_6 : Cond.fieldLink RX6 69 "TidePost$Traffic" "lost" "I" ∈ wsX6_copyFrom := List.mem_of_getElem? (i := 7) rfl
theorem mw_X6_copyFrom_4 : Cond.fieldLink RX6 19 "TidePost$Traffic" "all" "[LTidePost$Connection;" ∈ wsX6_copyFrom := List.mem_of_getElem? (i := 5) rfl
theorem mw_X6_copyFrom_2 : Cond.fieldLink RX6 11 "TidePost$Traffic" "ways" "[LTidePost$Way;" ∈ wsX6_copyFrom := List.mem_of_getElem? (i := 3) rfl
theorem in_X6_copyFrom_X6 : ∀ x ∈ wsX60, x ∈ wsX6_copyFrom := fun _ h => List.mem_cons_of_mem _ (List.mem_append_left _ (List.mem_append_left _ (List.mem_append_left _ (List.mem_append_left _ (List.mem_append_left _ (List.mem_append_left _ (List.mem_append_right _ h)))))))
theorem in_X6_copyFrom_X3 : ∀ x ∈ wsX30, x ∈ wsX6_copyFrom := fun _ h => List.mem_cons_of_mem _ (List.mem_append_left _ (List.mem_append_left _ (List.mem_append_left _ (List.mem_append_left _ (List.mem_append_left _ (List.mem_append_right _ h))))))
set_option maxHeartbeats 4000000 in
set_option maxRecDepth 100000 in
theorem c_X6_copyFrom (w : WPar) (τ : TS) (i0 : Nat) (j1 : Nat) (K : TS → Prop) (h0 : tp_is i0 5) (h1 : tp_is j1 5) (hw : wp_X6_copyFrom τ i0 j1 K) : MV w yX6_copyFrom wsX6_copyFrom 3 63 [.ref (w.1 i0), .ref (w.1 j1)] τ K := by
  refine tp_enterV (cc := cX6_copyFrom) (maxL := 3) (own := RX6) (by decide) rfl rfl (Nat.le_of_ble_eq_true rfl) (fun g C hR => ?_)
  show Zt w g τ (0, 0) 0 [(0, .ref (w.1 i0)), (1, .ref (w.1 j1))] []
  unfold wp_X6_copyFrom at hw
  refine z_iconst C 0 (by decide) dX6_copyFrom_0 ?_
  refine z_istore_n C [(2, .int 0), (0, .ref (w.1 i0)), (1, .ref (w.1 j1))] dX6_copyFrom_1 (by decide) rfl ?_
  obtain ⟨I23, u23, hI23, hs23⟩ := hw
  have lp23 : ∀ (n23 : Nat) (τ21 : TS) (x22 : Int32), u23 τ21 x22 < n23 → I23 τ21 x22 → Zt w g τ21 (0, 0) 2 [(0, .ref (w.1 i0)), (1, .ref (w.1 j1)), (2, .int x22)] [] := by
    intro n23
    induction n23 with
    | zero => intro τ21 x22 hlt23; exact absurd hlt23 (Nat.not_lt_zero _)
    | succ n23 ih23 =>
      intro τ21 x22 hlt23 hh23
      have hw := hs23 τ21 x22 hh23
      refine z_iload_n C 2 (by rfl) dX6_copyFrom_2 ?_
      refine z_iconst C 2 (by decide) dX6_copyFrom_3 ?_
      refine z_aload_n C 0 (by rfl) dX6_copyFrom_4 ?_
      refine z_get C (Cn := RX6) (T := TX6) (N := 6) (ci := 5) h0.2 0 (tE5 h0.1) in_X6_copyFrom_X6 rfl (by decide) mw_X6_copyFrom_0 rfl rfl dX6_copyFrom_5 ?_
      refine z_get C (Cn := RX3) (T := TX3) (N := 9) (ci := 3) tR5_0.2 1 (tE3 tR5_0.1) in_X6_copyFrom_X3 rfl (by decide) mw_X6_copyFrom_1 rfl rfl dX6_copyFrom_8 ?_
      refine z_imul C dX6_copyFrom_11 ?_
      refine z_icmp_ge (tgt := 36) C dX6_copyFrom_12 (by decide) (fun c24 => ?_) (fun c24 => ?_)
      · have hw := hw.1 c24
        refine z_iconst C 0 (by decide) dX6_copyFrom_36 ?_
        refine z_istore_n C [(2, .int 0), (0, .ref (w.1 i0)), (1, .ref (w.1 j1))] dX6_copyFrom_37 (by decide) rfl ?_
        obtain ⟨I27, u27, hI27, hs27⟩ := hw
        have lp27 : ∀ (n27 : Nat) (τ25 : TS) (x26 : Int32), u27 τ25 x26 < n27 → I27 τ25 x26 → Zt w g τ25 (0, 0) 38 [(0, .ref (w.1 i0)), (1, .ref (w.1 j1)), (2, .int x26)] [] := by
          intro n27
          induction n27 with
          | zero => intro τ25 x26 hlt27; exact absurd hlt27 (Nat.not_lt_zero _)
          | succ n27 ih27 =>
            intro τ25 x26 hlt27 hh27
            have hw := hs27 τ25 x26 hh27
            refine z_iload_n C 2 (by rfl) dX6_copyFrom_38 ?_
            refine z_aload_n C 1 (by rfl) dX6_copyFrom_39 ?_
            refine z_get C (Cn := RX6) (T := TX6) (N := 6) (ci := 5) h1.2 3 (tE5 h1.1) in_X6_copyFrom_X6 rfl (by decide) mw_X6_copyFrom_3 rfl rfl dX6_copyFrom_40 ?_
            refine z_icmp_ge (tgt := 67) C dX6_copyFrom_43 (by decide) (fun c28 => ?_) (fun c28 => ?_)
            · have hw := hw.1 c28
              refine z_aload_n C 0 (by rfl) dX6_copyFrom_67 ?_
              refine z_aload_n C 1 (by rfl) dX6_copyFrom_68 ?_
              refine z_get C (Cn := RX6) (T := TX6) (N := 6) (ci := 5) h1.2 3 (tE5 h1.1) in_X6_copyFrom_X6 rfl (by decide) mw_X6_copyFrom_3 rfl rfl dX6_copyFrom_69 ?_
              refine z_put C (Cn := RX6) (T := TX6) (N := 6) (ci := 5) h0.2 3 (tE5 h0.1) (tS5_3 h0.1 _) in_X6_copyFrom_X6 tyX6 tyX6_ok nmX6 rfl (by decide) mw_X6_copyFrom_3 rfl rfl (tyX6_ok 3 (by decide)) rfl rfl (Nat.le_of_ble_eq_true rfl) dX6_copyFrom_72 (fun τ29 eτ29 => ?_)
              have hw := hw τ29 eτ29
              refine z_aload_n C 0 (by rfl) dX6_copyFrom_75 ?_
              refine z_aload_n C 1 (by rfl) dX6_copyFrom_76 ?_
              refine z_get C (Cn := RX6) (T := TX6) (N := 6) (ci := 5) h1.2 4 (tE5 h1.1) in_X6_copyFrom_X6 rfl (by decide) mw_X6_copyFrom_5 rfl rfl dX6_copyFrom_77 ?_
              refine z_put C (Cn := RX6) (T := TX6) (N := 6) (ci := 5) h0.2 4 (tE5 h0.1) (tS5_4 h0.1 _) in_X6_copyFrom_X6 tyX6 tyX6_ok nmX6 rfl (by decide) mw_X6_copyFrom_5 rfl rfl (tyX6_ok 4 (by decide)) rfl rfl (Nat.le_of_ble_eq_true rfl) dX6_copyFrom_80 (fun τ30 eτ30 => ?_)
              have hw := hw τ30 eτ30
              refine z_aload_n C 0 (by rfl) dX6_copyFrom_83 ?_
              refine z_aload_n C 1 (by rfl) dX6_copyFrom_84 ?_
              refine z_get C (Cn := RX6) (T := TX6) (N := 6) (ci := 5) h1.2 5 (tE5 h1.1) in_X6_copyFrom_X6 rfl (by decide) mw_X6_copyFrom_6 rfl rfl dX6_copyFrom_85 ?_
              refine z_put C (Cn := RX6) (T := TX6) (N := 6) (ci := 5) h0.2 5 (tE5 h0.1) (tS5_5 h0.1 _) in_X6_copyFrom_X6 tyX6 tyX6_ok nmX6 rfl (by decide) mw_X6_copyFrom_6 rfl rfl (tyX6_ok 5 (by decide)) rfl rfl (Nat.le_of_ble_eq_true rfl) dX6_copyFrom_88 (fun τ31 eτ31 => ?_)
              have hw := hw τ31 eτ31
              exact hR _ _ _ dX6_copyFrom_91 hw
            · have hw := hw.2 c28
              refine z_aload_n C 0 (by rfl) dX6_copyFrom_46 ?_
              refine z_get C (Cn := RX6) (T := TX6) (N := 6) (ci := 5) h0.2 2 (tE5 h0.1) in_X6_copyFrom_X6 rfl (by decide) mw_X6_copyFrom_4 rfl rfl dX6_copyFrom_47 ?_
              refine z_iload_n C 2 (by rfl) dX6_copyFrom_50 ?_
              obtain ⟨s32, hw⟩ := hw
              refine z_aald_q3 C (tR5_2 h0).2 (tE16 (tR5_2 h0).1) s32 (if_pos (tp_lt s32)) dX6_copyFrom_51 ?_
              refine z_aload_n C 1 (by rfl) dX6_copyFrom_52 ?_
              refine z_get C (Cn := RX6) (T := TX6) (N := 6) (ci := 5) h1.2 2 (tE5 h1.1) in_X6_copyFrom_X6 rfl (by decide) mw_X6_copyFrom_4 rfl rfl dX6_copyFrom_53 ?_
              refine z_iload_n C 2 (by rfl) dX6_copyFrom_56 ?_
              obtain ⟨s33, hw⟩ := hw
              refine z_aald_q3 C (tR5_2 h1).2 (tE16 (tR5_2 h1).1) s33 (if_pos (tp_lt s33)) dX6_copyFrom_57 ?_
              refine zv_v C (As := [.ref (w.1 ((j1 + 2) + 73 + 5 * (Int32.toNatClampNeg x26)))]) (bytes := cX2_copyFrom) (maxL := 2) (F1 := 2) (L1 := 42) (c_X2_copyFrom w _ ((i0 + 2) + 73 + 5 * (Int32.toNatClampNeg x26)) ((j1 + 2) + 73 + 5 * (Int32.toNatClampNeg x26)) _ (tR16 (tR5_2 h0) (tp_lt s32)) (tR16 (tR5_2 h1) (tp_lt s33)) hw) (tR16 (tR5_2 h0) (tp_lt s32)).2 (tE2 (tR16 (tR5_2 h0) (tp_lt s32)).1) rfl 1 gX6_copyFrom_X2_copyFrom rfl (by decide +kernel) ⟨Nat.le_of_ble_eq_true rfl, Nat.le_of_ble_eq_true rfl⟩ rfl (Nat.le_of_ble_eq_true rfl) ⟨Nat.zero_le _, Nat.zero_le _⟩ rfl dX6_copyFrom_58 (fun τ34 hw => ?_)
              obtain ⟨x35, ex35⟩ : ∃ z : Int32, z = x26 + 1 := ⟨_, rfl⟩
              have hw := hw x35 ex35
              refine z_iinc C 2 x35 [(2, .int x35), (0, .ref (w.1 i0)), (1, .ref (w.1 j1))] dX6_copyFrom_61 (by rfl) (by rw [ex35]; rfl) (by decide) rfl ?_
              refine z_goto (tgt := 38) C dX6_copyFrom_64 (by decide) ?_
              refine z_sub [1, 2, 0] [(0, .ref (w.1 i0)), (1, .ref (w.1 j1)), (2, .int x35)] rfl ?_
              exact ih27 τ34 x35 (Nat.lt_of_lt_of_le hw.2 (Nat.le_of_lt_succ hlt27)) hw.1
        refine z_sub [1, 2, 0] [(0, .ref (w.1 i0)), (1, .ref (w.1 j1)), (2, .int 0)] rfl ?_
        exact lp27 _ τ21 0 (Nat.lt_succ_self _) hI27
      · have hw := hw.2 c24
        refine z_aload_n C 0 (by rfl) dX6_copyFrom_15 ?_
        refine z_get C (Cn := RX6) (T := TX6) (N := 6) (ci := 5) h0.2 1 (tE5 h0.1) in_X6_copyFrom_X6 rfl (by decide) mw_X6_copyFrom_2 rfl rfl dX6_copyFrom_16 ?_
        refine z_iload_n C 2 (by rfl) dX6_copyFrom_19 ?_
        obtain ⟨s36, hw⟩ := hw
        refine z_aald_q2 C (tR5_1 h0).2 (tE15 (tR5_1 h0).1) s36 (if_pos (tp_lt s36)) dX6_copyFrom_20 ?_
        refine z_aload_n C 1 (by rfl) dX6_copyFrom_21 ?_
        refine z_get C (Cn := RX6) (T := TX6) (N := 6) (ci := 5) h1.2 1 (tE5 h1.1) in_X6_copyFrom_X6 rfl (by decide) mw_X6_copyFrom_2 rfl rfl dX6_copyFrom_22 ?_
        refine z_iload_n C 2 (by rfl) dX6_copyFrom_25 ?_
        obtain ⟨s37, hw⟩ := hw
        refine z_aald_q2 C (tR5_1 h1).2 (tE15 (tR5_1 h1).1) s37 (if_pos (tp_lt s37)) dX6_copyFrom_26 ?_
        refine zv_v C (As := [.ref (w.1 ((j1 + 1) + 2 + 3 * (Int32.toNatClampNeg x22)))]) (bytes := cX7_copyFrom) (maxL := 2) (F1 := 1) (L1 := 18) (c_X7_copyFrom w _ ((i0 + 1) + 2 + 3 * (Int32.toNatClampNeg x22)) ((j1 + 1) + 2 + 3 * (Int32.toNatClampNeg x22)) _ (tR15 (tR5_1 h0) (tp_lt s36)) (tR15 (tR5_1 h1) (tp_lt s37)) hw) (tR15 (tR5_1 h0) (tp_lt s36)).2 (tE6 (tR15 (tR5_1 h0) (tp_lt s36)).1) rfl 1 gX6_copyFrom_X7_copyFrom rfl (by decide +kernel) ⟨Nat.le_of_ble_eq_true rfl, Nat.le_of_ble_eq_true rfl⟩ rfl (Nat.le_of_ble_eq_true rfl) ⟨Nat.zero_le _, Nat.zero_le _⟩ rfl dX6_copyFrom_27 (fun τ38 hw => ?_)
        obtain ⟨x39, ex39⟩ : ∃ z : Int32, z = x22 + 1 := ⟨_, rfl⟩
        have hw := hw x39 ex39
        refine z_iinc C 2 x39 [(2, .int x39), (0, .ref (w.1 i0)), (1, .ref (w.1 j1))] dX6_copyFrom_30 (by rfl) (by rw [ex39]; rfl) (by decide) rfl ?_
        refine z_goto (tgt := 2) C dX6_copyFrom_33 (by decide) ?_
        refine z_sub [1, 2, 0] [(0, .ref (w.1 i0)), (1, .ref (w.1 j1)), (2, .int x39)] rfl ?_
        exact ih23 τ38 x39 (Nat.lt_of_lt_of_le hw.2 (Nat.le_of_lt_succ hlt23)) hw.1
  refine z_sub [1, 2, 0] [(0, .ref (w.1 i0)), (1, .ref (w.1 j1)), (2, .int 0)] rfl ?_
  exact lp23 _ τ 0 (Nat.lt_succ_self _) hI23
end
