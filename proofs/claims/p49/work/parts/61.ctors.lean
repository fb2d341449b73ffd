def tp_t0 : TS := fun i => if tp_kd i = 9 then (fun j => if j < 10 then -1 else 0) else (fun _ => 0)
def tp_wad (w : WPar) (ad : Nat → Nat) : WPar := (ad, w.2)
def tp_blk (w : WPar) (i k : Nat) : va_W := (List.range' i k).map (fun j => (w.1 j, tp_E w j (tp_t0 j)))
/-- the cells that a cell refers to -/
def tp_refs (j : Nat) : List Nat := match tp_kd j with
  | 0 => [j + 1]
  | 1 => [j + 1]
  | 2 => [j + 1, j + 3]
  | 3 => [2, 3, 4, 5, 6, 7, 16]
  | 5 => [1, j + 1, j + 2]
  | 6 => [j + 1, j + 2]
  | 7 => [1, 17, 122, 227]
  | 14 => (List.range 8).map (fun x => 8 + x)
  | 15 => (List.range 24).map (fun x => j + 2 + 3 * x)
  | 16 => (List.range 6).map (fun x => j + 73 + 5 * x)
  | 17 => (List.range 6).map (fun x => 228 + x)
  | _ => []
theorem tp_E_congr {w w2 : WPar} {j : Nat} {f : Nat → Int32} (h : ∀ r ∈ tp_refs j, w.1 r = w2.1 r) (h2 : w.2 = w2.2) : tp_E w j f = tp_E w2 j f := by
  obtain ⟨a, b⟩ := w
  obtain ⟨a2, b2⟩ := w2
  cases h2
  unfold tp_refs at h
  unfold tp_E
  generalize tp_kd j = kd at h ⊢
  match kd, h with
  | 0, h => simp at h; simp [h]
  | 1, h => simp at h; simp [h]
  | 2, h => simp at h; simp [h]
  | 3, h => simp at h; simp [h]
  | 4, _ => rfl
  | 5, h => simp at h; simp [h]
  | 6, h => simp at h; simp [h]
  | 7, h => simp at h; simp [h]
  | 8, _ => rfl
  | 9, _ => rfl
  | 10, _ => rfl
  | 11, _ => rfl
  | 12, _ => rfl
  | 13, _ => rfl
  | 14, h =>
    have e : ∀ x, x < 8 → _ := fun x hx => h _ (List.mem_map.mpr ⟨x, List.mem_range.mpr hx, rfl⟩)
    refine congrArg (fun z => Sum.inl (_, _, Sum.inr (Sum.inr (Sum.inr (Sum.inr z))))) (funext fun x => ?_)
    by_cases hx : x < 8
    · simp only [if_pos hx]; exact congrArg some (e x hx)
    · simp only [if_neg hx]
  | 15, h =>
    have e : ∀ x, x < 24 → _ := fun x hx => h _ (List.mem_map.mpr ⟨x, List.mem_range.mpr hx, rfl⟩)
    refine congrArg (fun z => Sum.inl (_, _, Sum.inr (Sum.inr (Sum.inr (Sum.inr z))))) (funext fun x => ?_)
    by_cases hx : x < 24
    · simp only [if_pos hx]; exact congrArg some (e x hx)
    · simp only [if_neg hx]
  | 16, h =>
    have e : ∀ x, x < 6 → _ := fun x hx => h _ (List.mem_map.mpr ⟨x, List.mem_range.mpr hx, rfl⟩)
    refine congrArg (fun z => Sum.inl (_, _, Sum.inr (Sum.inr (Sum.inr (Sum.inr z))))) (funext fun x => ?_)
    by_cases hx : x < 6
    · simp only [if_pos hx]; exact congrArg some (e x hx)
    · simp only [if_neg hx]
  | 17, h =>
    have e : ∀ x, x < 6 → _ := fun x hx => h _ (List.mem_map.mpr ⟨x, List.mem_range.mpr hx, rfl⟩)
    refine congrArg (fun z => Sum.inl (_, _, Sum.inr (Sum.inr (Sum.inr (Sum.inr z))))) (funext fun x => ?_)
    by_cases hx : x < 6
    · simp only [if_pos hx]; exact congrArg some (e x hx)
    · simp only [if_neg hx]
  | 18, _ => rfl
  | _ + 19, _ => rfl
theorem tp_blk_congr {w w2 : WPar} {i k : Nat} (h : ∀ j, i ≤ j → j < i + k → w.1 j = w2.1 j ∧ ∀ r ∈ tp_refs j, w.1 r = w2.1 r) (h2 : w.2 = w2.2) : tp_blk w i k = tp_blk w2 i k := by
  unfold tp_blk
  apply List.map_congr_left
  intro j hj
  rw [List.mem_range'_1] at hj
  rw [(h j hj.1 hj.2).1, tp_E_congr (h j hj.1 hj.2).2 h2]
theorem tp_blk_app (w : WPar) (i k m : Nat) : tp_blk w i k ++ tp_blk w (i + k) m = tp_blk w i (k + m) := by
  unfold tp_blk
  rw [← List.map_append]
  congr 1
  have := List.range'_append (s := i) (m := k) (n := m) (step := 1)
  rw [Nat.one_mul] at this
  exact this
theorem tp_blk1 (w : WPar) (i : Nat) : tp_blk w i 1 = [(w.1 i, tp_E w i (tp_t0 i))] := rfl
theorem tp_blk3 (w : WPar) (i : Nat) : tp_blk w i 3 = [(w.1 i, tp_E w i (tp_t0 i)), (w.1 (i + 1), tp_E w (i + 1) (tp_t0 (i + 1))), (w.1 (i + 2), tp_E w (i + 2) (tp_t0 (i + 2)))] := rfl
theorem tp_blk2 (w : WPar) (i : Nat) : tp_blk w i 2 = [(w.1 i, tp_E w i (tp_t0 i)), (w.1 (i + 1), tp_E w (i + 1) (tp_t0 (i + 1)))] := rfl
theorem tp_blk5 (w : WPar) (i : Nat) : tp_blk w i 5 = [(w.1 i, tp_E w i (tp_t0 i)), (w.1 (i + 1), tp_E w (i + 1) (tp_t0 (i + 1))), (w.1 (i + 1 + 1), tp_E w (i + 1 + 1) (tp_t0 (i + 1 + 1))), (w.1 (i + 3), tp_E w (i + 3) (tp_t0 (i + 3))), (w.1 (i + 3 + 1), tp_E w (i + 3 + 1) (tp_t0 (i + 3 + 1)))] := rfl
theorem tp_t0z {i k : Nat} (h : tp_kd i = k) (h2 : k ≠ 9) : tp_t0 i = fun _ => 0 := if_neg (fun e => h2 (h.symm.trans e))
theorem tp_t09 {i : Nat} (h : tp_kd i = 9) : tp_t0 i = fun j => if j < 10 then -1 else 0 := if_pos h
theorem mw_X5_init_0 : Cond.methodLink RX5 3 objectInit ∈ wsX5_init := List.mem_of_getElem? (i := 1) rfl
theorem mw_X5_init_1 : Cond.instanceMethod objectInit ∈ wsX5_init := List.mem_of_getElem? (i := 2) rfl
theorem mw_X5_init_2 : Cond.code objectInit ⟨#[0xb1]⟩ 1 none ∈ wsX5_init := List.mem_of_getElem? (i := 3) rfl
set_option maxHeartbeats 4000000 in
set_option maxRecDepth 100000 in
theorem g_X5_init (w : WPar) (n h0 : Nat) (hn : tp_ik n 4) : MG w yX5_init wsX5_init 1 12 0 0 [.ref h0] [(h0, .inr (4, [.int 0, .int 0, .int 0, .int 0, .int 0]))] (fun u2 => ∃ ad : Nat → Nat, ad n = h0 ∧ u2 = tp_blk (tp_wad w ad) n 1) := by
  refine tp_enterG (cc := cX5_init) (maxL := 1) (own := RX5) (by decide) rfl rfl rfl (Nat.le_of_ble_eq_true rfl) (fun g A C hR => ?_)
  show Zg w g A [(h0, .inr (4, [.int 0, .int 0, .int 0, .int 0, .int 0]))] (0, 0) 0 [(0, .ref h0)] []
  refine y_aload_n C 0 (by rfl) dX5_init_0 ?_
  refine y_objInit C mw_X5_init_0 mw_X5_init_1 mw_X5_init_2 dX5_init_1 (Nat.le_of_ble_eq_true rfl) (Nat.le_of_ble_eq_true rfl) ?_
  exact hR _ _ _ dX5_init_4 ⟨fun _ => h0, rfl, by rw [tp_blk1, tE4 hn.1, tp_t0z hn.1 (by decide)]; rfl⟩
theorem mw_X0_init_0 : Cond.methodLink RX0 3 objectInit ∈ wsX0_init := List.mem_of_getElem? (i := 1) rfl
theorem mw_X0_init_1 : Cond.instanceMethod objectInit ∈ wsX0_init := List.mem_of_getElem? (i := 2) rfl
theorem mw_X0_init_2 : Cond.code objectInit ⟨#[0xb1]⟩ 1 none ∈ wsX0_init := List.mem_of_getElem? (i := 3) rfl
theorem mw_X0_init_3 : Cond.arrayClass .boolean ∈ wsX0_init := List.mem_of_getElem? (i := 4) rfl
theorem mw_X0_init_4 : Cond.fieldLink RX0 9 "TidePost$Callee" "held" "[Z" ∈ wsX0_init := List.mem_of_getElem? (i := 5) rfl
theorem in_X0_init_X0 : ∀ x ∈ wsX00, x ∈ wsX0_init := fun _ h => List.mem_cons_of_mem _ (List.mem_append_right _ h)
set_option maxHeartbeats 4000000 in
set_option maxRecDepth 100000 in
theorem g_X0_init (w : WPar) (n h0 : Nat) (hn : tp_ik n 0) : MG w yX0_init wsX0_init 1 12 1 201 [.ref h0] [(h0, .inr (0, [.int 0, .int 0, .int 0, .null]))] (fun u2 => ∃ ad : Nat → Nat, ad n = h0 ∧ u2 = tp_blk (tp_wad w ad) n 2) := by
  refine tp_enterG (cc := cX0_init) (maxL := 1) (own := RX0) (by decide) rfl rfl rfl (Nat.le_of_ble_eq_true rfl) (fun g A C hR => ?_)
  show Zg w g A [(h0, .inr (0, [.int 0, .int 0, .int 0, .null]))] (0, 0) 0 [(0, .ref h0)] []
  refine y_aload_n C 0 (by rfl) dX0_init_0 ?_
  refine y_objInit C mw_X0_init_0 mw_X0_init_1 mw_X0_init_2 dX0_init_1 (Nat.le_of_ble_eq_true rfl) (Nat.le_of_ble_eq_true rfl) ?_
  refine y_aload_n C 0 (by rfl) dX0_init_4 ?_
  refine y_sipush C 201 (by decide) dX0_init_5 ?_
  refine y_newZ C 201 mw_X0_init_3 (by decide) (by decide) (Nat.le_of_ble_eq_true rfl) ⟨Nat.le_of_ble_eq_true rfl, Nat.le_of_ble_eq_true rfl⟩ dX0_init_8 (k2 := (1, 201)) rfl (fun q0 => ?_)
  refine y_eq (u2 := [(h0, .inr (0, [.int 0, .int 0, .int 0, .null])), (q0, .inl (w.2.2.1 1, 201, .inl (fun _ => 0)))]) rfl ?_
  refine y_put C (ci := 0) (T := TX0) (N := 4) 0 3 (tyX0 3) (by rfl) in_X0_init_X0 tyX0 tyX0_ok nmX0 rfl (by decide) mw_X0_init_4 rfl rfl rfl (tyX0_ok 3 (by decide)) rfl rfl (Nat.le_of_ble_eq_true rfl) (by decide) dX0_init_10 (u2 := [(h0, .inr (0, [.int 0, .int 0, .int 0, .ref q0])), (q0, .inl (w.2.2.1 1, 201, .inl (fun _ => 0)))]) rfl ?_
  exact hR _ _ _ dX0_init_13 ⟨fun x => if x = n then h0 else q0, if_pos rfl, by rw [tp_blk2, tE0 hn.1, tE10 (tK0_3 hn).1, tp_t0z hn.1 (by decide), tp_t0z (tK0_3 hn).1 (by decide)]; simp [tp_wad]⟩
theorem mw_X1_init_0 : Cond.methodLink RX1 3 objectInit ∈ wsX1_init := List.mem_of_getElem? (i := 1) rfl
theorem mw_X1_init_1 : Cond.instanceMethod objectInit ∈ wsX1_init := List.mem_of_getElem? (i := 2) rfl
theorem mw_X1_init_2 : Cond.code objectInit ⟨#[0xb1]⟩ 1 none ∈ wsX1_init := List.mem_of_getElem? (i := 3) rfl
theorem mw_X1_init_3 : Cond.classLink RX1 9 RX5 ∈ wsX1_init := List.mem_of_getElem? (i := 4) rfl
theorem mw_X1_init_4 : Cond.instantiable RX5 5 ∈ wsX1_init := List.mem_of_getElem? (i := 5) rfl
theorem mw_X1_init_5 : Cond.initialized RX5 ∈ wsX1_init := List.mem_of_getElem? (i := 6) rfl
theorem mw_X1_init_7 : Cond.instanceMethod yX5_init ∈ wsX1_init := List.mem_of_getElem? (i := 8) rfl
theorem mw_X1_init_6 : Cond.fieldLink RX1 12 "TidePost$Caller" "timing" "LTidePost$Timing;" ∈ wsX1_init := List.mem_of_getElem? (i := 7) rfl
theorem in_X1_init_X5 : ∀ x ∈ wsX50, x ∈ wsX1_init := fun _ h => List.mem_cons_of_mem _ (List.mem_append_left _ (List.mem_append_right _ h))
theorem in_X1_init_X1 : ∀ x ∈ wsX10, x ∈ wsX1_init := fun _ h => List.mem_cons_of_mem _ (List.mem_append_right _ h)
set_option maxHeartbeats 4000000 in
set_option maxRecDepth 100000 in
theorem g_X1_init (w : WPar) (n h0 : Nat) (hn : tp_ik n 1) : MG w yX1_init wsX1_init 2 32 1 5 [.ref h0] [(h0, .inr (1, [.int 0, .int 0, .int 0, .int 0, .int 0, .int 0, .int 0, .int 0, .int 0, .int 0, .int 0, .int 0, .int 0, .null]))] (fun u2 => ∃ ad : Nat → Nat, ad n = h0 ∧ u2 = tp_blk (tp_wad w ad) n 2) := by
  refine tp_enterG (cc := cX1_init) (maxL := 1) (own := RX1) (by decide) rfl rfl rfl (Nat.le_of_ble_eq_true rfl) (fun g A C hR => ?_)
  show Zg w g A [(h0, .inr (1, [.int 0, .int 0, .int 0, .int 0, .int 0, .int 0, .int 0, .int 0, .int 0, .int 0, .int 0, .int 0, .int 0, .null]))] (0, 0) 0 [(0, .ref h0)] []
  refine y_aload_n C 0 (by rfl) dX1_init_0 ?_
  refine y_objInit C mw_X1_init_0 mw_X1_init_1 mw_X1_init_2 dX1_init_1 (Nat.le_of_ble_eq_true rfl) (Nat.le_of_ble_eq_true rfl) ?_
  refine y_aload_n C 0 (by rfl) dX1_init_4 ?_
  refine y_new C (ci := 4) (T := TX5) (N := 5) [.int 0, .int 0, .int 0, .int 0, .int 0] in_X1_init_X5 tyX5 tyX5_ok mw_X1_init_3 mw_X1_init_4 mw_X1_init_5 rfl (fun j hj => by rcases (show j = 0 ∨ j = 1 ∨ j = 2 ∨ j = 3 ∨ j = 4 by omega) with rfl | rfl | rfl | rfl | rfl <;> rfl) ⟨Nat.le_of_ble_eq_true rfl, Nat.le_of_ble_eq_true rfl⟩ dX1_init_5 (k2 := (1, 5)) rfl (fun q0 => ?_)
  refine y_dup C rfl dX1_init_8 ?_
  refine y_ctorN C (As := []) (bytes := cX5_init) (maxL := 1) (F1 := 1) (L1 := 12) (mc := 0) (ms := 0) (g_X5_init w (n + 1) q0 (tK1_13 hn)) 0 gX1_init_X5_init_n11 rfl mw_X1_init_5 "TidePost" (fun _ h => h.1.2.2.2.2) mw_X1_init_7 rfl (by decide +kernel) ⟨Nat.le_of_ble_eq_true rfl, Nat.le_of_ble_eq_true rfl⟩ rfl (Nat.le_of_ble_eq_true rfl) ⟨Nat.le_of_ble_eq_true rfl, Nat.le_of_ble_eq_true rfl⟩ (k2 := (1, 5)) rfl rfl dX1_init_9 (fun u2 hu => ?_)
  obtain ⟨ad1, had1, rfl⟩ := hu
  rw [tp_blk1, tE4 (tK1_13 hn).1, tp_t0z (tK1_13 hn).1 (by decide), show (tp_wad w ad1).1 (n + 1) = q0 from had1]
  refine y_eq (u2 := [(h0, .inr (1, [.int 0, .int 0, .int 0, .int 0, .int 0, .int 0, .int 0, .int 0, .int 0, .int 0, .int 0, .int 0, .int 0, .null])), (q0, .inr (4, [.int 0, .int 0, .int 0, .int 0, .int 0]))]) rfl ?_
  refine y_put C (ci := 1) (T := TX1) (N := 14) 0 13 (tyX1 13) (by rfl) in_X1_init_X1 tyX1 tyX1_ok nmX1 rfl (by decide) mw_X1_init_6 rfl rfl rfl (tyX1_ok 13 (by decide)) rfl rfl (Nat.le_of_ble_eq_true rfl) (by decide) dX1_init_12 (u2 := [(h0, .inr (1, [.int 0, .int 0, .int 0, .int 0, .int 0, .int 0, .int 0, .int 0, .int 0, .int 0, .int 0, .int 0, .int 0, .ref q0])), (q0, .inr (4, [.int 0, .int 0, .int 0, .int 0, .int 0]))]) rfl ?_
  exact hR _ _ _ dX1_init_15 ⟨fun x => if x = n then h0 else q0, if_pos rfl, by rw [tp_blk2, tE1 hn.1, tE4 (tK1_13 hn).1, tp_t0z hn.1 (by decide), tp_t0z (tK1_13 hn).1 (by decide)]; simp [tp_wad]⟩
theorem mw_X2_init_0 : Cond.methodLink RX2 1 objectInit ∈ wsX2_init := List.mem_of_getElem? (i := 1) rfl
theorem mw_X2_init_1 : Cond.instanceMethod objectInit ∈ wsX2_init := List.mem_of_getElem? (i := 2) rfl
theorem mw_X2_init_2 : Cond.code objectInit ⟨#[0xb1]⟩ 1 none ∈ wsX2_init := List.mem_of_getElem? (i := 3) rfl
theorem mw_X2_init_3 : Cond.classLink RX2 7 RX1 ∈ wsX2_init := List.mem_of_getElem? (i := 4) rfl
theorem mw_X2_init_4 : Cond.instantiable RX1 14 ∈ wsX2_init := List.mem_of_getElem? (i := 5) rfl
theorem mw_X2_init_5 : Cond.initialized RX1 ∈ wsX2_init := List.mem_of_getElem? (i := 6) rfl
theorem mw_X2_init_11 : Cond.instanceMethod yX1_init ∈ wsX2_init := List.mem_of_getElem? (i := 12) rfl
theorem mw_X2_init_6 : Cond.fieldLink RX2 10 "TidePost$Connection" "caller" "LTidePost$Caller;" ∈ wsX2_init := List.mem_of_getElem? (i := 7) rfl
theorem mw_X2_init_7 : Cond.classLink RX2 16 RX0 ∈ wsX2_init := List.mem_of_getElem? (i := 8) rfl
theorem mw_X2_init_8 : Cond.instantiable RX0 4 ∈ wsX2_init := List.mem_of_getElem? (i := 9) rfl
theorem mw_X2_init_9 : Cond.initialized RX0 ∈ wsX2_init := List.mem_of_getElem? (i := 10) rfl
theorem mw_X2_init_21 : Cond.instanceMethod yX0_init ∈ wsX2_init := List.mem_of_getElem? (i := 22) rfl
theorem mw_X2_init_10 : Cond.fieldLink RX2 19 "TidePost$Connection" "callee" "LTidePost$Callee;" ∈ wsX2_init := List.mem_of_getElem? (i := 11) rfl
theorem in_X2_init_X1 : ∀ x ∈ wsX10, x ∈ wsX2_init := fun _ h => List.mem_cons_of_mem _ (List.mem_append_left _ (List.mem_append_left _ (List.mem_append_left _ (List.mem_append_right _ h))))
theorem in_X2_init_X2 : ∀ x ∈ wsX20, x ∈ wsX2_init := fun _ h => List.mem_cons_of_mem _ (List.mem_append_left _ (List.mem_append_left _ (List.mem_append_right _ h)))
theorem in_X2_init_X0 : ∀ x ∈ wsX00, x ∈ wsX2_init := fun _ h => List.mem_cons_of_mem _ (List.mem_append_left _ (List.mem_append_right _ h))
set_option maxHeartbeats 4000000 in
set_option maxRecDepth 100000 in
theorem g_X2_init (w : WPar) (n h0 : Nat) (hn : tp_ik n 2) : MG w yX2_init wsX2_init 3 52 4 224 [.ref h0] [(h0, .inr (2, [.int 0, .int 0, .null, .null]))] (fun u2 => ∃ ad : Nat → Nat, ad n = h0 ∧ u2 = tp_blk (tp_wad w ad) n 5) := by
  refine tp_enterG (cc := cX2_init) (maxL := 1) (own := RX2) (by decide) rfl rfl rfl (Nat.le_of_ble_eq_true rfl) (fun g A C hR => ?_)
  show Zg w g A [(h0, .inr (2, [.int 0, .int 0, .null, .null]))] (0, 0) 0 [(0, .ref h0)] []
  refine y_aload_n C 0 (by rfl) dX2_init_0 ?_
  refine y_objInit C mw_X2_init_0 mw_X2_init_1 mw_X2_init_2 dX2_init_1 (Nat.le_of_ble_eq_true rfl) (Nat.le_of_ble_eq_true rfl) ?_
  refine y_aload_n C 0 (by rfl) dX2_init_4 ?_
  refine y_new C (ci := 1) (T := TX1) (N := 14) [.int 0, .int 0, .int 0, .int 0, .int 0, .int 0, .int 0, .int 0, .int 0, .int 0, .int 0, .int 0, .int 0, .null] in_X2_init_X1 tyX1 tyX1_ok mw_X2_init_3 mw_X2_init_4 mw_X2_init_5 rfl (fun j hj => by rcases (show j = 0 ∨ j = 1 ∨ j = 2 ∨ j = 3 ∨ j = 4 ∨ j = 5 ∨ j = 6 ∨ j = 7 ∨ j = 8 ∨ j = 9 ∨ j = 10 ∨ j = 11 ∨ j = 12 ∨ j = 13 by omega) with rfl | rfl | rfl | rfl | rfl | rfl | rfl | rfl | rfl | rfl | rfl | rfl | rfl | rfl <;> rfl) ⟨Nat.le_of_ble_eq_true rfl, Nat.le_of_ble_eq_true rfl⟩ dX2_init_5 (k2 := (1, 14)) rfl (fun q0 => ?_)
  refine y_dup C rfl dX2_init_8 ?_
  refine y_ctorN C (As := []) (bytes := cX1_init) (maxL := 1) (F1 := 2) (L1 := 32) (mc := 1) (ms := 5) (g_X1_init w (n + 1) q0 (tK2_2 hn)) 0 gX2_init_X1_init_n9 rfl mw_X2_init_5 "TidePost" (fun _ h => h.1.2.2.1) mw_X2_init_11 rfl (by decide +kernel) ⟨Nat.le_of_ble_eq_true rfl, Nat.le_of_ble_eq_true rfl⟩ rfl (Nat.le_of_ble_eq_true rfl) ⟨Nat.le_of_ble_eq_true rfl, Nat.le_of_ble_eq_true rfl⟩ (k2 := (2, 19)) rfl rfl dX2_init_9 (fun u2 hu => ?_)
  obtain ⟨ad1, had1, rfl⟩ := hu
  rw [tp_blk2, tE1 (tK2_2 hn).1, tE4 (tK1_13 (tK2_2 hn)).1, tp_t0z (tK2_2 hn).1 (by decide), tp_t0z (tK1_13 (tK2_2 hn)).1 (by decide), show (tp_wad w ad1).1 (n + 1) = q0 from had1]
  refine y_eq (u2 := [(h0, .inr (2, [.int 0, .int 0, .null, .null])), (q0, .inr (1, [.int 0, .int 0, .int 0, .int 0, .int 0, .int 0, .int 0, .int 0, .int 0, .int 0, .int 0, .int 0, .int 0, .ref (ad1 (n + 1 + 1))])), (ad1 (n + 1 + 1), .inr (4, [.int 0, .int 0, .int 0, .int 0, .int 0]))]) rfl ?_
  refine y_put C (ci := 2) (T := TX2) (N := 4) 0 2 (tyX2 2) (by rfl) in_X2_init_X2 tyX2 tyX2_ok nmX2 rfl (by decide) mw_X2_init_6 rfl rfl rfl (tyX2_ok 2 (by decide)) rfl rfl (Nat.le_of_ble_eq_true rfl) (by decide) dX2_init_12 (u2 := [(h0, .inr (2, [.int 0, .int 0, .ref q0, .null])), (q0, .inr (1, [.int 0, .int 0, .int 0, .int 0, .int 0, .int 0, .int 0, .int 0, .int 0, .int 0, .int 0, .int 0, .int 0, .ref (ad1 (n + 1 + 1))])), (ad1 (n + 1 + 1), .inr (4, [.int 0, .int 0, .int 0, .int 0, .int 0]))]) rfl ?_
  refine y_aload_n C 0 (by rfl) dX2_init_15 ?_
  refine y_new C (ci := 0) (T := TX0) (N := 4) [.int 0, .int 0, .int 0, .null] in_X2_init_X0 tyX0 tyX0_ok mw_X2_init_7 mw_X2_init_8 mw_X2_init_9 rfl (fun j hj => by rcases (show j = 0 ∨ j = 1 ∨ j = 2 ∨ j = 3 by omega) with rfl | rfl | rfl | rfl <;> rfl) ⟨Nat.le_of_ble_eq_true rfl, Nat.le_of_ble_eq_true rfl⟩ dX2_init_16 (k2 := (3, 23)) rfl (fun q1 => ?_)
  refine y_dup C rfl dX2_init_19 ?_
  refine y_ctorN C (As := []) (bytes := cX0_init) (maxL := 1) (F1 := 1) (L1 := 12) (mc := 1) (ms := 201) (g_X0_init w (n + 3) q1 (tK2_3 hn)) 0 gX2_init_X0_init_n18 rfl mw_X2_init_9 "TidePost" (fun _ h => h.1.2.2.2.1) mw_X2_init_21 rfl (by decide +kernel) ⟨Nat.le_of_ble_eq_true rfl, Nat.le_of_ble_eq_true rfl⟩ rfl (Nat.le_of_ble_eq_true rfl) ⟨Nat.le_of_ble_eq_true rfl, Nat.le_of_ble_eq_true rfl⟩ (k2 := (4, 224)) rfl rfl dX2_init_20 (fun u2 hu => ?_)
  obtain ⟨ad2, had2, rfl⟩ := hu
  rw [tp_blk2, tE0 (tK2_3 hn).1, tE10 (tK0_3 (tK2_3 hn)).1, tp_t0z (tK2_3 hn).1 (by decide), tp_t0z (tK0_3 (tK2_3 hn)).1 (by decide), show (tp_wad w ad2).1 (n + 3) = q1 from had2]
  refine y_eq (u2 := [(h0, .inr (2, [.int 0, .int 0, .ref q0, .null])), (q0, .inr (1, [.int 0, .int 0, .int 0, .int 0, .int 0, .int 0, .int 0, .int 0, .int 0, .int 0, .int 0, .int 0, .int 0, .ref (ad1 (n + 1 + 1))])), (ad1 (n + 1 + 1), .inr (4, [.int 0, .int 0, .int 0, .int 0, .int 0])), (q1, .inr (0, [.int 0, .int 0, .int 0, .ref (ad2 (n + 3 + 1))])), (ad2 (n + 3 + 1), .inl (w.2.2.1 1, 201, .inl (fun _ => 0)))]) rfl ?_
  refine y_put C (ci := 2) (T := TX2) (N := 4) 0 3 (tyX2 3) (by rfl) in_X2_init_X2 tyX2 tyX2_ok nmX2 rfl (by decide) mw_X2_init_10 rfl rfl rfl (tyX2_ok 3 (by decide)) rfl rfl (Nat.le_of_ble_eq_true rfl) (by decide) dX2_init_23 (u2 := [(h0, .inr (2, [.int 0, .int 0, .ref q0, .ref q1])), (q0, .inr (1, [.int 0, .int 0, .int 0, .int 0, .int 0, .int 0, .int 0, .int 0, .int 0, .int 0, .int 0, .int 0, .int 0, .ref (ad1 (n + 1 + 1))])), (ad1 (n + 1 + 1), .inr (4, [.int 0, .int 0, .int 0, .int 0, .int 0])), (q1, .inr (0, [.int 0, .int 0, .int 0, .ref (ad2 (n + 3 + 1))])), (ad2 (n + 3 + 1), .inl (w.2.2.1 1, 201, .inl (fun _ => 0)))]) rfl ?_
  exact hR _ _ _ dX2_init_26 ⟨fun x => if x = n then h0 else if x = n + 1 then q0 else if x = n + 1 + 1 then ad1 x else if x = n + 3 then q1 else ad2 x, if_pos rfl, by rw [tp_blk5, tE2 hn.1, tE1 (tK2_2 hn).1, tE4 (tK1_13 (tK2_2 hn)).1, tE0 (tK2_3 hn).1, tE10 (tK0_3 (tK2_3 hn)).1, tp_t0z hn.1 (by decide), tp_t0z (tK2_2 hn).1 (by decide), tp_t0z (tK1_13 (tK2_2 hn)).1 (by decide), tp_t0z (tK2_3 hn).1 (by decide), tp_t0z (tK0_3 (tK2_3 hn)).1 (by decide)]; simp [tp_wad]; exact ⟨fun h => absurd h (by omega), fun h => absurd h (by omega)⟩⟩
theorem mw_X7_init_0 : Cond.methodLink RX7 3 objectInit ∈ wsX7_init := List.mem_of_getElem? (i := 1) rfl
theorem mw_X7_init_1 : Cond.instanceMethod objectInit ∈ wsX7_init := List.mem_of_getElem? (i := 2) rfl
theorem mw_X7_init_2 : Cond.code objectInit ⟨#[0xb1]⟩ 1 none ∈ wsX7_init := List.mem_of_getElem? (i := 3) rfl
theorem mw_X7_init_3 : Cond.arrayClass .int ∈ wsX7_init := List.mem_of_getElem? (i := 4) rfl
theorem mw_X7_init_4 : Cond.fieldLink RX7 9 "TidePost$Way" "queue" "[I" ∈ wsX7_init := List.mem_of_getElem? (i := 5) rfl
theorem mw_X7_init_5 : Cond.fieldLink RX7 15 "TidePost$Way" "flight" "[I" ∈ wsX7_init := List.mem_of_getElem? (i := 6) rfl
theorem in_X7_init_X7 : ∀ x ∈ wsX70, x ∈ wsX7_init := fun _ h => List.mem_cons_of_mem _ (List.mem_append_right _ h)
set_option maxHeartbeats 4000000 in
set_option maxRecDepth 100000 in
theorem g_X7_init (w : WPar) (n h0 : Nat) (hn : tp_ik n 6) : MG w yX7_init wsX7_init 1 12 2 30 [.ref h0] [(h0, .inr (6, [.null, .int 0, .int 0, .null, .int 0, .int 0, .int 0]))] (fun u2 => ∃ ad : Nat → Nat, ad n = h0 ∧ u2 = tp_blk (tp_wad w ad) n 3) := by
  refine tp_enterG (cc := cX7_init) (maxL := 2) (own := RX7) (by decide) rfl rfl rfl (Nat.le_of_ble_eq_true rfl) (fun g A C hR => ?_)
  show Zg w g A [(h0, .inr (6, [.null, .int 0, .int 0, .null, .int 0, .int 0, .int 0]))] (0, 0) 0 [(0, .ref h0)] []
  refine y_aload_n C 0 (by rfl) dX7_init_0 ?_
  refine y_objInit C mw_X7_init_0 mw_X7_init_1 mw_X7_init_2 dX7_init_1 (Nat.le_of_ble_eq_true rfl) (Nat.le_of_ble_eq_true rfl) ?_
  refine y_aload_n C 0 (by rfl) dX7_init_4 ?_
  refine y_bipush C 20 (by decide) dX7_init_5 ?_
  refine y_newI C 20 mw_X7_init_3 (by decide) (by decide) (Nat.le_of_ble_eq_true rfl) ⟨Nat.le_of_ble_eq_true rfl, Nat.le_of_ble_eq_true rfl⟩ dX7_init_7 (k2 := (1, 20)) rfl (fun q0 => ?_)
  refine y_eq (u2 := [(h0, .inr (6, [.null, .int 0, .int 0, .null, .int 0, .int 0, .int 0])), (q0, .inl (w.2.2.1 0, 20, .inl (fun _ => 0)))]) rfl ?_
  refine y_put C (ci := 6) (T := TX7) (N := 7) 0 0 (tyX7 0) (by rfl) in_X7_init_X7 tyX7 tyX7_ok nmX7 rfl (by decide) mw_X7_init_4 rfl rfl rfl (tyX7_ok 0 (by decide)) rfl rfl (Nat.le_of_ble_eq_true rfl) (by decide) dX7_init_9 (u2 := [(h0, .inr (6, [.ref q0, .int 0, .int 0, .null, .int 0, .int 0, .int 0])), (q0, .inl (w.2.2.1 0, 20, .inl (fun _ => 0)))]) rfl ?_
  refine y_aload_n C 0 (by rfl) dX7_init_12 ?_
  refine y_bipush C 10 (by decide) dX7_init_13 ?_
  refine y_newI C 10 mw_X7_init_3 (by decide) (by decide) (Nat.le_of_ble_eq_true rfl) ⟨Nat.le_of_ble_eq_true rfl, Nat.le_of_ble_eq_true rfl⟩ dX7_init_15 (k2 := (2, 30)) rfl (fun q1 => ?_)
  refine y_eq (u2 := [(h0, .inr (6, [.ref q0, .int 0, .int 0, .null, .int 0, .int 0, .int 0])), (q0, .inl (w.2.2.1 0, 20, .inl (fun _ => 0))), (q1, .inl (w.2.2.1 0, 10, .inl (fun _ => 0)))]) rfl ?_
  refine y_put C (ci := 6) (T := TX7) (N := 7) 0 3 (tyX7 3) (by rfl) in_X7_init_X7 tyX7 tyX7_ok nmX7 rfl (by decide) mw_X7_init_5 rfl rfl rfl (tyX7_ok 3 (by decide)) rfl rfl (Nat.le_of_ble_eq_true rfl) (by decide) dX7_init_17 (u2 := [(h0, .inr (6, [.ref q0, .int 0, .int 0, .ref q1, .int 0, .int 0, .int 0])), (q0, .inl (w.2.2.1 0, 20, .inl (fun _ => 0))), (q1, .inl (w.2.2.1 0, 10, .inl (fun _ => 0)))]) rfl ?_
  have lp : ∀ (d i : Nat), i + d = 10 → Zg w g A [(h0, .inr (6, [.ref q0, .int 0, .int 0, .ref q1, .int 0, .int 0, .int 0])), (q0, .inl (w.2.2.1 0, 20, .inl (fun _ => 0))), (q1, .inl (w.2.2.1 0, 10, .inl (fun j => if j < i then -1 else 0)))] (2, 30) 22 [(1, .int (nI i)), (0, .ref h0)] [] := by
    intro d
    induction d with
    | zero =>
      intro i hi
      have e1 : i = 10 := by omega
      subst e1
      refine y_iload_n C 0 (by rfl) dX7_init_22 ?_
      refine y_bipush C 10 (by decide) dX7_init_23 ?_
      refine y_icmp_ge (tgt := 41) C dX7_init_25 (by decide) (fun c => ?_) (fun c => absurd (by decide) c)
      exact hR _ _ _ dX7_init_41 ⟨fun x => if x = n then h0 else if x = n + 1 then q0 else q1, if_pos rfl, by rw [tp_blk3, tE6 hn.1, tE8 (tK6_0 hn).1, tE9 (tK6_3 hn).1, tp_t0z hn.1 (by decide), tp_t0z (tK6_0 hn).1 (by decide), tp_t09 (tK6_3 hn).1]; simp [tp_wad]⟩
    | succ d ih =>
      intro i hi
      have hlt : i < 10 := by omega
      refine y_iload_n C 0 (by rfl) dX7_init_22 ?_
      refine y_bipush C 10 (by decide) dX7_init_23 ?_
      refine y_icmp_ge (tgt := 41) C dX7_init_25 (by decide) (fun c => absurd c ?_) (fun c => ?_)
      · exact nI_ge (a := i) (b := 10) hlt (by decide)
      · refine y_aload_n C 1 (by rfl) dX7_init_28 ?_
        refine y_get C (ci := 6) (T := TX7) (N := 7) 0 3 (by rfl) in_X7_init_X7 rfl (by decide) mw_X7_init_5 rfl rfl dX7_init_29 ?_
        refine y_iload_n C 0 (by rfl) dX7_init_32 ?_
        refine y_iconst C (-1) (by decide) dX7_init_33 ?_
        have hv : vp_in (nI i) 10 := vp_in_nI hlt (by decide)
        refine y_iast C 2 (by rfl) hv dX7_init_34 (u2 := [(h0, .inr (6, [.ref q0, .int 0, .int 0, .ref q1, .int 0, .int 0, .int 0])), (q0, .inl (w.2.2.1 0, 20, .inl (fun _ => 0))), (q1, .inl (w.2.2.1 0, 10, .inl (fun j => if j < i + 1 then -1 else 0)))]) ?_ ?_
        · rw [nI_clamp (show i < 2 ^ 31 by omega)]
          show ([(h0, .inr (6, [.ref q0, .int 0, .int 0, .ref q1, .int 0, .int 0, .int 0])), (q0, .inl (w.2.2.1 0, 20, .inl (fun _ => 0))), (q1, .inl (w.2.2.1 0, 10, .inl (upd (fun j => if j < i then -1 else 0) i (-1))))] : va_W) = _
          have e2 : upd (fun j => if j < i then -1 else 0) i (-1) = fun j => if j < i + 1 then (-1 : Int32) else 0 := by
            funext j; unfold upd; by_cases h1 : j = i
            · subst h1; rw [if_pos rfl, if_pos (Nat.lt_succ_self _)]
            · rw [if_neg h1]; dsimp only; by_cases h2 : j < i
              · rw [if_pos h2, if_pos (by omega)]
              · rw [if_neg h2, if_neg (by omega)]
          rw [e2]
        · refine y_iinc C 0 (nI (i + 1)) [(1, .int (nI (i + 1))), (0, .ref h0)] dX7_init_35 (by rfl) (nI_1 i) (by decide) rfl ?_
          refine y_goto (tgt := 22) C dX7_init_38 (by decide) ?_
          exact ih (i + 1) (by omega)
  refine y_iconst C 0 (by decide) dX7_init_20 ?_
  refine y_istore_n C [(1, .int 0), (0, .ref h0)] dX7_init_21 (by decide) rfl ?_
  refine y_eq (u2 := [(h0, .inr (6, [.ref q0, .int 0, .int 0, .ref q1, .int 0, .int 0, .int 0])), (q0, .inl (w.2.2.1 0, 20, .inl (fun _ => 0))), (q1, .inl (w.2.2.1 0, 10, .inl (fun j => if j < 0 then -1 else 0)))]) ?_ ?_
  · rw [show (fun j : Nat => if j < 0 then (-1 : Int32) else 0) = fun _ => 0 from funext fun j => if_neg (Nat.not_lt_zero j)]
  exact lp 10 0 rfl
theorem tp_blk16 (w : WPar) : tp_blk w 1 16 = [(w.1 1, tp_E w 1 (tp_t0 1)), (w.1 2, tp_E w 2 (tp_t0 2)), (w.1 3, tp_E w 3 (tp_t0 3)), (w.1 4, tp_E w 4 (tp_t0 4)), (w.1 5, tp_E w 5 (tp_t0 5)), (w.1 6, tp_E w 6 (tp_t0 6)), (w.1 7, tp_E w 7 (tp_t0 7)), (w.1 8, tp_E w 8 (tp_t0 8)), (w.1 9, tp_E w 9 (tp_t0 9)), (w.1 10, tp_E w 10 (tp_t0 10)), (w.1 11, tp_E w 11 (tp_t0 11)), (w.1 12, tp_E w 12 (tp_t0 12)), (w.1 13, tp_E w 13 (tp_t0 13)), (w.1 14, tp_E w 14 (tp_t0 14)), (w.1 15, tp_E w 15 (tp_t0 15)), (w.1 16, tp_E w 16 (tp_t0 16))] := rfl
theorem mw_X3_init_0 : Cond.methodLink RX3 3 objectInit ∈ wsX3_init := List.mem_of_getElem? (i := 1) rfl
theorem mw_X3_init_1 : Cond.instanceMethod objectInit ∈ wsX3_init := List.mem_of_getElem? (i := 2) rfl
theorem mw_X3_init_2 : Cond.code objectInit ⟨#[0xb1]⟩ 1 none ∈ wsX3_init := List.mem_of_getElem? (i := 3) rfl
theorem mw_X3_init_3 : Cond.arrayClass .int ∈ wsX3_init := List.mem_of_getElem? (i := 4) rfl
theorem mw_X3_init_4 : Cond.fieldLink RX3 9 "TidePost$Net" "firsts" "[I" ∈ wsX3_init := List.mem_of_getElem? (i := 5) rfl
theorem mw_X3_init_5 : Cond.fieldLink RX3 15 "TidePost$Net" "seconds" "[I" ∈ wsX3_init := List.mem_of_getElem? (i := 6) rfl
theorem mw_X3_init_6 : Cond.fieldLink RX3 18 "TidePost$Net" "delays" "[I" ∈ wsX3_init := List.mem_of_getElem? (i := 7) rfl
theorem mw_X3_init_7 : Cond.fieldLink RX3 21 "TidePost$Net" "rooms" "[I" ∈ wsX3_init := List.mem_of_getElem? (i := 8) rfl
theorem mw_X3_init_8 : Cond.arrayClass .boolean ∈ wsX3_init := List.mem_of_getElem? (i := 9) rfl
theorem mw_X3_init_9 : Cond.fieldLink RX3 24 "TidePost$Net" "up" "[Z" ∈ wsX3_init := List.mem_of_getElem? (i := 10) rfl
theorem mw_X3_init_10 : Cond.classLink RX3 28 "[[I" ∈ wsX3_init := List.mem_of_getElem? (i := 11) rfl
theorem mw_X3_init_11 : Cond.fieldLink RX3 30 "TidePost$Net" "distances" "[[I" ∈ wsX3_init := List.mem_of_getElem? (i := 12) rfl
theorem mw_X3_init_12 : Cond.fieldLink RX3 33 "TidePost$Net" "trial" "[I" ∈ wsX3_init := List.mem_of_getElem? (i := 13) rfl
theorem in_X3_init_X3 : ∀ x ∈ wsX30, x ∈ wsX3_init := fun _ h => List.mem_cons_of_mem _ (List.mem_append_right _ h)
set_option maxHeartbeats 4000000 in
set_option maxRecDepth 100000 in
theorem g_X3_init (w : WPar) (h0 : Nat) : MG w yX3_init wsX3_init 1 12 15 140 [.ref h0] [(h0, .inr (3, [.int 0, .int 0, .null, .null, .null, .null, .null, .null, .null]))] (fun u2 => ∃ ad : Nat → Nat, ad 1 = h0 ∧ u2 = tp_blk (tp_wad w ad) 1 16) := by
  refine tp_enterG (cc := cX3_init) (maxL := 1) (own := RX3) (by decide) rfl rfl rfl (Nat.le_of_ble_eq_true rfl) (fun g A C hR => ?_)
  show Zg w g A [(h0, .inr (3, [.int 0, .int 0, .null, .null, .null, .null, .null, .null, .null]))] (0, 0) 0 [(0, .ref h0)] []
  refine y_aload_n C 0 (by rfl) dX3_init_0 ?_
  refine y_objInit C mw_X3_init_0 mw_X3_init_1 mw_X3_init_2 dX3_init_1 (Nat.le_of_ble_eq_true rfl) (Nat.le_of_ble_eq_true rfl) ?_
  refine y_aload_n C 0 (by rfl) dX3_init_4 ?_
  refine y_bipush C 12 (by decide) dX3_init_5 ?_
  refine y_newI C 12 mw_X3_init_3 (by decide) (by decide) (Nat.le_of_ble_eq_true rfl) ⟨Nat.le_of_ble_eq_true rfl, Nat.le_of_ble_eq_true rfl⟩ dX3_init_7 (k2 := (1, 12)) rfl (fun q0 => ?_)
  refine y_eq (u2 := [(h0, .inr (3, [.int 0, .int 0, .null, .null, .null, .null, .null, .null, .null])), (q0, .inl (w.2.2.1 0, 12, .inl (fun _ => 0)))]) rfl ?_
  refine y_put C (ci := 3) (T := TX3) (N := 9) 0 2 (tyX3 2) (by rfl) in_X3_init_X3 tyX3 tyX3_ok nmX3 rfl (by decide) mw_X3_init_4 rfl rfl rfl (tyX3_ok 2 (by decide)) rfl rfl (Nat.le_of_ble_eq_true rfl) (by decide) dX3_init_9 (u2 := [(h0, .inr (3, [.int 0, .int 0, .ref q0, .null, .null, .null, .null, .null, .null])), (q0, .inl (w.2.2.1 0, 12, .inl (fun _ => 0)))]) rfl ?_
  refine y_aload_n C 0 (by rfl) dX3_init_12 ?_
  refine y_bipush C 12 (by decide) dX3_init_13 ?_
  refine y_newI C 12 mw_X3_init_3 (by decide) (by decide) (Nat.le_of_ble_eq_true rfl) ⟨Nat.le_of_ble_eq_true rfl, Nat.le_of_ble_eq_true rfl⟩ dX3_init_15 (k2 := (2, 24)) rfl (fun q1 => ?_)
  refine y_eq (u2 := [(h0, .inr (3, [.int 0, .int 0, .ref q0, .null, .null, .null, .null, .null, .null])), (q0, .inl (w.2.2.1 0, 12, .inl (fun _ => 0))), (q1, .inl (w.2.2.1 0, 12, .inl (fun _ => 0)))]) rfl ?_
  refine y_put C (ci := 3) (T := TX3) (N := 9) 0 3 (tyX3 3) (by rfl) in_X3_init_X3 tyX3 tyX3_ok nmX3 rfl (by decide) mw_X3_init_5 rfl rfl rfl (tyX3_ok 3 (by decide)) rfl rfl (Nat.le_of_ble_eq_true rfl) (by decide) dX3_init_17 (u2 := [(h0, .inr (3, [.int 0, .int 0, .ref q0, .ref q1, .null, .null, .null, .null, .null])), (q0, .inl (w.2.2.1 0, 12, .inl (fun _ => 0))), (q1, .inl (w.2.2.1 0, 12, .inl (fun _ => 0)))]) rfl ?_
  refine y_aload_n C 0 (by rfl) dX3_init_20 ?_
  refine y_bipush C 12 (by decide) dX3_init_21 ?_
  refine y_newI C 12 mw_X3_init_3 (by decide) (by decide) (Nat.le_of_ble_eq_true rfl) ⟨Nat.le_of_ble_eq_true rfl, Nat.le_of_ble_eq_true rfl⟩ dX3_init_23 (k2 := (3, 36)) rfl (fun q2 => ?_)
  refine y_eq (u2 := [(h0, .inr (3, [.int 0, .int 0, .ref q0, .ref q1, .null, .null, .null, .null, .null])), (q0, .inl (w.2.2.1 0, 12, .inl (fun _ => 0))), (q1, .inl (w.2.2.1 0, 12, .inl (fun _ => 0))), (q2, .inl (w.2.2.1 0, 12, .inl (fun _ => 0)))]) rfl ?_
  refine y_put C (ci := 3) (T := TX3) (N := 9) 0 4 (tyX3 4) (by rfl) in_X3_init_X3 tyX3 tyX3_ok nmX3 rfl (by decide) mw_X3_init_6 rfl rfl rfl (tyX3_ok 4 (by decide)) rfl rfl (Nat.le_of_ble_eq_true rfl) (by decide) dX3_init_25 (u2 := [(h0, .inr (3, [.int 0, .int 0, .ref q0, .ref q1, .ref q2, .null, .null, .null, .null])), (q0, .inl (w.2.2.1 0, 12, .inl (fun _ => 0))), (q1, .inl (w.2.2.1 0, 12, .inl (fun _ => 0))), (q2, .inl (w.2.2.1 0, 12, .inl (fun _ => 0)))]) rfl ?_
  refine y_aload_n C 0 (by rfl) dX3_init_28 ?_
  refine y_bipush C 12 (by decide) dX3_init_29 ?_
  refine y_newI C 12 mw_X3_init_3 (by decide) (by decide) (Nat.le_of_ble_eq_true rfl) ⟨Nat.le_of_ble_eq_true rfl, Nat.le_of_ble_eq_true rfl⟩ dX3_init_31 (k2 := (4, 48)) rfl (fun q3 => ?_)
  refine y_eq (u2 := [(h0, .inr (3, [.int 0, .int 0, .ref q0, .ref q1, .ref q2, .null, .null, .null, .null])), (q0, .inl (w.2.2.1 0, 12, .inl (fun _ => 0))), (q1, .inl (w.2.2.1 0, 12, .inl (fun _ => 0))), (q2, .inl (w.2.2.1 0, 12, .inl (fun _ => 0))), (q3, .inl (w.2.2.1 0, 12, .inl (fun _ => 0)))]) rfl ?_
  refine y_put C (ci := 3) (T := TX3) (N := 9) 0 5 (tyX3 5) (by rfl) in_X3_init_X3 tyX3 tyX3_ok nmX3 rfl (by decide) mw_X3_init_7 rfl rfl rfl (tyX3_ok 5 (by decide)) rfl rfl (Nat.le_of_ble_eq_true rfl) (by decide) dX3_init_33 (u2 := [(h0, .inr (3, [.int 0, .int 0, .ref q0, .ref q1, .ref q2, .ref q3, .null, .null, .null])), (q0, .inl (w.2.2.1 0, 12, .inl (fun _ => 0))), (q1, .inl (w.2.2.1 0, 12, .inl (fun _ => 0))), (q2, .inl (w.2.2.1 0, 12, .inl (fun _ => 0))), (q3, .inl (w.2.2.1 0, 12, .inl (fun _ => 0)))]) rfl ?_
  refine y_aload_n C 0 (by rfl) dX3_init_36 ?_
  refine y_bipush C 12 (by decide) dX3_init_37 ?_
  refine y_newZ C 12 mw_X3_init_8 (by decide) (by decide) (Nat.le_of_ble_eq_true rfl) ⟨Nat.le_of_ble_eq_true rfl, Nat.le_of_ble_eq_true rfl⟩ dX3_init_39 (k2 := (5, 60)) rfl (fun q4 => ?_)
  refine y_eq (u2 := [(h0, .inr (3, [.int 0, .int 0, .ref q0, .ref q1, .ref q2, .ref q3, .null, .null, .null])), (q0, .inl (w.2.2.1 0, 12, .inl (fun _ => 0))), (q1, .inl (w.2.2.1 0, 12, .inl (fun _ => 0))), (q2, .inl (w.2.2.1 0, 12, .inl (fun _ => 0))), (q3, .inl (w.2.2.1 0, 12, .inl (fun _ => 0))), (q4, .inl (w.2.2.1 1, 12, .inl (fun _ => 0)))]) rfl ?_
  refine y_put C (ci := 3) (T := TX3) (N := 9) 0 6 (tyX3 6) (by rfl) in_X3_init_X3 tyX3 tyX3_ok nmX3 rfl (by decide) mw_X3_init_9 rfl rfl rfl (tyX3_ok 6 (by decide)) rfl rfl (Nat.le_of_ble_eq_true rfl) (by decide) dX3_init_41 (u2 := [(h0, .inr (3, [.int 0, .int 0, .ref q0, .ref q1, .ref q2, .ref q3, .ref q4, .null, .null])), (q0, .inl (w.2.2.1 0, 12, .inl (fun _ => 0))), (q1, .inl (w.2.2.1 0, 12, .inl (fun _ => 0))), (q2, .inl (w.2.2.1 0, 12, .inl (fun _ => 0))), (q3, .inl (w.2.2.1 0, 12, .inl (fun _ => 0))), (q4, .inl (w.2.2.1 1, 12, .inl (fun _ => 0)))]) rfl ?_
  refine y_aload_n C 0 (by rfl) dX3_init_44 ?_
  refine y_bipush C 8 (by decide) dX3_init_45 ?_
  refine y_bipush C 8 (by decide) dX3_init_47 ?_
  refine y_mna C 8 8 mw_X3_init_10 mw_X3_init_3 (by decide) (by decide) (by decide) (by decide) (Nat.le_of_ble_eq_true rfl) (Nat.le_of_ble_eq_true rfl) (Nat.le_of_ble_eq_true rfl) ⟨Nat.le_of_ble_eq_true rfl, Nat.le_of_ble_eq_true rfl⟩ dX3_init_49 (k2 := (14, 132)) rfl (fun qo r => ?_)
  refine y_eq (u2 := [(h0, .inr (3, [.int 0, .int 0, .ref q0, .ref q1, .ref q2, .ref q3, .ref q4, .null, .null])), (q0, .inl (w.2.2.1 0, 12, .inl (fun _ => 0))), (q1, .inl (w.2.2.1 0, 12, .inl (fun _ => 0))), (q2, .inl (w.2.2.1 0, 12, .inl (fun _ => 0))), (q3, .inl (w.2.2.1 0, 12, .inl (fun _ => 0))), (q4, .inl (w.2.2.1 1, 12, .inl (fun _ => 0))), (qo, .inl (w.2.2.1 4, 8, .inr (.inr (.inr (.inr (fun i => if i < 8 then some (r i) else none)))))), (r 0, .inl (w.2.2.1 0, 8, .inl (fun _ => 0))), (r 1, .inl (w.2.2.1 0, 8, .inl (fun _ => 0))), (r 2, .inl (w.2.2.1 0, 8, .inl (fun _ => 0))), (r 3, .inl (w.2.2.1 0, 8, .inl (fun _ => 0))), (r 4, .inl (w.2.2.1 0, 8, .inl (fun _ => 0))), (r 5, .inl (w.2.2.1 0, 8, .inl (fun _ => 0))), (r 6, .inl (w.2.2.1 0, 8, .inl (fun _ => 0))), (r 7, .inl (w.2.2.1 0, 8, .inl (fun _ => 0)))]) rfl ?_
  refine y_put C (ci := 3) (T := TX3) (N := 9) 0 7 (tyX3 7) (by rfl) in_X3_init_X3 tyX3 tyX3_ok nmX3 rfl (by decide) mw_X3_init_11 rfl rfl rfl (tyX3_ok 7 (by decide)) rfl rfl (Nat.le_of_ble_eq_true rfl) (by decide) dX3_init_53 (u2 := [(h0, .inr (3, [.int 0, .int 0, .ref q0, .ref q1, .ref q2, .ref q3, .ref q4, .ref qo, .null])), (q0, .inl (w.2.2.1 0, 12, .inl (fun _ => 0))), (q1, .inl (w.2.2.1 0, 12, .inl (fun _ => 0))), (q2, .inl (w.2.2.1 0, 12, .inl (fun _ => 0))), (q3, .inl (w.2.2.1 0, 12, .inl (fun _ => 0))), (q4, .inl (w.2.2.1 1, 12, .inl (fun _ => 0))), (qo, .inl (w.2.2.1 4, 8, .inr (.inr (.inr (.inr (fun i => if i < 8 then some (r i) else none)))))), (r 0, .inl (w.2.2.1 0, 8, .inl (fun _ => 0))), (r 1, .inl (w.2.2.1 0, 8, .inl (fun _ => 0))), (r 2, .inl (w.2.2.1 0, 8, .inl (fun _ => 0))), (r 3, .inl (w.2.2.1 0, 8, .inl (fun _ => 0))), (r 4, .inl (w.2.2.1 0, 8, .inl (fun _ => 0))), (r 5, .inl (w.2.2.1 0, 8, .inl (fun _ => 0))), (r 6, .inl (w.2.2.1 0, 8, .inl (fun _ => 0))), (r 7, .inl (w.2.2.1 0, 8, .inl (fun _ => 0)))]) rfl ?_
  refine y_aload_n C 0 (by rfl) dX3_init_56 ?_
  refine y_bipush C 8 (by decide) dX3_init_57 ?_
  refine y_newI C 8 mw_X3_init_3 (by decide) (by decide) (Nat.le_of_ble_eq_true rfl) ⟨Nat.le_of_ble_eq_true rfl, Nat.le_of_ble_eq_true rfl⟩ dX3_init_59 (k2 := (15, 140)) rfl (fun q5 => ?_)
  refine y_eq (u2 := [(h0, .inr (3, [.int 0, .int 0, .ref q0, .ref q1, .ref q2, .ref q3, .ref q4, .ref qo, .null])), (q0, .inl (w.2.2.1 0, 12, .inl (fun _ => 0))), (q1, .inl (w.2.2.1 0, 12, .inl (fun _ => 0))), (q2, .inl (w.2.2.1 0, 12, .inl (fun _ => 0))), (q3, .inl (w.2.2.1 0, 12, .inl (fun _ => 0))), (q4, .inl (w.2.2.1 1, 12, .inl (fun _ => 0))), (qo, .inl (w.2.2.1 4, 8, .inr (.inr (.inr (.inr (fun i => if i < 8 then some (r i) else none)))))), (r 0, .inl (w.2.2.1 0, 8, .inl (fun _ => 0))), (r 1, .inl (w.2.2.1 0, 8, .inl (fun _ => 0))), (r 2, .inl (w.2.2.1 0, 8, .inl (fun _ => 0))), (r 3, .inl (w.2.2.1 0, 8, .inl (fun _ => 0))), (r 4, .inl (w.2.2.1 0, 8, .inl (fun _ => 0))), (r 5, .inl (w.2.2.1 0, 8, .inl (fun _ => 0))), (r 6, .inl (w.2.2.1 0, 8, .inl (fun _ => 0))), (r 7, .inl (w.2.2.1 0, 8, .inl (fun _ => 0))), (q5, .inl (w.2.2.1 0, 8, .inl (fun _ => 0)))]) rfl ?_
  refine y_put C (ci := 3) (T := TX3) (N := 9) 0 8 (tyX3 8) (by rfl) in_X3_init_X3 tyX3 tyX3_ok nmX3 rfl (by decide) mw_X3_init_12 rfl rfl rfl (tyX3_ok 8 (by decide)) rfl rfl (Nat.le_of_ble_eq_true rfl) (by decide) dX3_init_61 (u2 := [(h0, .inr (3, [.int 0, .int 0, .ref q0, .ref q1, .ref q2, .ref q3, .ref q4, .ref qo, .ref q5])), (q0, .inl (w.2.2.1 0, 12, .inl (fun _ => 0))), (q1, .inl (w.2.2.1 0, 12, .inl (fun _ => 0))), (q2, .inl (w.2.2.1 0, 12, .inl (fun _ => 0))), (q3, .inl (w.2.2.1 0, 12, .inl (fun _ => 0))), (q4, .inl (w.2.2.1 1, 12, .inl (fun _ => 0))), (qo, .inl (w.2.2.1 4, 8, .inr (.inr (.inr (.inr (fun i => if i < 8 then some (r i) else none)))))), (r 0, .inl (w.2.2.1 0, 8, .inl (fun _ => 0))), (r 1, .inl (w.2.2.1 0, 8, .inl (fun _ => 0))), (r 2, .inl (w.2.2.1 0, 8, .inl (fun _ => 0))), (r 3, .inl (w.2.2.1 0, 8, .inl (fun _ => 0))), (r 4, .inl (w.2.2.1 0, 8, .inl (fun _ => 0))), (r 5, .inl (w.2.2.1 0, 8, .inl (fun _ => 0))), (r 6, .inl (w.2.2.1 0, 8, .inl (fun _ => 0))), (r 7, .inl (w.2.2.1 0, 8, .inl (fun _ => 0))), (q5, .inl (w.2.2.1 0, 8, .inl (fun _ => 0)))]) rfl ?_
  refine hR _ _ _ dX3_init_64 ⟨fun x => if x = 1 then h0 else if x = 2 then q0 else if x = 3 then q1 else if x = 4 then q2 else if x = 5 then q3 else if x = 6 then q4 else if x = 7 then qo else if x = 16 then q5 else r (x - 8), rfl, ?_⟩
  have e9 : ∀ f : Nat → Nat, (fun j => if j < 8 then some (f (8 + j)) else none) = fun j => if j < 8 then some ((fun j => f (8 + j)) j) else none := fun _ => rfl
  rw [tp_blk16, tE3 (show tp_kd 1 = 3 by decide), tE11 (show tp_kd 2 = 11 by decide), tE11 (show tp_kd 3 = 11 by decide), tE11 (show tp_kd 4 = 11 by decide), tE11 (show tp_kd 5 = 11 by decide), tE12 (show tp_kd 6 = 12 by decide), tE14 (show tp_kd 7 = 14 by decide), tE13 (show tp_kd 8 = 13 by decide), tE13 (show tp_kd 9 = 13 by decide), tE13 (show tp_kd 10 = 13 by decide), tE13 (show tp_kd 11 = 13 by decide), tE13 (show tp_kd 12 = 13 by decide), tE13 (show tp_kd 13 = 13 by decide), tE13 (show tp_kd 14 = 13 by decide), tE13 (show tp_kd 15 = 13 by decide), tE13 (show tp_kd 16 = 13 by decide), tp_t0z (show tp_kd 1 = 3 by decide) (by decide), tp_t0z (show tp_kd 2 = 11 by decide) (by decide), tp_t0z (show tp_kd 3 = 11 by decide) (by decide), tp_t0z (show tp_kd 4 = 11 by decide) (by decide), tp_t0z (show tp_kd 5 = 11 by decide) (by decide), tp_t0z (show tp_kd 6 = 12 by decide) (by decide), tp_t0z (show tp_kd 8 = 13 by decide) (by decide), tp_t0z (show tp_kd 9 = 13 by decide) (by decide), tp_t0z (show tp_kd 10 = 13 by decide) (by decide), tp_t0z (show tp_kd 11 = 13 by decide) (by decide), tp_t0z (show tp_kd 12 = 13 by decide) (by decide), tp_t0z (show tp_kd 13 = 13 by decide) (by decide), tp_t0z (show tp_kd 14 = 13 by decide) (by decide), tp_t0z (show tp_kd 15 = 13 by decide) (by decide), tp_t0z (show tp_kd 16 = 13 by decide) (by decide)]
  have e8 : (fun j : Nat => if j < 8 then some ((tp_wad w (fun x => if x = 1 then h0 else if x = 2 then q0 else if x = 3 then q1 else if x = 4 then q2 else if x = 5 then q3 else if x = 6 then q4 else if x = 7 then qo else if x = 16 then q5 else r (x - 8))).1 (8 + j)) else none) = fun i => if i < 8 then some (r i) else none := by
    funext j; by_cases hj : j < 8
    · rw [if_pos hj, if_pos hj]; rcases (show j = 0 ∨ j = 1 ∨ j = 2 ∨ j = 3 ∨ j = 4 ∨ j = 5 ∨ j = 6 ∨ j = 7 by omega) with rfl | rfl | rfl | rfl | rfl | rfl | rfl | rfl <;> rfl
    · rw [if_neg hj, if_neg hj]
  rw [e8]
  rfl
theorem tp_cl_way : ∀ b : Fin 2, ∀ j : Fin 24, ∀ x : Fin 3, ∀ r ∈ tp_refs (17 + 105 * b.val + 3 + 3 * j.val + x.val), 17 + 105 * b.val + 3 + 3 * j.val ≤ r ∧ r < 17 + 105 * b.val + 3 + 3 * (j.val + 1) := by decide +kernel
theorem tp_cl_con : ∀ b : Fin 2, ∀ j : Fin 6, ∀ x : Fin 5, ∀ r ∈ tp_refs (17 + 105 * b.val + 75 + 5 * j.val + x.val), 17 + 105 * b.val + 75 + 5 * j.val ≤ r ∧ r < 17 + 105 * b.val + 75 + 5 * (j.val + 1) := by decide +kernel
theorem tp_kd_way : ∀ b : Fin 2, ∀ j : Fin 24, tp_ik (17 + 105 * b.val + 3 + 3 * j.val) 6 := by unfold tp_ik; decide +kernel
theorem tp_kd_con : ∀ b : Fin 2, ∀ j : Fin 6, tp_ik (17 + 105 * b.val + 75 + 5 * j.val) 2 := by unfold tp_ik; decide +kernel
theorem tp_kd_tr : ∀ b : Fin 2, tp_kd (17 + 105 * b.val) = 5 ∧ tp_kd (17 + 105 * b.val + 1) = 15 ∧ tp_kd (17 + 105 * b.val + 2) = 16 := by decide +kernel
/-- the new cells' addresses behind the old ones' -/
def tp_mrg (ad ad2 : Nat → Nat) (b : Nat) : Nat → Nat := fun x => if x < b then ad x else ad2 x
theorem tp_ways_add (w : WPar) (b : Fin 2) {i : Nat} (hi : i < 24) (ad ad2 : Nat → Nat) : tp_blk (tp_wad w ad) (17 + 105 * b.val + 3) (3 * i) ++ tp_blk (tp_wad w ad2) (17 + 105 * b.val + 3 + 3 * i) 3 = tp_blk (tp_wad w (tp_mrg ad ad2 (17 + 105 * b.val + 3 + 3 * i))) (17 + 105 * b.val + 3) (3 * (i + 1)) := by
  rw [show 3 * (i + 1) = 3 * i + 3 by omega, ← tp_blk_app]
  congr 1
  · apply tp_blk_congr
    · intro j h1 h2
      have h3 : ∀ r ∈ tp_refs j, r < 17 + 105 * b.val + 3 + 3 * i := by
        intro r hr
        have h4 := tp_cl_way b ⟨(j - (17 + 105 * b.val + 3)) / 3, by omega⟩ ⟨(j - (17 + 105 * b.val + 3)) % 3, by omega⟩ r (by
          show r ∈ tp_refs (17 + 105 * b.val + 3 + 3 * ((j - (17 + 105 * b.val + 3)) / 3) + (j - (17 + 105 * b.val + 3)) % 3)
          rw [show 17 + 105 * b.val + 3 + 3 * ((j - (17 + 105 * b.val + 3)) / 3) + (j - (17 + 105 * b.val + 3)) % 3 = j by omega]; exact hr)
        have h5 := h4.2
        dsimp only at h5
        omega
      exact ⟨(if_pos (by omega)).symm, fun r hr => (if_pos (h3 r hr)).symm⟩
    · rfl
  · apply tp_blk_congr
    · intro j h1 h2
      have h3 : ∀ r ∈ tp_refs j, ¬ r < 17 + 105 * b.val + 3 + 3 * i := by
        intro r hr
        have h4 := tp_cl_way b ⟨i, hi⟩ ⟨j - (17 + 105 * b.val + 3 + 3 * i), by omega⟩ r (by
          show r ∈ tp_refs (17 + 105 * b.val + 3 + 3 * i + (j - (17 + 105 * b.val + 3 + 3 * i)))
          rw [show 17 + 105 * b.val + 3 + 3 * i + (j - (17 + 105 * b.val + 3 + 3 * i)) = j by omega]; exact hr)
        have h5 := h4.1
        dsimp only at h5
        omega
      exact ⟨(if_neg (by omega)).symm, fun r hr => (if_neg (h3 r hr)).symm⟩
    · rfl
theorem tp_cons_add (w : WPar) (b : Fin 2) {i : Nat} (hi : i < 6) (ad ad2 : Nat → Nat) : tp_blk (tp_wad w ad) (17 + 105 * b.val + 75) (5 * i) ++ tp_blk (tp_wad w ad2) (17 + 105 * b.val + 75 + 5 * i) 5 = tp_blk (tp_wad w (tp_mrg ad ad2 (17 + 105 * b.val + 75 + 5 * i))) (17 + 105 * b.val + 75) (5 * (i + 1)) := by
  rw [show 5 * (i + 1) = 5 * i + 5 by omega, ← tp_blk_app]
  congr 1
  · apply tp_blk_congr
    · intro j h1 h2
      have h3 : ∀ r ∈ tp_refs j, r < 17 + 105 * b.val + 75 + 5 * i := by
        intro r hr
        have h4 := tp_cl_con b ⟨(j - (17 + 105 * b.val + 75)) / 5, by omega⟩ ⟨(j - (17 + 105 * b.val + 75)) % 5, by omega⟩ r (by
          show r ∈ tp_refs (17 + 105 * b.val + 75 + 5 * ((j - (17 + 105 * b.val + 75)) / 5) + (j - (17 + 105 * b.val + 75)) % 5)
          rw [show 17 + 105 * b.val + 75 + 5 * ((j - (17 + 105 * b.val + 75)) / 5) + (j - (17 + 105 * b.val + 75)) % 5 = j by omega]; exact hr)
        have h5 := h4.2
        dsimp only at h5
        omega
      exact ⟨(if_pos (by omega)).symm, fun r hr => (if_pos (h3 r hr)).symm⟩
    · rfl
  · apply tp_blk_congr
    · intro j h1 h2
      have h3 : ∀ r ∈ tp_refs j, ¬ r < 17 + 105 * b.val + 75 + 5 * i := by
        intro r hr
        have h4 := tp_cl_con b ⟨i, hi⟩ ⟨j - (17 + 105 * b.val + 75 + 5 * i), by omega⟩ r (by
          show r ∈ tp_refs (17 + 105 * b.val + 75 + 5 * i + (j - (17 + 105 * b.val + 75 + 5 * i)))
          rw [show 17 + 105 * b.val + 75 + 5 * i + (j - (17 + 105 * b.val + 75 + 5 * i)) = j by omega]; exact hr)
        have h5 := h4.1
        dsimp only at h5
        omega
      exact ⟨(if_neg (by omega)).symm, fun r hr => (if_neg (h3 r hr)).symm⟩
    · rfl
/-- the ways stay as the connections come -/
theorem tp_ways_keep (w : WPar) (b : Fin 2) (ad ad2 : Nat → Nat) {c : Nat} (hc : 17 + 105 * b.val + 75 ≤ c) : tp_blk (tp_wad w ad) (17 + 105 * b.val + 3) 72 = tp_blk (tp_wad w (tp_mrg ad ad2 c)) (17 + 105 * b.val + 3) 72 := by
  apply tp_blk_congr
  · intro j h1 h2
    have h3 : ∀ r ∈ tp_refs j, r < c := by
      intro r hr
      have h4 := tp_cl_way b ⟨(j - (17 + 105 * b.val + 3)) / 3, by omega⟩ ⟨(j - (17 + 105 * b.val + 3)) % 3, by omega⟩ r (by
        show r ∈ tp_refs (17 + 105 * b.val + 3 + 3 * ((j - (17 + 105 * b.val + 3)) / 3) + (j - (17 + 105 * b.val + 3)) % 3)
        rw [show 17 + 105 * b.val + 3 + 3 * ((j - (17 + 105 * b.val + 3)) / 3) + (j - (17 + 105 * b.val + 3)) % 3 = j by omega]; exact hr)
      have h5 := h4.2
      dsimp only at h5
      omega
    exact ⟨(if_pos (by omega)).symm, fun r hr => (if_pos (h3 r hr)).symm⟩
  · rfl
theorem y_k {w : WPar} {g : Cxt} {A : Nat → Prop} {u : va_W} {k k2 : Nat × Nat} {pc : Nat} {ls : List (Nat × Value)} {st : List Value} (h : k = k2) (kk : Zg w g A u k2 pc ls st) : Zg w g A u k pc ls st := h ▸ kk
theorem tp_blk_at (w : WPar) {i k j : Nat} (h : j < k) : (tp_blk w i k)[j]? = some (w.1 (i + j), tp_E w (i + j) (tp_t0 (i + j))) := by
  unfold tp_blk
  rw [List.getElem?_map, List.getElem?_range' h]
  simp
theorem tp_findw (w : WPar) (b : Fin 2) {i : Nat} (hi : i < 24) (ad : Nat → Nat) (X : va_W) : (X ++ tp_blk (tp_wad w ad) (17 + 105 * b.val + 3) (3 * (i + 1)))[X.length + 3 * i]? = some (ad (17 + 105 * b.val + 3 + 3 * i), .inr (6, [.ref (ad (17 + 105 * b.val + 3 + 3 * i + 1)), .int 0, .int 0, .ref (ad (17 + 105 * b.val + 3 + 3 * i + 2)), .int 0, .int 0, .int 0])) := by
  rw [tp_lastAt, tp_blk_at _ (by omega), tE6 (tp_kd_way b ⟨i, hi⟩).1, tp_t0z (tp_kd_way b ⟨i, hi⟩).1 (by decide)]
  rfl
theorem tp_findc (w : WPar) (b : Fin 2) {i : Nat} (hi : i < 6) (ad : Nat → Nat) (X : va_W) : (X ++ (tp_blk (tp_wad w ad) (17 + 105 * b.val + 3) 72 ++ tp_blk (tp_wad w ad) (17 + 105 * b.val + 75) (5 * (i + 1))))[X.length + (72 + 5 * i)]? = some (ad (17 + 105 * b.val + 75 + 5 * i), .inr (2, [.int 0, .int 0, .ref (ad (17 + 105 * b.val + 75 + 5 * i + 1)), .ref (ad (17 + 105 * b.val + 75 + 5 * i + 3))])) := by
  rw [tp_lastAt, show 72 + 5 * i = (tp_blk (tp_wad w ad) (17 + 105 * b.val + 3) 72).length + 5 * i by simp [tp_blk], tp_lastAt, tp_blk_at _ (by omega), tE2 (tp_kd_con b ⟨i, hi⟩).1, tp_t0z (tp_kd_con b ⟨i, hi⟩).1 (by decide)]
  rfl
theorem mw_X6_init_0 : Cond.methodLink RX6 3 objectInit ∈ wsX6_init := List.mem_of_getElem? (i := 1) rfl
theorem mw_X6_init_1 : Cond.instanceMethod objectInit ∈ wsX6_init := List.mem_of_getElem? (i := 2) rfl
theorem mw_X6_init_2 : Cond.code objectInit ⟨#[0xb1]⟩ 1 none ∈ wsX6_init := List.mem_of_getElem? (i := 3) rfl
theorem mw_X6_init_3 : Cond.classLink RX6 9 RX7 ∈ wsX6_init := List.mem_of_getElem? (i := 4) rfl
theorem mw_X6_init_4 : Cond.fieldLink RX6 11 "TidePost$Traffic" "ways" "[LTidePost$Way;" ∈ wsX6_init := List.mem_of_getElem? (i := 5) rfl
theorem mw_X6_init_5 : Cond.classLink RX6 17 RX2 ∈ wsX6_init := List.mem_of_getElem? (i := 6) rfl
theorem mw_X6_init_6 : Cond.fieldLink RX6 19 "TidePost$Traffic" "all" "[LTidePost$Connection;" ∈ wsX6_init := List.mem_of_getElem? (i := 7) rfl
theorem mw_X6_init_7 : Cond.fieldLink RX6 23 "TidePost$Traffic" "net" "LTidePost$Net;" ∈ wsX6_init := List.mem_of_getElem? (i := 8) rfl
theorem mw_X6_init_10 : Cond.instantiable RX2 4 ∈ wsX6_init := List.mem_of_getElem? (i := 11) rfl
theorem mw_X6_init_11 : Cond.initialized RX2 ∈ wsX6_init := List.mem_of_getElem? (i := 12) rfl
theorem mw_X6_init_19 : Cond.instanceMethod yX2_init ∈ wsX6_init := List.mem_of_getElem? (i := 20) rfl
theorem mw_X6_init_8 : Cond.instantiable RX7 7 ∈ wsX6_init := List.mem_of_getElem? (i := 9) rfl
theorem mw_X6_init_9 : Cond.initialized RX7 ∈ wsX6_init := List.mem_of_getElem? (i := 10) rfl
theorem mw_X6_init_12 : Cond.methodLink RX6 27 yX7_init ∈ wsX6_init := List.mem_of_getElem? (i := 13) rfl
theorem mw_X6_init_13 : Cond.instanceMethod yX7_init ∈ wsX6_init := List.mem_of_getElem? (i := 14) rfl
theorem in_X6_init_X6 : ∀ x ∈ wsX60, x ∈ wsX6_init := fun _ h => List.mem_cons_of_mem _ (List.mem_append_left _ (List.mem_append_left _ (List.mem_append_left _ (List.mem_append_left _ (List.mem_append_left _ (List.mem_append_right _ h))))))
theorem in_X6_init_X7 : ∀ x ∈ wsX70, x ∈ wsX6_init := fun _ h => List.mem_cons_of_mem _ (List.mem_append_left _ (List.mem_append_left _ (List.mem_append_left _ (List.mem_append_left _ (List.mem_append_right _ h)))))
theorem in_X6_init_X2 : ∀ x ∈ wsX20, x ∈ wsX6_init := fun _ h => List.mem_cons_of_mem _ (List.mem_append_left _ (List.mem_append_left _ (List.mem_append_left _ (List.mem_append_right _ h))))
set_option maxHeartbeats 4000000 in
set_option maxRecDepth 100000 in
theorem g_X6_init (w : WPar) (b : Fin 2) (h0 h1 : Nat) : MG w yX6_init wsX6_init 4 72 104 2286 [.ref h0, .ref h1] [(h0, .inr (5, [.null, .null, .null, .int 0, .int 0, .int 0]))] (fun u2 => ∃ ad : Nat → Nat, ad (17 + 105 * b.val) = h0 ∧ ad 1 = h1 ∧ u2 = tp_blk (tp_wad w ad) (17 + 105 * b.val) 105) := by
  refine tp_enterG (cc := cX6_init) (maxL := 3) (own := RX6) (by decide) rfl rfl rfl (Nat.le_of_ble_eq_true rfl) (fun g A C hR => ?_)
  show Zg w g A [(h0, .inr (5, [.null, .null, .null, .int 0, .int 0, .int 0]))] (0, 0) 0 [(0, .ref h0), (1, .ref h1)] []
  refine y_aload_n C 0 (by rfl) dX6_init_0 ?_
  refine y_objInit C mw_X6_init_0 mw_X6_init_1 mw_X6_init_2 dX6_init_1 (Nat.le_of_ble_eq_true rfl) (Nat.le_of_ble_eq_true rfl) ?_
  refine y_aload_n C 0 (by rfl) dX6_init_4 ?_
  refine y_bipush C 24 (by decide) dX6_init_5 ?_
  refine y_newW C 24 mw_X6_init_3 (by decide) (by decide) (Nat.le_of_ble_eq_true rfl) ⟨Nat.le_of_ble_eq_true rfl, Nat.le_of_ble_eq_true rfl⟩ dX6_init_7 (k2 := (1, 24)) rfl (fun q0 => ?_)
  refine y_eq (u2 := [(h0, .inr (5, [.null, .null, .null, .int 0, .int 0, .int 0])), (q0, .inl (w.2.2.1 2, 24, .inr (.inr (.inr (.inr (fun _ => none))))))]) rfl ?_
  refine y_put C (ci := 5) (T := TX6) (N := 6) 0 1 (tyX6 1) (by rfl) in_X6_init_X6 tyX6 tyX6_ok nmX6 rfl (by decide) mw_X6_init_4 rfl rfl rfl (tyX6_ok 1 (by decide)) rfl rfl (Nat.le_of_ble_eq_true rfl) (by decide) dX6_init_10 (u2 := [(h0, .inr (5, [.null, .ref q0, .null, .int 0, .int 0, .int 0])), (q0, .inl (w.2.2.1 2, 24, .inr (.inr (.inr (.inr (fun _ => none))))))]) rfl ?_
  refine y_aload_n C 0 (by rfl) dX6_init_13 ?_
  refine y_bipush C 6 (by decide) dX6_init_14 ?_
  refine y_newC C 6 mw_X6_init_5 (by decide) (by decide) (Nat.le_of_ble_eq_true rfl) ⟨Nat.le_of_ble_eq_true rfl, Nat.le_of_ble_eq_true rfl⟩ dX6_init_16 (k2 := (2, 30)) rfl (fun q1 => ?_)
  refine y_eq (u2 := [(h0, .inr (5, [.null, .ref q0, .null, .int 0, .int 0, .int 0])), (q0, .inl (w.2.2.1 2, 24, .inr (.inr (.inr (.inr (fun _ => none)))))), (q1, .inl (w.2.2.1 3, 6, .inr (.inr (.inr (.inr (fun _ => none))))))]) rfl ?_
  refine y_put C (ci := 5) (T := TX6) (N := 6) 0 2 (tyX6 2) (by rfl) in_X6_init_X6 tyX6 tyX6_ok nmX6 rfl (by decide) mw_X6_init_6 rfl rfl rfl (tyX6_ok 2 (by decide)) rfl rfl (Nat.le_of_ble_eq_true rfl) (by decide) dX6_init_19 (u2 := [(h0, .inr (5, [.null, .ref q0, .ref q1, .int 0, .int 0, .int 0])), (q0, .inl (w.2.2.1 2, 24, .inr (.inr (.inr (.inr (fun _ => none)))))), (q1, .inl (w.2.2.1 3, 6, .inr (.inr (.inr (.inr (fun _ => none))))))]) rfl ?_
  refine y_aload_n C 0 (by rfl) dX6_init_22 ?_
  refine y_aload_n C 1 (by rfl) dX6_init_23 ?_
  refine y_put C (ci := 5) (T := TX6) (N := 6) 0 0 (tyX6 0) (by rfl) in_X6_init_X6 tyX6 tyX6_ok nmX6 rfl (by decide) mw_X6_init_7 rfl rfl rfl (tyX6_ok 0 (by decide)) rfl rfl (Nat.le_of_ble_eq_true rfl) (by decide) dX6_init_24 (u2 := [(h0, .inr (5, [.ref h1, .ref q0, .ref q1, .int 0, .int 0, .int 0])), (q0, .inl (w.2.2.1 2, 24, .inr (.inr (.inr (.inr (fun _ => none)))))), (q1, .inl (w.2.2.1 3, 6, .inr (.inr (.inr (.inr (fun _ => none))))))]) rfl ?_
  have lc : ∀ (d i : Nat) (ad : Nat → Nat), i + d = 6 → ad 1 = h1 → ad (17 + 105 * b.val) = h0 → ad (17 + 105 * b.val + 1) = q0 → ad (17 + 105 * b.val + 2) = q1 → Zg w g A ([(h0, .inr (5, [.ref h1, .ref q0, .ref q1, .int 0, .int 0, .int 0])), (q0, .inl (w.2.2.1 2, 24, .inr (.inr (.inr (.inr (fun j => if j < 24 then some (ad (17 + 105 * b.val + 3 + 3 * j)) else none)))))), (q1, .inl (w.2.2.1 3, 6, .inr (.inr (.inr (.inr (fun j => if j < i then some (ad (17 + 105 * b.val + 75 + 5 * j)) else none))))))] ++ (tp_blk (tp_wad w ad) (17 + 105 * b.val + 3) 72 ++ tp_blk (tp_wad w ad) (17 + 105 * b.val + 75) (5 * i))) (74 + i * 5, 918 + i * 228) 59 [(2, .int (nI i)), (0, .ref h0), (1, .ref h1)] [] := by
    intro d
    induction d with
    | zero =>
      intro i ad hi a1 a2 a3 a4
      have e1 : i = 6 := by omega
      subst e1
      refine y_iload_n C 0 (by rfl) dX6_init_59 ?_
      refine y_aload_n C 1 (by rfl) dX6_init_60 ?_
      refine y_get C (ci := 5) (T := TX6) (N := 6) 0 2 (by rfl) in_X6_init_X6 rfl (by decide) mw_X6_init_6 rfl rfl dX6_init_61 ?_
      refine y_alen C (t0 := 3) 2 6 (by rfl) rfl rfl dX6_init_64 ?_
      refine y_icmp_ge (tgt := 87) C dX6_init_65 (by decide) (fun c => ?_) (fun c => absurd (by decide) c)
      refine hR _ _ _ dX6_init_87 ⟨ad, a2, a1, ?_⟩
      rw [show (105 : Nat) = 3 + (72 + 30) from rfl, ← tp_blk_app, ← tp_blk_app, tp_blk3, tE5 (tp_kd_tr b).1, tE15 (tp_kd_tr b).2.1, tE16 (tp_kd_tr b).2.2, tp_t0z (tp_kd_tr b).1 (by decide)]
      show _ = ([(ad (17 + 105 * b.val), .inr (5, [.ref (ad 1), .ref (ad (17 + 105 * b.val + 1)), .ref (ad (17 + 105 * b.val + 2)), .int 0, .int 0, .int 0])), (ad (17 + 105 * b.val + 1), .inl (w.2.2.1 2, 24, .inr (.inr (.inr (.inr (fun j => if j < 24 then some (ad (17 + 105 * b.val + 1 + 2 + 3 * j)) else none)))))), (ad (17 + 105 * b.val + 2), .inl (w.2.2.1 3, 6, .inr (.inr (.inr (.inr (fun j => if j < 6 then some (ad (17 + 105 * b.val + 2 + 73 + 5 * j)) else none))))))] : va_W) ++ (tp_blk (tp_wad w ad) (17 + 105 * b.val + 3) 72 ++ tp_blk (tp_wad w ad) (17 + 105 * b.val + 3 + 72) 30)
      rw [a1, a2, a3, a4]
    | succ d ih =>
      intro i ad hi a1 a2 a3 a4
      have hlt : i < 6 := by omega
      refine y_iload_n C 0 (by rfl) dX6_init_59 ?_
      refine y_aload_n C 1 (by rfl) dX6_init_60 ?_
      refine y_get C (ci := 5) (T := TX6) (N := 6) 0 2 (by rfl) in_X6_init_X6 rfl (by decide) mw_X6_init_6 rfl rfl dX6_init_61 ?_
      refine y_alen C (t0 := 3) 2 6 (by rfl) rfl rfl dX6_init_64 ?_
      refine y_icmp_ge (tgt := 87) C dX6_init_65 (by decide) (fun c => absurd c ?_) (fun c => ?_)
      · exact nI_ge (a := i) (b := 6) hlt (by decide)
      · refine y_aload_n C 1 (by rfl) dX6_init_68 ?_
        refine y_get C (ci := 5) (T := TX6) (N := 6) 0 2 (by rfl) in_X6_init_X6 rfl (by decide) mw_X6_init_6 rfl rfl dX6_init_69 ?_
        refine y_iload_n C 0 (by rfl) dX6_init_72 ?_
        refine y_new C (ci := 2) (T := TX2) (N := 4) [.int 0, .int 0, .null, .null] in_X6_init_X2 tyX2 tyX2_ok mw_X6_init_5 mw_X6_init_10 mw_X6_init_11 rfl (fun j hj => by rcases (show j = 0 ∨ j = 1 ∨ j = 2 ∨ j = 3 by omega) with rfl | rfl | rfl | rfl <;> rfl) ⟨by show _ ≤ _; omega, by show _ ≤ _; omega⟩ dX6_init_73 rfl (fun q => ?_)
        refine y_dup C rfl dX6_init_76 ?_
        refine y_ctorN C (As := []) (bytes := cX2_init) (maxL := 1) (F1 := 3) (L1 := 52) (mc := 4) (ms := 224) (g_X2_init w (17 + 105 * b.val + 75 + 5 * i) q (tp_kd_con b ⟨i, hlt⟩)) 0 gX6_init_X2_init_n28 rfl mw_X6_init_11 "TidePost" (fun _ h => h.1.2.1) mw_X6_init_19 rfl (by decide +kernel) ⟨Nat.le_of_ble_eq_true rfl, Nat.le_of_ble_eq_true rfl⟩ rfl (Nat.le_of_ble_eq_true rfl) ⟨by show _ ≤ _; omega, by show _ ≤ _; omega⟩ rfl rfl dX6_init_77 (fun u2 hu => ?_)
        obtain ⟨ad2, had2, rfl⟩ := hu
        rw [List.append_assoc, List.append_assoc, tp_cons_add w b hlt, tp_ways_keep w b ad ad2 (c := 17 + 105 * b.val + 75 + 5 * i) (by omega)]
        have hv : vp_in (nI i) 6 := vp_in_nI hlt (by decide)
        have hq9 : tp_mrg ad ad2 (17 + 105 * b.val + 75 + 5 * i) (17 + 105 * b.val + 75 + 5 * i) = q := (if_neg (by omega)).trans had2
        have hlk := tp_findc w b hlt (tp_mrg ad ad2 (17 + 105 * b.val + 75 + 5 * i)) [(h0, .inr (5, [.ref h1, .ref q0, .ref q1, .int 0, .int 0, .int 0])), (q0, .inl (w.2.2.1 2, 24, .inr (.inr (.inr (.inr (fun j => if j < 24 then some (ad (17 + 105 * b.val + 3 + 3 * j)) else none)))))), (q1, .inl (w.2.2.1 3, 6, .inr (.inr (.inr (.inr (fun j => if j < i then some (ad (17 + 105 * b.val + 75 + 5 * j)) else none))))))]
        rw [hq9] at hlk
        refine y_astq C (t0 := 3) (ci := 2) 2 _ (by rfl) rfl hlk rfl hv dX6_init_80 (u2 := [(h0, .inr (5, [.ref h1, .ref q0, .ref q1, .int 0, .int 0, .int 0])), (q0, .inl (w.2.2.1 2, 24, .inr (.inr (.inr (.inr (fun j => if j < 24 then some ((tp_mrg ad ad2 (17 + 105 * b.val + 75 + 5 * i)) (17 + 105 * b.val + 3 + 3 * j)) else none)))))), (q1, .inl (w.2.2.1 3, 6, .inr (.inr (.inr (.inr (fun j => if j < i + 1 then some ((tp_mrg ad ad2 (17 + 105 * b.val + 75 + 5 * i)) (17 + 105 * b.val + 75 + 5 * j)) else none))))))] ++ (tp_blk (tp_wad w (tp_mrg ad ad2 (17 + 105 * b.val + 75 + 5 * i))) (17 + 105 * b.val + 3) 72 ++ tp_blk (tp_wad w (tp_mrg ad ad2 (17 + 105 * b.val + 75 + 5 * i))) (17 + 105 * b.val + 75) (5 * (i + 1)))) ?_ ?_
        · rw [nI_clamp (show i < 2 ^ 31 by omega)]
          have f1 : (fun j => if j < 24 then some (ad (17 + 105 * b.val + 3 + 3 * j)) else none) = fun j => if j < 24 then some (tp_mrg ad ad2 (17 + 105 * b.val + 75 + 5 * i) (17 + 105 * b.val + 3 + 3 * j)) else none := by
            funext j; by_cases hj : j < 24
            · rw [if_pos hj, if_pos hj]; exact congrArg some (if_pos (by omega)).symm
            · rw [if_neg hj, if_neg hj]
          have f2 : va_up (fun j => if j < i then some (ad (17 + 105 * b.val + 75 + 5 * j)) else none) i (some q) = fun j => if j < i + 1 then some (tp_mrg ad ad2 (17 + 105 * b.val + 75 + 5 * i) (17 + 105 * b.val + 75 + 5 * j)) else none := by
            funext j; unfold va_up; by_cases h1 : j = i
            · subst h1; rw [if_pos rfl, if_pos (Nat.lt_succ_self _), hq9]
            · rw [if_neg h1]; dsimp only; by_cases h2 : j < i
              · rw [if_pos h2, if_pos (by omega)]; exact congrArg some (if_pos (by omega)).symm
              · rw [if_neg h2, if_neg (by omega)]
          rw [← f1, ← f2]; rfl
        · refine y_iinc C 0 (nI (i + 1)) [(2, .int (nI (i + 1))), (0, .ref h0), (1, .ref h1)] dX6_init_81 (by rfl) (nI_1 i) (by decide) rfl ?_
          refine y_goto (tgt := 59) C dX6_init_84 (by decide) ?_
          have hz := ih (i + 1) (tp_mrg ad ad2 (17 + 105 * b.val + 75 + 5 * i)) (by omega) ((if_pos (by omega)).trans a1) ((if_pos (by omega)).trans a2) ((if_pos (by omega)).trans a3) ((if_pos (by omega)).trans a4)
          refine y_k ?_ hz
          show (_, _) = (_, _)
          refine Prod.ext ?_ ?_ <;> show _ = _ <;> omega
  have lw : ∀ (d i : Nat) (ad : Nat → Nat), i + d = 24 → ad 1 = h1 → ad (17 + 105 * b.val) = h0 → ad (17 + 105 * b.val + 1) = q0 → ad (17 + 105 * b.val + 2) = q1 → Zg w g A ([(h0, .inr (5, [.ref h1, .ref q0, .ref q1, .int 0, .int 0, .int 0])), (q0, .inl (w.2.2.1 2, 24, .inr (.inr (.inr (.inr (fun j => if j < i then some (ad (17 + 105 * b.val + 3 + 3 * j)) else none)))))), (q1, .inl (w.2.2.1 3, 6, .inr (.inr (.inr (.inr (fun _ => none))))))] ++ tp_blk (tp_wad w ad) (17 + 105 * b.val + 3) (3 * i)) (2 + i * 3, 30 + i * 37) 29 [(2, .int (nI i)), (0, .ref h0), (1, .ref h1)] [] := by
    intro d
    induction d with
    | zero =>
      intro i ad hi a1 a2 a3 a4
      have e1 : i = 24 := by omega
      subst e1
      refine y_iload_n C 0 (by rfl) dX6_init_29 ?_
      refine y_aload_n C 1 (by rfl) dX6_init_30 ?_
      refine y_get C (ci := 5) (T := TX6) (N := 6) 0 1 (by rfl) in_X6_init_X6 rfl (by decide) mw_X6_init_4 rfl rfl dX6_init_31 ?_
      refine y_alen C (t0 := 2) 1 24 (by rfl) rfl rfl dX6_init_34 ?_
      refine y_icmp_ge (tgt := 57) C dX6_init_35 (by decide) (fun c => ?_) (fun c => absurd (by decide) c)
      refine y_iconst C 0 (by decide) dX6_init_57 ?_
      refine y_istore_n C [(2, .int 0), (0, .ref h0), (1, .ref h1)] dX6_init_58 (by decide) rfl ?_
      refine y_eq (u2 := [(h0, .inr (5, [.ref h1, .ref q0, .ref q1, .int 0, .int 0, .int 0])), (q0, .inl (w.2.2.1 2, 24, .inr (.inr (.inr (.inr (fun j => if j < 24 then some (ad (17 + 105 * b.val + 3 + 3 * j)) else none)))))), (q1, .inl (w.2.2.1 3, 6, .inr (.inr (.inr (.inr (fun j => if j < 0 then some (ad (17 + 105 * b.val + 75 + 5 * j)) else none))))))] ++ (tp_blk (tp_wad w ad) (17 + 105 * b.val + 3) 72 ++ tp_blk (tp_wad w ad) (17 + 105 * b.val + 75) (5 * 0))) ?_ ?_
      · rw [show (fun j => if j < 0 then some (ad (17 + 105 * b.val + 75 + 5 * j)) else none) = fun _ => none from funext fun j => if_neg (Nat.not_lt_zero j)]
        rw [show tp_blk (tp_wad w ad) (17 + 105 * b.val + 75) (5 * 0) = [] from rfl, List.append_nil]
      · exact lc 6 0 ad rfl a1 a2 a3 a4
    | succ d ih =>
      intro i ad hi a1 a2 a3 a4
      have hlt : i < 24 := by omega
      refine y_iload_n C 0 (by rfl) dX6_init_29 ?_
      refine y_aload_n C 1 (by rfl) dX6_init_30 ?_
      refine y_get C (ci := 5) (T := TX6) (N := 6) 0 1 (by rfl) in_X6_init_X6 rfl (by decide) mw_X6_init_4 rfl rfl dX6_init_31 ?_
      refine y_alen C (t0 := 2) 1 24 (by rfl) rfl rfl dX6_init_34 ?_
      refine y_icmp_ge (tgt := 57) C dX6_init_35 (by decide) (fun c => absurd c ?_) (fun c => ?_)
      · exact nI_ge (a := i) (b := 24) hlt (by decide)
      · refine y_aload_n C 1 (by rfl) dX6_init_38 ?_
        refine y_get C (ci := 5) (T := TX6) (N := 6) 0 1 (by rfl) in_X6_init_X6 rfl (by decide) mw_X6_init_4 rfl rfl dX6_init_39 ?_
        refine y_iload_n C 0 (by rfl) dX6_init_42 ?_
        refine y_new C (ci := 6) (T := TX7) (N := 7) [.null, .int 0, .int 0, .null, .int 0, .int 0, .int 0] in_X6_init_X7 tyX7 tyX7_ok mw_X6_init_3 mw_X6_init_8 mw_X6_init_9 rfl (fun j hj => by rcases (show j = 0 ∨ j = 1 ∨ j = 2 ∨ j = 3 ∨ j = 4 ∨ j = 5 ∨ j = 6 by omega) with rfl | rfl | rfl | rfl | rfl | rfl | rfl <;> rfl) ⟨by show _ ≤ _; omega, by show _ ≤ _; omega⟩ dX6_init_43 rfl (fun q => ?_)
        refine y_dup C rfl dX6_init_46 ?_
        refine y_ctor C (As := []) (bytes := cX7_init) (maxL := 2) (F1 := 1) (L1 := 12) (mc := 2) (ms := 30) (g_X7_init w (17 + 105 * b.val + 3 + 3 * i) q (tp_kd_way b ⟨i, hlt⟩)) 0 gX6_init_X7_init rfl mw_X6_init_9 mw_X6_init_12 mw_X6_init_13 rfl (by decide +kernel) ⟨Nat.le_of_ble_eq_true rfl, Nat.le_of_ble_eq_true rfl⟩ rfl (Nat.le_of_ble_eq_true rfl) ⟨by show _ ≤ _; omega, by show _ ≤ _; omega⟩ rfl rfl dX6_init_47 (fun u2 hu => ?_)
        obtain ⟨ad2, had2, rfl⟩ := hu
        rw [List.append_assoc, tp_ways_add w b hlt]
        have hv : vp_in (nI i) 24 := vp_in_nI hlt (by decide)
        have hq9 : tp_mrg ad ad2 (17 + 105 * b.val + 3 + 3 * i) (17 + 105 * b.val + 3 + 3 * i) = q := (if_neg (by omega)).trans had2
        have hlk := tp_findw w b hlt (tp_mrg ad ad2 (17 + 105 * b.val + 3 + 3 * i)) [(h0, .inr (5, [.ref h1, .ref q0, .ref q1, .int 0, .int 0, .int 0])), (q0, .inl (w.2.2.1 2, 24, .inr (.inr (.inr (.inr (fun j => if j < i then some (ad (17 + 105 * b.val + 3 + 3 * j)) else none)))))), (q1, .inl (w.2.2.1 3, 6, .inr (.inr (.inr (.inr (fun _ => none))))))]
        rw [hq9] at hlk
        refine y_astq C (t0 := 2) (ci := 6) 1 _ (by rfl) rfl hlk rfl hv dX6_init_50 (u2 := [(h0, .inr (5, [.ref h1, .ref q0, .ref q1, .int 0, .int 0, .int 0])), (q0, .inl (w.2.2.1 2, 24, .inr (.inr (.inr (.inr (fun j => if j < i + 1 then some ((tp_mrg ad ad2 (17 + 105 * b.val + 3 + 3 * i)) (17 + 105 * b.val + 3 + 3 * j)) else none)))))), (q1, .inl (w.2.2.1 3, 6, .inr (.inr (.inr (.inr (fun _ => none))))))] ++ tp_blk (tp_wad w (tp_mrg ad ad2 (17 + 105 * b.val + 3 + 3 * i))) (17 + 105 * b.val + 3) (3 * (i + 1))) ?_ ?_
        · rw [nI_clamp (show i < 2 ^ 31 by omega)]
          have f2 : va_up (fun j => if j < i then some (ad (17 + 105 * b.val + 3 + 3 * j)) else none) i (some q) = fun j => if j < i + 1 then some (tp_mrg ad ad2 (17 + 105 * b.val + 3 + 3 * i) (17 + 105 * b.val + 3 + 3 * j)) else none := by
            funext j; unfold va_up; by_cases h1 : j = i
            · subst h1; rw [if_pos rfl, if_pos (Nat.lt_succ_self _), hq9]
            · rw [if_neg h1]; dsimp only; by_cases h2 : j < i
              · rw [if_pos h2, if_pos (by omega)]; exact congrArg some (if_pos (by omega)).symm
              · rw [if_neg h2, if_neg (by omega)]
          rw [← f2]; rfl
        · refine y_iinc C 0 (nI (i + 1)) [(2, .int (nI (i + 1))), (0, .ref h0), (1, .ref h1)] dX6_init_51 (by rfl) (nI_1 i) (by decide) rfl ?_
          refine y_goto (tgt := 29) C dX6_init_54 (by decide) ?_
          have hz := ih (i + 1) (tp_mrg ad ad2 (17 + 105 * b.val + 3 + 3 * i)) (by omega) ((if_pos (by omega)).trans a1) ((if_pos (by omega)).trans a2) ((if_pos (by omega)).trans a3) ((if_pos (by omega)).trans a4)
          refine y_k ?_ hz
          refine Prod.ext ?_ ?_ <;> show _ = _ <;> omega
  refine y_iconst C 0 (by decide) dX6_init_27 ?_
  refine y_istore_n C [(2, .int 0), (0, .ref h0), (1, .ref h1)] dX6_init_28 (by decide) rfl ?_
  refine y_eq (u2 := [(h0, .inr (5, [.ref h1, .ref q0, .ref q1, .int 0, .int 0, .int 0])), (q0, .inl (w.2.2.1 2, 24, .inr (.inr (.inr (.inr (fun j => if j < 0 then some (((fun x => if x = 1 then h1 else if x = 17 + 105 * b.val then h0 else if x = 17 + 105 * b.val + 1 then q0 else q1) : Nat → Nat) (17 + 105 * b.val + 3 + 3 * j)) else none)))))), (q1, .inl (w.2.2.1 3, 6, .inr (.inr (.inr (.inr (fun _ => none))))))] ++ tp_blk (tp_wad w (fun x => if x = 1 then h1 else if x = 17 + 105 * b.val then h0 else if x = 17 + 105 * b.val + 1 then q0 else q1)) (17 + 105 * b.val + 3) (3 * 0)) ?_ ?_
  · rw [show tp_blk (tp_wad w (fun x => if x = 1 then h1 else if x = 17 + 105 * b.val then h0 else if x = 17 + 105 * b.val + 1 then q0 else q1)) (17 + 105 * b.val + 3) (3 * 0) = [] from rfl, List.append_nil]
    simp
  · refine lw 24 0 _ rfl rfl ?_ ?_ ?_
    · rw [if_neg (by omega), if_pos rfl]
    · rw [if_neg (by omega), if_neg (by omega), if_pos rfl]
    · rw [if_neg (by omega), if_neg (by omega), if_neg (by omega)]
