def wp_L_addNode (τ : TS) (j0 : Nat) (j1 : Nat) (K : TS → Int32 → Prop) : Prop :=
  ∃ JH : TS → Nat → Prop, (∀ (τ21 : TS), JH τ21 0 → False) ∧ (∀ (τ21 : TS), JH τ21 1 → False) ∧ (∀ (τ21 : TS) (cd : Nat), JH τ21 (cd + 2) → (K τ21 1)) ∧ (wp_X8_addNode τ j0 (fun τ22 x23 => ∀ τ24 : TS, τ24 = tp_rw τ22 j1 (upd (upd (τ22 j1) 0 (tp_hi (Int32.toInt64 x23))) 1 (tp_lo (Int32.toInt64 x23))) → K τ24 0))
set_option maxHeartbeats 8000000 in
set_option maxRecDepth 100000 in
theorem c_L_addNode (w : WPar) (τ : TS) (j0 : Nat) (j1 : Nat) (K : TS → Int32 → Prop) (hl : w.2.1.stackTraces = false) (h0 : tp_is w j0 7) (h1 : tp_is w j1 33) (hw : wp_L_addNode τ j0 j1 K) : MA w yL_addNode wsL_addNode 4 89 0 0 [.ref (w.1 j0), .ref (w.1 j1)] τ K := by
  refine tp_enterA (hh := [(0, 8, 11, 13)]) (cc := cL_addNode) (maxL := 3) (own := RL) hl (by decide) rfl rfl (Nat.le_of_ble_eq_true rfl) (fun g C D A hR => ?_)
  show Zt w g τ (0, 0) 0 [(0, .ref (w.1 j0)), (1, .ref (w.1 j1))] []
  unfold wp_L_addNode at hw
  obtain ⟨JH, hJ0, hJ1, hJ2, hw⟩ := hw
  have hh2 : ∀ (τ21 : TS) (cd : Nat) (q : Nat), JH τ21 (cd + 2) → Zt w g τ21 (0, 0) 11 [] [.ref q] := by
    intro τ21 cd q hq
    have hw := hJ2 τ21 cd hq
    refine z_astore_n C [(2, .ref q)] dL_addNode_11 (by decide) rfl ?_
    refine z_iconst C 1 (by decide) dL_addNode_12 ?_
    exact hR _ _ _ _ dL_addNode_13 hw
  refine z_aload_n C 1 (by rfl) dL_addNode_0 ?_
  refine z_iconst C 0 (by decide) dL_addNode_1 ?_
  refine z_aload_n C 0 (by rfl) dL_addNode_2 ?_
  refine zv_i C (As := []) (bytes := cX8_addNode) (maxL := 1) (F1 := 3) (L1 := 69) (c_X8_addNode w _ j0 _ h0 hw) h0.2 (tE7 h0.1) rfl 0 gL_addNode_X8_addNode rfl (by decide +kernel) ⟨Nat.le_of_ble_eq_true rfl, Nat.le_of_ble_eq_true rfl⟩ rfl (Nat.le_of_ble_eq_true rfl) ⟨Nat.le_of_ble_eq_true rfl, Nat.le_of_ble_eq_true rfl⟩ rfl dL_addNode_3 (fun x23 τ22 hw => ?_)
  refine z_i2l C dL_addNode_6 ?_
  refine z_last0 C h1 dL_addNode_7 (fun τ24 eτ24 => ?_)
  have hw := hw τ24 eτ24
  refine z_goto (tgt := 14) C dL_addNode_8 (by decide) ?_
  refine z_iconst C 0 (by decide) dL_addNode_14 ?_
  exact hR _ _ _ _ dL_addNode_15 hw
def wp_L_addLink (τ : TS) (j0 : Nat) (x1 : Int32) (x2 : Int32) (x3 : Int32) (x4 : Int32) (j5 : Nat) (K : TS → Int32 → Prop) : Prop :=
  ∃ JH : TS → Nat → Prop, (∀ (τ21 : TS), JH τ21 0 → (K τ21 1)) ∧ (∀ (τ21 : TS), JH τ21 1 → (K τ21 2)) ∧ (∀ (τ21 : TS) (cd : Nat), JH τ21 (cd + 2) → (K τ21 3)) ∧ (wpx_X8_addLink τ j0 x1 x2 x3 x4 (fun τ22 x23 => ∀ τ24 : TS, τ24 = tp_rw τ22 j5 (upd (upd (τ22 j5) 0 (tp_hi (Int32.toInt64 x23))) 1 (tp_lo (Int32.toInt64 x23))) → K τ24 0) JH)
theorem mw_L_addLink_0 : Cond.classLink RL 19 "java/lang/IndexOutOfBoundsException" ∈ wsL_addLink := List.mem_of_getElem? (i := 1) rfl
theorem mw_L_addLink_1 : Cond.classLink RL 21 "java/lang/IllegalArgumentException" ∈ wsL_addLink := List.mem_of_getElem? (i := 2) rfl
theorem mw_L_addLink_2 : Cond.classLink RL 13 "java/lang/IllegalStateException" ∈ wsL_addLink := List.mem_of_getElem? (i := 3) rfl
set_option maxHeartbeats 8000000 in
set_option maxRecDepth 100000 in
theorem c_L_addLink (w : WPar) (τ : TS) (j0 : Nat) (x1 : Int32) (x2 : Int32) (x3 : Int32) (x4 : Int32) (j5 : Nat) (K : TS → Int32 → Prop) (hl : w.2.1.stackTraces = false) (h0 : tp_is w j0 7) (h5 : tp_is w j5 33) (hw : wp_L_addLink τ j0 x1 x2 x3 x4 j5 K) : MA w yL_addLink wsL_addLink 8 128 5 30 [.ref (w.1 j0), .int x1, .int x2, .int x3, .int x4, .ref (w.1 j5)] τ K := by
  refine tp_enterA (hh := [(0, 14, 17, 19), (0, 14, 21, 21), (0, 14, 25, 13)]) (cc := cL_addLink) (maxL := 7) (own := RL) hl (by decide) rfl rfl (Nat.le_of_ble_eq_true rfl) (fun g C D A hR => ?_)
  show Zt w g τ (0, 0) 0 [(0, .ref (w.1 j0)), (1, .int x1), (2, .int x2), (3, .int x3), (4, .int x4), (5, .ref (w.1 j5))] []
  unfold wp_L_addLink at hw
  obtain ⟨JH, hJ0, hJ1, hJ2, hw⟩ := hw
  have hh0 : ∀ (τ21 : TS) (q : Nat), JH τ21 0 → Zt w g τ21 (5, 30) 17 [] [.ref q] := by
    intro τ21 q hq
    have hw := hJ0 τ21 hq
    refine z_astore C [(6, .ref q)] dL_addLink_17 (by decide) rfl ?_
    refine z_iconst C 1 (by decide) dL_addLink_19 ?_
    exact hR _ _ _ _ dL_addLink_20 hw
  have hh1 : ∀ (τ21 : TS) (q : Nat), JH τ21 1 → Zt w g τ21 (5, 30) 21 [] [.ref q] := by
    intro τ21 q hq
    have hw := hJ1 τ21 hq
    refine z_astore C [(6, .ref q)] dL_addLink_21 (by decide) rfl ?_
    refine z_iconst C 2 (by decide) dL_addLink_23 ?_
    exact hR _ _ _ _ dL_addLink_24 hw
  have hh2 : ∀ (τ21 : TS) (cd : Nat) (q : Nat), JH τ21 (cd + 2) → Zt w g τ21 (5, 30) 25 [] [.ref q] := by
    intro τ21 cd q hq
    have hw := hJ2 τ21 cd hq
    refine z_astore C [(6, .ref q)] dL_addLink_25 (by decide) rfl ?_
    refine z_iconst C 3 (by decide) dL_addLink_27 ?_
    exact hR _ _ _ _ dL_addLink_28 hw
  refine z_aload C 5 (by rfl) dL_addLink_0 ?_
  refine z_iconst C 0 (by decide) dL_addLink_2 ?_
  refine z_aload_n C 0 (by rfl) dL_addLink_3 ?_
  refine z_iload_n C 1 (by rfl) dL_addLink_4 ?_
  refine z_iload_n C 2 (by rfl) dL_addLink_5 ?_
  refine z_iload_n C 3 (by rfl) dL_addLink_6 ?_
  refine z_iload C 4 (by rfl) dL_addLink_7 ?_
  refine xv_i C D (As := [.int x1, .int x2, .int x3, .int x4]) (bytes := cX8_addLink) (maxL := 5) (F1 := 7) (L1 := 104) (mc := 5) (ms := 30) (cx_X8_addLink w _ j0 x1 x2 x3 x4 _ _ hl h0 hw) h0.2 (tE7 h0.1) rfl 4 gL_addLink_X8_addLink rfl (by decide +kernel) ⟨Nat.le_of_ble_eq_true rfl, Nat.le_of_ble_eq_true rfl⟩ rfl (Nat.le_of_ble_eq_true rfl) (k2 := (5, 30)) rfl ⟨Nat.le_of_ble_eq_true rfl, Nat.le_of_ble_eq_true rfl⟩ rfl dL_addLink_9 (fun τ22 cd hx => ?_) (fun x23 τ22 hw => ?_)
  · rcases cd with _ | _ | cd
    · refine z_catch C A (cd := 0) (i := 0) (hp := 17) (ct := 19) rfl rfl rfl (by decide) mw_L_addLink_0 D (by decide) (fun _ hN => fun _ h => absurd h List.not_mem_nil) (fun q => ?_)
      refine z_sub [] [] rfl ?_
      exact hh0 _ q hx
    · refine z_catch C A (cd := 1) (i := 1) (hp := 21) (ct := 21) rfl rfl rfl (by decide) mw_L_addLink_1 D (by decide) (fun _ hN => List.forall_mem_cons.mpr ⟨Or.inr ⟨by decide, _, mw_L_addLink_0, hN.1⟩, fun _ h => absurd h List.not_mem_nil⟩) (fun q => ?_)
      refine z_sub [] [] rfl ?_
      exact hh1 _ q hx
    · show Zx w g _ _ _ _ (tp_exn 2)
      refine z_catch C A (cd := 2) (i := 2) (hp := 25) (ct := 13) rfl rfl rfl (by decide) mw_L_addLink_2 D (by decide) (fun _ hN => List.forall_mem_cons.mpr ⟨Or.inr ⟨by decide, _, mw_L_addLink_0, hN.2.1⟩, List.forall_mem_cons.mpr ⟨Or.inr ⟨by decide, _, mw_L_addLink_1, hN.2.2⟩, fun _ h => absurd h List.not_mem_nil⟩⟩) (fun q => ?_)
      refine z_sub [] [] rfl ?_
      exact hh2 _ cd q hx
  refine z_i2l C dL_addLink_12 ?_
  refine z_last0 C h5 dL_addLink_13 (fun τ24 eτ24 => ?_)
  have hw := hw τ24 eτ24
  refine z_goto (tgt := 29) C dL_addLink_14 (by decide) ?_
  refine z_iconst C 0 (by decide) dL_addLink_29 ?_
  exact hR _ _ _ _ dL_addLink_30 hw
def wp_L_turn (τ : TS) (j0 : Nat) (x1 : Int32) (j2 : Nat) (K : TS → Int32 → Prop) : Prop :=
  ∃ JH : TS → Nat → Prop, (∀ (τ21 : TS), JH τ21 0 → (K τ21 1)) ∧ (∀ (τ21 : TS), JH τ21 1 → False) ∧ (∀ (τ21 : TS) (cd : Nat), JH τ21 (cd + 2) → False) ∧ (wpx_X8_turn τ j0 x1 (fun τ22 x23 => ∀ τ24 : TS, τ24 = tp_rw τ22 j2 (upd (upd (τ22 j2) 0 (tp_hi (Int32.toInt64 x23))) 1 (tp_lo (Int32.toInt64 x23))) → K τ24 0) JH)
theorem mw_L_turn_0 : Cond.classLink RL 19 "java/lang/IndexOutOfBoundsException" ∈ wsL_turn := List.mem_of_getElem? (i := 1) rfl
set_option maxHeartbeats 8000000 in
set_option maxRecDepth 100000 in
theorem c_L_turn (w : WPar) (τ : TS) (j0 : Nat) (x1 : Int32) (j2 : Nat) (K : TS → Int32 → Prop) (hl : w.2.1.stackTraces = false) (h0 : tp_is w j0 7) (h2 : tp_is w j2 33) (hw : wp_L_turn τ j0 x1 j2 K) : MA w yL_turn wsL_turn 8 124 1 6 [.ref (w.1 j0), .int x1, .ref (w.1 j2)] τ K := by
  refine tp_enterA (hh := [(0, 9, 12, 19)]) (cc := cL_turn) (maxL := 4) (own := RL) hl (by decide) rfl rfl (Nat.le_of_ble_eq_true rfl) (fun g C D A hR => ?_)
  show Zt w g τ (0, 0) 0 [(0, .ref (w.1 j0)), (1, .int x1), (2, .ref (w.1 j2))] []
  unfold wp_L_turn at hw
  obtain ⟨JH, hJ0, hJ1, hJ2, hw⟩ := hw
  have hh0 : ∀ (τ21 : TS) (q : Nat), JH τ21 0 → Zt w g τ21 (1, 6) 12 [] [.ref q] := by
    intro τ21 q hq
    have hw := hJ0 τ21 hq
    refine z_astore_n C [(3, .ref q)] dL_turn_12 (by decide) rfl ?_
    refine z_iconst C 1 (by decide) dL_turn_13 ?_
    exact hR _ _ _ _ dL_turn_14 hw
  refine z_aload_n C 2 (by rfl) dL_turn_0 ?_
  refine z_iconst C 0 (by decide) dL_turn_1 ?_
  refine z_aload_n C 0 (by rfl) dL_turn_2 ?_
  refine z_iload_n C 1 (by rfl) dL_turn_3 ?_
  refine xv_i C D (As := [.int x1]) (bytes := cX8_turn) (maxL := 2) (F1 := 7) (L1 := 103) (mc := 1) (ms := 6) (cx_X8_turn w _ j0 x1 _ _ hl h0 hw) h0.2 (tE7 h0.1) rfl 1 gL_turn_X8_turn rfl (by decide +kernel) ⟨Nat.le_of_ble_eq_true rfl, Nat.le_of_ble_eq_true rfl⟩ rfl (Nat.le_of_ble_eq_true rfl) (k2 := (1, 6)) rfl ⟨Nat.le_of_ble_eq_true rfl, Nat.le_of_ble_eq_true rfl⟩ rfl dL_turn_4 (fun τ22 cd hx => ?_) (fun x23 τ22 hw => ?_)
  · rcases cd with _ | _ | cd
    · refine z_catch C A (cd := 0) (i := 0) (hp := 12) (ct := 19) rfl rfl rfl (by decide) mw_L_turn_0 D (by decide) (fun _ hN => fun _ h => absurd h List.not_mem_nil) (fun q => ?_)
      refine z_sub [] [] rfl ?_
      exact hh0 _ q hx
    · exact (hJ1 _ hx).elim
    · exact (hJ2 _ _ hx).elim
  refine z_i2l C dL_turn_7 ?_
  refine z_last0 C h2 dL_turn_8 (fun τ24 eτ24 => ?_)
  have hw := hw τ24 eτ24
  refine z_goto (tgt := 15) C dL_turn_9 (by decide) ?_
  refine z_iconst C 0 (by decide) dL_turn_15 ?_
  exact hR _ _ _ _ dL_turn_16 hw
def wp_L_lose (τ : TS) (j0 : Nat) (x1 : Int32) (x2 : Int32) (x3 : Int32) (j4 : Nat) (K : TS → Int32 → Prop) : Prop :=
  ∃ JH : TS → Nat → Prop, (∀ (τ21 : TS), JH τ21 0 → (K τ21 1)) ∧ (∀ (τ21 : TS), JH τ21 1 → (K τ21 2)) ∧ (∀ (τ21 : TS) (cd : Nat), JH τ21 (cd + 2) → False) ∧ (wpx_X8_lose τ j0 x1 x2 x3 (fun τ22 x23 => ∀ τ24 : TS, τ24 = tp_rw τ22 j4 (upd (upd (τ22 j4) 0 (tp_hi (Int32.toInt64 x23))) 1 (tp_lo (Int32.toInt64 x23))) → K τ24 0) JH)
theorem mw_L_lose_0 : Cond.classLink RL 19 "java/lang/IndexOutOfBoundsException" ∈ wsL_lose := List.mem_of_getElem? (i := 1) rfl
theorem mw_L_lose_1 : Cond.classLink RL 21 "java/lang/IllegalArgumentException" ∈ wsL_lose := List.mem_of_getElem? (i := 2) rfl
set_option maxHeartbeats 8000000 in
set_option maxRecDepth 100000 in
theorem c_L_lose (w : WPar) (τ : TS) (j0 : Nat) (x1 : Int32) (x2 : Int32) (x3 : Int32) (j4 : Nat) (K : TS → Int32 → Prop) (hl : w.2.1.stackTraces = false) (h0 : tp_is w j0 7) (h4 : tp_is w j4 33) (hw : wp_L_lose τ j0 x1 x2 x3 j4 K) : MA w yL_lose wsL_lose 9 150 3 18 [.ref (w.1 j0), .int x1, .int x2, .int x3, .ref (w.1 j4)] τ K := by
  refine tp_enterA (hh := [(0, 12, 15, 19), (0, 12, 19, 21)]) (cc := cL_lose) (maxL := 6) (own := RL) hl (by decide) rfl rfl (Nat.le_of_ble_eq_true rfl) (fun g C D A hR => ?_)
  show Zt w g τ (0, 0) 0 [(0, .ref (w.1 j0)), (1, .int x1), (2, .int x2), (3, .int x3), (4, .ref (w.1 j4))] []
  unfold wp_L_lose at hw
  obtain ⟨JH, hJ0, hJ1, hJ2, hw⟩ := hw
  have hh0 : ∀ (τ21 : TS) (q : Nat), JH τ21 0 → Zt w g τ21 (3, 18) 15 [] [.ref q] := by
    intro τ21 q hq
    have hw := hJ0 τ21 hq
    refine z_astore C [(5, .ref q)] dL_lose_15 (by decide) rfl ?_
    refine z_iconst C 1 (by decide) dL_lose_17 ?_
    exact hR _ _ _ _ dL_lose_18 hw
  have hh1 : ∀ (τ21 : TS) (q : Nat), JH τ21 1 → Zt w g τ21 (3, 18) 19 [] [.ref q] := by
    intro τ21 q hq
    have hw := hJ1 τ21 hq
    refine z_astore C [(5, .ref q)] dL_lose_19 (by decide) rfl ?_
    refine z_iconst C 2 (by decide) dL_lose_21 ?_
    exact hR _ _ _ _ dL_lose_22 hw
  refine z_aload C 4 (by rfl) dL_lose_0 ?_
  refine z_iconst C 0 (by decide) dL_lose_2 ?_
  refine z_aload_n C 0 (by rfl) dL_lose_3 ?_
  refine z_iload_n C 1 (by rfl) dL_lose_4 ?_
  refine z_iload_n C 2 (by rfl) dL_lose_5 ?_
  refine z_iload_n C 3 (by rfl) dL_lose_6 ?_
  refine xv_i C D (As := [.int x1, .int x2, .int x3]) (bytes := cX8_lose) (maxL := 6) (F1 := 8) (L1 := 125) (mc := 3) (ms := 18) (cx_X8_lose w _ j0 x1 x2 x3 _ _ hl h0 hw) h0.2 (tE7 h0.1) rfl 3 gL_lose_X8_lose rfl (by decide +kernel) ⟨Nat.le_of_ble_eq_true rfl, Nat.le_of_ble_eq_true rfl⟩ rfl (Nat.le_of_ble_eq_true rfl) (k2 := (3, 18)) rfl ⟨Nat.le_of_ble_eq_true rfl, Nat.le_of_ble_eq_true rfl⟩ rfl dL_lose_7 (fun τ22 cd hx => ?_) (fun x23 τ22 hw => ?_)
  · rcases cd with _ | _ | cd
    · refine z_catch C A (cd := 0) (i := 0) (hp := 15) (ct := 19) rfl rfl rfl (by decide) mw_L_lose_0 D (by decide) (fun _ hN => fun _ h => absurd h List.not_mem_nil) (fun q => ?_)
      refine z_sub [] [] rfl ?_
      exact hh0 _ q hx
    · refine z_catch C A (cd := 1) (i := 1) (hp := 19) (ct := 21) rfl rfl rfl (by decide) mw_L_lose_1 D (by decide) (fun _ hN => List.forall_mem_cons.mpr ⟨Or.inr ⟨by decide, _, mw_L_lose_0, hN.1⟩, fun _ h => absurd h List.not_mem_nil⟩) (fun q => ?_)
      refine z_sub [] [] rfl ?_
      exact hh1 _ q hx
    · exact (hJ2 _ _ hx).elim
  refine z_i2l C dL_lose_10 ?_
  refine z_last0 C h4 dL_lose_11 (fun τ24 eτ24 => ?_)
  have hw := hw τ24 eτ24
  refine z_goto (tgt := 23) C dL_lose_12 (by decide) ?_
  refine z_iconst C 0 (by decide) dL_lose_23 ?_
  exact hR _ _ _ _ dL_lose_24 hw
def wp_L_call (τ : TS) (j0 : Nat) (x1 : Int32) (x2 : Int32) (x3 : Int32) (j4 : Nat) (K : TS → Int32 → Prop) : Prop :=
  ∃ JH : TS → Nat → Prop, (∀ (τ21 : TS), JH τ21 0 → (K τ21 1)) ∧ (∀ (τ21 : TS), JH τ21 1 → (K τ21 2)) ∧ (∀ (τ21 : TS) (cd : Nat), JH τ21 (cd + 2) → (K τ21 3)) ∧ (wpx_X8_call τ j0 x1 x2 x3 (fun τ22 x23 => ∀ τ24 : TS, τ24 = tp_rw τ22 j4 (upd (upd (τ22 j4) 0 (tp_hi (Int32.toInt64 x23))) 1 (tp_lo (Int32.toInt64 x23))) → K τ24 0) JH)
theorem mw_L_call_0 : Cond.classLink RL 19 "java/lang/IndexOutOfBoundsException" ∈ wsL_call := List.mem_of_getElem? (i := 1) rfl
theorem mw_L_call_1 : Cond.classLink RL 21 "java/lang/IllegalArgumentException" ∈ wsL_call := List.mem_of_getElem? (i := 2) rfl
theorem mw_L_call_2 : Cond.classLink RL 13 "java/lang/IllegalStateException" ∈ wsL_call := List.mem_of_getElem? (i := 3) rfl
set_option maxHeartbeats 8000000 in
set_option maxRecDepth 100000 in
theorem c_L_call (w : WPar) (τ : TS) (j0 : Nat) (x1 : Int32) (x2 : Int32) (x3 : Int32) (j4 : Nat) (K : TS → Int32 → Prop) (hl : w.2.1.stackTraces = false) (h0 : tp_is w j0 7) (h4 : tp_is w j4 33) (hw : wp_L_call τ j0 x1 x2 x3 j4 K) : MA w yL_call wsL_call 8 127 4 24 [.ref (w.1 j0), .int x1, .int x2, .int x3, .ref (w.1 j4)] τ K := by
  refine tp_enterA (hh := [(0, 12, 15, 19), (0, 12, 19, 21), (0, 12, 23, 13)]) (cc := cL_call) (maxL := 6) (own := RL) hl (by decide) rfl rfl (Nat.le_of_ble_eq_true rfl) (fun g C D A hR => ?_)
  show Zt w g τ (0, 0) 0 [(0, .ref (w.1 j0)), (1, .int x1), (2, .int x2), (3, .int x3), (4, .ref (w.1 j4))] []
  unfold wp_L_call at hw
  obtain ⟨JH, hJ0, hJ1, hJ2, hw⟩ := hw
  have hh0 : ∀ (τ21 : TS) (q : Nat), JH τ21 0 → Zt w g τ21 (4, 24) 15 [] [.ref q] := by
    intro τ21 q hq
    have hw := hJ0 τ21 hq
    refine z_astore C [(5, .ref q)] dL_call_15 (by decide) rfl ?_
    refine z_iconst C 1 (by decide) dL_call_17 ?_
    exact hR _ _ _ _ dL_call_18 hw
  have hh1 : ∀ (τ21 : TS) (q : Nat), JH τ21 1 → Zt w g τ21 (4, 24) 19 [] [.ref q] := by
    intro τ21 q hq
    have hw := hJ1 τ21 hq
    refine z_astore C [(5, .ref q)] dL_call_19 (by decide) rfl ?_
    refine z_iconst C 2 (by decide) dL_call_21 ?_
    exact hR _ _ _ _ dL_call_22 hw
  have hh2 : ∀ (τ21 : TS) (cd : Nat) (q : Nat), JH τ21 (cd + 2) → Zt w g τ21 (4, 24) 23 [] [.ref q] := by
    intro τ21 cd q hq
    have hw := hJ2 τ21 cd hq
    refine z_astore C [(5, .ref q)] dL_call_23 (by decide) rfl ?_
    refine z_iconst C 3 (by decide) dL_call_25 ?_
    exact hR _ _ _ _ dL_call_26 hw
  refine z_aload C 4 (by rfl) dL_call_0 ?_
  refine z_iconst C 0 (by decide) dL_call_2 ?_
  refine z_aload_n C 0 (by rfl) dL_call_3 ?_
  refine z_iload_n C 1 (by rfl) dL_call_4 ?_
  refine z_iload_n C 2 (by rfl) dL_call_5 ?_
  refine z_iload_n C 3 (by rfl) dL_call_6 ?_
  refine xv_i C D (As := [.int x1, .int x2, .int x3]) (bytes := cX8_call) (maxL := 4) (F1 := 7) (L1 := 104) (mc := 4) (ms := 24) (cx_X8_call w _ j0 x1 x2 x3 _ _ hl h0 hw) h0.2 (tE7 h0.1) rfl 3 gL_call_X8_call rfl (by decide +kernel) ⟨Nat.le_of_ble_eq_true rfl, Nat.le_of_ble_eq_true rfl⟩ rfl (Nat.le_of_ble_eq_true rfl) (k2 := (4, 24)) rfl ⟨Nat.le_of_ble_eq_true rfl, Nat.le_of_ble_eq_true rfl⟩ rfl dL_call_7 (fun τ22 cd hx => ?_) (fun x23 τ22 hw => ?_)
  · rcases cd with _ | _ | cd
    · refine z_catch C A (cd := 0) (i := 0) (hp := 15) (ct := 19) rfl rfl rfl (by decide) mw_L_call_0 D (by decide) (fun _ hN => fun _ h => absurd h List.not_mem_nil) (fun q => ?_)
      refine z_sub [] [] rfl ?_
      exact hh0 _ q hx
    · refine z_catch C A (cd := 1) (i := 1) (hp := 19) (ct := 21) rfl rfl rfl (by decide) mw_L_call_1 D (by decide) (fun _ hN => List.forall_mem_cons.mpr ⟨Or.inr ⟨by decide, _, mw_L_call_0, hN.1⟩, fun _ h => absurd h List.not_mem_nil⟩) (fun q => ?_)
      refine z_sub [] [] rfl ?_
      exact hh1 _ q hx
    · show Zx w g _ _ _ _ (tp_exn 2)
      refine z_catch C A (cd := 2) (i := 2) (hp := 23) (ct := 13) rfl rfl rfl (by decide) mw_L_call_2 D (by decide) (fun _ hN => List.forall_mem_cons.mpr ⟨Or.inr ⟨by decide, _, mw_L_call_0, hN.2.1⟩, List.forall_mem_cons.mpr ⟨Or.inr ⟨by decide, _, mw_L_call_1, hN.2.2⟩, fun _ h => absurd h List.not_mem_nil⟩⟩) (fun q => ?_)
      refine z_sub [] [] rfl ?_
      exact hh2 _ cd q hx
  refine z_i2l C dL_call_10 ?_
  refine z_last0 C h4 dL_call_11 (fun τ24 eτ24 => ?_)
  have hw := hw τ24 eτ24
  refine z_goto (tgt := 27) C dL_call_12 (by decide) ?_
  refine z_iconst C 0 (by decide) dL_call_27 ?_
  exact hR _ _ _ _ dL_call_28 hw
def wp_L_give (τ : TS) (j0 : Nat) (x1 : Int32) (x2 : Int32) (x3 : Int32) (j4 : Nat) (K : TS → Int32 → Prop) : Prop :=
  ∃ JH : TS → Nat → Prop, (∀ (τ21 : TS), JH τ21 0 → (K τ21 1)) ∧ (∀ (τ21 : TS), JH τ21 1 → (K τ21 2)) ∧ (∀ (τ21 : TS) (cd : Nat), JH τ21 (cd + 2) → (K τ21 3)) ∧ (wpx_X8_give τ j0 x1 x2 x3 (fun τ22 x23 => ∀ τ24 : TS, τ24 = tp_rw τ22 j4 (upd (upd (τ22 j4) 0 (tp_hi (Int32.toInt64 x23))) 1 (tp_lo (Int32.toInt64 x23))) → K τ24 0) JH)
theorem mw_L_give_0 : Cond.classLink RL 19 "java/lang/IndexOutOfBoundsException" ∈ wsL_give := List.mem_of_getElem? (i := 1) rfl
theorem mw_L_give_1 : Cond.classLink RL 21 "java/lang/IllegalArgumentException" ∈ wsL_give := List.mem_of_getElem? (i := 2) rfl
theorem mw_L_give_2 : Cond.classLink RL 13 "java/lang/IllegalStateException" ∈ wsL_give := List.mem_of_getElem? (i := 3) rfl
set_option maxHeartbeats 8000000 in
set_option maxRecDepth 100000 in
theorem c_L_give (w : WPar) (τ : TS) (j0 : Nat) (x1 : Int32) (x2 : Int32) (x3 : Int32) (j4 : Nat) (K : TS → Int32 → Prop) (hl : w.2.1.stackTraces = false) (h0 : tp_is w j0 7) (h4 : tp_is w j4 33) (hw : wp_L_give τ j0 x1 x2 x3 j4 K) : MA w yL_give wsL_give 9 149 2 12 [.ref (w.1 j0), .int x1, .int x2, .int x3, .ref (w.1 j4)] τ K := by
  refine tp_enterA (hh := [(0, 12, 15, 19), (0, 12, 19, 21), (0, 12, 23, 13)]) (cc := cL_give) (maxL := 6) (own := RL) hl (by decide) rfl rfl (Nat.le_of_ble_eq_true rfl) (fun g C D A hR => ?_)
  show Zt w g τ (0, 0) 0 [(0, .ref (w.1 j0)), (1, .int x1), (2, .int x2), (3, .int x3), (4, .ref (w.1 j4))] []
  unfold wp_L_give at hw
  obtain ⟨JH, hJ0, hJ1, hJ2, hw⟩ := hw
  have hh0 : ∀ (τ21 : TS) (q : Nat), JH τ21 0 → Zt w g τ21 (2, 12) 15 [] [.ref q] := by
    intro τ21 q hq
    have hw := hJ0 τ21 hq
    refine z_astore C [(5, .ref q)] dL_give_15 (by decide) rfl ?_
    refine z_iconst C 1 (by decide) dL_give_17 ?_
    exact hR _ _ _ _ dL_give_18 hw
  have hh1 : ∀ (τ21 : TS) (q : Nat), JH τ21 1 → Zt w g τ21 (2, 12) 19 [] [.ref q] := by
    intro τ21 q hq
    have hw := hJ1 τ21 hq
    refine z_astore C [(5, .ref q)] dL_give_19 (by decide) rfl ?_
    refine z_iconst C 2 (by decide) dL_give_21 ?_
    exact hR _ _ _ _ dL_give_22 hw
  have hh2 : ∀ (τ21 : TS) (cd : Nat) (q : Nat), JH τ21 (cd + 2) → Zt w g τ21 (2, 12) 23 [] [.ref q] := by
    intro τ21 cd q hq
    have hw := hJ2 τ21 cd hq
    refine z_astore C [(5, .ref q)] dL_give_23 (by decide) rfl ?_
    refine z_iconst C 3 (by decide) dL_give_25 ?_
    exact hR _ _ _ _ dL_give_26 hw
  refine z_aload C 4 (by rfl) dL_give_0 ?_
  refine z_iconst C 0 (by decide) dL_give_2 ?_
  refine z_aload_n C 0 (by rfl) dL_give_3 ?_
  refine z_iload_n C 1 (by rfl) dL_give_4 ?_
  refine z_iload_n C 2 (by rfl) dL_give_5 ?_
  refine z_iload_n C 3 (by rfl) dL_give_6 ?_
  refine xv_i C D (As := [.int x1, .int x2, .int x3]) (bytes := cX8_give) (maxL := 6) (F1 := 8) (L1 := 124) (mc := 2) (ms := 12) (cx_X8_give w _ j0 x1 x2 x3 _ _ hl h0 hw) h0.2 (tE7 h0.1) rfl 3 gL_give_X8_give rfl (by decide +kernel) ⟨Nat.le_of_ble_eq_true rfl, Nat.le_of_ble_eq_true rfl⟩ rfl (Nat.le_of_ble_eq_true rfl) (k2 := (2, 12)) rfl ⟨Nat.le_of_ble_eq_true rfl, Nat.le_of_ble_eq_true rfl⟩ rfl dL_give_7 (fun τ22 cd hx => ?_) (fun x23 τ22 hw => ?_)
  · rcases cd with _ | _ | cd
    · refine z_catch C A (cd := 0) (i := 0) (hp := 15) (ct := 19) rfl rfl rfl (by decide) mw_L_give_0 D (by decide) (fun _ hN => fun _ h => absurd h List.not_mem_nil) (fun q => ?_)
      refine z_sub [] [] rfl ?_
      exact hh0 _ q hx
    · refine z_catch C A (cd := 1) (i := 1) (hp := 19) (ct := 21) rfl rfl rfl (by decide) mw_L_give_1 D (by decide) (fun _ hN => List.forall_mem_cons.mpr ⟨Or.inr ⟨by decide, _, mw_L_give_0, hN.1⟩, fun _ h => absurd h List.not_mem_nil⟩) (fun q => ?_)
      refine z_sub [] [] rfl ?_
      exact hh1 _ q hx
    · show Zx w g _ _ _ _ (tp_exn 2)
      refine z_catch C A (cd := 2) (i := 2) (hp := 23) (ct := 13) rfl rfl rfl (by decide) mw_L_give_2 D (by decide) (fun _ hN => List.forall_mem_cons.mpr ⟨Or.inr ⟨by decide, _, mw_L_give_0, hN.2.1⟩, List.forall_mem_cons.mpr ⟨Or.inr ⟨by decide, _, mw_L_give_1, hN.2.2⟩, fun _ h => absurd h List.not_mem_nil⟩⟩) (fun q => ?_)
      refine z_sub [] [] rfl ?_
      exact hh2 _ cd q hx
  refine z_i2l C dL_give_10 ?_
  refine z_last0 C h4 dL_give_11 (fun τ24 eτ24 => ?_)
  have hw := hw τ24 eτ24
  refine z_goto (tgt := 27) C dL_give_12 (by decide) ?_
  refine z_iconst C 0 (by decide) dL_give_27 ?_
  exact hR _ _ _ _ dL_give_28 hw
def wp_L_close (τ : TS) (j0 : Nat) (x1 : Int32) (j2 : Nat) (K : TS → Int32 → Prop) : Prop :=
  ∃ JH : TS → Nat → Prop, (∀ (τ21 : TS), JH τ21 0 → (K τ21 1)) ∧ (∀ (τ21 : TS), JH τ21 1 → False) ∧ (∀ (τ21 : TS) (cd : Nat), JH τ21 (cd + 2) → (K τ21 2)) ∧ (wpx_X8_close τ j0 x1 (fun τ22 x23 => ∀ τ24 : TS, τ24 = tp_rw τ22 j2 (upd (upd (τ22 j2) 0 (tp_hi (Int32.toInt64 x23))) 1 (tp_lo (Int32.toInt64 x23))) → K τ24 0) JH)
theorem mw_L_close_0 : Cond.classLink RL 19 "java/lang/IndexOutOfBoundsException" ∈ wsL_close := List.mem_of_getElem? (i := 1) rfl
theorem mw_L_close_1 : Cond.classLink RL 13 "java/lang/IllegalStateException" ∈ wsL_close := List.mem_of_getElem? (i := 2) rfl
set_option maxHeartbeats 8000000 in
set_option maxRecDepth 100000 in
theorem c_L_close (w : WPar) (τ : TS) (j0 : Nat) (x1 : Int32) (j2 : Nat) (K : TS → Int32 → Prop) (hl : w.2.1.stackTraces = false) (h0 : tp_is w j0 7) (h2 : tp_is w j2 33) (hw : wp_L_close τ j0 x1 j2 K) : MA w yL_close wsL_close 9 146 1 6 [.ref (w.1 j0), .int x1, .ref (w.1 j2)] τ K := by
  refine tp_enterA (hh := [(0, 9, 12, 19), (0, 9, 15, 13)]) (cc := cL_close) (maxL := 4) (own := RL) hl (by decide) rfl rfl (Nat.le_of_ble_eq_true rfl) (fun g C D A hR => ?_)
  show Zt w g τ (0, 0) 0 [(0, .ref (w.1 j0)), (1, .int x1), (2, .ref (w.1 j2))] []
  unfold wp_L_close at hw
  obtain ⟨JH, hJ0, hJ1, hJ2, hw⟩ := hw
  have hh0 : ∀ (τ21 : TS) (q : Nat), JH τ21 0 → Zt w g τ21 (1, 6) 12 [] [.ref q] := by
    intro τ21 q hq
    have hw := hJ0 τ21 hq
    refine z_astore_n C [(3, .ref q)] dL_close_12 (by decide) rfl ?_
    refine z_iconst C 1 (by decide) dL_close_13 ?_
    exact hR _ _ _ _ dL_close_14 hw
  have hh2 : ∀ (τ21 : TS) (cd : Nat) (q : Nat), JH τ21 (cd + 2) → Zt w g τ21 (1, 6) 15 [] [.ref q] := by
    intro τ21 cd q hq
    have hw := hJ2 τ21 cd hq
    refine z_astore_n C [(3, .ref q)] dL_close_15 (by decide) rfl ?_
    refine z_iconst C 2 (by decide) dL_close_16 ?_
    exact hR _ _ _ _ dL_close_17 hw
  refine z_aload_n C 2 (by rfl) dL_close_0 ?_
  refine z_iconst C 0 (by decide) dL_close_1 ?_
  refine z_aload_n C 0 (by rfl) dL_close_2 ?_
  refine z_iload_n C 1 (by rfl) dL_close_3 ?_
  refine xv_i C D (As := [.int x1]) (bytes := cX8_close) (maxL := 3) (F1 := 8) (L1 := 124) (mc := 1) (ms := 6) (cx_X8_close w _ j0 x1 _ _ hl h0 hw) h0.2 (tE7 h0.1) rfl 1 gL_close_X8_close rfl (by decide +kernel) ⟨Nat.le_of_ble_eq_true rfl, Nat.le_of_ble_eq_true rfl⟩ rfl (Nat.le_of_ble_eq_true rfl) (k2 := (1, 6)) rfl ⟨Nat.le_of_ble_eq_true rfl, Nat.le_of_ble_eq_true rfl⟩ rfl dL_close_4 (fun τ22 cd hx => ?_) (fun x23 τ22 hw => ?_)
  · rcases cd with _ | _ | cd
    · refine z_catch C A (cd := 0) (i := 0) (hp := 12) (ct := 19) rfl rfl rfl (by decide) mw_L_close_0 D (by decide) (fun _ hN => fun _ h => absurd h List.not_mem_nil) (fun q => ?_)
      refine z_sub [] [] rfl ?_
      exact hh0 _ q hx
    · exact (hJ1 _ hx).elim
    · show Zx w g _ _ _ _ (tp_exn 2)
      refine z_catch C A (cd := 2) (i := 1) (hp := 15) (ct := 13) rfl rfl rfl (by decide) mw_L_close_1 D (by decide) (fun _ hN => List.forall_mem_cons.mpr ⟨Or.inr ⟨by decide, _, mw_L_close_0, hN.2.1⟩, fun _ h => absurd h List.not_mem_nil⟩) (fun q => ?_)
      refine z_sub [] [] rfl ?_
      exact hh2 _ cd q hx
  refine z_i2l C dL_close_7 ?_
  refine z_last0 C h2 dL_close_8 (fun τ24 eτ24 => ?_)
  have hw := hw τ24 eτ24
  refine z_goto (tgt := 18) C dL_close_9 (by decide) ?_
  refine z_iconst C 0 (by decide) dL_close_18 ?_
  exact hR _ _ _ _ dL_close_19 hw
def wp_L_read (τ : TS) (j0 : Nat) (x1 : Int32) (x2 : Int32) (j3 : Nat) (K : TS → Int32 → Prop) : Prop :=
  ∃ JH : TS → Nat → Prop, (∀ (τ21 : TS), JH τ21 0 → (K τ21 1)) ∧ (∀ (τ21 : TS), JH τ21 1 → (K τ21 2)) ∧ (∀ (τ21 : TS) (cd : Nat), JH τ21 (cd + 2) → (K τ21 3)) ∧ (wpx_X8_read τ j0 x1 x2 (fun τ22 x23 => ∀ τ24 : TS, τ24 = tp_rw τ22 j3 (upd (upd (τ22 j3) 0 (tp_hi (Int32.toInt64 x23))) 1 (tp_lo (Int32.toInt64 x23))) → K τ24 0) JH)
theorem mw_L_read_0 : Cond.classLink RL 19 "java/lang/IndexOutOfBoundsException" ∈ wsL_read := List.mem_of_getElem? (i := 1) rfl
theorem mw_L_read_1 : Cond.classLink RL 21 "java/lang/IllegalArgumentException" ∈ wsL_read := List.mem_of_getElem? (i := 2) rfl
theorem mw_L_read_2 : Cond.classLink RL 13 "java/lang/IllegalStateException" ∈ wsL_read := List.mem_of_getElem? (i := 3) rfl
set_option maxHeartbeats 8000000 in
set_option maxRecDepth 100000 in
theorem c_L_read (w : WPar) (τ : TS) (j0 : Nat) (x1 : Int32) (x2 : Int32) (j3 : Nat) (K : TS → Int32 → Prop) (hl : w.2.1.stackTraces = false) (h0 : tp_is w j0 7) (h3 : tp_is w j3 33) (hw : wp_L_read τ j0 x1 x2 j3 K) : MA w yL_read wsL_read 8 132 2 12 [.ref (w.1 j0), .int x1, .int x2, .ref (w.1 j3)] τ K := by
  refine tp_enterA (hh := [(0, 10, 13, 19), (0, 10, 17, 21), (0, 10, 21, 13)]) (cc := cL_read) (maxL := 5) (own := RL) hl (by decide) rfl rfl (Nat.le_of_ble_eq_true rfl) (fun g C D A hR => ?_)
  show Zt w g τ (0, 0) 0 [(0, .ref (w.1 j0)), (1, .int x1), (2, .int x2), (3, .ref (w.1 j3))] []
  unfold wp_L_read at hw
  obtain ⟨JH, hJ0, hJ1, hJ2, hw⟩ := hw
  have hh0 : ∀ (τ21 : TS) (q : Nat), JH τ21 0 → Zt w g τ21 (2, 12) 13 [] [.ref q] := by
    intro τ21 q hq
    have hw := hJ0 τ21 hq
    refine z_astore C [(4, .ref q)] dL_read_13 (by decide) rfl ?_
    refine z_iconst C 1 (by decide) dL_read_15 ?_
    exact hR _ _ _ _ dL_read_16 hw
  have hh1 : ∀ (τ21 : TS) (q : Nat), JH τ21 1 → Zt w g τ21 (2, 12) 17 [] [.ref q] := by
    intro τ21 q hq
    have hw := hJ1 τ21 hq
    refine z_astore C [(4, .ref q)] dL_read_17 (by decide) rfl ?_
    refine z_iconst C 2 (by decide) dL_read_19 ?_
    exact hR _ _ _ _ dL_read_20 hw
  have hh2 : ∀ (τ21 : TS) (cd : Nat) (q : Nat), JH τ21 (cd + 2) → Zt w g τ21 (2, 12) 21 [] [.ref q] := by
    intro τ21 cd q hq
    have hw := hJ2 τ21 cd hq
    refine z_astore C [(4, .ref q)] dL_read_21 (by decide) rfl ?_
    refine z_iconst C 3 (by decide) dL_read_23 ?_
    exact hR _ _ _ _ dL_read_24 hw
  refine z_aload_n C 3 (by rfl) dL_read_0 ?_
  refine z_iconst C 0 (by decide) dL_read_1 ?_
  refine z_aload_n C 0 (by rfl) dL_read_2 ?_
  refine z_iload_n C 1 (by rfl) dL_read_3 ?_
  refine z_iload_n C 2 (by rfl) dL_read_4 ?_
  refine xv_i C D (As := [.int x1, .int x2]) (bytes := cX8_read) (maxL := 9) (F1 := 7) (L1 := 104) (mc := 2) (ms := 12) (cx_X8_read w _ j0 x1 x2 _ _ hl h0 hw) h0.2 (tE7 h0.1) rfl 2 gL_read_X8_read rfl (by decide +kernel) ⟨Nat.le_of_ble_eq_true rfl, Nat.le_of_ble_eq_true rfl⟩ rfl (Nat.le_of_ble_eq_true rfl) (k2 := (2, 12)) rfl ⟨Nat.le_of_ble_eq_true rfl, Nat.le_of_ble_eq_true rfl⟩ rfl dL_read_5 (fun τ22 cd hx => ?_) (fun x23 τ22 hw => ?_)
  · rcases cd with _ | _ | cd
    · refine z_catch C A (cd := 0) (i := 0) (hp := 13) (ct := 19) rfl rfl rfl (by decide) mw_L_read_0 D (by decide) (fun _ hN => fun _ h => absurd h List.not_mem_nil) (fun q => ?_)
      refine z_sub [] [] rfl ?_
      exact hh0 _ q hx
    · refine z_catch C A (cd := 1) (i := 1) (hp := 17) (ct := 21) rfl rfl rfl (by decide) mw_L_read_1 D (by decide) (fun _ hN => List.forall_mem_cons.mpr ⟨Or.inr ⟨by decide, _, mw_L_read_0, hN.1⟩, fun _ h => absurd h List.not_mem_nil⟩) (fun q => ?_)
      refine z_sub [] [] rfl ?_
      exact hh1 _ q hx
    · show Zx w g _ _ _ _ (tp_exn 2)
      refine z_catch C A (cd := 2) (i := 2) (hp := 21) (ct := 13) rfl rfl rfl (by decide) mw_L_read_2 D (by decide) (fun _ hN => List.forall_mem_cons.mpr ⟨Or.inr ⟨by decide, _, mw_L_read_0, hN.2.1⟩, List.forall_mem_cons.mpr ⟨Or.inr ⟨by decide, _, mw_L_read_1, hN.2.2⟩, fun _ h => absurd h List.not_mem_nil⟩⟩) (fun q => ?_)
      refine z_sub [] [] rfl ?_
      exact hh2 _ cd q hx
  refine z_i2l C dL_read_8 ?_
  refine z_last0 C h3 dL_read_9 (fun τ24 eτ24 => ?_)
  have hw := hw τ24 eτ24
  refine z_goto (tgt := 25) C dL_read_10 (by decide) ?_
  refine z_iconst C 0 (by decide) dL_read_25 ?_
  exact hR _ _ _ _ dL_read_26 hw
def wp_L_pass (τ : TS) (j0 : Nat) (x1 : Int32) (j2 : Nat) (K : TS → Int32 → Prop) : Prop :=
  ∃ JH : TS → Nat → Prop, (∀ (τ21 : TS), JH τ21 0 → False) ∧ (∀ (τ21 : TS), JH τ21 1 → (K τ21 1)) ∧ (∀ (τ21 : TS) (cd : Nat), JH τ21 (cd + 2) → False) ∧ (wpx_X8_pass τ j0 x1 (fun τ22 x23 => ∀ τ24 : TS, τ24 = tp_rw τ22 j2 (upd (upd (τ22 j2) 0 (tp_hi (Int32.toInt64 x23))) 1 (tp_lo (Int32.toInt64 x23))) → K τ24 0) JH)
theorem mw_L_pass_0 : Cond.classLink RL 21 "java/lang/IllegalArgumentException" ∈ wsL_pass := List.mem_of_getElem? (i := 1) rfl
set_option maxHeartbeats 8000000 in
set_option maxRecDepth 100000 in
theorem c_L_pass (w : WPar) (τ : TS) (j0 : Nat) (x1 : Int32) (j2 : Nat) (K : TS → Int32 → Prop) (hl : w.2.1.stackTraces = false) (h0 : tp_is w j0 7) (h2 : tp_is w j2 33) (hw : wp_L_pass τ j0 x1 j2 K) : MA w yL_pass wsL_pass 8 126 1 6 [.ref (w.1 j0), .int x1, .ref (w.1 j2)] τ K := by
  refine tp_enterA (hh := [(0, 9, 12, 21)]) (cc := cL_pass) (maxL := 4) (own := RL) hl (by decide) rfl rfl (Nat.le_of_ble_eq_true rfl) (fun g C D A hR => ?_)
  show Zt w g τ (0, 0) 0 [(0, .ref (w.1 j0)), (1, .int x1), (2, .ref (w.1 j2))] []
  unfold wp_L_pass at hw
  obtain ⟨JH, hJ0, hJ1, hJ2, hw⟩ := hw
  have hh1 : ∀ (τ21 : TS) (q : Nat), JH τ21 1 → Zt w g τ21 (1, 6) 12 [] [.ref q] := by
    intro τ21 q hq
    have hw := hJ1 τ21 hq
    refine z_astore_n C [(3, .ref q)] dL_pass_12 (by decide) rfl ?_
    refine z_iconst C 1 (by decide) dL_pass_13 ?_
    exact hR _ _ _ _ dL_pass_14 hw
  refine z_aload_n C 2 (by rfl) dL_pass_0 ?_
  refine z_iconst C 0 (by decide) dL_pass_1 ?_
  refine z_aload_n C 0 (by rfl) dL_pass_2 ?_
  refine z_iload_n C 1 (by rfl) dL_pass_3 ?_
  refine xv_i C D (As := [.int x1]) (bytes := cX8_pass) (maxL := 3) (F1 := 7) (L1 := 104) (mc := 1) (ms := 6) (cx_X8_pass w _ j0 x1 _ _ hl h0 hw) h0.2 (tE7 h0.1) rfl 1 gL_pass_X8_pass rfl (by decide +kernel) ⟨Nat.le_of_ble_eq_true rfl, Nat.le_of_ble_eq_true rfl⟩ rfl (Nat.le_of_ble_eq_true rfl) (k2 := (1, 6)) rfl ⟨Nat.le_of_ble_eq_true rfl, Nat.le_of_ble_eq_true rfl⟩ rfl dL_pass_4 (fun τ22 cd hx => ?_) (fun x23 τ22 hw => ?_)
  · rcases cd with _ | _ | cd
    · exact (hJ0 _ hx).elim
    · refine z_catch C A (cd := 1) (i := 0) (hp := 12) (ct := 21) rfl rfl rfl (by decide) mw_L_pass_0 D (by decide) (fun _ hN => fun _ h => absurd h List.not_mem_nil) (fun q => ?_)
      refine z_sub [] [] rfl ?_
      exact hh1 _ q hx
    · exact (hJ2 _ _ hx).elim
  refine z_i2l C dL_pass_7 ?_
  refine z_last0 C h2 dL_pass_8 (fun τ24 eτ24 => ?_)
  have hw := hw τ24 eτ24
  refine z_goto (tgt := 15) C dL_pass_9 (by decide) ?_
  refine z_iconst C 0 (by decide) dL_pass_15 ?_
  exact hR _ _ _ _ dL_pass_16 hw
def wp_L_isUp (τ : TS) (j0 : Nat) (x1 : Int32) (j2 : Nat) (K : TS → Int32 → Prop) : Prop :=
  ∃ JH : TS → Nat → Prop, (∀ (τ21 : TS), JH τ21 0 → (K τ21 1)) ∧ (∀ (τ21 : TS), JH τ21 1 → False) ∧ (∀ (τ21 : TS) (cd : Nat), JH τ21 (cd + 2) → False) ∧ (wpx_X8_isUp τ j0 x1 (fun τ22 x23 => ((x23 = 0) → (∀ τ25 : TS, τ25 = tp_rw τ22 j2 (upd (upd (τ22 j2) 0 (tp_hi 0)) 1 (tp_lo 0)) → K τ25 0)) ∧ ((¬ x23 = 0) → (∀ τ26 : TS, τ26 = tp_rw τ22 j2 (upd (upd (τ22 j2) 0 (tp_hi 1)) 1 (tp_lo 1)) → K τ26 0))) JH)
theorem mw_L_isUp_0 : Cond.classLink RL 19 "java/lang/IndexOutOfBoundsException" ∈ wsL_isUp := List.mem_of_getElem? (i := 1) rfl
set_option maxHeartbeats 8000000 in
set_option maxRecDepth 100000 in
theorem c_L_isUp (w : WPar) (τ : TS) (j0 : Nat) (x1 : Int32) (j2 : Nat) (K : TS → Int32 → Prop) (hl : w.2.1.stackTraces = false) (h0 : tp_is w j0 7) (h2 : tp_is w j2 33) (hw : wp_L_isUp τ j0 x1 j2 K) : MA w yL_isUp wsL_isUp 8 124 1 6 [.ref (w.1 j0), .int x1, .ref (w.1 j2)] τ K := by
  refine tp_enterA (hh := [(0, 16, 19, 19)]) (cc := cL_isUp) (maxL := 4) (own := RL) hl (by decide) rfl rfl (Nat.le_of_ble_eq_true rfl) (fun g C D A hR => ?_)
  show Zt w g τ (0, 0) 0 [(0, .ref (w.1 j0)), (1, .int x1), (2, .ref (w.1 j2))] []
  unfold wp_L_isUp at hw
  obtain ⟨JH, hJ0, hJ1, hJ2, hw⟩ := hw
  have hh0 : ∀ (τ21 : TS) (q : Nat), JH τ21 0 → Zt w g τ21 (1, 6) 19 [] [.ref q] := by
    intro τ21 q hq
    have hw := hJ0 τ21 hq
    refine z_astore_n C [(3, .ref q)] dL_isUp_19 (by decide) rfl ?_
    refine z_iconst C 1 (by decide) dL_isUp_20 ?_
    exact hR _ _ _ _ dL_isUp_21 hw
  refine z_aload_n C 2 (by rfl) dL_isUp_0 ?_
  refine z_iconst C 0 (by decide) dL_isUp_1 ?_
  refine z_aload_n C 0 (by rfl) dL_isUp_2 ?_
  refine z_iload_n C 1 (by rfl) dL_isUp_3 ?_
  refine xv_i C D (As := [.int x1]) (bytes := cX8_isUp) (maxL := 2) (F1 := 7) (L1 := 103) (mc := 1) (ms := 6) (cx_X8_isUp w _ j0 x1 _ _ hl h0 hw) h0.2 (tE7 h0.1) rfl 1 gL_isUp_X8_isUp rfl (by decide +kernel) ⟨Nat.le_of_ble_eq_true rfl, Nat.le_of_ble_eq_true rfl⟩ rfl (Nat.le_of_ble_eq_true rfl) (k2 := (1, 6)) rfl ⟨Nat.le_of_ble_eq_true rfl, Nat.le_of_ble_eq_true rfl⟩ rfl dL_isUp_4 (fun τ22 cd hx => ?_) (fun x23 τ22 hw => ?_)
  · rcases cd with _ | _ | cd
    · refine z_catch C A (cd := 0) (i := 0) (hp := 19) (ct := 19) rfl rfl rfl (by decide) mw_L_isUp_0 D (by decide) (fun _ hN => fun _ h => absurd h List.not_mem_nil) (fun q => ?_)
      refine z_sub [] [] rfl ?_
      exact hh0 _ q hx
    · exact (hJ1 _ hx).elim
    · exact (hJ2 _ _ hx).elim
  refine z_if_eq (tgt := 14) C dL_isUp_7 (by decide) (fun c24 => ?_) (fun c24 => ?_)
  · have hw := hw.1 c24
    refine z_lconst C 0 (by decide) dL_isUp_14 ?_
    refine z_last0 C h2 dL_isUp_15 (fun τ25 eτ25 => ?_)
    have hw := hw τ25 eτ25
    refine z_goto (tgt := 22) C dL_isUp_16 (by decide) ?_
    refine z_iconst C 0 (by decide) dL_isUp_22 ?_
    exact hR _ _ _ _ dL_isUp_23 hw
  · have hw := hw.2 c24
    refine z_lconst C 1 (by decide) dL_isUp_10 ?_
    refine z_goto (tgt := 15) C dL_isUp_11 (by decide) ?_
    refine z_last0 C h2 dL_isUp_15 (fun τ26 eτ26 => ?_)
    have hw := hw τ26 eτ26
    refine z_goto (tgt := 22) C dL_isUp_16 (by decide) ?_
    refine z_iconst C 0 (by decide) dL_isUp_22 ?_
    exact hR _ _ _ _ dL_isUp_23 hw
def wp_L_distance (τ : TS) (j0 : Nat) (x1 : Int32) (x2 : Int32) (j3 : Nat) (K : TS → Int32 → Prop) : Prop :=
  ∃ JH : TS → Nat → Prop, (∀ (τ21 : TS), JH τ21 0 → (K τ21 1)) ∧ (∀ (τ21 : TS), JH τ21 1 → False) ∧ (∀ (τ21 : TS) (cd : Nat), JH τ21 (cd + 2) → False) ∧ (wpx_X8_distance τ j0 x1 x2 (fun τ22 x23 => ∀ τ24 : TS, τ24 = tp_rw τ22 j3 (upd (upd (τ22 j3) 0 (tp_hi (Int32.toInt64 x23))) 1 (tp_lo (Int32.toInt64 x23))) → K τ24 0) JH)
theorem mw_L_distance_0 : Cond.classLink RL 19 "java/lang/IndexOutOfBoundsException" ∈ wsL_distance := List.mem_of_getElem? (i := 1) rfl
set_option maxHeartbeats 8000000 in
set_option maxRecDepth 100000 in
theorem c_L_distance (w : WPar) (τ : TS) (j0 : Nat) (x1 : Int32) (x2 : Int32) (j3 : Nat) (K : TS → Int32 → Prop) (hl : w.2.1.stackTraces = false) (h0 : tp_is w j0 7) (h3 : tp_is w j3 33) (hw : wp_L_distance τ j0 x1 x2 j3 K) : MA w yL_distance wsL_distance 8 125 2 12 [.ref (w.1 j0), .int x1, .int x2, .ref (w.1 j3)] τ K := by
  refine tp_enterA (hh := [(0, 10, 13, 19)]) (cc := cL_distance) (maxL := 5) (own := RL) hl (by decide) rfl rfl (Nat.le_of_ble_eq_true rfl) (fun g C D A hR => ?_)
  show Zt w g τ (0, 0) 0 [(0, .ref (w.1 j0)), (1, .int x1), (2, .int x2), (3, .ref (w.1 j3))] []
  unfold wp_L_distance at hw
  obtain ⟨JH, hJ0, hJ1, hJ2, hw⟩ := hw
  have hh0 : ∀ (τ21 : TS) (q : Nat), JH τ21 0 → Zt w g τ21 (2, 12) 13 [] [.ref q] := by
    intro τ21 q hq
    have hw := hJ0 τ21 hq
    refine z_astore C [(4, .ref q)] dL_distance_13 (by decide) rfl ?_
    refine z_iconst C 1 (by decide) dL_distance_15 ?_
    exact hR _ _ _ _ dL_distance_16 hw
  refine z_aload_n C 3 (by rfl) dL_distance_0 ?_
  refine z_iconst C 0 (by decide) dL_distance_1 ?_
  refine z_aload_n C 0 (by rfl) dL_distance_2 ?_
  refine z_iload_n C 1 (by rfl) dL_distance_3 ?_
  refine z_iload_n C 2 (by rfl) dL_distance_4 ?_
  refine xv_i C D (As := [.int x1, .int x2]) (bytes := cX8_distance) (maxL := 3) (F1 := 7) (L1 := 103) (mc := 2) (ms := 12) (cx_X8_distance w _ j0 x1 x2 _ _ hl h0 hw) h0.2 (tE7 h0.1) rfl 2 gL_distance_X8_distance rfl (by decide +kernel) ⟨Nat.le_of_ble_eq_true rfl, Nat.le_of_ble_eq_true rfl⟩ rfl (Nat.le_of_ble_eq_true rfl) (k2 := (2, 12)) rfl ⟨Nat.le_of_ble_eq_true rfl, Nat.le_of_ble_eq_true rfl⟩ rfl dL_distance_5 (fun τ22 cd hx => ?_) (fun x23 τ22 hw => ?_)
  · rcases cd with _ | _ | cd
    · refine z_catch C A (cd := 0) (i := 0) (hp := 13) (ct := 19) rfl rfl rfl (by decide) mw_L_distance_0 D (by decide) (fun _ hN => fun _ h => absurd h List.not_mem_nil) (fun q => ?_)
      refine z_sub [] [] rfl ?_
      exact hh0 _ q hx
    · exact (hJ1 _ hx).elim
    · exact (hJ2 _ _ hx).elim
  refine z_i2l C dL_distance_8 ?_
  refine z_last0 C h3 dL_distance_9 (fun τ24 eτ24 => ?_)
  have hw := hw τ24 eτ24
  refine z_goto (tgt := 17) C dL_distance_10 (by decide) ?_
  refine z_iconst C 0 (by decide) dL_distance_17 ?_
  exact hR _ _ _ _ dL_distance_18 hw
def wp_L_nextLink (τ : TS) (j0 : Nat) (x1 : Int32) (x2 : Int32) (j3 : Nat) (K : TS → Int32 → Prop) : Prop :=
  ∃ JH : TS → Nat → Prop, (∀ (τ21 : TS), JH τ21 0 → (K τ21 1)) ∧ (∀ (τ21 : TS), JH τ21 1 → False) ∧ (∀ (τ21 : TS) (cd : Nat), JH τ21 (cd + 2) → False) ∧ (wpx_X8_nextLink τ j0 x1 x2 (fun τ22 x23 => ∀ τ24 : TS, τ24 = tp_rw τ22 j3 (upd (upd (τ22 j3) 0 (tp_hi (Int32.toInt64 x23))) 1 (tp_lo (Int32.toInt64 x23))) → K τ24 0) JH)
theorem mw_L_nextLink_0 : Cond.classLink RL 19 "java/lang/IndexOutOfBoundsException" ∈ wsL_nextLink := List.mem_of_getElem? (i := 1) rfl
set_option maxHeartbeats 8000000 in
set_option maxRecDepth 100000 in
theorem c_L_nextLink (w : WPar) (τ : TS) (j0 : Nat) (x1 : Int32) (x2 : Int32) (j3 : Nat) (K : TS → Int32 → Prop) (hl : w.2.1.stackTraces = false) (h0 : tp_is w j0 7) (h3 : tp_is w j3 33) (hw : wp_L_nextLink τ j0 x1 x2 j3 K) : MA w yL_nextLink wsL_nextLink 8 125 2 12 [.ref (w.1 j0), .int x1, .int x2, .ref (w.1 j3)] τ K := by
  refine tp_enterA (hh := [(0, 10, 13, 19)]) (cc := cL_nextLink) (maxL := 5) (own := RL) hl (by decide) rfl rfl (Nat.le_of_ble_eq_true rfl) (fun g C D A hR => ?_)
  show Zt w g τ (0, 0) 0 [(0, .ref (w.1 j0)), (1, .int x1), (2, .int x2), (3, .ref (w.1 j3))] []
  unfold wp_L_nextLink at hw
  obtain ⟨JH, hJ0, hJ1, hJ2, hw⟩ := hw
  have hh0 : ∀ (τ21 : TS) (q : Nat), JH τ21 0 → Zt w g τ21 (2, 12) 13 [] [.ref q] := by
    intro τ21 q hq
    have hw := hJ0 τ21 hq
    refine z_astore C [(4, .ref q)] dL_nextLink_13 (by decide) rfl ?_
    refine z_iconst C 1 (by decide) dL_nextLink_15 ?_
    exact hR _ _ _ _ dL_nextLink_16 hw
  refine z_aload_n C 3 (by rfl) dL_nextLink_0 ?_
  refine z_iconst C 0 (by decide) dL_nextLink_1 ?_
  refine z_aload_n C 0 (by rfl) dL_nextLink_2 ?_
  refine z_iload_n C 1 (by rfl) dL_nextLink_3 ?_
  refine z_iload_n C 2 (by rfl) dL_nextLink_4 ?_
  refine xv_i C D (As := [.int x1, .int x2]) (bytes := cX8_nextLink) (maxL := 3) (F1 := 7) (L1 := 103) (mc := 2) (ms := 12) (cx_X8_nextLink w _ j0 x1 x2 _ _ hl h0 hw) h0.2 (tE7 h0.1) rfl 2 gL_nextLink_X8_nextLink rfl (by decide +kernel) ⟨Nat.le_of_ble_eq_true rfl, Nat.le_of_ble_eq_true rfl⟩ rfl (Nat.le_of_ble_eq_true rfl) (k2 := (2, 12)) rfl ⟨Nat.le_of_ble_eq_true rfl, Nat.le_of_ble_eq_true rfl⟩ rfl dL_nextLink_5 (fun τ22 cd hx => ?_) (fun x23 τ22 hw => ?_)
  · rcases cd with _ | _ | cd
    · refine z_catch C A (cd := 0) (i := 0) (hp := 13) (ct := 19) rfl rfl rfl (by decide) mw_L_nextLink_0 D (by decide) (fun _ hN => fun _ h => absurd h List.not_mem_nil) (fun q => ?_)
      refine z_sub [] [] rfl ?_
      exact hh0 _ q hx
    · exact (hJ1 _ hx).elim
    · exact (hJ2 _ _ hx).elim
  refine z_i2l C dL_nextLink_8 ?_
  refine z_last0 C h3 dL_nextLink_9 (fun τ24 eτ24 => ?_)
  have hw := hw τ24 eτ24
  refine z_goto (tgt := 17) C dL_nextLink_10 (by decide) ?_
  refine z_iconst C 0 (by decide) dL_nextLink_17 ?_
  exact hR _ _ _ _ dL_nextLink_18 hw
def wp_L_queued (τ : TS) (j0 : Nat) (x1 : Int32) (x2 : Int32) (j3 : Nat) (K : TS → Int32 → Prop) : Prop :=
  ∃ JH : TS → Nat → Prop, (∀ (τ21 : TS), JH τ21 0 → (K τ21 1)) ∧ (∀ (τ21 : TS), JH τ21 1 → False) ∧ (∀ (τ21 : TS) (cd : Nat), JH τ21 (cd + 2) → False) ∧ (wpx_X8_queued τ j0 x1 x2 (fun τ22 x23 => ∀ τ24 : TS, τ24 = tp_rw τ22 j3 (upd (upd (τ22 j3) 0 (tp_hi (Int32.toInt64 x23))) 1 (tp_lo (Int32.toInt64 x23))) → K τ24 0) JH)
theorem mw_L_queued_0 : Cond.classLink RL 19 "java/lang/IndexOutOfBoundsException" ∈ wsL_queued := List.mem_of_getElem? (i := 1) rfl
set_option maxHeartbeats 8000000 in
set_option maxRecDepth 100000 in
theorem c_L_queued (w : WPar) (τ : TS) (j0 : Nat) (x1 : Int32) (x2 : Int32) (j3 : Nat) (K : TS → Int32 → Prop) (hl : w.2.1.stackTraces = false) (h0 : tp_is w j0 7) (h3 : tp_is w j3 33) (hw : wp_L_queued τ j0 x1 x2 j3 K) : MA w yL_queued wsL_queued 9 147 2 12 [.ref (w.1 j0), .int x1, .int x2, .ref (w.1 j3)] τ K := by
  refine tp_enterA (hh := [(0, 10, 13, 19)]) (cc := cL_queued) (maxL := 5) (own := RL) hl (by decide) rfl rfl (Nat.le_of_ble_eq_true rfl) (fun g C D A hR => ?_)
  show Zt w g τ (0, 0) 0 [(0, .ref (w.1 j0)), (1, .int x1), (2, .int x2), (3, .ref (w.1 j3))] []
  unfold wp_L_queued at hw
  obtain ⟨JH, hJ0, hJ1, hJ2, hw⟩ := hw
  have hh0 : ∀ (τ21 : TS) (q : Nat), JH τ21 0 → Zt w g τ21 (2, 12) 13 [] [.ref q] := by
    intro τ21 q hq
    have hw := hJ0 τ21 hq
    refine z_astore C [(4, .ref q)] dL_queued_13 (by decide) rfl ?_
    refine z_iconst C 1 (by decide) dL_queued_15 ?_
    exact hR _ _ _ _ dL_queued_16 hw
  refine z_aload_n C 3 (by rfl) dL_queued_0 ?_
  refine z_iconst C 0 (by decide) dL_queued_1 ?_
  refine z_aload_n C 0 (by rfl) dL_queued_2 ?_
  refine z_iload_n C 1 (by rfl) dL_queued_3 ?_
  refine z_iload_n C 2 (by rfl) dL_queued_4 ?_
  refine xv_i C D (As := [.int x1, .int x2]) (bytes := cX8_queued) (maxL := 3) (F1 := 8) (L1 := 125) (mc := 2) (ms := 12) (cx_X8_queued w _ j0 x1 x2 _ _ hl h0 hw) h0.2 (tE7 h0.1) rfl 2 gL_queued_X8_queued rfl (by decide +kernel) ⟨Nat.le_of_ble_eq_true rfl, Nat.le_of_ble_eq_true rfl⟩ rfl (Nat.le_of_ble_eq_true rfl) (k2 := (2, 12)) rfl ⟨Nat.le_of_ble_eq_true rfl, Nat.le_of_ble_eq_true rfl⟩ rfl dL_queued_5 (fun τ22 cd hx => ?_) (fun x23 τ22 hw => ?_)
  · rcases cd with _ | _ | cd
    · refine z_catch C A (cd := 0) (i := 0) (hp := 13) (ct := 19) rfl rfl rfl (by decide) mw_L_queued_0 D (by decide) (fun _ hN => fun _ h => absurd h List.not_mem_nil) (fun q => ?_)
      refine z_sub [] [] rfl ?_
      exact hh0 _ q hx
    · exact (hJ1 _ hx).elim
    · exact (hJ2 _ _ hx).elim
  refine z_i2l C dL_queued_8 ?_
  refine z_last0 C h3 dL_queued_9 (fun τ24 eτ24 => ?_)
  have hw := hw τ24 eτ24
  refine z_goto (tgt := 17) C dL_queued_10 (by decide) ?_
  refine z_iconst C 0 (by decide) dL_queued_17 ?_
  exact hR _ _ _ _ dL_queued_18 hw
def wp_L_flying (τ : TS) (j0 : Nat) (x1 : Int32) (x2 : Int32) (j3 : Nat) (K : TS → Int32 → Prop) : Prop :=
  ∃ JH : TS → Nat → Prop, (∀ (τ21 : TS), JH τ21 0 → (K τ21 1)) ∧ (∀ (τ21 : TS), JH τ21 1 → False) ∧ (∀ (τ21 : TS) (cd : Nat), JH τ21 (cd + 2) → False) ∧ (wpx_X8_flying τ j0 x1 x2 (fun τ22 x23 => ∀ τ24 : TS, τ24 = tp_rw τ22 j3 (upd (upd (τ22 j3) 0 (tp_hi (Int32.toInt64 x23))) 1 (tp_lo (Int32.toInt64 x23))) → K τ24 0) JH)
theorem mw_L_flying_0 : Cond.classLink RL 19 "java/lang/IndexOutOfBoundsException" ∈ wsL_flying := List.mem_of_getElem? (i := 1) rfl
set_option maxHeartbeats 8000000 in
set_option maxRecDepth 100000 in
theorem c_L_flying (w : WPar) (τ : TS) (j0 : Nat) (x1 : Int32) (x2 : Int32) (j3 : Nat) (K : TS → Int32 → Prop) (hl : w.2.1.stackTraces = false) (h0 : tp_is w j0 7) (h3 : tp_is w j3 33) (hw : wp_L_flying τ j0 x1 x2 j3 K) : MA w yL_flying wsL_flying 9 147 2 12 [.ref (w.1 j0), .int x1, .int x2, .ref (w.1 j3)] τ K := by
  refine tp_enterA (hh := [(0, 10, 13, 19)]) (cc := cL_flying) (maxL := 5) (own := RL) hl (by decide) rfl rfl (Nat.le_of_ble_eq_true rfl) (fun g C D A hR => ?_)
  show Zt w g τ (0, 0) 0 [(0, .ref (w.1 j0)), (1, .int x1), (2, .int x2), (3, .ref (w.1 j3))] []
  unfold wp_L_flying at hw
  obtain ⟨JH, hJ0, hJ1, hJ2, hw⟩ := hw
  have hh0 : ∀ (τ21 : TS) (q : Nat), JH τ21 0 → Zt w g τ21 (2, 12) 13 [] [.ref q] := by
    intro τ21 q hq
    have hw := hJ0 τ21 hq
    refine z_astore C [(4, .ref q)] dL_flying_13 (by decide) rfl ?_
    refine z_iconst C 1 (by decide) dL_flying_15 ?_
    exact hR _ _ _ _ dL_flying_16 hw
  refine z_aload_n C 3 (by rfl) dL_flying_0 ?_
  refine z_iconst C 0 (by decide) dL_flying_1 ?_
  refine z_aload_n C 0 (by rfl) dL_flying_2 ?_
  refine z_iload_n C 1 (by rfl) dL_flying_3 ?_
  refine z_iload_n C 2 (by rfl) dL_flying_4 ?_
  refine xv_i C D (As := [.int x1, .int x2]) (bytes := cX8_flying) (maxL := 3) (F1 := 8) (L1 := 125) (mc := 2) (ms := 12) (cx_X8_flying w _ j0 x1 x2 _ _ hl h0 hw) h0.2 (tE7 h0.1) rfl 2 gL_flying_X8_flying rfl (by decide +kernel) ⟨Nat.le_of_ble_eq_true rfl, Nat.le_of_ble_eq_true rfl⟩ rfl (Nat.le_of_ble_eq_true rfl) (k2 := (2, 12)) rfl ⟨Nat.le_of_ble_eq_true rfl, Nat.le_of_ble_eq_true rfl⟩ rfl dL_flying_5 (fun τ22 cd hx => ?_) (fun x23 τ22 hw => ?_)
  · rcases cd with _ | _ | cd
    · refine z_catch C A (cd := 0) (i := 0) (hp := 13) (ct := 19) rfl rfl rfl (by decide) mw_L_flying_0 D (by decide) (fun _ hN => fun _ h => absurd h List.not_mem_nil) (fun q => ?_)
      refine z_sub [] [] rfl ?_
      exact hh0 _ q hx
    · exact (hJ1 _ hx).elim
    · exact (hJ2 _ _ hx).elim
  refine z_i2l C dL_flying_8 ?_
  refine z_last0 C h3 dL_flying_9 (fun τ24 eτ24 => ?_)
  have hw := hw τ24 eτ24
  refine z_goto (tgt := 17) C dL_flying_10 (by decide) ?_
  refine z_iconst C 0 (by decide) dL_flying_17 ?_
  exact hR _ _ _ _ dL_flying_18 hw
def wp_L_flown (τ : TS) (j0 : Nat) (x1 : Int32) (x2 : Int32) (j3 : Nat) (K : TS → Int32 → Prop) : Prop :=
  ∃ JH : TS → Nat → Prop, (∀ (τ21 : TS), JH τ21 0 → (K τ21 1)) ∧ (∀ (τ21 : TS), JH τ21 1 → False) ∧ (∀ (τ21 : TS) (cd : Nat), JH τ21 (cd + 2) → False) ∧ (wpx_X8_flown τ j0 x1 x2 (fun τ22 x23 => ∀ τ24 : TS, τ24 = tp_rw τ22 j3 (upd (upd (τ22 j3) 0 (tp_hi (Int32.toInt64 x23))) 1 (tp_lo (Int32.toInt64 x23))) → K τ24 0) JH)
theorem mw_L_flown_0 : Cond.classLink RL 19 "java/lang/IndexOutOfBoundsException" ∈ wsL_flown := List.mem_of_getElem? (i := 1) rfl
set_option maxHeartbeats 8000000 in
set_option maxRecDepth 100000 in
theorem c_L_flown (w : WPar) (τ : TS) (j0 : Nat) (x1 : Int32) (x2 : Int32) (j3 : Nat) (K : TS → Int32 → Prop) (hl : w.2.1.stackTraces = false) (h0 : tp_is w j0 7) (h3 : tp_is w j3 33) (hw : wp_L_flown τ j0 x1 x2 j3 K) : MA w yL_flown wsL_flown 9 147 2 12 [.ref (w.1 j0), .int x1, .int x2, .ref (w.1 j3)] τ K := by
  refine tp_enterA (hh := [(0, 10, 13, 19)]) (cc := cL_flown) (maxL := 5) (own := RL) hl (by decide) rfl rfl (Nat.le_of_ble_eq_true rfl) (fun g C D A hR => ?_)
  show Zt w g τ (0, 0) 0 [(0, .ref (w.1 j0)), (1, .int x1), (2, .int x2), (3, .ref (w.1 j3))] []
  unfold wp_L_flown at hw
  obtain ⟨JH, hJ0, hJ1, hJ2, hw⟩ := hw
  have hh0 : ∀ (τ21 : TS) (q : Nat), JH τ21 0 → Zt w g τ21 (2, 12) 13 [] [.ref q] := by
    intro τ21 q hq
    have hw := hJ0 τ21 hq
    refine z_astore C [(4, .ref q)] dL_flown_13 (by decide) rfl ?_
    refine z_iconst C 1 (by decide) dL_flown_15 ?_
    exact hR _ _ _ _ dL_flown_16 hw
  refine z_aload_n C 3 (by rfl) dL_flown_0 ?_
  refine z_iconst C 0 (by decide) dL_flown_1 ?_
  refine z_aload_n C 0 (by rfl) dL_flown_2 ?_
  refine z_iload_n C 1 (by rfl) dL_flown_3 ?_
  refine z_iload_n C 2 (by rfl) dL_flown_4 ?_
  refine xv_i C D (As := [.int x1, .int x2]) (bytes := cX8_flown) (maxL := 3) (F1 := 8) (L1 := 125) (mc := 2) (ms := 12) (cx_X8_flown w _ j0 x1 x2 _ _ hl h0 hw) h0.2 (tE7 h0.1) rfl 2 gL_flown_X8_flown rfl (by decide +kernel) ⟨Nat.le_of_ble_eq_true rfl, Nat.le_of_ble_eq_true rfl⟩ rfl (Nat.le_of_ble_eq_true rfl) (k2 := (2, 12)) rfl ⟨Nat.le_of_ble_eq_true rfl, Nat.le_of_ble_eq_true rfl⟩ rfl dL_flown_5 (fun τ22 cd hx => ?_) (fun x23 τ22 hw => ?_)
  · rcases cd with _ | _ | cd
    · refine z_catch C A (cd := 0) (i := 0) (hp := 13) (ct := 19) rfl rfl rfl (by decide) mw_L_flown_0 D (by decide) (fun _ hN => fun _ h => absurd h List.not_mem_nil) (fun q => ?_)
      refine z_sub [] [] rfl ?_
      exact hh0 _ q hx
    · exact (hJ1 _ hx).elim
    · exact (hJ2 _ _ hx).elim
  refine z_i2l C dL_flown_8 ?_
  refine z_last0 C h3 dL_flown_9 (fun τ24 eτ24 => ?_)
  have hw := hw τ24 eτ24
  refine z_goto (tgt := 17) C dL_flown_10 (by decide) ?_
  refine z_iconst C 0 (by decide) dL_flown_17 ?_
  exact hR _ _ _ _ dL_flown_18 hw
def wp_L_stateOf (τ : TS) (j0 : Nat) (x1 : Int32) (j2 : Nat) (K : TS → Int32 → Prop) : Prop :=
  ∃ JH : TS → Nat → Prop, (∀ (τ21 : TS), JH τ21 0 → (K τ21 1)) ∧ (∀ (τ21 : TS), JH τ21 1 → False) ∧ (∀ (τ21 : TS) (cd : Nat), JH τ21 (cd + 2) → False) ∧ (wpx_X8_stateOf τ j0 x1 (fun τ22 x23 => ∀ τ24 : TS, τ24 = tp_rw τ22 j2 (upd (upd (τ22 j2) 0 (tp_hi (Int32.toInt64 x23))) 1 (tp_lo (Int32.toInt64 x23))) → K τ24 0) JH)
theorem mw_L_stateOf_0 : Cond.classLink RL 19 "java/lang/IndexOutOfBoundsException" ∈ wsL_stateOf := List.mem_of_getElem? (i := 1) rfl
set_option maxHeartbeats 8000000 in
set_option maxRecDepth 100000 in
theorem c_L_stateOf (w : WPar) (τ : TS) (j0 : Nat) (x1 : Int32) (j2 : Nat) (K : TS → Int32 → Prop) (hl : w.2.1.stackTraces = false) (h0 : tp_is w j0 7) (h2 : tp_is w j2 33) (hw : wp_L_stateOf τ j0 x1 j2 K) : MA w yL_stateOf wsL_stateOf 9 145 1 6 [.ref (w.1 j0), .int x1, .ref (w.1 j2)] τ K := by
  refine tp_enterA (hh := [(0, 9, 12, 19)]) (cc := cL_stateOf) (maxL := 4) (own := RL) hl (by decide) rfl rfl (Nat.le_of_ble_eq_true rfl) (fun g C D A hR => ?_)
  show Zt w g τ (0, 0) 0 [(0, .ref (w.1 j0)), (1, .int x1), (2, .ref (w.1 j2))] []
  unfold wp_L_stateOf at hw
  obtain ⟨JH, hJ0, hJ1, hJ2, hw⟩ := hw
  have hh0 : ∀ (τ21 : TS) (q : Nat), JH τ21 0 → Zt w g τ21 (1, 6) 12 [] [.ref q] := by
    intro τ21 q hq
    have hw := hJ0 τ21 hq
    refine z_astore_n C [(3, .ref q)] dL_stateOf_12 (by decide) rfl ?_
    refine z_iconst C 1 (by decide) dL_stateOf_13 ?_
    exact hR _ _ _ _ dL_stateOf_14 hw
  refine z_aload_n C 2 (by rfl) dL_stateOf_0 ?_
  refine z_iconst C 0 (by decide) dL_stateOf_1 ?_
  refine z_aload_n C 0 (by rfl) dL_stateOf_2 ?_
  refine z_iload_n C 1 (by rfl) dL_stateOf_3 ?_
  refine xv_i C D (As := [.int x1]) (bytes := cX8_stateOf) (maxL := 2) (F1 := 8) (L1 := 124) (mc := 1) (ms := 6) (cx_X8_stateOf w _ j0 x1 _ _ hl h0 hw) h0.2 (tE7 h0.1) rfl 1 gL_stateOf_X8_stateOf rfl (by decide +kernel) ⟨Nat.le_of_ble_eq_true rfl, Nat.le_of_ble_eq_true rfl⟩ rfl (Nat.le_of_ble_eq_true rfl) (k2 := (1, 6)) rfl ⟨Nat.le_of_ble_eq_true rfl, Nat.le_of_ble_eq_true rfl⟩ rfl dL_stateOf_4 (fun τ22 cd hx => ?_) (fun x23 τ22 hw => ?_)
  · rcases cd with _ | _ | cd
    · refine z_catch C A (cd := 0) (i := 0) (hp := 12) (ct := 19) rfl rfl rfl (by decide) mw_L_stateOf_0 D (by decide) (fun _ hN => fun _ h => absurd h List.not_mem_nil) (fun q => ?_)
      refine z_sub [] [] rfl ?_
      exact hh0 _ q hx
    · exact (hJ1 _ hx).elim
    · exact (hJ2 _ _ hx).elim
  refine z_i2l C dL_stateOf_7 ?_
  refine z_last0 C h2 dL_stateOf_8 (fun τ24 eτ24 => ?_)
  have hw := hw τ24 eτ24
  refine z_goto (tgt := 15) C dL_stateOf_9 (by decide) ?_
  refine z_iconst C 0 (by decide) dL_stateOf_15 ?_
  exact hR _ _ _ _ dL_stateOf_16 hw
def wp_L_given (τ : TS) (j0 : Nat) (x1 : Int32) (j2 : Nat) (K : TS → Int32 → Prop) : Prop :=
  ∃ JH : TS → Nat → Prop, (∀ (τ21 : TS), JH τ21 0 → (K τ21 1)) ∧ (∀ (τ21 : TS), JH τ21 1 → False) ∧ (∀ (τ21 : TS) (cd : Nat), JH τ21 (cd + 2) → False) ∧ (wpx_X8_given τ j0 x1 (fun τ22 x23 => ∀ τ24 : TS, τ24 = tp_rw τ22 j2 (upd (upd (τ22 j2) 0 (tp_hi (Int32.toInt64 x23))) 1 (tp_lo (Int32.toInt64 x23))) → K τ24 0) JH)
theorem mw_L_given_0 : Cond.classLink RL 19 "java/lang/IndexOutOfBoundsException" ∈ wsL_given := List.mem_of_getElem? (i := 1) rfl
set_option maxHeartbeats 8000000 in
set_option maxRecDepth 100000 in
theorem c_L_given (w : WPar) (τ : TS) (j0 : Nat) (x1 : Int32) (j2 : Nat) (K : TS → Int32 → Prop) (hl : w.2.1.stackTraces = false) (h0 : tp_is w j0 7) (h2 : tp_is w j2 33) (hw : wp_L_given τ j0 x1 j2 K) : MA w yL_given wsL_given 9 145 1 6 [.ref (w.1 j0), .int x1, .ref (w.1 j2)] τ K := by
  refine tp_enterA (hh := [(0, 9, 12, 19)]) (cc := cL_given) (maxL := 4) (own := RL) hl (by decide) rfl rfl (Nat.le_of_ble_eq_true rfl) (fun g C D A hR => ?_)
  show Zt w g τ (0, 0) 0 [(0, .ref (w.1 j0)), (1, .int x1), (2, .ref (w.1 j2))] []
  unfold wp_L_given at hw
  obtain ⟨JH, hJ0, hJ1, hJ2, hw⟩ := hw
  have hh0 : ∀ (τ21 : TS) (q : Nat), JH τ21 0 → Zt w g τ21 (1, 6) 12 [] [.ref q] := by
    intro τ21 q hq
    have hw := hJ0 τ21 hq
    refine z_astore_n C [(3, .ref q)] dL_given_12 (by decide) rfl ?_
    refine z_iconst C 1 (by decide) dL_given_13 ?_
    exact hR _ _ _ _ dL_given_14 hw
  refine z_aload_n C 2 (by rfl) dL_given_0 ?_
  refine z_iconst C 0 (by decide) dL_given_1 ?_
  refine z_aload_n C 0 (by rfl) dL_given_2 ?_
  refine z_iload_n C 1 (by rfl) dL_given_3 ?_
  refine xv_i C D (As := [.int x1]) (bytes := cX8_given) (maxL := 2) (F1 := 8) (L1 := 124) (mc := 1) (ms := 6) (cx_X8_given w _ j0 x1 _ _ hl h0 hw) h0.2 (tE7 h0.1) rfl 1 gL_given_X8_given rfl (by decide +kernel) ⟨Nat.le_of_ble_eq_true rfl, Nat.le_of_ble_eq_true rfl⟩ rfl (Nat.le_of_ble_eq_true rfl) (k2 := (1, 6)) rfl ⟨Nat.le_of_ble_eq_true rfl, Nat.le_of_ble_eq_true rfl⟩ rfl dL_given_4 (fun τ22 cd hx => ?_) (fun x23 τ22 hw => ?_)
  · rcases cd with _ | _ | cd
    · refine z_catch C A (cd := 0) (i := 0) (hp := 12) (ct := 19) rfl rfl rfl (by decide) mw_L_given_0 D (by decide) (fun _ hN => fun _ h => absurd h List.not_mem_nil) (fun q => ?_)
      refine z_sub [] [] rfl ?_
      exact hh0 _ q hx
    · exact (hJ1 _ hx).elim
    · exact (hJ2 _ _ hx).elim
  refine z_i2l C dL_given_7 ?_
  refine z_last0 C h2 dL_given_8 (fun τ24 eτ24 => ?_)
  have hw := hw τ24 eτ24
  refine z_goto (tgt := 15) C dL_given_9 (by decide) ?_
  refine z_iconst C 0 (by decide) dL_given_15 ?_
  exact hR _ _ _ _ dL_given_16 hw
def wp_L_base (τ : TS) (j0 : Nat) (x1 : Int32) (j2 : Nat) (K : TS → Int32 → Prop) : Prop :=
  ∃ JH : TS → Nat → Prop, (∀ (τ21 : TS), JH τ21 0 → (K τ21 1)) ∧ (∀ (τ21 : TS), JH τ21 1 → False) ∧ (∀ (τ21 : TS) (cd : Nat), JH τ21 (cd + 2) → False) ∧ (wpx_X8_base τ j0 x1 (fun τ22 x23 => ∀ τ24 : TS, τ24 = tp_rw τ22 j2 (upd (upd (τ22 j2) 0 (tp_hi (Int32.toInt64 x23))) 1 (tp_lo (Int32.toInt64 x23))) → K τ24 0) JH)
theorem mw_L_base_0 : Cond.classLink RL 19 "java/lang/IndexOutOfBoundsException" ∈ wsL_base := List.mem_of_getElem? (i := 1) rfl
set_option maxHeartbeats 8000000 in
set_option maxRecDepth 100000 in
theorem c_L_base (w : WPar) (τ : TS) (j0 : Nat) (x1 : Int32) (j2 : Nat) (K : TS → Int32 → Prop) (hl : w.2.1.stackTraces = false) (h0 : tp_is w j0 7) (h2 : tp_is w j2 33) (hw : wp_L_base τ j0 x1 j2 K) : MA w yL_base wsL_base 9 145 1 6 [.ref (w.1 j0), .int x1, .ref (w.1 j2)] τ K := by
  refine tp_enterA (hh := [(0, 9, 12, 19)]) (cc := cL_base) (maxL := 4) (own := RL) hl (by decide) rfl rfl (Nat.le_of_ble_eq_true rfl) (fun g C D A hR => ?_)
  show Zt w g τ (0, 0) 0 [(0, .ref (w.1 j0)), (1, .int x1), (2, .ref (w.1 j2))] []
  unfold wp_L_base at hw
  obtain ⟨JH, hJ0, hJ1, hJ2, hw⟩ := hw
  have hh0 : ∀ (τ21 : TS) (q : Nat), JH τ21 0 → Zt w g τ21 (1, 6) 12 [] [.ref q] := by
    intro τ21 q hq
    have hw := hJ0 τ21 hq
    refine z_astore_n C [(3, .ref q)] dL_base_12 (by decide) rfl ?_
    refine z_iconst C 1 (by decide) dL_base_13 ?_
    exact hR _ _ _ _ dL_base_14 hw
  refine z_aload_n C 2 (by rfl) dL_base_0 ?_
  refine z_iconst C 0 (by decide) dL_base_1 ?_
  refine z_aload_n C 0 (by rfl) dL_base_2 ?_
  refine z_iload_n C 1 (by rfl) dL_base_3 ?_
  refine xv_i C D (As := [.int x1]) (bytes := cX8_base) (maxL := 2) (F1 := 8) (L1 := 124) (mc := 1) (ms := 6) (cx_X8_base w _ j0 x1 _ _ hl h0 hw) h0.2 (tE7 h0.1) rfl 1 gL_base_X8_base rfl (by decide +kernel) ⟨Nat.le_of_ble_eq_true rfl, Nat.le_of_ble_eq_true rfl⟩ rfl (Nat.le_of_ble_eq_true rfl) (k2 := (1, 6)) rfl ⟨Nat.le_of_ble_eq_true rfl, Nat.le_of_ble_eq_true rfl⟩ rfl dL_base_4 (fun τ22 cd hx => ?_) (fun x23 τ22 hw => ?_)
  · rcases cd with _ | _ | cd
    · refine z_catch C A (cd := 0) (i := 0) (hp := 12) (ct := 19) rfl rfl rfl (by decide) mw_L_base_0 D (by decide) (fun _ hN => fun _ h => absurd h List.not_mem_nil) (fun q => ?_)
      refine z_sub [] [] rfl ?_
      exact hh0 _ q hx
    · exact (hJ1 _ hx).elim
    · exact (hJ2 _ _ hx).elim
  refine z_i2l C dL_base_7 ?_
  refine z_last0 C h2 dL_base_8 (fun τ24 eτ24 => ?_)
  have hw := hw τ24 eτ24
  refine z_goto (tgt := 15) C dL_base_9 (by decide) ?_
  refine z_iconst C 0 (by decide) dL_base_15 ?_
  exact hR _ _ _ _ dL_base_16 hw
def wp_L_next (τ : TS) (j0 : Nat) (x1 : Int32) (j2 : Nat) (K : TS → Int32 → Prop) : Prop :=
  ∃ JH : TS → Nat → Prop, (∀ (τ21 : TS), JH τ21 0 → (K τ21 1)) ∧ (∀ (τ21 : TS), JH τ21 1 → False) ∧ (∀ (τ21 : TS) (cd : Nat), JH τ21 (cd + 2) → False) ∧ (wpx_X8_next τ j0 x1 (fun τ22 x23 => ∀ τ24 : TS, τ24 = tp_rw τ22 j2 (upd (upd (τ22 j2) 0 (tp_hi (Int32.toInt64 x23))) 1 (tp_lo (Int32.toInt64 x23))) → K τ24 0) JH)
theorem mw_L_next_0 : Cond.classLink RL 19 "java/lang/IndexOutOfBoundsException" ∈ wsL_next := List.mem_of_getElem? (i := 1) rfl
set_option maxHeartbeats 8000000 in
set_option maxRecDepth 100000 in
theorem c_L_next (w : WPar) (τ : TS) (j0 : Nat) (x1 : Int32) (j2 : Nat) (K : TS → Int32 → Prop) (hl : w.2.1.stackTraces = false) (h0 : tp_is w j0 7) (h2 : tp_is w j2 33) (hw : wp_L_next τ j0 x1 j2 K) : MA w yL_next wsL_next 9 145 1 6 [.ref (w.1 j0), .int x1, .ref (w.1 j2)] τ K := by
  refine tp_enterA (hh := [(0, 9, 12, 19)]) (cc := cL_next) (maxL := 4) (own := RL) hl (by decide) rfl rfl (Nat.le_of_ble_eq_true rfl) (fun g C D A hR => ?_)
  show Zt w g τ (0, 0) 0 [(0, .ref (w.1 j0)), (1, .int x1), (2, .ref (w.1 j2))] []
  unfold wp_L_next at hw
  obtain ⟨JH, hJ0, hJ1, hJ2, hw⟩ := hw
  have hh0 : ∀ (τ21 : TS) (q : Nat), JH τ21 0 → Zt w g τ21 (1, 6) 12 [] [.ref q] := by
    intro τ21 q hq
    have hw := hJ0 τ21 hq
    refine z_astore_n C [(3, .ref q)] dL_next_12 (by decide) rfl ?_
    refine z_iconst C 1 (by decide) dL_next_13 ?_
    exact hR _ _ _ _ dL_next_14 hw
  refine z_aload_n C 2 (by rfl) dL_next_0 ?_
  refine z_iconst C 0 (by decide) dL_next_1 ?_
  refine z_aload_n C 0 (by rfl) dL_next_2 ?_
  refine z_iload_n C 1 (by rfl) dL_next_3 ?_
  refine xv_i C D (As := [.int x1]) (bytes := cX8_next) (maxL := 2) (F1 := 8) (L1 := 124) (mc := 1) (ms := 6) (cx_X8_next w _ j0 x1 _ _ hl h0 hw) h0.2 (tE7 h0.1) rfl 1 gL_next_X8_next rfl (by decide +kernel) ⟨Nat.le_of_ble_eq_true rfl, Nat.le_of_ble_eq_true rfl⟩ rfl (Nat.le_of_ble_eq_true rfl) (k2 := (1, 6)) rfl ⟨Nat.le_of_ble_eq_true rfl, Nat.le_of_ble_eq_true rfl⟩ rfl dL_next_4 (fun τ22 cd hx => ?_) (fun x23 τ22 hw => ?_)
  · rcases cd with _ | _ | cd
    · refine z_catch C A (cd := 0) (i := 0) (hp := 12) (ct := 19) rfl rfl rfl (by decide) mw_L_next_0 D (by decide) (fun _ hN => fun _ h => absurd h List.not_mem_nil) (fun q => ?_)
      refine z_sub [] [] rfl ?_
      exact hh0 _ q hx
    · exact (hJ1 _ hx).elim
    · exact (hJ2 _ _ hx).elim
  refine z_i2l C dL_next_7 ?_
  refine z_last0 C h2 dL_next_8 (fun τ24 eτ24 => ?_)
  have hw := hw τ24 eτ24
  refine z_goto (tgt := 15) C dL_next_9 (by decide) ?_
  refine z_iconst C 0 (by decide) dL_next_15 ?_
  exact hR _ _ _ _ dL_next_16 hw
def wp_L_window (τ : TS) (j0 : Nat) (x1 : Int32) (j2 : Nat) (K : TS → Int32 → Prop) : Prop :=
  ∃ JH : TS → Nat → Prop, (∀ (τ21 : TS), JH τ21 0 → (K τ21 1)) ∧ (∀ (τ21 : TS), JH τ21 1 → False) ∧ (∀ (τ21 : TS) (cd : Nat), JH τ21 (cd + 2) → False) ∧ (wpx_X8_window τ j0 x1 (fun τ22 x23 => ∀ τ24 : TS, τ24 = tp_rw τ22 j2 (upd (upd (τ22 j2) 0 (tp_hi (Int32.toInt64 x23))) 1 (tp_lo (Int32.toInt64 x23))) → K τ24 0) JH)
theorem mw_L_window_0 : Cond.classLink RL 19 "java/lang/IndexOutOfBoundsException" ∈ wsL_window := List.mem_of_getElem? (i := 1) rfl
set_option maxHeartbeats 8000000 in
set_option maxRecDepth 100000 in
theorem c_L_window (w : WPar) (τ : TS) (j0 : Nat) (x1 : Int32) (j2 : Nat) (K : TS → Int32 → Prop) (hl : w.2.1.stackTraces = false) (h0 : tp_is w j0 7) (h2 : tp_is w j2 33) (hw : wp_L_window τ j0 x1 j2 K) : MA w yL_window wsL_window 9 145 1 6 [.ref (w.1 j0), .int x1, .ref (w.1 j2)] τ K := by
  refine tp_enterA (hh := [(0, 9, 12, 19)]) (cc := cL_window) (maxL := 4) (own := RL) hl (by decide) rfl rfl (Nat.le_of_ble_eq_true rfl) (fun g C D A hR => ?_)
  show Zt w g τ (0, 0) 0 [(0, .ref (w.1 j0)), (1, .int x1), (2, .ref (w.1 j2))] []
  unfold wp_L_window at hw
  obtain ⟨JH, hJ0, hJ1, hJ2, hw⟩ := hw
  have hh0 : ∀ (τ21 : TS) (q : Nat), JH τ21 0 → Zt w g τ21 (1, 6) 12 [] [.ref q] := by
    intro τ21 q hq
    have hw := hJ0 τ21 hq
    refine z_astore_n C [(3, .ref q)] dL_window_12 (by decide) rfl ?_
    refine z_iconst C 1 (by decide) dL_window_13 ?_
    exact hR _ _ _ _ dL_window_14 hw
  refine z_aload_n C 2 (by rfl) dL_window_0 ?_
  refine z_iconst C 0 (by decide) dL_window_1 ?_
  refine z_aload_n C 0 (by rfl) dL_window_2 ?_
  refine z_iload_n C 1 (by rfl) dL_window_3 ?_
  refine xv_i C D (As := [.int x1]) (bytes := cX8_window) (maxL := 2) (F1 := 8) (L1 := 124) (mc := 1) (ms := 6) (cx_X8_window w _ j0 x1 _ _ hl h0 hw) h0.2 (tE7 h0.1) rfl 1 gL_window_X8_window rfl (by decide +kernel) ⟨Nat.le_of_ble_eq_true rfl, Nat.le_of_ble_eq_true rfl⟩ rfl (Nat.le_of_ble_eq_true rfl) (k2 := (1, 6)) rfl ⟨Nat.le_of_ble_eq_true rfl, Nat.le_of_ble_eq_true rfl⟩ rfl dL_window_4 (fun τ22 cd hx => ?_) (fun x23 τ22 hw => ?_)
  · rcases cd with _ | _ | cd
    · refine z_catch C A (cd := 0) (i := 0) (hp := 12) (ct := 19) rfl rfl rfl (by decide) mw_L_window_0 D (by decide) (fun _ hN => fun _ h => absurd h List.not_mem_nil) (fun q => ?_)
      refine z_sub [] [] rfl ?_
      exact hh0 _ q hx
    · exact (hJ1 _ hx).elim
    · exact (hJ2 _ _ hx).elim
  refine z_i2l C dL_window_7 ?_
  refine z_last0 C h2 dL_window_8 (fun τ24 eτ24 => ?_)
  have hw := hw τ24 eτ24
  refine z_goto (tgt := 15) C dL_window_9 (by decide) ?_
  refine z_iconst C 0 (by decide) dL_window_15 ?_
  exact hR _ _ _ _ dL_window_16 hw
def wp_L_threshold (τ : TS) (j0 : Nat) (x1 : Int32) (j2 : Nat) (K : TS → Int32 → Prop) : Prop :=
  ∃ JH : TS → Nat → Prop, (∀ (τ21 : TS), JH τ21 0 → (K τ21 1)) ∧ (∀ (τ21 : TS), JH τ21 1 → False) ∧ (∀ (τ21 : TS) (cd : Nat), JH τ21 (cd + 2) → False) ∧ (wpx_X8_threshold τ j0 x1 (fun τ22 x23 => ∀ τ24 : TS, τ24 = tp_rw τ22 j2 (upd (upd (τ22 j2) 0 (tp_hi (Int32.toInt64 x23))) 1 (tp_lo (Int32.toInt64 x23))) → K τ24 0) JH)
theorem mw_L_threshold_0 : Cond.classLink RL 19 "java/lang/IndexOutOfBoundsException" ∈ wsL_threshold := List.mem_of_getElem? (i := 1) rfl
set_option maxHeartbeats 8000000 in
set_option maxRecDepth 100000 in
theorem c_L_threshold (w : WPar) (τ : TS) (j0 : Nat) (x1 : Int32) (j2 : Nat) (K : TS → Int32 → Prop) (hl : w.2.1.stackTraces = false) (h0 : tp_is w j0 7) (h2 : tp_is w j2 33) (hw : wp_L_threshold τ j0 x1 j2 K) : MA w yL_threshold wsL_threshold 9 145 1 6 [.ref (w.1 j0), .int x1, .ref (w.1 j2)] τ K := by
  refine tp_enterA (hh := [(0, 9, 12, 19)]) (cc := cL_threshold) (maxL := 4) (own := RL) hl (by decide) rfl rfl (Nat.le_of_ble_eq_true rfl) (fun g C D A hR => ?_)
  show Zt w g τ (0, 0) 0 [(0, .ref (w.1 j0)), (1, .int x1), (2, .ref (w.1 j2))] []
  unfold wp_L_threshold at hw
  obtain ⟨JH, hJ0, hJ1, hJ2, hw⟩ := hw
  have hh0 : ∀ (τ21 : TS) (q : Nat), JH τ21 0 → Zt w g τ21 (1, 6) 12 [] [.ref q] := by
    intro τ21 q hq
    have hw := hJ0 τ21 hq
    refine z_astore_n C [(3, .ref q)] dL_threshold_12 (by decide) rfl ?_
    refine z_iconst C 1 (by decide) dL_threshold_13 ?_
    exact hR _ _ _ _ dL_threshold_14 hw
  refine z_aload_n C 2 (by rfl) dL_threshold_0 ?_
  refine z_iconst C 0 (by decide) dL_threshold_1 ?_
  refine z_aload_n C 0 (by rfl) dL_threshold_2 ?_
  refine z_iload_n C 1 (by rfl) dL_threshold_3 ?_
  refine xv_i C D (As := [.int x1]) (bytes := cX8_threshold) (maxL := 2) (F1 := 8) (L1 := 124) (mc := 1) (ms := 6) (cx_X8_threshold w _ j0 x1 _ _ hl h0 hw) h0.2 (tE7 h0.1) rfl 1 gL_threshold_X8_threshold rfl (by decide +kernel) ⟨Nat.le_of_ble_eq_true rfl, Nat.le_of_ble_eq_true rfl⟩ rfl (Nat.le_of_ble_eq_true rfl) (k2 := (1, 6)) rfl ⟨Nat.le_of_ble_eq_true rfl, Nat.le_of_ble_eq_true rfl⟩ rfl dL_threshold_4 (fun τ22 cd hx => ?_) (fun x23 τ22 hw => ?_)
  · rcases cd with _ | _ | cd
    · refine z_catch C A (cd := 0) (i := 0) (hp := 12) (ct := 19) rfl rfl rfl (by decide) mw_L_threshold_0 D (by decide) (fun _ hN => fun _ h => absurd h List.not_mem_nil) (fun q => ?_)
      refine z_sub [] [] rfl ?_
      exact hh0 _ q hx
    · exact (hJ1 _ hx).elim
    · exact (hJ2 _ _ hx).elim
  refine z_i2l C dL_threshold_7 ?_
  refine z_last0 C h2 dL_threshold_8 (fun τ24 eτ24 => ?_)
  have hw := hw τ24 eτ24
  refine z_goto (tgt := 15) C dL_threshold_9 (by decide) ?_
  refine z_iconst C 0 (by decide) dL_threshold_15 ?_
  exact hR _ _ _ _ dL_threshold_16 hw
def wp_L_room (τ : TS) (j0 : Nat) (x1 : Int32) (j2 : Nat) (K : TS → Int32 → Prop) : Prop :=
  ∃ JH : TS → Nat → Prop, (∀ (τ21 : TS), JH τ21 0 → (K τ21 1)) ∧ (∀ (τ21 : TS), JH τ21 1 → False) ∧ (∀ (τ21 : TS) (cd : Nat), JH τ21 (cd + 2) → False) ∧ (wpx_X8_room τ j0 x1 (fun τ22 x23 => ∀ τ24 : TS, τ24 = tp_rw τ22 j2 (upd (upd (τ22 j2) 0 (tp_hi (Int32.toInt64 x23))) 1 (tp_lo (Int32.toInt64 x23))) → K τ24 0) JH)
theorem mw_L_room_0 : Cond.classLink RL 19 "java/lang/IndexOutOfBoundsException" ∈ wsL_room := List.mem_of_getElem? (i := 1) rfl
set_option maxHeartbeats 8000000 in
set_option maxRecDepth 100000 in
theorem c_L_room (w : WPar) (τ : TS) (j0 : Nat) (x1 : Int32) (j2 : Nat) (K : TS → Int32 → Prop) (hl : w.2.1.stackTraces = false) (h0 : tp_is w j0 7) (h2 : tp_is w j2 33) (hw : wp_L_room τ j0 x1 j2 K) : MA w yL_room wsL_room 9 145 1 6 [.ref (w.1 j0), .int x1, .ref (w.1 j2)] τ K := by
  refine tp_enterA (hh := [(0, 9, 12, 19)]) (cc := cL_room) (maxL := 4) (own := RL) hl (by decide) rfl rfl (Nat.le_of_ble_eq_true rfl) (fun g C D A hR => ?_)
  show Zt w g τ (0, 0) 0 [(0, .ref (w.1 j0)), (1, .int x1), (2, .ref (w.1 j2))] []
  unfold wp_L_room at hw
  obtain ⟨JH, hJ0, hJ1, hJ2, hw⟩ := hw
  have hh0 : ∀ (τ21 : TS) (q : Nat), JH τ21 0 → Zt w g τ21 (1, 6) 12 [] [.ref q] := by
    intro τ21 q hq
    have hw := hJ0 τ21 hq
    refine z_astore_n C [(3, .ref q)] dL_room_12 (by decide) rfl ?_
    refine z_iconst C 1 (by decide) dL_room_13 ?_
    exact hR _ _ _ _ dL_room_14 hw
  refine z_aload_n C 2 (by rfl) dL_room_0 ?_
  refine z_iconst C 0 (by decide) dL_room_1 ?_
  refine z_aload_n C 0 (by rfl) dL_room_2 ?_
  refine z_iload_n C 1 (by rfl) dL_room_3 ?_
  refine xv_i C D (As := [.int x1]) (bytes := cX8_room) (maxL := 2) (F1 := 8) (L1 := 124) (mc := 1) (ms := 6) (cx_X8_room w _ j0 x1 _ _ hl h0 hw) h0.2 (tE7 h0.1) rfl 1 gL_room_X8_room rfl (by decide +kernel) ⟨Nat.le_of_ble_eq_true rfl, Nat.le_of_ble_eq_true rfl⟩ rfl (Nat.le_of_ble_eq_true rfl) (k2 := (1, 6)) rfl ⟨Nat.le_of_ble_eq_true rfl, Nat.le_of_ble_eq_true rfl⟩ rfl dL_room_4 (fun τ22 cd hx => ?_) (fun x23 τ22 hw => ?_)
  · rcases cd with _ | _ | cd
    · refine z_catch C A (cd := 0) (i := 0) (hp := 12) (ct := 19) rfl rfl rfl (by decide) mw_L_room_0 D (by decide) (fun _ hN => fun _ h => absurd h List.not_mem_nil) (fun q => ?_)
      refine z_sub [] [] rfl ?_
      exact hh0 _ q hx
    · exact (hJ1 _ hx).elim
    · exact (hJ2 _ _ hx).elim
  refine z_i2l C dL_room_7 ?_
  refine z_last0 C h2 dL_room_8 (fun τ24 eτ24 => ?_)
  have hw := hw τ24 eτ24
  refine z_goto (tgt := 15) C dL_room_9 (by decide) ?_
  refine z_iconst C 0 (by decide) dL_room_15 ?_
  exact hR _ _ _ _ dL_room_16 hw
def wp_L_like (τ : TS) (j0 : Nat) (x1 : Int32) (j2 : Nat) (K : TS → Int32 → Prop) : Prop :=
  ∃ JH : TS → Nat → Prop, (∀ (τ21 : TS), JH τ21 0 → (K τ21 1)) ∧ (∀ (τ21 : TS), JH τ21 1 → False) ∧ (∀ (τ21 : TS) (cd : Nat), JH τ21 (cd + 2) → False) ∧ (wpx_X8_like τ j0 x1 (fun τ22 x23 => ∀ τ24 : TS, τ24 = tp_rw τ22 j2 (upd (upd (τ22 j2) 0 (tp_hi (Int32.toInt64 x23))) 1 (tp_lo (Int32.toInt64 x23))) → K τ24 0) JH)
theorem mw_L_like_0 : Cond.classLink RL 19 "java/lang/IndexOutOfBoundsException" ∈ wsL_like := List.mem_of_getElem? (i := 1) rfl
set_option maxHeartbeats 8000000 in
set_option maxRecDepth 100000 in
theorem c_L_like (w : WPar) (τ : TS) (j0 : Nat) (x1 : Int32) (j2 : Nat) (K : TS → Int32 → Prop) (hl : w.2.1.stackTraces = false) (h0 : tp_is w j0 7) (h2 : tp_is w j2 33) (hw : wp_L_like τ j0 x1 j2 K) : MA w yL_like wsL_like 9 145 1 6 [.ref (w.1 j0), .int x1, .ref (w.1 j2)] τ K := by
  refine tp_enterA (hh := [(0, 9, 12, 19)]) (cc := cL_like) (maxL := 4) (own := RL) hl (by decide) rfl rfl (Nat.le_of_ble_eq_true rfl) (fun g C D A hR => ?_)
  show Zt w g τ (0, 0) 0 [(0, .ref (w.1 j0)), (1, .int x1), (2, .ref (w.1 j2))] []
  unfold wp_L_like at hw
  obtain ⟨JH, hJ0, hJ1, hJ2, hw⟩ := hw
  have hh0 : ∀ (τ21 : TS) (q : Nat), JH τ21 0 → Zt w g τ21 (1, 6) 12 [] [.ref q] := by
    intro τ21 q hq
    have hw := hJ0 τ21 hq
    refine z_astore_n C [(3, .ref q)] dL_like_12 (by decide) rfl ?_
    refine z_iconst C 1 (by decide) dL_like_13 ?_
    exact hR _ _ _ _ dL_like_14 hw
  refine z_aload_n C 2 (by rfl) dL_like_0 ?_
  refine z_iconst C 0 (by decide) dL_like_1 ?_
  refine z_aload_n C 0 (by rfl) dL_like_2 ?_
  refine z_iload_n C 1 (by rfl) dL_like_3 ?_
  refine xv_i C D (As := [.int x1]) (bytes := cX8_like) (maxL := 2) (F1 := 8) (L1 := 124) (mc := 1) (ms := 6) (cx_X8_like w _ j0 x1 _ _ hl h0 hw) h0.2 (tE7 h0.1) rfl 1 gL_like_X8_like rfl (by decide +kernel) ⟨Nat.le_of_ble_eq_true rfl, Nat.le_of_ble_eq_true rfl⟩ rfl (Nat.le_of_ble_eq_true rfl) (k2 := (1, 6)) rfl ⟨Nat.le_of_ble_eq_true rfl, Nat.le_of_ble_eq_true rfl⟩ rfl dL_like_4 (fun τ22 cd hx => ?_) (fun x23 τ22 hw => ?_)
  · rcases cd with _ | _ | cd
    · refine z_catch C A (cd := 0) (i := 0) (hp := 12) (ct := 19) rfl rfl rfl (by decide) mw_L_like_0 D (by decide) (fun _ hN => fun _ h => absurd h List.not_mem_nil) (fun q => ?_)
      refine z_sub [] [] rfl ?_
      exact hh0 _ q hx
    · exact (hJ1 _ hx).elim
    · exact (hJ2 _ _ hx).elim
  refine z_i2l C dL_like_7 ?_
  refine z_last0 C h2 dL_like_8 (fun τ24 eτ24 => ?_)
  have hw := hw τ24 eτ24
  refine z_goto (tgt := 15) C dL_like_9 (by decide) ?_
  refine z_iconst C 0 (by decide) dL_like_15 ?_
  exact hR _ _ _ _ dL_like_16 hw
def wp_L_recover (τ : TS) (j0 : Nat) (x1 : Int32) (j2 : Nat) (K : TS → Int32 → Prop) : Prop :=
  ∃ JH : TS → Nat → Prop, (∀ (τ21 : TS), JH τ21 0 → (K τ21 1)) ∧ (∀ (τ21 : TS), JH τ21 1 → False) ∧ (∀ (τ21 : TS) (cd : Nat), JH τ21 (cd + 2) → False) ∧ (wpx_X8_recover τ j0 x1 (fun τ22 x23 => ∀ τ24 : TS, τ24 = tp_rw τ22 j2 (upd (upd (τ22 j2) 0 (tp_hi (Int32.toInt64 x23))) 1 (tp_lo (Int32.toInt64 x23))) → K τ24 0) JH)
theorem mw_L_recover_0 : Cond.classLink RL 19 "java/lang/IndexOutOfBoundsException" ∈ wsL_recover := List.mem_of_getElem? (i := 1) rfl
set_option maxHeartbeats 8000000 in
set_option maxRecDepth 100000 in
theorem c_L_recover (w : WPar) (τ : TS) (j0 : Nat) (x1 : Int32) (j2 : Nat) (K : TS → Int32 → Prop) (hl : w.2.1.stackTraces = false) (h0 : tp_is w j0 7) (h2 : tp_is w j2 33) (hw : wp_L_recover τ j0 x1 j2 K) : MA w yL_recover wsL_recover 9 145 1 6 [.ref (w.1 j0), .int x1, .ref (w.1 j2)] τ K := by
  refine tp_enterA (hh := [(0, 9, 12, 19)]) (cc := cL_recover) (maxL := 4) (own := RL) hl (by decide) rfl rfl (Nat.le_of_ble_eq_true rfl) (fun g C D A hR => ?_)
  show Zt w g τ (0, 0) 0 [(0, .ref (w.1 j0)), (1, .int x1), (2, .ref (w.1 j2))] []
  unfold wp_L_recover at hw
  obtain ⟨JH, hJ0, hJ1, hJ2, hw⟩ := hw
  have hh0 : ∀ (τ21 : TS) (q : Nat), JH τ21 0 → Zt w g τ21 (1, 6) 12 [] [.ref q] := by
    intro τ21 q hq
    have hw := hJ0 τ21 hq
    refine z_astore_n C [(3, .ref q)] dL_recover_12 (by decide) rfl ?_
    refine z_iconst C 1 (by decide) dL_recover_13 ?_
    exact hR _ _ _ _ dL_recover_14 hw
  refine z_aload_n C 2 (by rfl) dL_recover_0 ?_
  refine z_iconst C 0 (by decide) dL_recover_1 ?_
  refine z_aload_n C 0 (by rfl) dL_recover_2 ?_
  refine z_iload_n C 1 (by rfl) dL_recover_3 ?_
  refine xv_i C D (As := [.int x1]) (bytes := cX8_recover) (maxL := 2) (F1 := 8) (L1 := 124) (mc := 1) (ms := 6) (cx_X8_recover w _ j0 x1 _ _ hl h0 hw) h0.2 (tE7 h0.1) rfl 1 gL_recover_X8_recover rfl (by decide +kernel) ⟨Nat.le_of_ble_eq_true rfl, Nat.le_of_ble_eq_true rfl⟩ rfl (Nat.le_of_ble_eq_true rfl) (k2 := (1, 6)) rfl ⟨Nat.le_of_ble_eq_true rfl, Nat.le_of_ble_eq_true rfl⟩ rfl dL_recover_4 (fun τ22 cd hx => ?_) (fun x23 τ22 hw => ?_)
  · rcases cd with _ | _ | cd
    · refine z_catch C A (cd := 0) (i := 0) (hp := 12) (ct := 19) rfl rfl rfl (by decide) mw_L_recover_0 D (by decide) (fun _ hN => fun _ h => absurd h List.not_mem_nil) (fun q => ?_)
      refine z_sub [] [] rfl ?_
      exact hh0 _ q hx
    · exact (hJ1 _ hx).elim
    · exact (hJ2 _ _ hx).elim
  refine z_i2l C dL_recover_7 ?_
  refine z_last0 C h2 dL_recover_8 (fun τ24 eτ24 => ?_)
  have hw := hw τ24 eτ24
  refine z_goto (tgt := 15) C dL_recover_9 (by decide) ?_
  refine z_iconst C 0 (by decide) dL_recover_15 ?_
  exact hR _ _ _ _ dL_recover_16 hw
def wp_L_round (τ : TS) (j0 : Nat) (x1 : Int32) (j2 : Nat) (K : TS → Int32 → Prop) : Prop :=
  ∃ JH : TS → Nat → Prop, (∀ (τ21 : TS), JH τ21 0 → (K τ21 1)) ∧ (∀ (τ21 : TS), JH τ21 1 → False) ∧ (∀ (τ21 : TS) (cd : Nat), JH τ21 (cd + 2) → False) ∧ (wpx_X8_round τ j0 x1 (fun τ22 x23 => ∀ τ24 : TS, τ24 = tp_rw τ22 j2 (upd (upd (τ22 j2) 0 (tp_hi (Int32.toInt64 x23))) 1 (tp_lo (Int32.toInt64 x23))) → K τ24 0) JH)
theorem mw_L_round_0 : Cond.classLink RL 19 "java/lang/IndexOutOfBoundsException" ∈ wsL_round := List.mem_of_getElem? (i := 1) rfl
set_option maxHeartbeats 8000000 in
set_option maxRecDepth 100000 in
theorem c_L_round (w : WPar) (τ : TS) (j0 : Nat) (x1 : Int32) (j2 : Nat) (K : TS → Int32 → Prop) (hl : w.2.1.stackTraces = false) (h0 : tp_is w j0 7) (h2 : tp_is w j2 33) (hw : wp_L_round τ j0 x1 j2 K) : MA w yL_round wsL_round 9 145 1 6 [.ref (w.1 j0), .int x1, .ref (w.1 j2)] τ K := by
  refine tp_enterA (hh := [(0, 9, 12, 19)]) (cc := cL_round) (maxL := 4) (own := RL) hl (by decide) rfl rfl (Nat.le_of_ble_eq_true rfl) (fun g C D A hR => ?_)
  show Zt w g τ (0, 0) 0 [(0, .ref (w.1 j0)), (1, .int x1), (2, .ref (w.1 j2))] []
  unfold wp_L_round at hw
  obtain ⟨JH, hJ0, hJ1, hJ2, hw⟩ := hw
  have hh0 : ∀ (τ21 : TS) (q : Nat), JH τ21 0 → Zt w g τ21 (1, 6) 12 [] [.ref q] := by
    intro τ21 q hq
    have hw := hJ0 τ21 hq
    refine z_astore_n C [(3, .ref q)] dL_round_12 (by decide) rfl ?_
    refine z_iconst C 1 (by decide) dL_round_13 ?_
    exact hR _ _ _ _ dL_round_14 hw
  refine z_aload_n C 2 (by rfl) dL_round_0 ?_
  refine z_iconst C 0 (by decide) dL_round_1 ?_
  refine z_aload_n C 0 (by rfl) dL_round_2 ?_
  refine z_iload_n C 1 (by rfl) dL_round_3 ?_
  refine xv_i C D (As := [.int x1]) (bytes := cX8_round) (maxL := 2) (F1 := 8) (L1 := 124) (mc := 1) (ms := 6) (cx_X8_round w _ j0 x1 _ _ hl h0 hw) h0.2 (tE7 h0.1) rfl 1 gL_round_X8_round rfl (by decide +kernel) ⟨Nat.le_of_ble_eq_true rfl, Nat.le_of_ble_eq_true rfl⟩ rfl (Nat.le_of_ble_eq_true rfl) (k2 := (1, 6)) rfl ⟨Nat.le_of_ble_eq_true rfl, Nat.le_of_ble_eq_true rfl⟩ rfl dL_round_4 (fun τ22 cd hx => ?_) (fun x23 τ22 hw => ?_)
  · rcases cd with _ | _ | cd
    · refine z_catch C A (cd := 0) (i := 0) (hp := 12) (ct := 19) rfl rfl rfl (by decide) mw_L_round_0 D (by decide) (fun _ hN => fun _ h => absurd h List.not_mem_nil) (fun q => ?_)
      refine z_sub [] [] rfl ?_
      exact hh0 _ q hx
    · exact (hJ1 _ hx).elim
    · exact (hJ2 _ _ hx).elim
  refine z_i2l C dL_round_7 ?_
  refine z_last0 C h2 dL_round_8 (fun τ24 eτ24 => ?_)
  have hw := hw τ24 eτ24
  refine z_goto (tgt := 15) C dL_round_9 (by decide) ?_
  refine z_iconst C 0 (by decide) dL_round_15 ?_
  exact hR _ _ _ _ dL_round_16 hw
def wp_L_swing (τ : TS) (j0 : Nat) (x1 : Int32) (j2 : Nat) (K : TS → Int32 → Prop) : Prop :=
  ∃ JH : TS → Nat → Prop, (∀ (τ21 : TS), JH τ21 0 → (K τ21 1)) ∧ (∀ (τ21 : TS), JH τ21 1 → False) ∧ (∀ (τ21 : TS) (cd : Nat), JH τ21 (cd + 2) → False) ∧ (wpx_X8_swing τ j0 x1 (fun τ22 x23 => ∀ τ24 : TS, τ24 = tp_rw τ22 j2 (upd (upd (τ22 j2) 0 (tp_hi (Int32.toInt64 x23))) 1 (tp_lo (Int32.toInt64 x23))) → K τ24 0) JH)
theorem mw_L_swing_0 : Cond.classLink RL 19 "java/lang/IndexOutOfBoundsException" ∈ wsL_swing := List.mem_of_getElem? (i := 1) rfl
set_option maxHeartbeats 8000000 in
set_option maxRecDepth 100000 in
theorem c_L_swing (w : WPar) (τ : TS) (j0 : Nat) (x1 : Int32) (j2 : Nat) (K : TS → Int32 → Prop) (hl : w.2.1.stackTraces = false) (h0 : tp_is w j0 7) (h2 : tp_is w j2 33) (hw : wp_L_swing τ j0 x1 j2 K) : MA w yL_swing wsL_swing 9 145 1 6 [.ref (w.1 j0), .int x1, .ref (w.1 j2)] τ K := by
  refine tp_enterA (hh := [(0, 9, 12, 19)]) (cc := cL_swing) (maxL := 4) (own := RL) hl (by decide) rfl rfl (Nat.le_of_ble_eq_true rfl) (fun g C D A hR => ?_)
  show Zt w g τ (0, 0) 0 [(0, .ref (w.1 j0)), (1, .int x1), (2, .ref (w.1 j2))] []
  unfold wp_L_swing at hw
  obtain ⟨JH, hJ0, hJ1, hJ2, hw⟩ := hw
  have hh0 : ∀ (τ21 : TS) (q : Nat), JH τ21 0 → Zt w g τ21 (1, 6) 12 [] [.ref q] := by
    intro τ21 q hq
    have hw := hJ0 τ21 hq
    refine z_astore_n C [(3, .ref q)] dL_swing_12 (by decide) rfl ?_
    refine z_iconst C 1 (by decide) dL_swing_13 ?_
    exact hR _ _ _ _ dL_swing_14 hw
  refine z_aload_n C 2 (by rfl) dL_swing_0 ?_
  refine z_iconst C 0 (by decide) dL_swing_1 ?_
  refine z_aload_n C 0 (by rfl) dL_swing_2 ?_
  refine z_iload_n C 1 (by rfl) dL_swing_3 ?_
  refine xv_i C D (As := [.int x1]) (bytes := cX8_swing) (maxL := 2) (F1 := 8) (L1 := 124) (mc := 1) (ms := 6) (cx_X8_swing w _ j0 x1 _ _ hl h0 hw) h0.2 (tE7 h0.1) rfl 1 gL_swing_X8_swing rfl (by decide +kernel) ⟨Nat.le_of_ble_eq_true rfl, Nat.le_of_ble_eq_true rfl⟩ rfl (Nat.le_of_ble_eq_true rfl) (k2 := (1, 6)) rfl ⟨Nat.le_of_ble_eq_true rfl, Nat.le_of_ble_eq_true rfl⟩ rfl dL_swing_4 (fun τ22 cd hx => ?_) (fun x23 τ22 hw => ?_)
  · rcases cd with _ | _ | cd
    · refine z_catch C A (cd := 0) (i := 0) (hp := 12) (ct := 19) rfl rfl rfl (by decide) mw_L_swing_0 D (by decide) (fun _ hN => fun _ h => absurd h List.not_mem_nil) (fun q => ?_)
      refine z_sub [] [] rfl ?_
      exact hh0 _ q hx
    · exact (hJ1 _ hx).elim
    · exact (hJ2 _ _ hx).elim
  refine z_i2l C dL_swing_7 ?_
  refine z_last0 C h2 dL_swing_8 (fun τ24 eτ24 => ?_)
  have hw := hw τ24 eτ24
  refine z_goto (tgt := 15) C dL_swing_9 (by decide) ?_
  refine z_iconst C 0 (by decide) dL_swing_15 ?_
  exact hR _ _ _ _ dL_swing_16 hw
def wp_L_timeout (τ : TS) (j0 : Nat) (x1 : Int32) (j2 : Nat) (K : TS → Int32 → Prop) : Prop :=
  ∃ JH : TS → Nat → Prop, (∀ (τ21 : TS), JH τ21 0 → (K τ21 1)) ∧ (∀ (τ21 : TS), JH τ21 1 → False) ∧ (∀ (τ21 : TS) (cd : Nat), JH τ21 (cd + 2) → False) ∧ (wpx_X8_timeout τ j0 x1 (fun τ22 x23 => ∀ τ24 : TS, τ24 = tp_rw τ22 j2 (upd (upd (τ22 j2) 0 (tp_hi (Int32.toInt64 x23))) 1 (tp_lo (Int32.toInt64 x23))) → K τ24 0) JH)
theorem mw_L_timeout_0 : Cond.classLink RL 19 "java/lang/IndexOutOfBoundsException" ∈ wsL_timeout := List.mem_of_getElem? (i := 1) rfl
set_option maxHeartbeats 8000000 in
set_option maxRecDepth 100000 in
theorem c_L_timeout (w : WPar) (τ : TS) (j0 : Nat) (x1 : Int32) (j2 : Nat) (K : TS → Int32 → Prop) (hl : w.2.1.stackTraces = false) (h0 : tp_is w j0 7) (h2 : tp_is w j2 33) (hw : wp_L_timeout τ j0 x1 j2 K) : MA w yL_timeout wsL_timeout 9 145 1 6 [.ref (w.1 j0), .int x1, .ref (w.1 j2)] τ K := by
  refine tp_enterA (hh := [(0, 9, 12, 19)]) (cc := cL_timeout) (maxL := 4) (own := RL) hl (by decide) rfl rfl (Nat.le_of_ble_eq_true rfl) (fun g C D A hR => ?_)
  show Zt w g τ (0, 0) 0 [(0, .ref (w.1 j0)), (1, .int x1), (2, .ref (w.1 j2))] []
  unfold wp_L_timeout at hw
  obtain ⟨JH, hJ0, hJ1, hJ2, hw⟩ := hw
  have hh0 : ∀ (τ21 : TS) (q : Nat), JH τ21 0 → Zt w g τ21 (1, 6) 12 [] [.ref q] := by
    intro τ21 q hq
    have hw := hJ0 τ21 hq
    refine z_astore_n C [(3, .ref q)] dL_timeout_12 (by decide) rfl ?_
    refine z_iconst C 1 (by decide) dL_timeout_13 ?_
    exact hR _ _ _ _ dL_timeout_14 hw
  refine z_aload_n C 2 (by rfl) dL_timeout_0 ?_
  refine z_iconst C 0 (by decide) dL_timeout_1 ?_
  refine z_aload_n C 0 (by rfl) dL_timeout_2 ?_
  refine z_iload_n C 1 (by rfl) dL_timeout_3 ?_
  refine xv_i C D (As := [.int x1]) (bytes := cX8_timeout) (maxL := 2) (F1 := 8) (L1 := 124) (mc := 1) (ms := 6) (cx_X8_timeout w _ j0 x1 _ _ hl h0 hw) h0.2 (tE7 h0.1) rfl 1 gL_timeout_X8_timeout rfl (by decide +kernel) ⟨Nat.le_of_ble_eq_true rfl, Nat.le_of_ble_eq_true rfl⟩ rfl (Nat.le_of_ble_eq_true rfl) (k2 := (1, 6)) rfl ⟨Nat.le_of_ble_eq_true rfl, Nat.le_of_ble_eq_true rfl⟩ rfl dL_timeout_4 (fun τ22 cd hx => ?_) (fun x23 τ22 hw => ?_)
  · rcases cd with _ | _ | cd
    · refine z_catch C A (cd := 0) (i := 0) (hp := 12) (ct := 19) rfl rfl rfl (by decide) mw_L_timeout_0 D (by decide) (fun _ hN => fun _ h => absurd h List.not_mem_nil) (fun q => ?_)
      refine z_sub [] [] rfl ?_
      exact hh0 _ q hx
    · exact (hJ1 _ hx).elim
    · exact (hJ2 _ _ hx).elim
  refine z_i2l C dL_timeout_7 ?_
  refine z_last0 C h2 dL_timeout_8 (fun τ24 eτ24 => ?_)
  have hw := hw τ24 eτ24
  refine z_goto (tgt := 15) C dL_timeout_9 (by decide) ?_
  refine z_iconst C 0 (by decide) dL_timeout_15 ?_
  exact hR _ _ _ _ dL_timeout_16 hw
def wp_L_timer (τ : TS) (j0 : Nat) (x1 : Int32) (j2 : Nat) (K : TS → Int32 → Prop) : Prop :=
  ∃ JH : TS → Nat → Prop, (∀ (τ21 : TS), JH τ21 0 → (K τ21 1)) ∧ (∀ (τ21 : TS), JH τ21 1 → False) ∧ (∀ (τ21 : TS) (cd : Nat), JH τ21 (cd + 2) → False) ∧ (wpx_X8_timer τ j0 x1 (fun τ22 x23 => ∀ τ24 : TS, τ24 = tp_rw τ22 j2 (upd (upd (τ22 j2) 0 (tp_hi (Int32.toInt64 x23))) 1 (tp_lo (Int32.toInt64 x23))) → K τ24 0) JH)
theorem mw_L_timer_0 : Cond.classLink RL 19 "java/lang/IndexOutOfBoundsException" ∈ wsL_timer := List.mem_of_getElem? (i := 1) rfl
set_option maxHeartbeats 8000000 in
set_option maxRecDepth 100000 in
theorem c_L_timer (w : WPar) (τ : TS) (j0 : Nat) (x1 : Int32) (j2 : Nat) (K : TS → Int32 → Prop) (hl : w.2.1.stackTraces = false) (h0 : tp_is w j0 7) (h2 : tp_is w j2 33) (hw : wp_L_timer τ j0 x1 j2 K) : MA w yL_timer wsL_timer 9 145 1 6 [.ref (w.1 j0), .int x1, .ref (w.1 j2)] τ K := by
  refine tp_enterA (hh := [(0, 9, 12, 19)]) (cc := cL_timer) (maxL := 4) (own := RL) hl (by decide) rfl rfl (Nat.le_of_ble_eq_true rfl) (fun g C D A hR => ?_)
  show Zt w g τ (0, 0) 0 [(0, .ref (w.1 j0)), (1, .int x1), (2, .ref (w.1 j2))] []
  unfold wp_L_timer at hw
  obtain ⟨JH, hJ0, hJ1, hJ2, hw⟩ := hw
  have hh0 : ∀ (τ21 : TS) (q : Nat), JH τ21 0 → Zt w g τ21 (1, 6) 12 [] [.ref q] := by
    intro τ21 q hq
    have hw := hJ0 τ21 hq
    refine z_astore_n C [(3, .ref q)] dL_timer_12 (by decide) rfl ?_
    refine z_iconst C 1 (by decide) dL_timer_13 ?_
    exact hR _ _ _ _ dL_timer_14 hw
  refine z_aload_n C 2 (by rfl) dL_timer_0 ?_
  refine z_iconst C 0 (by decide) dL_timer_1 ?_
  refine z_aload_n C 0 (by rfl) dL_timer_2 ?_
  refine z_iload_n C 1 (by rfl) dL_timer_3 ?_
  refine xv_i C D (As := [.int x1]) (bytes := cX8_timer) (maxL := 2) (F1 := 8) (L1 := 124) (mc := 1) (ms := 6) (cx_X8_timer w _ j0 x1 _ _ hl h0 hw) h0.2 (tE7 h0.1) rfl 1 gL_timer_X8_timer rfl (by decide +kernel) ⟨Nat.le_of_ble_eq_true rfl, Nat.le_of_ble_eq_true rfl⟩ rfl (Nat.le_of_ble_eq_true rfl) (k2 := (1, 6)) rfl ⟨Nat.le_of_ble_eq_true rfl, Nat.le_of_ble_eq_true rfl⟩ rfl dL_timer_4 (fun τ22 cd hx => ?_) (fun x23 τ22 hw => ?_)
  · rcases cd with _ | _ | cd
    · refine z_catch C A (cd := 0) (i := 0) (hp := 12) (ct := 19) rfl rfl rfl (by decide) mw_L_timer_0 D (by decide) (fun _ hN => fun _ h => absurd h List.not_mem_nil) (fun q => ?_)
      refine z_sub [] [] rfl ?_
      exact hh0 _ q hx
    · exact (hJ1 _ hx).elim
    · exact (hJ2 _ _ hx).elim
  refine z_i2l C dL_timer_7 ?_
  refine z_last0 C h2 dL_timer_8 (fun τ24 eτ24 => ?_)
  have hw := hw τ24 eτ24
  refine z_goto (tgt := 15) C dL_timer_9 (by decide) ?_
  refine z_iconst C 0 (by decide) dL_timer_15 ?_
  exact hR _ _ _ _ dL_timer_16 hw
def wp_L_measured (τ : TS) (j0 : Nat) (x1 : Int32) (j2 : Nat) (K : TS → Int32 → Prop) : Prop :=
  ∃ JH : TS → Nat → Prop, (∀ (τ21 : TS), JH τ21 0 → (K τ21 1)) ∧ (∀ (τ21 : TS), JH τ21 1 → False) ∧ (∀ (τ21 : TS) (cd : Nat), JH τ21 (cd + 2) → False) ∧ (wpx_X8_measured τ j0 x1 (fun τ22 x23 => ∀ τ24 : TS, τ24 = tp_rw τ22 j2 (upd (upd (τ22 j2) 0 (tp_hi (Int32.toInt64 x23))) 1 (tp_lo (Int32.toInt64 x23))) → K τ24 0) JH)
theorem mw_L_measured_0 : Cond.classLink RL 19 "java/lang/IndexOutOfBoundsException" ∈ wsL_measured := List.mem_of_getElem? (i := 1) rfl
set_option maxHeartbeats 8000000 in
set_option maxRecDepth 100000 in
theorem c_L_measured (w : WPar) (τ : TS) (j0 : Nat) (x1 : Int32) (j2 : Nat) (K : TS → Int32 → Prop) (hl : w.2.1.stackTraces = false) (h0 : tp_is w j0 7) (h2 : tp_is w j2 33) (hw : wp_L_measured τ j0 x1 j2 K) : MA w yL_measured wsL_measured 9 145 1 6 [.ref (w.1 j0), .int x1, .ref (w.1 j2)] τ K := by
  refine tp_enterA (hh := [(0, 9, 12, 19)]) (cc := cL_measured) (maxL := 4) (own := RL) hl (by decide) rfl rfl (Nat.le_of_ble_eq_true rfl) (fun g C D A hR => ?_)
  show Zt w g τ (0, 0) 0 [(0, .ref (w.1 j0)), (1, .int x1), (2, .ref (w.1 j2))] []
  unfold wp_L_measured at hw
  obtain ⟨JH, hJ0, hJ1, hJ2, hw⟩ := hw
  have hh0 : ∀ (τ21 : TS) (q : Nat), JH τ21 0 → Zt w g τ21 (1, 6) 12 [] [.ref q] := by
    intro τ21 q hq
    have hw := hJ0 τ21 hq
    refine z_astore_n C [(3, .ref q)] dL_measured_12 (by decide) rfl ?_
    refine z_iconst C 1 (by decide) dL_measured_13 ?_
    exact hR _ _ _ _ dL_measured_14 hw
  refine z_aload_n C 2 (by rfl) dL_measured_0 ?_
  refine z_iconst C 0 (by decide) dL_measured_1 ?_
  refine z_aload_n C 0 (by rfl) dL_measured_2 ?_
  refine z_iload_n C 1 (by rfl) dL_measured_3 ?_
  refine xv_i C D (As := [.int x1]) (bytes := cX8_measured) (maxL := 2) (F1 := 8) (L1 := 124) (mc := 1) (ms := 6) (cx_X8_measured w _ j0 x1 _ _ hl h0 hw) h0.2 (tE7 h0.1) rfl 1 gL_measured_X8_measured rfl (by decide +kernel) ⟨Nat.le_of_ble_eq_true rfl, Nat.le_of_ble_eq_true rfl⟩ rfl (Nat.le_of_ble_eq_true rfl) (k2 := (1, 6)) rfl ⟨Nat.le_of_ble_eq_true rfl, Nat.le_of_ble_eq_true rfl⟩ rfl dL_measured_4 (fun τ22 cd hx => ?_) (fun x23 τ22 hw => ?_)
  · rcases cd with _ | _ | cd
    · refine z_catch C A (cd := 0) (i := 0) (hp := 12) (ct := 19) rfl rfl rfl (by decide) mw_L_measured_0 D (by decide) (fun _ hN => fun _ h => absurd h List.not_mem_nil) (fun q => ?_)
      refine z_sub [] [] rfl ?_
      exact hh0 _ q hx
    · exact (hJ1 _ hx).elim
    · exact (hJ2 _ _ hx).elim
  refine z_i2l C dL_measured_7 ?_
  refine z_last0 C h2 dL_measured_8 (fun τ24 eτ24 => ?_)
  have hw := hw τ24 eτ24
  refine z_goto (tgt := 15) C dL_measured_9 (by decide) ?_
  refine z_iconst C 0 (by decide) dL_measured_15 ?_
  exact hR _ _ _ _ dL_measured_16 hw
def wp_L_tries (τ : TS) (j0 : Nat) (x1 : Int32) (j2 : Nat) (K : TS → Int32 → Prop) : Prop :=
  ∃ JH : TS → Nat → Prop, (∀ (τ21 : TS), JH τ21 0 → (K τ21 1)) ∧ (∀ (τ21 : TS), JH τ21 1 → False) ∧ (∀ (τ21 : TS) (cd : Nat), JH τ21 (cd + 2) → False) ∧ (wpx_X8_tries τ j0 x1 (fun τ22 x23 => ∀ τ24 : TS, τ24 = tp_rw τ22 j2 (upd (upd (τ22 j2) 0 (tp_hi (Int32.toInt64 x23))) 1 (tp_lo (Int32.toInt64 x23))) → K τ24 0) JH)
theorem mw_L_tries_0 : Cond.classLink RL 19 "java/lang/IndexOutOfBoundsException" ∈ wsL_tries := List.mem_of_getElem? (i := 1) rfl
set_option maxHeartbeats 8000000 in
set_option maxRecDepth 100000 in
theorem c_L_tries (w : WPar) (τ : TS) (j0 : Nat) (x1 : Int32) (j2 : Nat) (K : TS → Int32 → Prop) (hl : w.2.1.stackTraces = false) (h0 : tp_is w j0 7) (h2 : tp_is w j2 33) (hw : wp_L_tries τ j0 x1 j2 K) : MA w yL_tries wsL_tries 9 145 1 6 [.ref (w.1 j0), .int x1, .ref (w.1 j2)] τ K := by
  refine tp_enterA (hh := [(0, 9, 12, 19)]) (cc := cL_tries) (maxL := 4) (own := RL) hl (by decide) rfl rfl (Nat.le_of_ble_eq_true rfl) (fun g C D A hR => ?_)
  show Zt w g τ (0, 0) 0 [(0, .ref (w.1 j0)), (1, .int x1), (2, .ref (w.1 j2))] []
  unfold wp_L_tries at hw
  obtain ⟨JH, hJ0, hJ1, hJ2, hw⟩ := hw
  have hh0 : ∀ (τ21 : TS) (q : Nat), JH τ21 0 → Zt w g τ21 (1, 6) 12 [] [.ref q] := by
    intro τ21 q hq
    have hw := hJ0 τ21 hq
    refine z_astore_n C [(3, .ref q)] dL_tries_12 (by decide) rfl ?_
    refine z_iconst C 1 (by decide) dL_tries_13 ?_
    exact hR _ _ _ _ dL_tries_14 hw
  refine z_aload_n C 2 (by rfl) dL_tries_0 ?_
  refine z_iconst C 0 (by decide) dL_tries_1 ?_
  refine z_aload_n C 0 (by rfl) dL_tries_2 ?_
  refine z_iload_n C 1 (by rfl) dL_tries_3 ?_
  refine xv_i C D (As := [.int x1]) (bytes := cX8_tries) (maxL := 2) (F1 := 8) (L1 := 124) (mc := 1) (ms := 6) (cx_X8_tries w _ j0 x1 _ _ hl h0 hw) h0.2 (tE7 h0.1) rfl 1 gL_tries_X8_tries rfl (by decide +kernel) ⟨Nat.le_of_ble_eq_true rfl, Nat.le_of_ble_eq_true rfl⟩ rfl (Nat.le_of_ble_eq_true rfl) (k2 := (1, 6)) rfl ⟨Nat.le_of_ble_eq_true rfl, Nat.le_of_ble_eq_true rfl⟩ rfl dL_tries_4 (fun τ22 cd hx => ?_) (fun x23 τ22 hw => ?_)
  · rcases cd with _ | _ | cd
    · refine z_catch C A (cd := 0) (i := 0) (hp := 12) (ct := 19) rfl rfl rfl (by decide) mw_L_tries_0 D (by decide) (fun _ hN => fun _ h => absurd h List.not_mem_nil) (fun q => ?_)
      refine z_sub [] [] rfl ?_
      exact hh0 _ q hx
    · exact (hJ1 _ hx).elim
    · exact (hJ2 _ _ hx).elim
  refine z_i2l C dL_tries_7 ?_
  refine z_last0 C h2 dL_tries_8 (fun τ24 eτ24 => ?_)
  have hw := hw τ24 eτ24
  refine z_goto (tgt := 15) C dL_tries_9 (by decide) ?_
  refine z_iconst C 0 (by decide) dL_tries_15 ?_
  exact hR _ _ _ _ dL_tries_16 hw
def wp_L_sentAgain (τ : TS) (j0 : Nat) (x1 : Int32) (j2 : Nat) (K : TS → Int32 → Prop) : Prop :=
  ∃ JH : TS → Nat → Prop, (∀ (τ21 : TS), JH τ21 0 → (K τ21 1)) ∧ (∀ (τ21 : TS), JH τ21 1 → False) ∧ (∀ (τ21 : TS) (cd : Nat), JH τ21 (cd + 2) → False) ∧ (wpx_X8_sentAgain τ j0 x1 (fun τ22 x23 => ∀ τ24 : TS, τ24 = tp_rw τ22 j2 (upd (upd (τ22 j2) 0 (tp_hi (Int32.toInt64 x23))) 1 (tp_lo (Int32.toInt64 x23))) → K τ24 0) JH)
theorem mw_L_sentAgain_0 : Cond.classLink RL 19 "java/lang/IndexOutOfBoundsException" ∈ wsL_sentAgain := List.mem_of_getElem? (i := 1) rfl
set_option maxHeartbeats 8000000 in
set_option maxRecDepth 100000 in
theorem c_L_sentAgain (w : WPar) (τ : TS) (j0 : Nat) (x1 : Int32) (j2 : Nat) (K : TS → Int32 → Prop) (hl : w.2.1.stackTraces = false) (h0 : tp_is w j0 7) (h2 : tp_is w j2 33) (hw : wp_L_sentAgain τ j0 x1 j2 K) : MA w yL_sentAgain wsL_sentAgain 9 145 1 6 [.ref (w.1 j0), .int x1, .ref (w.1 j2)] τ K := by
  refine tp_enterA (hh := [(0, 9, 12, 19)]) (cc := cL_sentAgain) (maxL := 4) (own := RL) hl (by decide) rfl rfl (Nat.le_of_ble_eq_true rfl) (fun g C D A hR => ?_)
  show Zt w g τ (0, 0) 0 [(0, .ref (w.1 j0)), (1, .int x1), (2, .ref (w.1 j2))] []
  unfold wp_L_sentAgain at hw
  obtain ⟨JH, hJ0, hJ1, hJ2, hw⟩ := hw
  have hh0 : ∀ (τ21 : TS) (q : Nat), JH τ21 0 → Zt w g τ21 (1, 6) 12 [] [.ref q] := by
    intro τ21 q hq
    have hw := hJ0 τ21 hq
    refine z_astore_n C [(3, .ref q)] dL_sentAgain_12 (by decide) rfl ?_
    refine z_iconst C 1 (by decide) dL_sentAgain_13 ?_
    exact hR _ _ _ _ dL_sentAgain_14 hw
  refine z_aload_n C 2 (by rfl) dL_sentAgain_0 ?_
  refine z_iconst C 0 (by decide) dL_sentAgain_1 ?_
  refine z_aload_n C 0 (by rfl) dL_sentAgain_2 ?_
  refine z_iload_n C 1 (by rfl) dL_sentAgain_3 ?_
  refine xv_i C D (As := [.int x1]) (bytes := cX8_sentAgain) (maxL := 2) (F1 := 8) (L1 := 124) (mc := 1) (ms := 6) (cx_X8_sentAgain w _ j0 x1 _ _ hl h0 hw) h0.2 (tE7 h0.1) rfl 1 gL_sentAgain_X8_sentAgain rfl (by decide +kernel) ⟨Nat.le_of_ble_eq_true rfl, Nat.le_of_ble_eq_true rfl⟩ rfl (Nat.le_of_ble_eq_true rfl) (k2 := (1, 6)) rfl ⟨Nat.le_of_ble_eq_true rfl, Nat.le_of_ble_eq_true rfl⟩ rfl dL_sentAgain_4 (fun τ22 cd hx => ?_) (fun x23 τ22 hw => ?_)
  · rcases cd with _ | _ | cd
    · refine z_catch C A (cd := 0) (i := 0) (hp := 12) (ct := 19) rfl rfl rfl (by decide) mw_L_sentAgain_0 D (by decide) (fun _ hN => fun _ h => absurd h List.not_mem_nil) (fun q => ?_)
      refine z_sub [] [] rfl ?_
      exact hh0 _ q hx
    · exact (hJ1 _ hx).elim
    · exact (hJ2 _ _ hx).elim
  refine z_i2l C dL_sentAgain_7 ?_
  refine z_last0 C h2 dL_sentAgain_8 (fun τ24 eτ24 => ?_)
  have hw := hw τ24 eτ24
  refine z_goto (tgt := 15) C dL_sentAgain_9 (by decide) ?_
  refine z_iconst C 0 (by decide) dL_sentAgain_15 ?_
  exact hR _ _ _ _ dL_sentAgain_16 hw
def wp_L_wanted (τ : TS) (j0 : Nat) (x1 : Int32) (j2 : Nat) (K : TS → Int32 → Prop) : Prop :=
  ∃ JH : TS → Nat → Prop, (∀ (τ21 : TS), JH τ21 0 → (K τ21 1)) ∧ (∀ (τ21 : TS), JH τ21 1 → False) ∧ (∀ (τ21 : TS) (cd : Nat), JH τ21 (cd + 2) → False) ∧ (wpx_X8_wanted τ j0 x1 (fun τ22 x23 => ∀ τ24 : TS, τ24 = tp_rw τ22 j2 (upd (upd (τ22 j2) 0 (tp_hi (Int32.toInt64 x23))) 1 (tp_lo (Int32.toInt64 x23))) → K τ24 0) JH)
theorem mw_L_wanted_0 : Cond.classLink RL 19 "java/lang/IndexOutOfBoundsException" ∈ wsL_wanted := List.mem_of_getElem? (i := 1) rfl
set_option maxHeartbeats 8000000 in
set_option maxRecDepth 100000 in
theorem c_L_wanted (w : WPar) (τ : TS) (j0 : Nat) (x1 : Int32) (j2 : Nat) (K : TS → Int32 → Prop) (hl : w.2.1.stackTraces = false) (h0 : tp_is w j0 7) (h2 : tp_is w j2 33) (hw : wp_L_wanted τ j0 x1 j2 K) : MA w yL_wanted wsL_wanted 8 124 1 6 [.ref (w.1 j0), .int x1, .ref (w.1 j2)] τ K := by
  refine tp_enterA (hh := [(0, 9, 12, 19)]) (cc := cL_wanted) (maxL := 4) (own := RL) hl (by decide) rfl rfl (Nat.le_of_ble_eq_true rfl) (fun g C D A hR => ?_)
  show Zt w g τ (0, 0) 0 [(0, .ref (w.1 j0)), (1, .int x1), (2, .ref (w.1 j2))] []
  unfold wp_L_wanted at hw
  obtain ⟨JH, hJ0, hJ1, hJ2, hw⟩ := hw
  have hh0 : ∀ (τ21 : TS) (q : Nat), JH τ21 0 → Zt w g τ21 (1, 6) 12 [] [.ref q] := by
    intro τ21 q hq
    have hw := hJ0 τ21 hq
    refine z_astore_n C [(3, .ref q)] dL_wanted_12 (by decide) rfl ?_
    refine z_iconst C 1 (by decide) dL_wanted_13 ?_
    exact hR _ _ _ _ dL_wanted_14 hw
  refine z_aload_n C 2 (by rfl) dL_wanted_0 ?_
  refine z_iconst C 0 (by decide) dL_wanted_1 ?_
  refine z_aload_n C 0 (by rfl) dL_wanted_2 ?_
  refine z_iload_n C 1 (by rfl) dL_wanted_3 ?_
  refine xv_i C D (As := [.int x1]) (bytes := cX8_wanted) (maxL := 2) (F1 := 7) (L1 := 103) (mc := 1) (ms := 6) (cx_X8_wanted w _ j0 x1 _ _ hl h0 hw) h0.2 (tE7 h0.1) rfl 1 gL_wanted_X8_wanted rfl (by decide +kernel) ⟨Nat.le_of_ble_eq_true rfl, Nat.le_of_ble_eq_true rfl⟩ rfl (Nat.le_of_ble_eq_true rfl) (k2 := (1, 6)) rfl ⟨Nat.le_of_ble_eq_true rfl, Nat.le_of_ble_eq_true rfl⟩ rfl dL_wanted_4 (fun τ22 cd hx => ?_) (fun x23 τ22 hw => ?_)
  · rcases cd with _ | _ | cd
    · refine z_catch C A (cd := 0) (i := 0) (hp := 12) (ct := 19) rfl rfl rfl (by decide) mw_L_wanted_0 D (by decide) (fun _ hN => fun _ h => absurd h List.not_mem_nil) (fun q => ?_)
      refine z_sub [] [] rfl ?_
      exact hh0 _ q hx
    · exact (hJ1 _ hx).elim
    · exact (hJ2 _ _ hx).elim
  refine z_i2l C dL_wanted_7 ?_
  refine z_last0 C h2 dL_wanted_8 (fun τ24 eτ24 => ?_)
  have hw := hw τ24 eτ24
  refine z_goto (tgt := 15) C dL_wanted_9 (by decide) ?_
  refine z_iconst C 0 (by decide) dL_wanted_15 ?_
  exact hR _ _ _ _ dL_wanted_16 hw
def wp_L_holds (τ : TS) (j0 : Nat) (x1 : Int32) (x2 : Int32) (j3 : Nat) (K : TS → Int32 → Prop) : Prop :=
  ∃ JH : TS → Nat → Prop, (∀ (τ21 : TS), JH τ21 0 → (K τ21 1)) ∧ (∀ (τ21 : TS), JH τ21 1 → False) ∧ (∀ (τ21 : TS) (cd : Nat), JH τ21 (cd + 2) → False) ∧ (wpx_X8_holds τ j0 x1 x2 (fun τ22 x23 => ((x23 = 0) → (∀ τ25 : TS, τ25 = tp_rw τ22 j3 (upd (upd (τ22 j3) 0 (tp_hi 0)) 1 (tp_lo 0)) → K τ25 0)) ∧ ((¬ x23 = 0) → (∀ τ26 : TS, τ26 = tp_rw τ22 j3 (upd (upd (τ22 j3) 0 (tp_hi 1)) 1 (tp_lo 1)) → K τ26 0))) JH)
theorem mw_L_holds_0 : Cond.classLink RL 19 "java/lang/IndexOutOfBoundsException" ∈ wsL_holds := List.mem_of_getElem? (i := 1) rfl
set_option maxHeartbeats 8000000 in
set_option maxRecDepth 100000 in
theorem c_L_holds (w : WPar) (τ : TS) (j0 : Nat) (x1 : Int32) (x2 : Int32) (j3 : Nat) (K : TS → Int32 → Prop) (hl : w.2.1.stackTraces = false) (h0 : tp_is w j0 7) (h3 : tp_is w j3 33) (hw : wp_L_holds τ j0 x1 x2 j3 K) : MA w yL_holds wsL_holds 8 126 1 6 [.ref (w.1 j0), .int x1, .int x2, .ref (w.1 j3)] τ K := by
  refine tp_enterA (hh := [(0, 17, 20, 19)]) (cc := cL_holds) (maxL := 5) (own := RL) hl (by decide) rfl rfl (Nat.le_of_ble_eq_true rfl) (fun g C D A hR => ?_)
  show Zt w g τ (0, 0) 0 [(0, .ref (w.1 j0)), (1, .int x1), (2, .int x2), (3, .ref (w.1 j3))] []
  unfold wp_L_holds at hw
  obtain ⟨JH, hJ0, hJ1, hJ2, hw⟩ := hw
  have hh0 : ∀ (τ21 : TS) (q : Nat), JH τ21 0 → Zt w g τ21 (1, 6) 20 [] [.ref q] := by
    intro τ21 q hq
    have hw := hJ0 τ21 hq
    refine z_astore C [(4, .ref q)] dL_holds_20 (by decide) rfl ?_
    refine z_iconst C 1 (by decide) dL_holds_22 ?_
    exact hR _ _ _ _ dL_holds_23 hw
  refine z_aload_n C 3 (by rfl) dL_holds_0 ?_
  refine z_iconst C 0 (by decide) dL_holds_1 ?_
  refine z_aload_n C 0 (by rfl) dL_holds_2 ?_
  refine z_iload_n C 1 (by rfl) dL_holds_3 ?_
  refine z_iload_n C 2 (by rfl) dL_holds_4 ?_
  refine xv_i C D (As := [.int x1, .int x2]) (bytes := cX8_holds) (maxL := 4) (F1 := 7) (L1 := 103) (mc := 1) (ms := 6) (cx_X8_holds w _ j0 x1 x2 _ _ hl h0 hw) h0.2 (tE7 h0.1) rfl 2 gL_holds_X8_holds rfl (by decide +kernel) ⟨Nat.le_of_ble_eq_true rfl, Nat.le_of_ble_eq_true rfl⟩ rfl (Nat.le_of_ble_eq_true rfl) (k2 := (1, 6)) rfl ⟨Nat.le_of_ble_eq_true rfl, Nat.le_of_ble_eq_true rfl⟩ rfl dL_holds_5 (fun τ22 cd hx => ?_) (fun x23 τ22 hw => ?_)
  · rcases cd with _ | _ | cd
    · refine z_catch C A (cd := 0) (i := 0) (hp := 20) (ct := 19) rfl rfl rfl (by decide) mw_L_holds_0 D (by decide) (fun _ hN => fun _ h => absurd h List.not_mem_nil) (fun q => ?_)
      refine z_sub [] [] rfl ?_
      exact hh0 _ q hx
    · exact (hJ1 _ hx).elim
    · exact (hJ2 _ _ hx).elim
  refine z_if_eq (tgt := 15) C dL_holds_8 (by decide) (fun c24 => ?_) (fun c24 => ?_)
  · have hw := hw.1 c24
    refine z_lconst C 0 (by decide) dL_holds_15 ?_
    refine z_last0 C h3 dL_holds_16 (fun τ25 eτ25 => ?_)
    have hw := hw τ25 eτ25
    refine z_goto (tgt := 24) C dL_holds_17 (by decide) ?_
    refine z_iconst C 0 (by decide) dL_holds_24 ?_
    exact hR _ _ _ _ dL_holds_25 hw
  · have hw := hw.2 c24
    refine z_lconst C 1 (by decide) dL_holds_11 ?_
    refine z_goto (tgt := 16) C dL_holds_12 (by decide) ?_
    refine z_last0 C h3 dL_holds_16 (fun τ26 eτ26 => ?_)
    have hw := hw τ26 eτ26
    refine z_goto (tgt := 24) C dL_holds_17 (by decide) ?_
    refine z_iconst C 0 (by decide) dL_holds_24 ?_
    exact hR _ _ _ _ dL_holds_25 hw
def wp_L_readable (τ : TS) (j0 : Nat) (x1 : Int32) (j2 : Nat) (K : TS → Int32 → Prop) : Prop :=
  ∃ JH : TS → Nat → Prop, (∀ (τ21 : TS), JH τ21 0 → (K τ21 1)) ∧ (∀ (τ21 : TS), JH τ21 1 → False) ∧ (∀ (τ21 : TS) (cd : Nat), JH τ21 (cd + 2) → False) ∧ (wpx_X8_readable τ j0 x1 (fun τ22 x23 => ∀ τ24 : TS, τ24 = tp_rw τ22 j2 (upd (upd (τ22 j2) 0 (tp_hi (Int32.toInt64 x23))) 1 (tp_lo (Int32.toInt64 x23))) → K τ24 0) JH)
theorem mw_L_readable_0 : Cond.classLink RL 19 "java/lang/IndexOutOfBoundsException" ∈ wsL_readable := List.mem_of_getElem? (i := 1) rfl
set_option maxHeartbeats 8000000 in
set_option maxRecDepth 100000 in
theorem c_L_readable (w : WPar) (τ : TS) (j0 : Nat) (x1 : Int32) (j2 : Nat) (K : TS → Int32 → Prop) (hl : w.2.1.stackTraces = false) (h0 : tp_is w j0 7) (h2 : tp_is w j2 33) (hw : wp_L_readable τ j0 x1 j2 K) : MA w yL_readable wsL_readable 8 124 1 6 [.ref (w.1 j0), .int x1, .ref (w.1 j2)] τ K := by
  refine tp_enterA (hh := [(0, 9, 12, 19)]) (cc := cL_readable) (maxL := 4) (own := RL) hl (by decide) rfl rfl (Nat.le_of_ble_eq_true rfl) (fun g C D A hR => ?_)
  show Zt w g τ (0, 0) 0 [(0, .ref (w.1 j0)), (1, .int x1), (2, .ref (w.1 j2))] []
  unfold wp_L_readable at hw
  obtain ⟨JH, hJ0, hJ1, hJ2, hw⟩ := hw
  have hh0 : ∀ (τ21 : TS) (q : Nat), JH τ21 0 → Zt w g τ21 (1, 6) 12 [] [.ref q] := by
    intro τ21 q hq
    have hw := hJ0 τ21 hq
    refine z_astore_n C [(3, .ref q)] dL_readable_12 (by decide) rfl ?_
    refine z_iconst C 1 (by decide) dL_readable_13 ?_
    exact hR _ _ _ _ dL_readable_14 hw
  refine z_aload_n C 2 (by rfl) dL_readable_0 ?_
  refine z_iconst C 0 (by decide) dL_readable_1 ?_
  refine z_aload_n C 0 (by rfl) dL_readable_2 ?_
  refine z_iload_n C 1 (by rfl) dL_readable_3 ?_
  refine xv_i C D (As := [.int x1]) (bytes := cX8_readable) (maxL := 2) (F1 := 7) (L1 := 103) (mc := 1) (ms := 6) (cx_X8_readable w _ j0 x1 _ _ hl h0 hw) h0.2 (tE7 h0.1) rfl 1 gL_readable_X8_readable rfl (by decide +kernel) ⟨Nat.le_of_ble_eq_true rfl, Nat.le_of_ble_eq_true rfl⟩ rfl (Nat.le_of_ble_eq_true rfl) (k2 := (1, 6)) rfl ⟨Nat.le_of_ble_eq_true rfl, Nat.le_of_ble_eq_true rfl⟩ rfl dL_readable_4 (fun τ22 cd hx => ?_) (fun x23 τ22 hw => ?_)
  · rcases cd with _ | _ | cd
    · refine z_catch C A (cd := 0) (i := 0) (hp := 12) (ct := 19) rfl rfl rfl (by decide) mw_L_readable_0 D (by decide) (fun _ hN => fun _ h => absurd h List.not_mem_nil) (fun q => ?_)
      refine z_sub [] [] rfl ?_
      exact hh0 _ q hx
    · exact (hJ1 _ hx).elim
    · exact (hJ2 _ _ hx).elim
  refine z_i2l C dL_readable_7 ?_
  refine z_last0 C h2 dL_readable_8 (fun τ24 eτ24 => ?_)
  have hw := hw τ24 eτ24
  refine z_goto (tgt := 15) C dL_readable_9 (by decide) ?_
  refine z_iconst C 0 (by decide) dL_readable_15 ?_
  exact hR _ _ _ _ dL_readable_16 hw
def wp_L_hasRead (τ : TS) (j0 : Nat) (x1 : Int32) (j2 : Nat) (K : TS → Int32 → Prop) : Prop :=
  ∃ JH : TS → Nat → Prop, (∀ (τ21 : TS), JH τ21 0 → (K τ21 1)) ∧ (∀ (τ21 : TS), JH τ21 1 → False) ∧ (∀ (τ21 : TS) (cd : Nat), JH τ21 (cd + 2) → False) ∧ (wpx_X8_hasRead τ j0 x1 (fun τ22 x23 => ∀ τ24 : TS, τ24 = tp_rw τ22 j2 (upd (upd (τ22 j2) 0 (tp_hi (Int32.toInt64 x23))) 1 (tp_lo (Int32.toInt64 x23))) → K τ24 0) JH)
theorem mw_L_hasRead_0 : Cond.classLink RL 19 "java/lang/IndexOutOfBoundsException" ∈ wsL_hasRead := List.mem_of_getElem? (i := 1) rfl
set_option maxHeartbeats 8000000 in
set_option maxRecDepth 100000 in
theorem c_L_hasRead (w : WPar) (τ : TS) (j0 : Nat) (x1 : Int32) (j2 : Nat) (K : TS → Int32 → Prop) (hl : w.2.1.stackTraces = false) (h0 : tp_is w j0 7) (h2 : tp_is w j2 33) (hw : wp_L_hasRead τ j0 x1 j2 K) : MA w yL_hasRead wsL_hasRead 8 124 1 6 [.ref (w.1 j0), .int x1, .ref (w.1 j2)] τ K := by
  refine tp_enterA (hh := [(0, 9, 12, 19)]) (cc := cL_hasRead) (maxL := 4) (own := RL) hl (by decide) rfl rfl (Nat.le_of_ble_eq_true rfl) (fun g C D A hR => ?_)
  show Zt w g τ (0, 0) 0 [(0, .ref (w.1 j0)), (1, .int x1), (2, .ref (w.1 j2))] []
  unfold wp_L_hasRead at hw
  obtain ⟨JH, hJ0, hJ1, hJ2, hw⟩ := hw
  have hh0 : ∀ (τ21 : TS) (q : Nat), JH τ21 0 → Zt w g τ21 (1, 6) 12 [] [.ref q] := by
    intro τ21 q hq
    have hw := hJ0 τ21 hq
    refine z_astore_n C [(3, .ref q)] dL_hasRead_12 (by decide) rfl ?_
    refine z_iconst C 1 (by decide) dL_hasRead_13 ?_
    exact hR _ _ _ _ dL_hasRead_14 hw
  refine z_aload_n C 2 (by rfl) dL_hasRead_0 ?_
  refine z_iconst C 0 (by decide) dL_hasRead_1 ?_
  refine z_aload_n C 0 (by rfl) dL_hasRead_2 ?_
  refine z_iload_n C 1 (by rfl) dL_hasRead_3 ?_
  refine xv_i C D (As := [.int x1]) (bytes := cX8_hasRead) (maxL := 2) (F1 := 7) (L1 := 103) (mc := 1) (ms := 6) (cx_X8_hasRead w _ j0 x1 _ _ hl h0 hw) h0.2 (tE7 h0.1) rfl 1 gL_hasRead_X8_hasRead rfl (by decide +kernel) ⟨Nat.le_of_ble_eq_true rfl, Nat.le_of_ble_eq_true rfl⟩ rfl (Nat.le_of_ble_eq_true rfl) (k2 := (1, 6)) rfl ⟨Nat.le_of_ble_eq_true rfl, Nat.le_of_ble_eq_true rfl⟩ rfl dL_hasRead_4 (fun τ22 cd hx => ?_) (fun x23 τ22 hw => ?_)
  · rcases cd with _ | _ | cd
    · refine z_catch C A (cd := 0) (i := 0) (hp := 12) (ct := 19) rfl rfl rfl (by decide) mw_L_hasRead_0 D (by decide) (fun _ hN => fun _ h => absurd h List.not_mem_nil) (fun q => ?_)
      refine z_sub [] [] rfl ?_
      exact hh0 _ q hx
    · exact (hJ1 _ hx).elim
    · exact (hJ2 _ _ hx).elim
  refine z_i2l C dL_hasRead_7 ?_
  refine z_last0 C h2 dL_hasRead_8 (fun τ24 eτ24 => ?_)
  have hw := hw τ24 eτ24
  refine z_goto (tgt := 15) C dL_hasRead_9 (by decide) ?_
  refine z_iconst C 0 (by decide) dL_hasRead_15 ?_
  exact hR _ _ _ _ dL_hasRead_16 hw
def wp_L_ticksUntil (τ : TS) (j0 : Nat) (x1 : Int32) (x2 : Int32) (x3 : Int32) (j4 : Nat) (K : TS → Int32 → Prop) : Prop :=
  ∃ JH : TS → Nat → Prop, (∀ (τ21 : TS), JH τ21 0 → (K τ21 1)) ∧ (∀ (τ21 : TS), JH τ21 1 → (K τ21 2)) ∧ (∀ (τ21 : TS) (cd : Nat), JH τ21 (cd + 2) → False) ∧ (wpx_X8_ticksUntil τ j0 x1 x2 x3 (fun τ22 x23 => ∀ τ24 : TS, τ24 = tp_rw τ22 j4 (upd (upd (τ22 j4) 0 (tp_hi (Int32.toInt64 x23))) 1 (tp_lo (Int32.toInt64 x23))) → K τ24 0) JH)
theorem mw_L_ticksUntil_0 : Cond.classLink RL 19 "java/lang/IndexOutOfBoundsException" ∈ wsL_ticksUntil := List.mem_of_getElem? (i := 1) rfl
theorem mw_L_ticksUntil_1 : Cond.classLink RL 21 "java/lang/IllegalArgumentException" ∈ wsL_ticksUntil := List.mem_of_getElem? (i := 2) rfl
set_option maxHeartbeats 8000000 in
set_option maxRecDepth 100000 in
theorem c_L_ticksUntil (w : WPar) (τ : TS) (j0 : Nat) (x1 : Int32) (x2 : Int32) (x3 : Int32) (j4 : Nat) (K : TS → Int32 → Prop) (hl : w.2.1.stackTraces = false) (h0 : tp_is w j0 7) (h4 : tp_is w j4 33) (hw : wp_L_ticksUntil τ j0 x1 x2 x3 j4 K) : MA w yL_ticksUntil wsL_ticksUntil 9 149 2 12 [.ref (w.1 j0), .int x1, .int x2, .int x3, .ref (w.1 j4)] τ K := by
  refine tp_enterA (hh := [(0, 12, 15, 19), (0, 12, 19, 21)]) (cc := cL_ticksUntil) (maxL := 6) (own := RL) hl (by decide) rfl rfl (Nat.le_of_ble_eq_true rfl) (fun g C D A hR => ?_)
  show Zt w g τ (0, 0) 0 [(0, .ref (w.1 j0)), (1, .int x1), (2, .int x2), (3, .int x3), (4, .ref (w.1 j4))] []
  unfold wp_L_ticksUntil at hw
  obtain ⟨JH, hJ0, hJ1, hJ2, hw⟩ := hw
  have hh0 : ∀ (τ21 : TS) (q : Nat), JH τ21 0 → Zt w g τ21 (2, 12) 15 [] [.ref q] := by
    intro τ21 q hq
    have hw := hJ0 τ21 hq
    refine z_astore C [(5, .ref q)] dL_ticksUntil_15 (by decide) rfl ?_
    refine z_iconst C 1 (by decide) dL_ticksUntil_17 ?_
    exact hR _ _ _ _ dL_ticksUntil_18 hw
  have hh1 : ∀ (τ21 : TS) (q : Nat), JH τ21 1 → Zt w g τ21 (2, 12) 19 [] [.ref q] := by
    intro τ21 q hq
    have hw := hJ1 τ21 hq
    refine z_astore C [(5, .ref q)] dL_ticksUntil_19 (by decide) rfl ?_
    refine z_iconst C 2 (by decide) dL_ticksUntil_21 ?_
    exact hR _ _ _ _ dL_ticksUntil_22 hw
  refine z_aload C 4 (by rfl) dL_ticksUntil_0 ?_
  refine z_iconst C 0 (by decide) dL_ticksUntil_2 ?_
  refine z_aload_n C 0 (by rfl) dL_ticksUntil_3 ?_
  refine z_iload_n C 1 (by rfl) dL_ticksUntil_4 ?_
  refine z_iload_n C 2 (by rfl) dL_ticksUntil_5 ?_
  refine z_iload_n C 3 (by rfl) dL_ticksUntil_6 ?_
  refine xv_i C D (As := [.int x1, .int x2, .int x3]) (bytes := cX8_ticksUntil) (maxL := 6) (F1 := 8) (L1 := 124) (mc := 2) (ms := 12) (cx_X8_ticksUntil w _ j0 x1 x2 x3 _ _ hl h0 hw) h0.2 (tE7 h0.1) rfl 3 gL_ticksUntil_X8_ticksUntil rfl (by decide +kernel) ⟨Nat.le_of_ble_eq_true rfl, Nat.le_of_ble_eq_true rfl⟩ rfl (Nat.le_of_ble_eq_true rfl) (k2 := (2, 12)) rfl ⟨Nat.le_of_ble_eq_true rfl, Nat.le_of_ble_eq_true rfl⟩ rfl dL_ticksUntil_7 (fun τ22 cd hx => ?_) (fun x23 τ22 hw => ?_)
  · rcases cd with _ | _ | cd
    · refine z_catch C A (cd := 0) (i := 0) (hp := 15) (ct := 19) rfl rfl rfl (by decide) mw_L_ticksUntil_0 D (by decide) (fun _ hN => fun _ h => absurd h List.not_mem_nil) (fun q => ?_)
      refine z_sub [] [] rfl ?_
      exact hh0 _ q hx
    · refine z_catch C A (cd := 1) (i := 1) (hp := 19) (ct := 21) rfl rfl rfl (by decide) mw_L_ticksUntil_1 D (by decide) (fun _ hN => List.forall_mem_cons.mpr ⟨Or.inr ⟨by decide, _, mw_L_ticksUntil_0, hN.1⟩, fun _ h => absurd h List.not_mem_nil⟩) (fun q => ?_)
      refine z_sub [] [] rfl ?_
      exact hh1 _ q hx
    · exact (hJ2 _ _ hx).elim
  refine z_i2l C dL_ticksUntil_10 ?_
  refine z_last0 C h4 dL_ticksUntil_11 (fun τ24 eτ24 => ?_)
  have hw := hw τ24 eτ24
  refine z_goto (tgt := 23) C dL_ticksUntil_12 (by decide) ?_
  refine z_iconst C 0 (by decide) dL_ticksUntil_23 ?_
  exact hR _ _ _ _ dL_ticksUntil_24 hw
def wp_L_lostIn (τ : TS) (j0 : Nat) (x1 : Int32) (j2 : Nat) (K : TS → Int32 → Prop) : Prop :=
  ∃ JH : TS → Nat → Prop, (∀ (τ21 : TS), JH τ21 0 → False) ∧ (∀ (τ21 : TS), JH τ21 1 → (K τ21 1)) ∧ (∀ (τ21 : TS) (cd : Nat), JH τ21 (cd + 2) → False) ∧ (wpx_X8_lostIn τ j0 x1 (fun τ22 x23 => ∀ τ24 : TS, τ24 = tp_rw τ22 j2 (upd (upd (τ22 j2) 0 (tp_hi (Int32.toInt64 x23))) 1 (tp_lo (Int32.toInt64 x23))) → K τ24 0) JH)
theorem mw_L_lostIn_0 : Cond.classLink RL 21 "java/lang/IllegalArgumentException" ∈ wsL_lostIn := List.mem_of_getElem? (i := 1) rfl
set_option maxHeartbeats 8000000 in
set_option maxRecDepth 100000 in
theorem c_L_lostIn (w : WPar) (τ : TS) (j0 : Nat) (x1 : Int32) (j2 : Nat) (K : TS → Int32 → Prop) (hl : w.2.1.stackTraces = false) (h0 : tp_is w j0 7) (h2 : tp_is w j2 33) (hw : wp_L_lostIn τ j0 x1 j2 K) : MA w yL_lostIn wsL_lostIn 8 126 1 6 [.ref (w.1 j0), .int x1, .ref (w.1 j2)] τ K := by
  refine tp_enterA (hh := [(0, 9, 12, 21)]) (cc := cL_lostIn) (maxL := 4) (own := RL) hl (by decide) rfl rfl (Nat.le_of_ble_eq_true rfl) (fun g C D A hR => ?_)
  show Zt w g τ (0, 0) 0 [(0, .ref (w.1 j0)), (1, .int x1), (2, .ref (w.1 j2))] []
  unfold wp_L_lostIn at hw
  obtain ⟨JH, hJ0, hJ1, hJ2, hw⟩ := hw
  have hh1 : ∀ (τ21 : TS) (q : Nat), JH τ21 1 → Zt w g τ21 (1, 6) 12 [] [.ref q] := by
    intro τ21 q hq
    have hw := hJ1 τ21 hq
    refine z_astore_n C [(3, .ref q)] dL_lostIn_12 (by decide) rfl ?_
    refine z_iconst C 1 (by decide) dL_lostIn_13 ?_
    exact hR _ _ _ _ dL_lostIn_14 hw
  refine z_aload_n C 2 (by rfl) dL_lostIn_0 ?_
  refine z_iconst C 0 (by decide) dL_lostIn_1 ?_
  refine z_aload_n C 0 (by rfl) dL_lostIn_2 ?_
  refine z_iload_n C 1 (by rfl) dL_lostIn_3 ?_
  refine xv_i C D (As := [.int x1]) (bytes := cX8_lostIn) (maxL := 3) (F1 := 7) (L1 := 104) (mc := 1) (ms := 6) (cx_X8_lostIn w _ j0 x1 _ _ hl h0 hw) h0.2 (tE7 h0.1) rfl 1 gL_lostIn_X8_lostIn rfl (by decide +kernel) ⟨Nat.le_of_ble_eq_true rfl, Nat.le_of_ble_eq_true rfl⟩ rfl (Nat.le_of_ble_eq_true rfl) (k2 := (1, 6)) rfl ⟨Nat.le_of_ble_eq_true rfl, Nat.le_of_ble_eq_true rfl⟩ rfl dL_lostIn_4 (fun τ22 cd hx => ?_) (fun x23 τ22 hw => ?_)
  · rcases cd with _ | _ | cd
    · exact (hJ0 _ hx).elim
    · refine z_catch C A (cd := 1) (i := 0) (hp := 12) (ct := 21) rfl rfl rfl (by decide) mw_L_lostIn_0 D (by decide) (fun _ hN => fun _ h => absurd h List.not_mem_nil) (fun q => ?_)
      refine z_sub [] [] rfl ?_
      exact hh1 _ q hx
    · exact (hJ2 _ _ hx).elim
  refine z_i2l C dL_lostIn_7 ?_
  refine z_last0 C h2 dL_lostIn_8 (fun τ24 eτ24 => ?_)
  have hw := hw τ24 eτ24
  refine z_goto (tgt := 15) C dL_lostIn_9 (by decide) ?_
  refine z_iconst C 0 (by decide) dL_lostIn_15 ?_
  exact hR _ _ _ _ dL_lostIn_16 hw
def wp_L_distanceWithout (τ : TS) (j0 : Nat) (x1 : Int32) (x2 : Int32) (x3 : Int32) (j4 : Nat) (K : TS → Int32 → Prop) : Prop :=
  ∃ JH : TS → Nat → Prop, (∀ (τ21 : TS), JH τ21 0 → (K τ21 1)) ∧ (∀ (τ21 : TS), JH τ21 1 → False) ∧ (∀ (τ21 : TS) (cd : Nat), JH τ21 (cd + 2) → False) ∧ (wpx_X8_distanceWithout τ j0 x1 x2 x3 (fun τ22 x23 => ∀ τ24 : TS, τ24 = tp_rw τ22 j4 (upd (upd (τ22 j4) 0 (tp_hi (Int32.toInt64 x23))) 1 (tp_lo (Int32.toInt64 x23))) → K τ24 0) JH)
theorem mw_L_distanceWithout_0 : Cond.classLink RL 19 "java/lang/IndexOutOfBoundsException" ∈ wsL_distanceWithout := List.mem_of_getElem? (i := 1) rfl
set_option maxHeartbeats 8000000 in
set_option maxRecDepth 100000 in
theorem c_L_distanceWithout (w : WPar) (τ : TS) (j0 : Nat) (x1 : Int32) (x2 : Int32) (x3 : Int32) (j4 : Nat) (K : TS → Int32 → Prop) (hl : w.2.1.stackTraces = false) (h0 : tp_is w j0 7) (h4 : tp_is w j4 33) (hw : wp_L_distanceWithout τ j0 x1 x2 x3 j4 K) : MA w yL_distanceWithout wsL_distanceWithout 8 126 3 18 [.ref (w.1 j0), .int x1, .int x2, .int x3, .ref (w.1 j4)] τ K := by
  refine tp_enterA (hh := [(0, 12, 15, 19)]) (cc := cL_distanceWithout) (maxL := 6) (own := RL) hl (by decide) rfl rfl (Nat.le_of_ble_eq_true rfl) (fun g C D A hR => ?_)
  show Zt w g τ (0, 0) 0 [(0, .ref (w.1 j0)), (1, .int x1), (2, .int x2), (3, .int x3), (4, .ref (w.1 j4))] []
  unfold wp_L_distanceWithout at hw
  obtain ⟨JH, hJ0, hJ1, hJ2, hw⟩ := hw
  have hh0 : ∀ (τ21 : TS) (q : Nat), JH τ21 0 → Zt w g τ21 (3, 18) 15 [] [.ref q] := by
    intro τ21 q hq
    have hw := hJ0 τ21 hq
    refine z_astore C [(5, .ref q)] dL_distanceWithout_15 (by decide) rfl ?_
    refine z_iconst C 1 (by decide) dL_distanceWithout_17 ?_
    exact hR _ _ _ _ dL_distanceWithout_18 hw
  refine z_aload C 4 (by rfl) dL_distanceWithout_0 ?_
  refine z_iconst C 0 (by decide) dL_distanceWithout_2 ?_
  refine z_aload_n C 0 (by rfl) dL_distanceWithout_3 ?_
  refine z_iload_n C 1 (by rfl) dL_distanceWithout_4 ?_
  refine z_iload_n C 2 (by rfl) dL_distanceWithout_5 ?_
  refine z_iload_n C 3 (by rfl) dL_distanceWithout_6 ?_
  refine xv_i C D (As := [.int x1, .int x2, .int x3]) (bytes := cX8_distanceWithout) (maxL := 4) (F1 := 7) (L1 := 103) (mc := 3) (ms := 18) (cx_X8_distanceWithout w _ j0 x1 x2 x3 _ _ hl h0 hw) h0.2 (tE7 h0.1) rfl 3 gL_distanceWithout_X8_distanceWithout rfl (by decide +kernel) ⟨Nat.le_of_ble_eq_true rfl, Nat.le_of_ble_eq_true rfl⟩ rfl (Nat.le_of_ble_eq_true rfl) (k2 := (3, 18)) rfl ⟨Nat.le_of_ble_eq_true rfl, Nat.le_of_ble_eq_true rfl⟩ rfl dL_distanceWithout_7 (fun τ22 cd hx => ?_) (fun x23 τ22 hw => ?_)
  · rcases cd with _ | _ | cd
    · refine z_catch C A (cd := 0) (i := 0) (hp := 15) (ct := 19) rfl rfl rfl (by decide) mw_L_distanceWithout_0 D (by decide) (fun _ hN => fun _ h => absurd h List.not_mem_nil) (fun q => ?_)
      refine z_sub [] [] rfl ?_
      exact hh0 _ q hx
    · exact (hJ1 _ hx).elim
    · exact (hJ2 _ _ hx).elim
  refine z_i2l C dL_distanceWithout_10 ?_
  refine z_last0 C h4 dL_distanceWithout_11 (fun τ24 eτ24 => ?_)
  have hw := hw τ24 eτ24
  refine z_goto (tgt := 19) C dL_distanceWithout_12 (by decide) ?_
  refine z_iconst C 0 (by decide) dL_distanceWithout_19 ?_
  exact hR _ _ _ _ dL_distanceWithout_20 hw
