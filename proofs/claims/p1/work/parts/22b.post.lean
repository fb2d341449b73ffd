def wp_X8_clock (τ : TS) (i0 : Nat) (K : TS → Int32 → Prop) : Prop :=
  K τ (τ 17 4)
theorem mw_X8_clock_0 : Cond.fieldLink RX8 21 "TidePost" "traffic" "LTidePost$Traffic;" ∈ wsX8_clock := List.mem_of_getElem? (i := 1) rfl
theorem mw_X8_clock_1 : Cond.fieldLink RX8 168 "TidePost$Traffic" "clock" "I" ∈ wsX8_clock := List.mem_of_getElem? (i := 2) rfl
theorem in_X8_clock_X8 : ∀ x ∈ wsX80, x ∈ wsX8_clock := fun _ h => List.mem_cons_of_mem _ (List.mem_append_left _ (List.mem_append_right _ h))
theorem in_X8_clock_X6 : ∀ x ∈ wsX60, x ∈ wsX8_clock := fun _ h => List.mem_cons_of_mem _ (List.mem_append_right _ h)
set_option maxHeartbeats 4000000 in
set_option maxRecDepth 100000 in
theorem c_X8_clock (w : WPar) (τ : TS) (i0 : Nat) (K : TS → Int32 → Prop) (h0 : tp_is w i0 7) (hw : wp_X8_clock τ i0 K) : MI w yX8_clock wsX8_clock 0 0 [.ref (w.1 i0)] τ K := by
  refine tp_enterI (cc := cX8_clock) (maxL := 1) (own := RX8) (by decide) rfl rfl (Nat.le_of_ble_eq_true rfl) (fun g C hR => ?_)
  show Zt w g τ (0, 0) 0 [(0, .ref (w.1 i0))] []
  unfold wp_X8_clock at hw
  refine z_aload_n C 0 (by rfl) dX8_clock_0 ?_
  refine z_get C (Cn := RX8) (T := TX8) (N := 4) (ci := 7) h0.2 1 (tE7 h0.1) in_X8_clock_X8 rfl (by decide) mw_X8_clock_0 rfl rfl dX8_clock_1 ?_
  refine z_get C (Cn := RX6) (T := TX6) (N := 6) (ci := 5) (tR7_1 h0).2 4 (tE5 (tR7_1 h0).1) in_X8_clock_X6 rfl (by decide) mw_X8_clock_1 rfl rfl dX8_clock_4 ?_
  exact hR _ _ _ _ dX8_clock_7 hw
def wp_X8_nodes (τ : TS) (i0 : Nat) (K : TS → Int32 → Prop) : Prop :=
  K τ (τ 1 0)
theorem mw_X8_nodes_0 : Cond.fieldLink RX8 12 "TidePost" "net" "LTidePost$Net;" ∈ wsX8_nodes := List.mem_of_getElem? (i := 1) rfl
theorem mw_X8_nodes_1 : Cond.fieldLink RX8 33 "TidePost$Net" "nodes" "I" ∈ wsX8_nodes := List.mem_of_getElem? (i := 2) rfl
theorem in_X8_nodes_X8 : ∀ x ∈ wsX80, x ∈ wsX8_nodes := fun _ h => List.mem_cons_of_mem _ (List.mem_append_left _ (List.mem_append_right _ h))
theorem in_X8_nodes_X3 : ∀ x ∈ wsX30, x ∈ wsX8_nodes := fun _ h => List.mem_cons_of_mem _ (List.mem_append_right _ h)
set_option maxHeartbeats 4000000 in
set_option maxRecDepth 100000 in
theorem c_X8_nodes (w : WPar) (τ : TS) (i0 : Nat) (K : TS → Int32 → Prop) (h0 : tp_is w i0 7) (hw : wp_X8_nodes τ i0 K) : MI w yX8_nodes wsX8_nodes 0 0 [.ref (w.1 i0)] τ K := by
  refine tp_enterI (cc := cX8_nodes) (maxL := 1) (own := RX8) (by decide) rfl rfl (Nat.le_of_ble_eq_true rfl) (fun g C hR => ?_)
  show Zt w g τ (0, 0) 0 [(0, .ref (w.1 i0))] []
  unfold wp_X8_nodes at hw
  refine z_aload_n C 0 (by rfl) dX8_nodes_0 ?_
  refine z_get C (Cn := RX8) (T := TX8) (N := 4) (ci := 7) h0.2 0 (tE7 h0.1) in_X8_nodes_X8 rfl (by decide) mw_X8_nodes_0 rfl rfl dX8_nodes_1 ?_
  refine z_get C (Cn := RX3) (T := TX3) (N := 9) (ci := 3) (tR7_0 h0).2 0 (tE3 (tR7_0 h0).1) in_X8_nodes_X3 rfl (by decide) mw_X8_nodes_1 rfl rfl dX8_nodes_4 ?_
  exact hR _ _ _ _ dX8_nodes_7 hw
def wp_X8_links (τ : TS) (i0 : Nat) (K : TS → Int32 → Prop) : Prop :=
  K τ (τ 1 1)
theorem mw_X8_links_0 : Cond.fieldLink RX8 12 "TidePost" "net" "LTidePost$Net;" ∈ wsX8_links := List.mem_of_getElem? (i := 1) rfl
theorem mw_X8_links_1 : Cond.fieldLink RX8 61 "TidePost$Net" "links" "I" ∈ wsX8_links := List.mem_of_getElem? (i := 2) rfl
theorem in_X8_links_X8 : ∀ x ∈ wsX80, x ∈ wsX8_links := fun _ h => List.mem_cons_of_mem _ (List.mem_append_left _ (List.mem_append_right _ h))
theorem in_X8_links_X3 : ∀ x ∈ wsX30, x ∈ wsX8_links := fun _ h => List.mem_cons_of_mem _ (List.mem_append_right _ h)
set_option maxHeartbeats 4000000 in
set_option maxRecDepth 100000 in
theorem c_X8_links (w : WPar) (τ : TS) (i0 : Nat) (K : TS → Int32 → Prop) (h0 : tp_is w i0 7) (hw : wp_X8_links τ i0 K) : MI w yX8_links wsX8_links 0 0 [.ref (w.1 i0)] τ K := by
  refine tp_enterI (cc := cX8_links) (maxL := 1) (own := RX8) (by decide) rfl rfl (Nat.le_of_ble_eq_true rfl) (fun g C hR => ?_)
  show Zt w g τ (0, 0) 0 [(0, .ref (w.1 i0))] []
  unfold wp_X8_links at hw
  refine z_aload_n C 0 (by rfl) dX8_links_0 ?_
  refine z_get C (Cn := RX8) (T := TX8) (N := 4) (ci := 7) h0.2 0 (tE7 h0.1) in_X8_links_X8 rfl (by decide) mw_X8_links_0 rfl rfl dX8_links_1 ?_
  refine z_get C (Cn := RX3) (T := TX3) (N := 9) (ci := 3) (tR7_0 h0).2 1 (tE3 (tR7_0 h0).1) in_X8_links_X3 rfl (by decide) mw_X8_links_1 rfl rfl dX8_links_4 ?_
  exact hR _ _ _ _ dX8_links_7 hw
def wp_X8_lost (τ : TS) (i0 : Nat) (K : TS → Int32 → Prop) : Prop :=
  K τ (τ 17 5)
theorem mw_X8_lost_0 : Cond.fieldLink RX8 21 "TidePost" "traffic" "LTidePost$Traffic;" ∈ wsX8_lost := List.mem_of_getElem? (i := 1) rfl
theorem mw_X8_lost_1 : Cond.fieldLink RX8 186 "TidePost$Traffic" "lost" "I" ∈ wsX8_lost := List.mem_of_getElem? (i := 2) rfl
theorem in_X8_lost_X8 : ∀ x ∈ wsX80, x ∈ wsX8_lost := fun _ h => List.mem_cons_of_mem _ (List.mem_append_left _ (List.mem_append_right _ h))
theorem in_X8_lost_X6 : ∀ x ∈ wsX60, x ∈ wsX8_lost := fun _ h => List.mem_cons_of_mem _ (List.mem_append_right _ h)
set_option maxHeartbeats 4000000 in
set_option maxRecDepth 100000 in
theorem c_X8_lost (w : WPar) (τ : TS) (i0 : Nat) (K : TS → Int32 → Prop) (h0 : tp_is w i0 7) (hw : wp_X8_lost τ i0 K) : MI w yX8_lost wsX8_lost 0 0 [.ref (w.1 i0)] τ K := by
  refine tp_enterI (cc := cX8_lost) (maxL := 1) (own := RX8) (by decide) rfl rfl (Nat.le_of_ble_eq_true rfl) (fun g C hR => ?_)
  show Zt w g τ (0, 0) 0 [(0, .ref (w.1 i0))] []
  unfold wp_X8_lost at hw
  refine z_aload_n C 0 (by rfl) dX8_lost_0 ?_
  refine z_get C (Cn := RX8) (T := TX8) (N := 4) (ci := 7) h0.2 1 (tE7 h0.1) in_X8_lost_X8 rfl (by decide) mw_X8_lost_0 rfl rfl dX8_lost_1 ?_
  refine z_get C (Cn := RX6) (T := TX6) (N := 6) (ci := 5) (tR7_1 h0).2 5 (tE5 (tR7_1 h0).1) in_X8_lost_X6 rfl (by decide) mw_X8_lost_1 rfl rfl dX8_lost_4 ?_
  exact hR _ _ _ _ dX8_lost_7 hw
def wp_X8_connections (τ : TS) (i0 : Nat) (K : TS → Int32 → Prop) : Prop :=
  K τ (τ 17 3)
theorem mw_X8_connections_0 : Cond.fieldLink RX8 21 "TidePost" "traffic" "LTidePost$Traffic;" ∈ wsX8_connections := List.mem_of_getElem? (i := 1) rfl
theorem mw_X8_connections_1 : Cond.fieldLink RX8 99 "TidePost$Traffic" "made" "I" ∈ wsX8_connections := List.mem_of_getElem? (i := 2) rfl
theorem in_X8_connections_X8 : ∀ x ∈ wsX80, x ∈ wsX8_connections := fun _ h => List.mem_cons_of_mem _ (List.mem_append_left _ (List.mem_append_right _ h))
theorem in_X8_connections_X6 : ∀ x ∈ wsX60, x ∈ wsX8_connections := fun _ h => List.mem_cons_of_mem _ (List.mem_append_right _ h)
set_option maxHeartbeats 4000000 in
set_option maxRecDepth 100000 in
theorem c_X8_connections (w : WPar) (τ : TS) (i0 : Nat) (K : TS → Int32 → Prop) (h0 : tp_is w i0 7) (hw : wp_X8_connections τ i0 K) : MI w yX8_connections wsX8_connections 0 0 [.ref (w.1 i0)] τ K := by
  refine tp_enterI (cc := cX8_connections) (maxL := 1) (own := RX8) (by decide) rfl rfl (Nat.le_of_ble_eq_true rfl) (fun g C hR => ?_)
  show Zt w g τ (0, 0) 0 [(0, .ref (w.1 i0))] []
  unfold wp_X8_connections at hw
  refine z_aload_n C 0 (by rfl) dX8_connections_0 ?_
  refine z_get C (Cn := RX8) (T := TX8) (N := 4) (ci := 7) h0.2 1 (tE7 h0.1) in_X8_connections_X8 rfl (by decide) mw_X8_connections_0 rfl rfl dX8_connections_1 ?_
  refine z_get C (Cn := RX6) (T := TX6) (N := 6) (ci := 5) (tR7_1 h0).2 3 (tE5 (tR7_1 h0).1) in_X8_connections_X6 rfl (by decide) mw_X8_connections_1 rfl rfl dX8_connections_4 ?_
  exact hR _ _ _ _ dX8_connections_7 hw
def wp_X8_underWay (τ : TS) (i0 : Nat) (K : TS → Int32 → Prop) : Prop :=
  ∃ (I24 : TS → Int32 → Int32 → Prop) (u24 : TS → Int32 → Int32 → Nat), I24 τ 0 0 ∧ ∀ (τ21 : TS) (x22 : Int32) (x23 : Int32), I24 τ21 x22 x23 → ((((2 * (τ21 1 1)) ≤ x23) → (K τ21 x22)) ∧ ((¬ (2 * (τ21 1 1)) ≤ x23) → (vp_in x23 24 ∧ (vp_in x23 24 ∧ (∀ x28 : Int32, x28 = (x22 + ((τ21 ((17 + 1) + 2 + 3 * (Int32.toNatClampNeg x23)) 2) + (τ21 ((17 + 1) + 2 + 3 * (Int32.toNatClampNeg x23)) 4))) → ∀ x29 : Int32, x29 = x23 + 1 → I24 τ21 x28 x29 ∧ u24 τ21 x28 x29 < u24 τ21 x22 x23)))))
theorem mw_X8_underWay_0 : Cond.fieldLink RX8 12 "TidePost" "net" "LTidePost$Net;" ∈ wsX8_underWay := List.mem_of_getElem? (i := 1) rfl
theorem mw_X8_underWay_1 : Cond.fieldLink RX8 61 "TidePost$Net" "links" "I" ∈ wsX8_underWay := List.mem_of_getElem? (i := 2) rfl
theorem mw_X8_underWay_2 : Cond.fieldLink RX8 21 "TidePost" "traffic" "LTidePost$Traffic;" ∈ wsX8_underWay := List.mem_of_getElem? (i := 3) rfl
theorem mw_X8_underWay_3 : Cond.fieldLink RX8 189 "TidePost$Traffic" "ways" "[LTidePost$Way;" ∈ wsX8_underWay := List.mem_of_getElem? (i := 4) rfl
theorem mw_X8_underWay_4 : Cond.fieldLink RX8 177 "TidePost$Way" "queued" "I" ∈ wsX8_underWay := List.mem_of_getElem? (i := 5) rfl
theorem mw_X8_underWay_5 : Cond.fieldLink RX8 180 "TidePost$Way" "flying" "I" ∈ wsX8_underWay := List.mem_of_getElem? (i := 6) rfl
theorem in_X8_underWay_X8 : ∀ x ∈ wsX80, x ∈ wsX8_underWay := fun _ h => List.mem_cons_of_mem _ (List.mem_append_left _ (List.mem_append_left _ (List.mem_append_left _ (List.mem_append_right _ h))))
theorem in_X8_underWay_X3 : ∀ x ∈ wsX30, x ∈ wsX8_underWay := fun _ h => List.mem_cons_of_mem _ (List.mem_append_left _ (List.mem_append_left _ (List.mem_append_right _ h)))
theorem in_X8_underWay_X6 : ∀ x ∈ wsX60, x ∈ wsX8_underWay := fun _ h => List.mem_cons_of_mem _ (List.mem_append_left _ (List.mem_append_right _ h))
theorem in_X8_underWay_X7 : ∀ x ∈ wsX70, x ∈ wsX8_underWay := fun _ h => List.mem_cons_of_mem _ (List.mem_append_right _ h)
set_option maxHeartbeats 4000000 in
set_option maxRecDepth 100000 in
theorem c_X8_underWay (w : WPar) (τ : TS) (i0 : Nat) (K : TS → Int32 → Prop) (h0 : tp_is w i0 7) (hw : wp_X8_underWay τ i0 K) : MI w yX8_underWay wsX8_underWay 0 0 [.ref (w.1 i0)] τ K := by
  refine tp_enterI (cc := cX8_underWay) (maxL := 3) (own := RX8) (by decide) rfl rfl (Nat.le_of_ble_eq_true rfl) (fun g C hR => ?_)
  show Zt w g τ (0, 0) 0 [(0, .ref (w.1 i0))] []
  unfold wp_X8_underWay at hw
  refine z_iconst C 0 (by decide) dX8_underWay_0 ?_
  refine z_istore_n C [(1, .int 0), (0, .ref (w.1 i0))] dX8_underWay_1 (by decide) rfl ?_
  refine z_iconst C 0 (by decide) dX8_underWay_2 ?_
  refine z_istore_n C [(2, .int 0), (1, .int 0), (0, .ref (w.1 i0))] dX8_underWay_3 (by decide) rfl ?_
  obtain ⟨I24, u24, hI24, hs24⟩ := hw
  have lp24 : ∀ (n24 : Nat) (τ21 : TS) (x22 : Int32) (x23 : Int32), u24 τ21 x22 x23 < n24 → I24 τ21 x22 x23 → Zt w g τ21 (0, 0) 4 [(0, .ref (w.1 i0)), (1, .int x22), (2, .int x23)] [] := by
    intro n24
    induction n24 with
    | zero => intro τ21 x22 x23 hlt24; exact absurd hlt24 (Nat.not_lt_zero _)
    | succ n24 ih24 =>
      intro τ21 x22 x23 hlt24 hh24
      have hw := hs24 τ21 x22 x23 hh24
      refine z_iload_n C 2 (by rfl) dX8_underWay_4 ?_
      refine z_iconst C 2 (by decide) dX8_underWay_5 ?_
      refine z_aload_n C 0 (by rfl) dX8_underWay_6 ?_
      refine z_get C (Cn := RX8) (T := TX8) (N := 4) (ci := 7) h0.2 0 (tE7 h0.1) in_X8_underWay_X8 rfl (by decide) mw_X8_underWay_0 rfl rfl dX8_underWay_7 ?_
      refine z_get C (Cn := RX3) (T := TX3) (N := 9) (ci := 3) (tR7_0 h0).2 1 (tE3 (tR7_0 h0).1) in_X8_underWay_X3 rfl (by decide) mw_X8_underWay_1 rfl rfl dX8_underWay_10 ?_
      refine z_imul C dX8_underWay_13 ?_
      refine z_icmp_ge (tgt := 51) C dX8_underWay_14 (by decide) (fun c25 => ?_) (fun c25 => ?_)
      · have hw := hw.1 c25
        refine z_iload_n C 1 (by rfl) dX8_underWay_51 ?_
        exact hR _ _ _ _ dX8_underWay_52 hw
      · have hw := hw.2 c25
        refine z_iload_n C 1 (by rfl) dX8_underWay_17 ?_
        refine z_aload_n C 0 (by rfl) dX8_underWay_18 ?_
        refine z_get C (Cn := RX8) (T := TX8) (N := 4) (ci := 7) h0.2 1 (tE7 h0.1) in_X8_underWay_X8 rfl (by decide) mw_X8_underWay_2 rfl rfl dX8_underWay_19 ?_
        refine z_get C (Cn := RX6) (T := TX6) (N := 6) (ci := 5) (tR7_1 h0).2 1 (tE5 (tR7_1 h0).1) in_X8_underWay_X6 rfl (by decide) mw_X8_underWay_3 rfl rfl dX8_underWay_22 ?_
        refine z_iload_n C 2 (by rfl) dX8_underWay_25 ?_
        obtain ⟨s26, hw⟩ := hw
        refine z_aald_q2 C (tR5_1 (tR7_1 h0)).2 (tE15 (tR5_1 (tR7_1 h0)).1) s26 (if_pos (tp_lt s26)) dX8_underWay_26 ?_
        refine z_get C (Cn := RX7) (T := TX7) (N := 7) (ci := 6) (tR15 (tR5_1 (tR7_1 h0)) (tp_lt s26)).2 2 (tE6 (tR15 (tR5_1 (tR7_1 h0)) (tp_lt s26)).1) in_X8_underWay_X7 rfl (by decide) mw_X8_underWay_4 rfl rfl dX8_underWay_27 ?_
        refine z_aload_n C 0 (by rfl) dX8_underWay_30 ?_
        refine z_get C (Cn := RX8) (T := TX8) (N := 4) (ci := 7) h0.2 1 (tE7 h0.1) in_X8_underWay_X8 rfl (by decide) mw_X8_underWay_2 rfl rfl dX8_underWay_31 ?_
        refine z_get C (Cn := RX6) (T := TX6) (N := 6) (ci := 5) (tR7_1 h0).2 1 (tE5 (tR7_1 h0).1) in_X8_underWay_X6 rfl (by decide) mw_X8_underWay_3 rfl rfl dX8_underWay_34 ?_
        refine z_iload_n C 2 (by rfl) dX8_underWay_37 ?_
        obtain ⟨s27, hw⟩ := hw
        refine z_aald_q2 C (tR5_1 (tR7_1 h0)).2 (tE15 (tR5_1 (tR7_1 h0)).1) s27 (if_pos (tp_lt s27)) dX8_underWay_38 ?_
        refine z_get C (Cn := RX7) (T := TX7) (N := 7) (ci := 6) (tR15 (tR5_1 (tR7_1 h0)) (tp_lt s27)).2 4 (tE6 (tR15 (tR5_1 (tR7_1 h0)) (tp_lt s27)).1) in_X8_underWay_X7 rfl (by decide) mw_X8_underWay_5 rfl rfl dX8_underWay_39 ?_
        refine z_iadd C dX8_underWay_42 ?_
        refine z_iadd C dX8_underWay_43 ?_
        refine z_top (fun x28 ex28 => ?_)
        have hw := hw x28 ex28
        refine z_istore_n C [(1, .int x28), (0, .ref (w.1 i0)), (2, .int x23)] dX8_underWay_44 (by decide) rfl ?_
        obtain ⟨x29, ex29⟩ : ∃ z : Int32, z = x23 + 1 := ⟨_, rfl⟩
        have hw := hw x29 ex29
        refine z_iinc C 2 x29 [(2, .int x29), (1, .int x28), (0, .ref (w.1 i0))] dX8_underWay_45 (by rfl) (by rw [ex29]; rfl) (by decide) rfl ?_
        refine z_goto (tgt := 4) C dX8_underWay_48 (by decide) ?_
        refine z_sub [2, 1, 0] [(0, .ref (w.1 i0)), (1, .int x28), (2, .int x29)] rfl ?_
        exact ih24 τ21 x28 x29 (Nat.lt_of_lt_of_le hw.2 (Nat.le_of_lt_succ hlt24)) hw.1
  refine z_sub [2, 1, 0] [(0, .ref (w.1 i0)), (1, .int 0), (2, .int 0)] rfl ?_
  exact lp24 _ τ 0 0 (Nat.lt_succ_self _) hI24
def wp_X8_addNode (τ : TS) (i0 : Nat) (K : TS → Int32 → Prop) : Prop :=
  (((τ 1 0) < 8) → (wp_X3_layNode τ 1 (fun τ22 x23 => K τ22 x23))) ∧ ((¬ (τ 1 0) < 8) → False)
theorem mw_X8_addNode_2 : Cond.fieldLink RX8 12 "TidePost" "net" "LTidePost$Net;" ∈ wsX8_addNode := List.mem_of_getElem? (i := 3) rfl
theorem mw_X8_addNode_3 : Cond.fieldLink RX8 33 "TidePost$Net" "nodes" "I" ∈ wsX8_addNode := List.mem_of_getElem? (i := 4) rfl
theorem in_X8_addNode_X8 : ∀ x ∈ wsX80, x ∈ wsX8_addNode := fun _ h => List.mem_cons_of_mem _ (List.mem_append_left _ (List.mem_append_left _ (List.mem_append_right _ h)))
theorem in_X8_addNode_X3 : ∀ x ∈ wsX30, x ∈ wsX8_addNode := fun _ h => List.mem_cons_of_mem _ (List.mem_append_left _ (List.mem_append_right _ h))
set_option maxHeartbeats 4000000 in
set_option maxRecDepth 100000 in
theorem c_X8_addNode (w : WPar) (τ : TS) (i0 : Nat) (K : TS → Int32 → Prop) (h0 : tp_is w i0 7) (hw : wp_X8_addNode τ i0 K) : MI w yX8_addNode wsX8_addNode 3 69 [.ref (w.1 i0)] τ K := by
  refine tp_enterI (cc := cX8_addNode) (maxL := 1) (own := RX8) (by decide) rfl rfl (Nat.le_of_ble_eq_true rfl) (fun g C hR => ?_)
  show Zt w g τ (0, 0) 0 [(0, .ref (w.1 i0))] []
  unfold wp_X8_addNode at hw
  refine z_aload_n C 0 (by rfl) dX8_addNode_0 ?_
  refine z_get C (Cn := RX8) (T := TX8) (N := 4) (ci := 7) h0.2 0 (tE7 h0.1) in_X8_addNode_X8 rfl (by decide) mw_X8_addNode_2 rfl rfl dX8_addNode_1 ?_
  refine z_get C (Cn := RX3) (T := TX3) (N := 9) (ci := 3) (tR7_0 h0).2 0 (tE3 (tR7_0 h0).1) in_X8_addNode_X3 rfl (by decide) mw_X8_addNode_3 rfl rfl dX8_addNode_4 ?_
  refine z_bipush C 8 (by decide) dX8_addNode_7 ?_
  refine z_icmp_lt (tgt := 22) C dX8_addNode_9 (by decide) (fun c21 => ?_) (fun c21 => ?_)
  · have hw := hw.1 c21
    refine z_aload_n C 0 (by rfl) dX8_addNode_22 ?_
    refine z_get C (Cn := RX8) (T := TX8) (N := 4) (ci := 7) h0.2 0 (tE7 h0.1) in_X8_addNode_X8 rfl (by decide) mw_X8_addNode_2 rfl rfl dX8_addNode_23 ?_
    refine zv_i C (As := []) (bytes := cX3_layNode) (maxL := 1) (F1 := 2) (L1 := 49) (c_X3_layNode w _ 1 _ (tR7_0 h0) hw) (tR7_0 h0).2 (tE3 (tR7_0 h0).1) rfl 0 gX8_addNode_X3_layNode rfl (by decide +kernel) ⟨Nat.le_of_ble_eq_true rfl, Nat.le_of_ble_eq_true rfl⟩ rfl (Nat.le_of_ble_eq_true rfl) ⟨Nat.le_of_ble_eq_true rfl, Nat.le_of_ble_eq_true rfl⟩ rfl dX8_addNode_26 (fun x23 τ22 hw => ?_)
    exact hR _ _ _ _ dX8_addNode_29 hw
  · have hw := hw.2 c21
    exact hw.elim
def wp_X8_meanWindow (τ : TS) (i0 : Nat) (K : TS → UInt64 → Prop) : Prop :=
  ∃ (I25 : TS → UInt64 → Int32 → Int32 → Prop) (u25 : TS → UInt64 → Int32 → Int32 → Nat), I25 τ FP.dconst0 0 0 ∧ ∀ (τ21 : TS) (z22 : UInt64) (x23 : Int32) (x24 : Int32), I25 τ21 z22 x23 x24 → ((((τ21 17 3) ≤ x24) → (((¬ x23 = 0) → False) ∧ ((x23 = 0) → (K τ21 FP.dconst0)))) ∧ ((¬ (τ21 17 3) ≤ x24) → (vp_in x24 6 ∧ (((¬ (τ21 (((17 + 2) + 73 + 5 * (Int32.toNatClampNeg x24)) + 1) 0) = 1) → (∀ x30 : Int32, x30 = x24 + 1 → I25 τ21 z22 x23 x30 ∧ u25 τ21 z22 x23 x30 < u25 τ21 z22 x23 x24)) ∧ (((τ21 (((17 + 2) + 73 + 5 * (Int32.toNatClampNeg x24)) + 1) 0) = 1) → False)))))
theorem mw_X8_meanWindow_0 : Cond.fieldLink RX8 21 "TidePost" "traffic" "LTidePost$Traffic;" ∈ wsX8_meanWindow := List.mem_of_getElem? (i := 1) rfl
theorem mw_X8_meanWindow_1 : Cond.fieldLink RX8 99 "TidePost$Traffic" "made" "I" ∈ wsX8_meanWindow := List.mem_of_getElem? (i := 2) rfl
theorem mw_X8_meanWindow_2 : Cond.fieldLink RX8 247 "TidePost$Traffic" "all" "[LTidePost$Connection;" ∈ wsX8_meanWindow := List.mem_of_getElem? (i := 3) rfl
theorem mw_X8_meanWindow_3 : Cond.fieldLink RX8 251 "TidePost$Connection" "caller" "LTidePost$Caller;" ∈ wsX8_meanWindow := List.mem_of_getElem? (i := 4) rfl
theorem mw_X8_meanWindow_4 : Cond.fieldLink RX8 193 "TidePost$Caller" "state" "I" ∈ wsX8_meanWindow := List.mem_of_getElem? (i := 5) rfl
theorem mw_X8_meanWindow_5 : Cond.fieldLink RX8 199 "TidePost$Caller" "window" "I" ∈ wsX8_meanWindow := List.mem_of_getElem? (i := 6) rfl
theorem in_X8_meanWindow_X8 : ∀ x ∈ wsX80, x ∈ wsX8_meanWindow := fun _ h => List.mem_cons_of_mem _ (List.mem_append_left _ (List.mem_append_left _ (List.mem_append_left _ (List.mem_append_right _ h))))
theorem in_X8_meanWindow_X6 : ∀ x ∈ wsX60, x ∈ wsX8_meanWindow := fun _ h => List.mem_cons_of_mem _ (List.mem_append_left _ (List.mem_append_left _ (List.mem_append_right _ h)))
theorem in_X8_meanWindow_X2 : ∀ x ∈ wsX20, x ∈ wsX8_meanWindow := fun _ h => List.mem_cons_of_mem _ (List.mem_append_left _ (List.mem_append_right _ h))
theorem in_X8_meanWindow_X1 : ∀ x ∈ wsX10, x ∈ wsX8_meanWindow := fun _ h => List.mem_cons_of_mem _ (List.mem_append_right _ h)
set_option maxHeartbeats 4000000 in
set_option maxRecDepth 100000 in
theorem c_X8_meanWindow (w : WPar) (τ : TS) (i0 : Nat) (K : TS → UInt64 → Prop) (h0 : tp_is w i0 7) (hw : wp_X8_meanWindow τ i0 K) : MD w yX8_meanWindow wsX8_meanWindow 0 0 [.ref (w.1 i0)] τ K := by
  refine tp_enterD (cc := cX8_meanWindow) (maxL := 6) (own := RX8) (by decide) rfl rfl (Nat.le_of_ble_eq_true rfl) (fun g C hR => ?_)
  show Zt w g τ (0, 0) 0 [(0, .ref (w.1 i0))] []
  unfold wp_X8_meanWindow at hw
  refine z_dconst0 C dX8_meanWindow_0 ?_
  refine z_dstore_n C [(1, .double FP.dconst0), (0, .ref (w.1 i0))] dX8_meanWindow_1 (by decide) rfl ?_
  refine z_iconst C 0 (by decide) dX8_meanWindow_2 ?_
  refine z_istore_n C [(3, .int 0), (1, .double FP.dconst0), (0, .ref (w.1 i0))] dX8_meanWindow_3 (by decide) rfl ?_
  refine z_iconst C 0 (by decide) dX8_meanWindow_4 ?_
  refine z_istore C [(4, .int 0), (3, .int 0), (1, .double FP.dconst0), (0, .ref (w.1 i0))] dX8_meanWindow_5 (by decide) rfl ?_
  obtain ⟨I25, u25, hI25, hs25⟩ := hw
  have lp25 : ∀ (n25 : Nat) (τ21 : TS) (z22 : UInt64) (x23 : Int32) (x24 : Int32), u25 τ21 z22 x23 x24 < n25 → I25 τ21 z22 x23 x24 → Zt w g τ21 (0, 0) 7 [(0, .ref (w.1 i0)), (1, .double z22), (3, .int x23), (4, .int x24)] [] := by
    intro n25
    induction n25 with
    | zero => intro τ21 z22 x23 x24 hlt25; exact absurd hlt25 (Nat.not_lt_zero _)
    | succ n25 ih25 =>
      intro τ21 z22 x23 x24 hlt25 hh25
      have hw := hs25 τ21 z22 x23 x24 hh25
      refine z_iload C 3 (by rfl) dX8_meanWindow_7 ?_
      refine z_aload_n C 0 (by rfl) dX8_meanWindow_9 ?_
      refine z_get C (Cn := RX8) (T := TX8) (N := 4) (ci := 7) h0.2 1 (tE7 h0.1) in_X8_meanWindow_X8 rfl (by decide) mw_X8_meanWindow_0 rfl rfl dX8_meanWindow_10 ?_
      refine z_get C (Cn := RX6) (T := TX6) (N := 6) (ci := 5) (tR7_1 h0).2 3 (tE5 (tR7_1 h0).1) in_X8_meanWindow_X6 rfl (by decide) mw_X8_meanWindow_1 rfl rfl dX8_meanWindow_13 ?_
      refine z_icmp_ge (tgt := 61) C dX8_meanWindow_16 (by decide) (fun c26 => ?_) (fun c26 => ?_)
      · have hw := hw.1 c26
        refine z_iload_n C 2 (by rfl) dX8_meanWindow_61 ?_
        refine z_if_ne (tgt := 69) C dX8_meanWindow_62 (by decide) (fun c27 => ?_) (fun c27 => ?_)
        · have hw := hw.1 c27
          refine z_dload_n C 1 (by rfl) dX8_meanWindow_69 ?_
          refine z_iload_n C 2 (by rfl) dX8_meanWindow_70 ?_
          exact hw.elim
        · have hw := hw.2 c27
          refine z_dconst0 C dX8_meanWindow_65 ?_
          refine z_goto (tgt := 73) C dX8_meanWindow_66 (by decide) ?_
          exact hR _ _ _ _ dX8_meanWindow_73 hw
      · have hw := hw.2 c26
        refine z_aload_n C 0 (by rfl) dX8_meanWindow_19 ?_
        refine z_get C (Cn := RX8) (T := TX8) (N := 4) (ci := 7) h0.2 1 (tE7 h0.1) in_X8_meanWindow_X8 rfl (by decide) mw_X8_meanWindow_0 rfl rfl dX8_meanWindow_20 ?_
        refine z_get C (Cn := RX6) (T := TX6) (N := 6) (ci := 5) (tR7_1 h0).2 2 (tE5 (tR7_1 h0).1) in_X8_meanWindow_X6 rfl (by decide) mw_X8_meanWindow_2 rfl rfl dX8_meanWindow_23 ?_
        refine z_iload C 3 (by rfl) dX8_meanWindow_26 ?_
        obtain ⟨s28, hw⟩ := hw
        refine z_aald_q3 C (tR5_2 (tR7_1 h0)).2 (tE16 (tR5_2 (tR7_1 h0)).1) s28 (if_pos (tp_lt s28)) dX8_meanWindow_28 ?_
        refine z_get C (Cn := RX2) (T := TX2) (N := 4) (ci := 2) (tR16 (tR5_2 (tR7_1 h0)) (tp_lt s28)).2 2 (tE2 (tR16 (tR5_2 (tR7_1 h0)) (tp_lt s28)).1) in_X8_meanWindow_X2 rfl (by decide) mw_X8_meanWindow_3 rfl rfl dX8_meanWindow_29 ?_
        refine z_astore C [(5, .ref (w.1 (((17 + 2) + 73 + 5 * (Int32.toNatClampNeg x24)) + 1))), (0, .ref (w.1 i0)), (1, .double z22), (3, .int x23), (4, .int x24)] dX8_meanWindow_32 (by decide) rfl ?_
        refine z_aload C 0 (by rfl) dX8_meanWindow_34 ?_
        refine z_get C (Cn := RX1) (T := TX1) (N := 14) (ci := 1) (tR2_2 (tR16 (tR5_2 (tR7_1 h0)) (tp_lt s28))).2 0 (tE1 (tR2_2 (tR16 (tR5_2 (tR7_1 h0)) (tp_lt s28))).1) in_X8_meanWindow_X1 rfl (by decide) mw_X8_meanWindow_4 rfl rfl dX8_meanWindow_36 ?_
        refine z_iconst C 1 (by decide) dX8_meanWindow_39 ?_
        refine z_icmp_ne (tgt := 55) C dX8_meanWindow_40 (by decide) (fun c29 => ?_) (fun c29 => ?_)
        · have hw := hw.1 c29
          obtain ⟨x30, ex30⟩ : ∃ z : Int32, z = x24 + 1 := ⟨_, rfl⟩
          have hw := hw x30 ex30
          refine z_iinc C 4 x30 [(4, .int x30), (5, .ref (w.1 (((17 + 2) + 73 + 5 * (Int32.toNatClampNeg x24)) + 1))), (0, .ref (w.1 i0)), (1, .double z22), (3, .int x23)] dX8_meanWindow_55 (by rfl) (by rw [ex30]; rfl) (by decide) rfl ?_
          refine z_goto (tgt := 7) C dX8_meanWindow_58 (by decide) ?_
          refine z_sub [2, 3, 4, 0] [(0, .ref (w.1 i0)), (1, .double z22), (3, .int x23), (4, .int x30)] rfl ?_
          exact ih25 τ21 z22 x23 x30 (Nat.lt_of_lt_of_le hw.2 (Nat.le_of_lt_succ hlt25)) hw.1
        · have hw := hw.2 c29
          refine z_dload_n C 2 (by rfl) dX8_meanWindow_43 ?_
          refine z_aload C 0 (by rfl) dX8_meanWindow_44 ?_
          refine z_get C (Cn := RX1) (T := TX1) (N := 14) (ci := 1) (tR2_2 (tR16 (tR5_2 (tR7_1 h0)) (tp_lt s28))).2 5 (tE1 (tR2_2 (tR16 (tR5_2 (tR7_1 h0)) (tp_lt s28))).1) in_X8_meanWindow_X1 rfl (by decide) mw_X8_meanWindow_5 rfl rfl dX8_meanWindow_46 ?_
          exact hw.elim
  refine z_sub [3, 2, 1, 0] [(0, .ref (w.1 i0)), (1, .double FP.dconst0), (3, .int 0), (4, .int 0)] rfl ?_
  exact lp25 _ τ FP.dconst0 0 0 (Nat.lt_succ_self _) hI25
def wp_X8_digest (τ : TS) (i0 : Nat) (K : TS → Int64 → Prop) : Prop :=
  wp_X8_clock τ i0 (fun τ21 x22 => ∀ y23 : Int64, y23 = ((58043 * 31) + (Int32.toInt64 x22)) → wp_X8_nodes τ21 i0 (fun τ24 x25 => ∀ y26 : Int64, y26 = ((y23 * 31) + (Int32.toInt64 x25)) → wp_X8_links τ24 i0 (fun τ27 x28 => ∀ y29 : Int64, y29 = ((y26 * 31) + (Int32.toInt64 x28)) → wp_X8_lost τ27 i0 (fun τ30 x31 => ∀ y32 : Int64, y32 = ((y29 * 31) + (Int32.toInt64 x31)) → wp_X8_underWay τ30 i0 (fun τ33 x34 => ∀ y35 : Int64, y35 = ((y32 * 31) + (Int32.toInt64 x34)) → wp_X8_connections τ33 i0 (fun τ36 x37 => ∀ y38 : Int64, y38 = ((y35 * 31) + (Int32.toInt64 x37)) → ∃ (I42 : TS → Int64 → Int32 → Prop) (u42 : TS → Int64 → Int32 → Nat), I42 τ36 y38 0 ∧ ∀ (τ39 : TS) (y40 : Int64) (x41 : Int32), I42 τ39 y40 x41 → ((((τ39 1 1) ≤ x41) → (∃ (I47 : TS → Int64 → Int32 → Prop) (u47 : TS → Int64 → Int32 → Nat), I47 τ39 y40 0 ∧ ∀ (τ44 : TS) (y45 : Int64) (x46 : Int32), I47 τ44 y45 x46 → ((((τ44 17 3) ≤ x46) → (∃ (I52 : TS → Int64 → Int32 → Prop) (u52 : TS → Int64 → Int32 → Nat), I52 τ44 y45 0 ∧ ∀ (τ49 : TS) (y50 : Int64) (x51 : Int32), I52 τ49 y50 x51 → ((((τ49 1 0) ≤ x51) → (K τ49 y50)) ∧ ((¬ (τ49 1 0) ≤ x51) → (vp_in x51 8 ∧ (∀ y56 : Int64, y56 = ((y50 * 31) + (Int32.toInt64 (τ49 (8 + (Int32.toNatClampNeg x51)) (Int32.toNatClampNeg 0)))) → ∀ x57 : Int32, x57 = x51 + 1 → I52 τ49 y56 x57 ∧ u52 τ49 y56 x57 < u52 τ49 y50 x51)))))) ∧ ((¬ (τ44 17 3) ≤ x46) → (vp_in x46 6 ∧ (False)))))) ∧ ((¬ (τ39 1 1) ≤ x41) → False))))))))
theorem mw_X8_digest_0 : Cond.constantLong RX8 267 (58043) ∈ wsX8_digest := List.mem_of_getElem? (i := 1) rfl
theorem mw_X8_digest_1 : Cond.constantLong RX8 269 (31) ∈ wsX8_digest := List.mem_of_getElem? (i := 2) rfl
theorem mw_X8_digest_2 : Cond.fieldLink RX8 12 "TidePost" "net" "LTidePost$Net;" ∈ wsX8_digest := List.mem_of_getElem? (i := 3) rfl
theorem mw_X8_digest_3 : Cond.fieldLink RX8 61 "TidePost$Net" "links" "I" ∈ wsX8_digest := List.mem_of_getElem? (i := 4) rfl
theorem mw_X8_digest_4 : Cond.fieldLink RX8 21 "TidePost" "traffic" "LTidePost$Traffic;" ∈ wsX8_digest := List.mem_of_getElem? (i := 5) rfl
theorem mw_X8_digest_5 : Cond.fieldLink RX8 99 "TidePost$Traffic" "made" "I" ∈ wsX8_digest := List.mem_of_getElem? (i := 6) rfl
theorem mw_X8_digest_8 : Cond.fieldLink RX8 33 "TidePost$Net" "nodes" "I" ∈ wsX8_digest := List.mem_of_getElem? (i := 9) rfl
theorem mw_X8_digest_9 : Cond.fieldLink RX8 171 "TidePost$Net" "distances" "[[I" ∈ wsX8_digest := List.mem_of_getElem? (i := 10) rfl
theorem mw_X8_digest_6 : Cond.fieldLink RX8 247 "TidePost$Traffic" "all" "[LTidePost$Connection;" ∈ wsX8_digest := List.mem_of_getElem? (i := 7) rfl
theorem mw_X8_digest_7 : Cond.fieldLink RX8 251 "TidePost$Connection" "caller" "LTidePost$Caller;" ∈ wsX8_digest := List.mem_of_getElem? (i := 8) rfl
theorem in_X8_digest_X8 : ∀ x ∈ wsX80, x ∈ wsX8_digest := fun _ h => List.mem_cons_of_mem _ (List.mem_append_left _ (List.mem_append_left _ (List.mem_append_left _ (List.mem_append_left _ (List.mem_append_left _ (List.mem_append_left _ (List.mem_append_left _ (List.mem_append_right _ h))))))))
theorem in_X8_digest_X3 : ∀ x ∈ wsX30, x ∈ wsX8_digest := fun _ h => List.mem_cons_of_mem _ (List.mem_append_left _ (List.mem_append_left _ (List.mem_append_left _ (List.mem_append_left _ (List.mem_append_left _ (List.mem_append_left _ (List.mem_append_right _ h)))))))
theorem in_X8_digest_X6 : ∀ x ∈ wsX60, x ∈ wsX8_digest := fun _ h => List.mem_cons_of_mem _ (List.mem_append_left _ (List.mem_append_left _ (List.mem_append_left _ (List.mem_append_left _ (List.mem_append_left _ (List.mem_append_right _ h))))))
theorem in_X8_digest_X2 : ∀ x ∈ wsX20, x ∈ wsX8_digest := fun _ h => List.mem_cons_of_mem _ (List.mem_append_left _ (List.mem_append_left _ (List.mem_append_left _ (List.mem_append_left _ (List.mem_append_right _ h)))))
set_option maxHeartbeats 4000000 in
set_option maxRecDepth 100000 in
theorem c_X8_digest (w : WPar) (τ : TS) (i0 : Nat) (K : TS → Int64 → Prop) (h0 : tp_is w i0 7) (hw : wp_X8_digest τ i0 K) : ML w yX8_digest wsX8_digest 1 22 [.ref (w.1 i0)] τ K := by
  refine tp_enterL (cc := cX8_digest) (maxL := 4) (own := RX8) (by decide) rfl rfl (Nat.le_of_ble_eq_true rfl) (fun g C hR => ?_)
  show Zt w g τ (0, 0) 0 [(0, .ref (w.1 i0))] []
  unfold wp_X8_digest at hw
  refine z_ldc2 C 58043 mw_X8_digest_0 dX8_digest_0 ?_
  refine z_lstore_n C [(1, .long 58043), (0, .ref (w.1 i0))] dX8_digest_3 (by decide) rfl ?_
  refine z_lload_n C 0 (by rfl) dX8_digest_4 ?_
  refine z_ldc2 C 31 mw_X8_digest_1 dX8_digest_5 ?_
  refine z_lmul C dX8_digest_8 ?_
  refine z_aload_n C 1 (by rfl) dX8_digest_9 ?_
  refine zv_i C (As := []) (bytes := cX8_clock) (maxL := 1) (F1 := 0) (L1 := 0) (c_X8_clock w _ i0 _ h0 hw) h0.2 (tE7 h0.1) rfl 0 gX8_digest_X8_clock rfl (by decide +kernel) ⟨Nat.le_of_ble_eq_true rfl, Nat.le_of_ble_eq_true rfl⟩ rfl (Nat.le_of_ble_eq_true rfl) ⟨Nat.le_of_ble_eq_true rfl, Nat.le_of_ble_eq_true rfl⟩ rfl dX8_digest_10 (fun x22 τ21 hw => ?_)
  refine z_i2l C dX8_digest_13 ?_
  refine z_ladd C dX8_digest_14 ?_
  refine z_topl (fun y23 ey23 => ?_)
  have hw := hw y23 ey23
  refine z_lstore_n C [(1, .long y23), (0, .ref (w.1 i0))] dX8_digest_15 (by decide) rfl ?_
  refine z_lload_n C 0 (by rfl) dX8_digest_16 ?_
  refine z_ldc2 C 31 mw_X8_digest_1 dX8_digest_17 ?_
  refine z_lmul C dX8_digest_20 ?_
  refine z_aload_n C 1 (by rfl) dX8_digest_21 ?_
  refine zv_i C (As := []) (bytes := cX8_nodes) (maxL := 1) (F1 := 0) (L1 := 0) (c_X8_nodes w _ i0 _ h0 hw) h0.2 (tE7 h0.1) rfl 0 gX8_digest_X8_nodes rfl (by decide +kernel) ⟨Nat.le_of_ble_eq_true rfl, Nat.le_of_ble_eq_true rfl⟩ rfl (Nat.le_of_ble_eq_true rfl) ⟨Nat.le_of_ble_eq_true rfl, Nat.le_of_ble_eq_true rfl⟩ rfl dX8_digest_22 (fun x25 τ24 hw => ?_)
  refine z_i2l C dX8_digest_25 ?_
  refine z_ladd C dX8_digest_26 ?_
  refine z_topl (fun y26 ey26 => ?_)
  have hw := hw y26 ey26
  refine z_lstore_n C [(1, .long y26), (0, .ref (w.1 i0))] dX8_digest_27 (by decide) rfl ?_
  refine z_lload_n C 0 (by rfl) dX8_digest_28 ?_
  refine z_ldc2 C 31 mw_X8_digest_1 dX8_digest_29 ?_
  refine z_lmul C dX8_digest_32 ?_
  refine z_aload_n C 1 (by rfl) dX8_digest_33 ?_
  refine zv_i C (As := []) (bytes := cX8_links) (maxL := 1) (F1 := 0) (L1 := 0) (c_X8_links w _ i0 _ h0 hw) h0.2 (tE7 h0.1) rfl 0 gX8_digest_X8_links rfl (by decide +kernel) ⟨Nat.le_of_ble_eq_true rfl, Nat.le_of_ble_eq_true rfl⟩ rfl (Nat.le_of_ble_eq_true rfl) ⟨Nat.le_of_ble_eq_true rfl, Nat.le_of_ble_eq_true rfl⟩ rfl dX8_digest_34 (fun x28 τ27 hw => ?_)
  refine z_i2l C dX8_digest_37 ?_
  refine z_ladd C dX8_digest_38 ?_
  refine z_topl (fun y29 ey29 => ?_)
  have hw := hw y29 ey29
  refine z_lstore_n C [(1, .long y29), (0, .ref (w.1 i0))] dX8_digest_39 (by decide) rfl ?_
  refine z_lload_n C 0 (by rfl) dX8_digest_40 ?_
  refine z_ldc2 C 31 mw_X8_digest_1 dX8_digest_41 ?_
  refine z_lmul C dX8_digest_44 ?_
  refine z_aload_n C 1 (by rfl) dX8_digest_45 ?_
  refine zv_i C (As := []) (bytes := cX8_lost) (maxL := 1) (F1 := 0) (L1 := 0) (c_X8_lost w _ i0 _ h0 hw) h0.2 (tE7 h0.1) rfl 0 gX8_digest_X8_lost rfl (by decide +kernel) ⟨Nat.le_of_ble_eq_true rfl, Nat.le_of_ble_eq_true rfl⟩ rfl (Nat.le_of_ble_eq_true rfl) ⟨Nat.le_of_ble_eq_true rfl, Nat.le_of_ble_eq_true rfl⟩ rfl dX8_digest_46 (fun x31 τ30 hw => ?_)
  refine z_i2l C dX8_digest_49 ?_
  refine z_ladd C dX8_digest_50 ?_
  refine z_topl (fun y32 ey32 => ?_)
  have hw := hw y32 ey32
  refine z_lstore_n C [(1, .long y32), (0, .ref (w.1 i0))] dX8_digest_51 (by decide) rfl ?_
  refine z_lload_n C 0 (by rfl) dX8_digest_52 ?_
  refine z_ldc2 C 31 mw_X8_digest_1 dX8_digest_53 ?_
  refine z_lmul C dX8_digest_56 ?_
  refine z_aload_n C 1 (by rfl) dX8_digest_57 ?_
  refine zv_i C (As := []) (bytes := cX8_underWay) (maxL := 3) (F1 := 0) (L1 := 0) (c_X8_underWay w _ i0 _ h0 hw) h0.2 (tE7 h0.1) rfl 0 gX8_digest_X8_underWay rfl (by decide +kernel) ⟨Nat.le_of_ble_eq_true rfl, Nat.le_of_ble_eq_true rfl⟩ rfl (Nat.le_of_ble_eq_true rfl) ⟨Nat.le_of_ble_eq_true rfl, Nat.le_of_ble_eq_true rfl⟩ rfl dX8_digest_58 (fun x34 τ33 hw => ?_)
  refine z_i2l C dX8_digest_61 ?_
  refine z_ladd C dX8_digest_62 ?_
  refine z_topl (fun y35 ey35 => ?_)
  have hw := hw y35 ey35
  refine z_lstore_n C [(1, .long y35), (0, .ref (w.1 i0))] dX8_digest_63 (by decide) rfl ?_
  refine z_lload_n C 0 (by rfl) dX8_digest_64 ?_
  refine z_ldc2 C 31 mw_X8_digest_1 dX8_digest_65 ?_
  refine z_lmul C dX8_digest_68 ?_
  refine z_aload_n C 1 (by rfl) dX8_digest_69 ?_
  refine zv_i C (As := []) (bytes := cX8_connections) (maxL := 1) (F1 := 0) (L1 := 0) (c_X8_connections w _ i0 _ h0 hw) h0.2 (tE7 h0.1) rfl 0 gX8_digest_X8_connections rfl (by decide +kernel) ⟨Nat.le_of_ble_eq_true rfl, Nat.le_of_ble_eq_true rfl⟩ rfl (Nat.le_of_ble_eq_true rfl) ⟨Nat.le_of_ble_eq_true rfl, Nat.le_of_ble_eq_true rfl⟩ rfl dX8_digest_70 (fun x37 τ36 hw => ?_)
  refine z_i2l C dX8_digest_73 ?_
  refine z_ladd C dX8_digest_74 ?_
  refine z_topl (fun y38 ey38 => ?_)
  have hw := hw y38 ey38
  refine z_lstore_n C [(1, .long y38), (0, .ref (w.1 i0))] dX8_digest_75 (by decide) rfl ?_
  refine z_iconst C 0 (by decide) dX8_digest_76 ?_
  refine z_istore_n C [(3, .int 0), (1, .long y38), (0, .ref (w.1 i0))] dX8_digest_77 (by decide) rfl ?_
  obtain ⟨I42, u42, hI42, hs42⟩ := hw
  have lp42 : ∀ (n42 : Nat) (τ39 : TS) (y40 : Int64) (x41 : Int32), u42 τ39 y40 x41 < n42 → I42 τ39 y40 x41 → Zt w g τ39 (0, 0) 78 [(0, .ref (w.1 i0)), (1, .long y40), (3, .int x41)] [] := by
    intro n42
    induction n42 with
    | zero => intro τ39 y40 x41 hlt42; exact absurd hlt42 (Nat.not_lt_zero _)
    | succ n42 ih42 =>
      intro τ39 y40 x41 hlt42 hh42
      have hw := hs42 τ39 y40 x41 hh42
      refine z_iload_n C 2 (by rfl) dX8_digest_78 ?_
      refine z_aload_n C 0 (by rfl) dX8_digest_79 ?_
      refine z_get C (Cn := RX8) (T := TX8) (N := 4) (ci := 7) h0.2 0 (tE7 h0.1) in_X8_digest_X8 rfl (by decide) mw_X8_digest_2 rfl rfl dX8_digest_80 ?_
      refine z_get C (Cn := RX3) (T := TX3) (N := 9) (ci := 3) (tR7_0 h0).2 1 (tE3 (tR7_0 h0).1) in_X8_digest_X3 rfl (by decide) mw_X8_digest_3 rfl rfl dX8_digest_83 ?_
      refine z_icmp_ge (tgt := 102) C dX8_digest_86 (by decide) (fun c43 => ?_) (fun c43 => ?_)
      · have hw := hw.1 c43
        refine z_iconst C 0 (by decide) dX8_digest_102 ?_
        refine z_istore_n C [(3, .int 0), (0, .ref (w.1 i0)), (1, .long y40)] dX8_digest_103 (by decide) rfl ?_
        obtain ⟨I47, u47, hI47, hs47⟩ := hw
        have lp47 : ∀ (n47 : Nat) (τ44 : TS) (y45 : Int64) (x46 : Int32), u47 τ44 y45 x46 < n47 → I47 τ44 y45 x46 → Zt w g τ44 (0, 0) 104 [(0, .ref (w.1 i0)), (1, .long y45), (3, .int x46)] [] := by
          intro n47
          induction n47 with
          | zero => intro τ44 y45 x46 hlt47; exact absurd hlt47 (Nat.not_lt_zero _)
          | succ n47 ih47 =>
            intro τ44 y45 x46 hlt47 hh47
            have hw := hs47 τ44 y45 x46 hh47
            refine z_iload_n C 2 (by rfl) dX8_digest_104 ?_
            refine z_aload_n C 0 (by rfl) dX8_digest_105 ?_
            refine z_get C (Cn := RX8) (T := TX8) (N := 4) (ci := 7) h0.2 1 (tE7 h0.1) in_X8_digest_X8 rfl (by decide) mw_X8_digest_4 rfl rfl dX8_digest_106 ?_
            refine z_get C (Cn := RX6) (T := TX6) (N := 6) (ci := 5) (tR7_1 h0).2 3 (tE5 (tR7_1 h0).1) in_X8_digest_X6 rfl (by decide) mw_X8_digest_5 rfl rfl dX8_digest_109 ?_
            refine z_icmp_ge (tgt := 150) C dX8_digest_112 (by decide) (fun c48 => ?_) (fun c48 => ?_)
            · have hw := hw.1 c48
              refine z_iconst C 0 (by decide) dX8_digest_150 ?_
              refine z_istore_n C [(3, .int 0), (0, .ref (w.1 i0)), (1, .long y45)] dX8_digest_151 (by decide) rfl ?_
              obtain ⟨I52, u52, hI52, hs52⟩ := hw
              have lp52 : ∀ (n52 : Nat) (τ49 : TS) (y50 : Int64) (x51 : Int32), u52 τ49 y50 x51 < n52 → I52 τ49 y50 x51 → Zt w g τ49 (0, 0) 152 [(0, .ref (w.1 i0)), (1, .long y50), (3, .int x51)] [] := by
                intro n52
                induction n52 with
                | zero => intro τ49 y50 x51 hlt52; exact absurd hlt52 (Nat.not_lt_zero _)
                | succ n52 ih52 =>
                  intro τ49 y50 x51 hlt52 hh52
                  have hw := hs52 τ49 y50 x51 hh52
                  refine z_iload_n C 2 (by rfl) dX8_digest_152 ?_
                  refine z_aload_n C 0 (by rfl) dX8_digest_153 ?_
                  refine z_get C (Cn := RX8) (T := TX8) (N := 4) (ci := 7) h0.2 0 (tE7 h0.1) in_X8_digest_X8 rfl (by decide) mw_X8_digest_2 rfl rfl dX8_digest_154 ?_
                  refine z_get C (Cn := RX3) (T := TX3) (N := 9) (ci := 3) (tR7_0 h0).2 0 (tE3 (tR7_0 h0).1) in_X8_digest_X3 rfl (by decide) mw_X8_digest_8 rfl rfl dX8_digest_157 ?_
                  refine z_icmp_ge (tgt := 188) C dX8_digest_160 (by decide) (fun c53 => ?_) (fun c53 => ?_)
                  · have hw := hw.1 c53
                    refine z_lload_n C 1 (by rfl) dX8_digest_188 ?_
                    exact hR _ _ _ _ dX8_digest_189 hw
                  · have hw := hw.2 c53
                    refine z_lload_n C 1 (by rfl) dX8_digest_163 ?_
                    refine z_ldc2 C 31 mw_X8_digest_1 dX8_digest_164 ?_
                    refine z_lmul C dX8_digest_167 ?_
                    refine z_aload_n C 0 (by rfl) dX8_digest_168 ?_
                    refine z_get C (Cn := RX8) (T := TX8) (N := 4) (ci := 7) h0.2 0 (tE7 h0.1) in_X8_digest_X8 rfl (by decide) mw_X8_digest_2 rfl rfl dX8_digest_169 ?_
                    refine z_get C (Cn := RX3) (T := TX3) (N := 9) (ci := 3) (tR7_0 h0).2 7 (tE3 (tR7_0 h0).1) in_X8_digest_X3 rfl (by decide) mw_X8_digest_9 rfl rfl dX8_digest_172 ?_
                    refine z_iload_n C 2 (by rfl) dX8_digest_175 ?_
                    obtain ⟨s54, hw⟩ := hw
                    refine z_aald_q4 C (tR3_7 (tR7_0 h0)).2 (tE14 (tR3_7 (tR7_0 h0)).1) s54 (if_pos (tp_lt s54)) dX8_digest_176 ?_
                    refine z_iconst C 0 (by decide) dX8_digest_177 ?_
                    have s55 : vp_in 0 8 := by unfold vp_in; decide
                    refine z_iald C (tR14 (tR3_7 (tR7_0 h0)) (tp_lt s54)).2 (tE13 (tR14 (tR3_7 (tR7_0 h0)) (tp_lt s54)).1) s55 dX8_digest_178 ?_
                    refine z_i2l C dX8_digest_179 ?_
                    refine z_ladd C dX8_digest_180 ?_
                    refine z_topl (fun y56 ey56 => ?_)
                    have hw := hw y56 ey56
                    refine z_lstore_n C [(1, .long y56), (0, .ref (w.1 i0)), (3, .int x51)] dX8_digest_181 (by decide) rfl ?_
                    obtain ⟨x57, ex57⟩ : ∃ z : Int32, z = x51 + 1 := ⟨_, rfl⟩
                    have hw := hw x57 ex57
                    refine z_iinc C 2 x57 [(3, .int x57), (1, .long y56), (0, .ref (w.1 i0))] dX8_digest_182 (by rfl) (by rw [ex57]; rfl) (by decide) rfl ?_
                    refine z_goto (tgt := 152) C dX8_digest_185 (by decide) ?_
                    refine z_sub [2, 1, 0] [(0, .ref (w.1 i0)), (1, .long y56), (3, .int x57)] rfl ?_
                    exact ih52 τ49 y56 x57 (Nat.lt_of_lt_of_le hw.2 (Nat.le_of_lt_succ hlt52)) hw.1
              refine z_sub [1, 2, 0] [(0, .ref (w.1 i0)), (1, .long y45), (3, .int 0)] rfl ?_
              exact lp52 _ τ44 y45 0 (Nat.lt_succ_self _) hI52
            · have hw := hw.2 c48
              refine z_lload_n C 1 (by rfl) dX8_digest_115 ?_
              refine z_aload_n C 0 (by rfl) dX8_digest_116 ?_
              refine z_get C (Cn := RX8) (T := TX8) (N := 4) (ci := 7) h0.2 1 (tE7 h0.1) in_X8_digest_X8 rfl (by decide) mw_X8_digest_4 rfl rfl dX8_digest_117 ?_
              refine z_get C (Cn := RX6) (T := TX6) (N := 6) (ci := 5) (tR7_1 h0).2 2 (tE5 (tR7_1 h0).1) in_X8_digest_X6 rfl (by decide) mw_X8_digest_6 rfl rfl dX8_digest_120 ?_
              refine z_iload_n C 2 (by rfl) dX8_digest_123 ?_
              obtain ⟨s58, hw⟩ := hw
              refine z_aald_q3 C (tR5_2 (tR7_1 h0)).2 (tE16 (tR5_2 (tR7_1 h0)).1) s58 (if_pos (tp_lt s58)) dX8_digest_124 ?_
              refine z_get C (Cn := RX2) (T := TX2) (N := 4) (ci := 2) (tR16 (tR5_2 (tR7_1 h0)) (tp_lt s58)).2 2 (tE2 (tR16 (tR5_2 (tR7_1 h0)) (tp_lt s58)).1) in_X8_digest_X2 rfl (by decide) mw_X8_digest_7 rfl rfl dX8_digest_125 ?_
              exact hw.elim
        refine z_sub [1, 2, 0] [(0, .ref (w.1 i0)), (1, .long y40), (3, .int 0)] rfl ?_
        exact lp47 _ τ39 y40 0 (Nat.lt_succ_self _) hI47
      · have hw := hw.2 c43
        refine z_aload_n C 0 (by rfl) dX8_digest_89 ?_
        refine z_lload_n C 1 (by rfl) dX8_digest_90 ?_
        refine z_iload_n C 2 (by rfl) dX8_digest_91 ?_
        exact hw.elim
  refine z_sub [2, 1, 0] [(0, .ref (w.1 i0)), (1, .long y38), (3, .int 0)] rfl ?_
  exact lp42 _ τ36 y38 0 (Nat.lt_succ_self _) hI42
