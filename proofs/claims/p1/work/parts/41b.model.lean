def wp_X11_thrown (τ : TS) (i0 : Nat) (K : TS → Int32 → Prop) : Prop :=
  K τ (τ i0 0)
theorem mw_X11_thrown_0 : Cond.fieldLink RX11 34 "TidePostModel" "thrown" "I" ∈ wsX11_thrown := List.mem_of_getElem? (i := 1) rfl
theorem in_X11_thrown_X11 : ∀ x ∈ wsX110, x ∈ wsX11_thrown := fun _ h => List.mem_cons_of_mem _ (List.mem_append_right _ h)
set_option maxHeartbeats 4000000 in
set_option maxRecDepth 100000 in
theorem c_X11_thrown (w : WPar) (τ : TS) (i0 : Nat) (K : TS → Int32 → Prop) (h0 : tp_is w i0 20) (hw : wp_X11_thrown τ i0 K) : MI w yX11_thrown wsX11_thrown 0 0 [.ref (w.1 i0)] τ K := by
  refine tp_enterI (cc := cX11_thrown) (maxL := 1) (own := RX11) (by decide) rfl rfl (Nat.le_of_ble_eq_true rfl) (fun g C hR => ?_)
  show Zt w g τ (0, 0) 0 [(0, .ref (w.1 i0))] []
  unfold wp_X11_thrown at hw
  refine z_aload_n C 0 (by rfl) dX11_thrown_0 ?_
  refine z_get C (Cn := RX11) (T := TX11) (N := 10) (ci := 10) h0.2 0 (tE20 h0.1) in_X11_thrown_X11 rfl (by decide) mw_X11_thrown_0 rfl rfl dX11_thrown_1 ?_
  exact hR _ _ _ _ dX11_thrown_4 hw
def wp_X11_refuse (τ : TS) (i0 : Nat) (x1 : Int32) (K : TS → Int32 → Prop) : Prop :=
  ∀ τ21 : TS, τ21 = tp_up τ i0 0 x1 → K τ21 0
theorem mw_X11_refuse_0 : Cond.fieldLink RX11 34 "TidePostModel" "thrown" "I" ∈ wsX11_refuse := List.mem_of_getElem? (i := 1) rfl
theorem in_X11_refuse_X11 : ∀ x ∈ wsX110, x ∈ wsX11_refuse := fun _ h => List.mem_cons_of_mem _ (List.mem_append_right _ h)
set_option maxHeartbeats 4000000 in
set_option maxRecDepth 100000 in
theorem c_X11_refuse (w : WPar) (τ : TS) (i0 : Nat) (x1 : Int32) (K : TS → Int32 → Prop) (h0 : tp_is w i0 20) (hw : wp_X11_refuse τ i0 x1 K) : MI w yX11_refuse wsX11_refuse 0 0 [.ref (w.1 i0), .int x1] τ K := by
  refine tp_enterI (cc := cX11_refuse) (maxL := 2) (own := RX11) (by decide) rfl rfl (Nat.le_of_ble_eq_true rfl) (fun g C hR => ?_)
  show Zt w g τ (0, 0) 0 [(0, .ref (w.1 i0)), (1, .int x1)] []
  unfold wp_X11_refuse at hw
  refine z_aload_n C 0 (by rfl) dX11_refuse_0 ?_
  refine z_iload_n C 1 (by rfl) dX11_refuse_1 ?_
  refine z_put C (Cn := RX11) (T := TX11) (N := 10) (ci := 10) h0.2 0 (tE20 h0.1) (tS20_0 h0.1 _) in_X11_refuse_X11 tyX11 tyX11_ok nmX11 rfl (by decide) mw_X11_refuse_0 rfl rfl (tyX11_ok 0 (by decide)) rfl rfl (Nat.le_of_ble_eq_true rfl) dX11_refuse_2 (fun τ21 eτ21 => ?_)
  have hw := hw τ21 eτ21
  refine z_iconst C 0 (by decide) dX11_refuse_5 ?_
  exact hR _ _ _ _ dX11_refuse_6 hw
def wp_X11_is (τ : TS) (x0 : Int32) (x1 : Int32) (x2 : Int32) (K : TS → Int32 → Prop) : Prop :=
  ((x0 < x1) → (K τ 0)) ∧ ((¬ x0 < x1) → (((x2 < x0) → (K τ 0)) ∧ ((¬ x2 < x0) → (K τ 1))))
set_option maxHeartbeats 4000000 in
set_option maxRecDepth 100000 in
theorem c_X11_is (w : WPar) (τ : TS) (x0 : Int32) (x1 : Int32) (x2 : Int32) (K : TS → Int32 → Prop)  (hw : wp_X11_is τ x0 x1 x2 K) : MI w yX11_is wsX11_is 0 0 [.int x0, .int x1, .int x2] τ K := by
  refine tp_enterZ (cc := cX11_is) (maxL := 3) (own := RX11) (by decide) rfl rfl (Nat.le_of_ble_eq_true rfl) (fun g C hR => ?_)
  show Zt w g τ (0, 0) 0 [(0, .int x0), (1, .int x1), (2, .int x2)] []
  unfold wp_X11_is at hw
  refine z_iload_n C 0 (by rfl) dX11_is_0 ?_
  refine z_iload_n C 1 (by rfl) dX11_is_1 ?_
  refine z_icmp_lt (tgt := 14) C dX11_is_2 (by decide) (fun c21 => ?_) (fun c21 => ?_)
  · have hw := hw.1 c21
    refine z_iconst C 0 (by decide) dX11_is_14 ?_
    exact hR _ _ _ _ dX11_is_15 rfl hw
  · have hw := hw.2 c21
    refine z_iload_n C 0 (by rfl) dX11_is_5 ?_
    refine z_iload_n C 2 (by rfl) dX11_is_6 ?_
    refine z_icmp_gt (tgt := 14) C dX11_is_7 (by decide) (fun c22 => ?_) (fun c22 => ?_)
    · have hw := hw.1 c22
      refine z_iconst C 0 (by decide) dX11_is_14 ?_
      exact hR _ _ _ _ dX11_is_15 rfl hw
    · have hw := hw.2 c22
      refine z_iconst C 1 (by decide) dX11_is_10 ?_
      refine z_goto (tgt := 15) C dX11_is_11 (by decide) ?_
      exact hR _ _ _ _ dX11_is_15 rfl hw
def wp_X11_isNode (τ : TS) (i0 : Nat) (x1 : Int32) (K : TS → Int32 → Prop) : Prop :=
  wp_X11_is τ x1 0 ((τ i0 1) - 1) (fun τ21 x22 => tp_z x22 ∧ K τ21 x22)
theorem mw_X11_isNode_0 : Cond.fieldLink RX11 38 "TidePostModel" "nodes" "I" ∈ wsX11_isNode := List.mem_of_getElem? (i := 1) rfl
theorem in_X11_isNode_X11 : ∀ x ∈ wsX110, x ∈ wsX11_isNode := fun _ h => List.mem_cons_of_mem _ (List.mem_append_right _ h)
set_option maxHeartbeats 4000000 in
set_option maxRecDepth 100000 in
theorem c_X11_isNode (w : WPar) (τ : TS) (i0 : Nat) (x1 : Int32) (K : TS → Int32 → Prop) (h0 : tp_is w i0 20) (hw : wp_X11_isNode τ i0 x1 K) : MI w yX11_isNode wsX11_isNode 1 22 [.ref (w.1 i0), .int x1] τ K := by
  refine tp_enterZ (cc := cX11_isNode) (maxL := 2) (own := RX11) (by decide) rfl rfl (Nat.le_of_ble_eq_true rfl) (fun g C hR => ?_)
  show Zt w g τ (0, 0) 0 [(0, .ref (w.1 i0)), (1, .int x1)] []
  unfold wp_X11_isNode at hw
  refine z_iload_n C 1 (by rfl) dX11_isNode_0 ?_
  refine z_iconst C 0 (by decide) dX11_isNode_1 ?_
  refine z_aload_n C 0 (by rfl) dX11_isNode_2 ?_
  refine z_get C (Cn := RX11) (T := TX11) (N := 10) (ci := 10) h0.2 1 (tE20 h0.1) in_X11_isNode_X11 rfl (by decide) mw_X11_isNode_0 rfl rfl dX11_isNode_3 ?_
  refine z_iconst C 1 (by decide) dX11_isNode_6 ?_
  refine z_isub C dX11_isNode_7 ?_
  refine zs_i C (As := [.int x1, .int 0, .int ((τ i0 1) - 1)]) (bytes := cX11_is) (maxL := 3) (F1 := 0) (L1 := 0) (c_X11_is w _ x1 0 ((τ i0 1) - 1) _  hw) 3 gX11_isNode_X11_is rfl (by decide +kernel) ⟨Nat.le_of_ble_eq_true rfl, Nat.le_of_ble_eq_true rfl⟩ rfl (Nat.le_of_ble_eq_true rfl) ⟨Nat.le_of_ble_eq_true rfl, Nat.le_of_ble_eq_true rfl⟩ rfl dX11_isNode_8 (fun x22 τ21 hw => ?_)
  exact hR _ _ _ _ dX11_isNode_11 hw.1.1 hw.2
def wp_X11_isLink (τ : TS) (i0 : Nat) (x1 : Int32) (K : TS → Int32 → Prop) : Prop :=
  wp_X11_is τ x1 0 ((τ i0 2) - 1) (fun τ21 x22 => tp_z x22 ∧ K τ21 x22)
theorem mw_X11_isLink_0 : Cond.fieldLink RX11 45 "TidePostModel" "links" "I" ∈ wsX11_isLink := List.mem_of_getElem? (i := 1) rfl
theorem in_X11_isLink_X11 : ∀ x ∈ wsX110, x ∈ wsX11_isLink := fun _ h => List.mem_cons_of_mem _ (List.mem_append_right _ h)
set_option maxHeartbeats 4000000 in
set_option maxRecDepth 100000 in
theorem c_X11_isLink (w : WPar) (τ : TS) (i0 : Nat) (x1 : Int32) (K : TS → Int32 → Prop) (h0 : tp_is w i0 20) (hw : wp_X11_isLink τ i0 x1 K) : MI w yX11_isLink wsX11_isLink 1 22 [.ref (w.1 i0), .int x1] τ K := by
  refine tp_enterZ (cc := cX11_isLink) (maxL := 2) (own := RX11) (by decide) rfl rfl (Nat.le_of_ble_eq_true rfl) (fun g C hR => ?_)
  show Zt w g τ (0, 0) 0 [(0, .ref (w.1 i0)), (1, .int x1)] []
  unfold wp_X11_isLink at hw
  refine z_iload_n C 1 (by rfl) dX11_isLink_0 ?_
  refine z_iconst C 0 (by decide) dX11_isLink_1 ?_
  refine z_aload_n C 0 (by rfl) dX11_isLink_2 ?_
  refine z_get C (Cn := RX11) (T := TX11) (N := 10) (ci := 10) h0.2 2 (tE20 h0.1) in_X11_isLink_X11 rfl (by decide) mw_X11_isLink_0 rfl rfl dX11_isLink_3 ?_
  refine z_iconst C 1 (by decide) dX11_isLink_6 ?_
  refine z_isub C dX11_isLink_7 ?_
  refine zs_i C (As := [.int x1, .int 0, .int ((τ i0 2) - 1)]) (bytes := cX11_is) (maxL := 3) (F1 := 0) (L1 := 0) (c_X11_is w _ x1 0 ((τ i0 2) - 1) _  hw) 3 gX11_isLink_X11_is rfl (by decide +kernel) ⟨Nat.le_of_ble_eq_true rfl, Nat.le_of_ble_eq_true rfl⟩ rfl (Nat.le_of_ble_eq_true rfl) ⟨Nat.le_of_ble_eq_true rfl, Nat.le_of_ble_eq_true rfl⟩ rfl dX11_isLink_8 (fun x22 τ21 hw => ?_)
  exact hR _ _ _ _ dX11_isLink_11 hw.1.1 hw.2
def wp_X11_isCall (τ : TS) (i0 : Nat) (x1 : Int32) (K : TS → Int32 → Prop) : Prop :=
  wp_X11_is τ x1 0 ((τ 239 2) - 1) (fun τ21 x22 => tp_z x22 ∧ K τ21 x22)
theorem mw_X11_isCall_0 : Cond.fieldLink RX11 27 "TidePostModel" "now" "LTidePostModel$State;" ∈ wsX11_isCall := List.mem_of_getElem? (i := 1) rfl
theorem in_X11_isCall_X11 : ∀ x ∈ wsX110, x ∈ wsX11_isCall := fun _ h => List.mem_cons_of_mem _ (List.mem_append_left _ (List.mem_append_right _ h))
theorem in_X11_isCall_X10 : ∀ x ∈ wsX100, x ∈ wsX11_isCall := fun _ h => List.mem_cons_of_mem _ (List.mem_append_right _ h)
set_option maxHeartbeats 4000000 in
set_option maxRecDepth 100000 in
theorem c_X11_isCall (w : WPar) (τ : TS) (i0 : Nat) (x1 : Int32) (K : TS → Int32 → Prop) (h0 : tp_is w i0 20) (hw : wp_X11_isCall τ i0 x1 K) : MI w yX11_isCall wsX11_isCall 1 22 [.ref (w.1 i0), .int x1] τ K := by
  refine tp_enterZ (cc := cX11_isCall) (maxL := 2) (own := RX11) (by decide) rfl rfl (Nat.le_of_ble_eq_true rfl) (fun g C hR => ?_)
  show Zt w g τ (0, 0) 0 [(0, .ref (w.1 i0)), (1, .int x1)] []
  unfold wp_X11_isCall at hw
  refine z_iload_n C 1 (by rfl) dX11_isCall_0 ?_
  refine z_iconst C 0 (by decide) dX11_isCall_1 ?_
  refine z_aload_n C 0 (by rfl) dX11_isCall_2 ?_
  refine z_get C (Cn := RX11) (T := TX11) (N := 10) (ci := 10) h0.2 7 (tE20 h0.1) in_X11_isCall_X11 rfl (by decide) mw_X11_isCall_0 rfl rfl dX11_isCall_3 ?_
  refine z_getN C (Cn := RX10) (T := TX10) (N := 13) (ci := 9) (tR20_7 h0).2 2 (tE21 (tR20_7 h0).1) in_X11_isCall_X10 rfl (by decide) (List.mem_of_getElem? (i := 5) rfl) rfl rfl dX11_isCall_6 ?_
  refine z_iconst C 1 (by decide) dX11_isCall_9 ?_
  refine z_isub C dX11_isCall_10 ?_
  refine zs_i C (As := [.int x1, .int 0, .int ((τ 239 2) - 1)]) (bytes := cX11_is) (maxL := 3) (F1 := 0) (L1 := 0) (c_X11_is w _ x1 0 ((τ 239 2) - 1) _  hw) 3 gX11_isCall_X11_is rfl (by decide +kernel) ⟨Nat.le_of_ble_eq_true rfl, Nat.le_of_ble_eq_true rfl⟩ rfl (Nat.le_of_ble_eq_true rfl) ⟨Nat.le_of_ble_eq_true rfl, Nat.le_of_ble_eq_true rfl⟩ rfl dX11_isCall_11 (fun x22 τ21 hw => ?_)
  exact hR _ _ _ _ dX11_isCall_14 hw.1.1 hw.2
def wp_X11_of (τ : TS) (i0 : Nat) (x1 : Int32) (x2 : Int32) (K : TS → Int32 → Prop) : Prop :=
  ∀ τ21 : TS, τ21 = tp_up τ i0 0 0 → wp_X11_isCall τ21 i0 x1 (fun τ22 x23 => ((x23 = 0) → (wp_X11_refuse τ22 i0 1 (fun τ25 x26 => K τ25 x26))) ∧ ((¬ x23 = 0) → (vp_in x1 6 ∧ (vp_in x2 23 ∧ (K τ22 (τ22 ((239 + 15) + 1 + (Int32.toNatClampNeg x1)) (Int32.toNatClampNeg x2)))))))
theorem mw_X11_of_0 : Cond.fieldLink RX11 34 "TidePostModel" "thrown" "I" ∈ wsX11_of := List.mem_of_getElem? (i := 1) rfl
theorem mw_X11_of_1 : Cond.fieldLink RX11 27 "TidePostModel" "now" "LTidePostModel$State;" ∈ wsX11_of := List.mem_of_getElem? (i := 2) rfl
theorem in_X11_of_X11 : ∀ x ∈ wsX110, x ∈ wsX11_of := fun _ h => List.mem_cons_of_mem _ (List.mem_append_left _ (List.mem_append_right _ h))
theorem in_X11_of_X10 : ∀ x ∈ wsX100, x ∈ wsX11_of := fun _ h => List.mem_cons_of_mem _ (List.mem_append_right _ h)
set_option maxHeartbeats 4000000 in
set_option maxRecDepth 100000 in
theorem c_X11_of (w : WPar) (τ : TS) (i0 : Nat) (x1 : Int32) (x2 : Int32) (K : TS → Int32 → Prop) (h0 : tp_is w i0 20) (hw : wp_X11_of τ i0 x1 x2 K) : MI w yX11_of wsX11_of 2 43 [.ref (w.1 i0), .int x1, .int x2] τ K := by
  refine tp_enterI (cc := cX11_of) (maxL := 3) (own := RX11) (by decide) rfl rfl (Nat.le_of_ble_eq_true rfl) (fun g C hR => ?_)
  show Zt w g τ (0, 0) 0 [(0, .ref (w.1 i0)), (1, .int x1), (2, .int x2)] []
  unfold wp_X11_of at hw
  refine z_aload_n C 0 (by rfl) dX11_of_0 ?_
  refine z_iconst C 0 (by decide) dX11_of_1 ?_
  refine z_put C (Cn := RX11) (T := TX11) (N := 10) (ci := 10) h0.2 0 (tE20 h0.1) (tS20_0 h0.1 _) in_X11_of_X11 tyX11 tyX11_ok nmX11 rfl (by decide) mw_X11_of_0 rfl rfl (tyX11_ok 0 (by decide)) rfl rfl (Nat.le_of_ble_eq_true rfl) dX11_of_2 (fun τ21 eτ21 => ?_)
  have hw := hw τ21 eτ21
  refine z_aload_n C 0 (by rfl) dX11_of_5 ?_
  refine z_iload_n C 1 (by rfl) dX11_of_6 ?_
  refine zv_i C (As := [.int x1]) (bytes := cX11_isCall) (maxL := 2) (F1 := 1) (L1 := 22) (c_X11_isCall w _ i0 x1 _ h0 hw) h0.2 (tE20 h0.1) rfl 1 gX11_of_X11_isCall rfl (by decide +kernel) ⟨Nat.le_of_ble_eq_true rfl, Nat.le_of_ble_eq_true rfl⟩ rfl (Nat.le_of_ble_eq_true rfl) ⟨Nat.le_of_ble_eq_true rfl, Nat.le_of_ble_eq_true rfl⟩ rfl dX11_of_7 (fun x23 τ22 hw => ?_)
  refine z_if_eq (tgt := 27) C dX11_of_10 (by decide) (fun c24 => ?_) (fun c24 => ?_)
  · have hw := hw.1 c24
    refine z_aload_n C 0 (by rfl) dX11_of_27 ?_
    refine z_iconst C 1 (by decide) dX11_of_28 ?_
    refine zv_i C (As := [.int 1]) (bytes := cX11_refuse) (maxL := 2) (F1 := 0) (L1 := 0) (c_X11_refuse w _ i0 1 _ h0 hw) h0.2 (tE20 h0.1) rfl 1 gX11_of_X11_refuse rfl (by decide +kernel) ⟨Nat.le_of_ble_eq_true rfl, Nat.le_of_ble_eq_true rfl⟩ rfl (Nat.le_of_ble_eq_true rfl) ⟨Nat.le_of_ble_eq_true rfl, Nat.le_of_ble_eq_true rfl⟩ rfl dX11_of_29 (fun x26 τ25 hw => ?_)
    exact hR _ _ _ _ dX11_of_32 hw
  · have hw := hw.2 c24
    refine z_aload_n C 0 (by rfl) dX11_of_13 ?_
    refine z_get C (Cn := RX11) (T := TX11) (N := 10) (ci := 10) h0.2 7 (tE20 h0.1) in_X11_of_X11 rfl (by decide) mw_X11_of_1 rfl rfl dX11_of_14 ?_
    refine z_getN C (Cn := RX10) (T := TX10) (N := 13) (ci := 9) (tR20_7 h0).2 9 (tE21 (tR20_7 h0).1) in_X11_of_X10 rfl (by decide) (List.mem_of_getElem? (i := 11) rfl) rfl rfl dX11_of_17 ?_
    refine z_iload_n C 1 (by rfl) dX11_of_20 ?_
    obtain ⟨s27, hw⟩ := hw
    refine z_aald_q4 C (tR21_9 (tR20_7 h0)).2 (tE26 (tR21_9 (tR20_7 h0)).1) s27 (if_pos (tp_lt s27)) dX11_of_21 ?_
    refine z_iload_n C 2 (by rfl) dX11_of_22 ?_
    obtain ⟨s28, hw⟩ := hw
    refine z_iald C (tR26 (tR21_9 (tR20_7 h0)) (tp_lt s27)).2 (tE27 (tR26 (tR21_9 (tR20_7 h0)) (tp_lt s27)).1) s28 dX11_of_23 ?_
    refine z_goto (tgt := 32) C dX11_of_24 (by decide) ?_
    exact hR _ _ _ _ dX11_of_32 hw
def wp_X11_addNode (τ : TS) (i0 : Nat) (K : TS → Int32 → Prop) : Prop :=
  ∀ τ21 : TS, τ21 = tp_up τ i0 0 0 → ((¬ (τ21 i0 1) = 8) → (∀ τ23 : TS, τ23 = tp_up τ21 i0 1 ((τ21 i0 1) + 1) → wp_X10_routes τ23 239 (-1) (fun τ24 => K τ24 ((τ24 i0 1) - 1)))) ∧ (((τ21 i0 1) = 8) → (wp_X11_refuse τ21 i0 1 (fun τ25 x26 => K τ25 x26)))
theorem mw_X11_addNode_0 : Cond.fieldLink RX11 34 "TidePostModel" "thrown" "I" ∈ wsX11_addNode := List.mem_of_getElem? (i := 1) rfl
theorem mw_X11_addNode_1 : Cond.fieldLink RX11 38 "TidePostModel" "nodes" "I" ∈ wsX11_addNode := List.mem_of_getElem? (i := 2) rfl
theorem mw_X11_addNode_2 : Cond.fieldLink RX11 27 "TidePostModel" "now" "LTidePostModel$State;" ∈ wsX11_addNode := List.mem_of_getElem? (i := 3) rfl
theorem in_X11_addNode_X11 : ∀ x ∈ wsX110, x ∈ wsX11_addNode := fun _ h => List.mem_cons_of_mem _ (List.mem_append_left _ (List.mem_append_right _ h))
set_option maxHeartbeats 4000000 in
set_option maxRecDepth 100000 in
theorem c_X11_addNode (w : WPar) (τ : TS) (i0 : Nat) (K : TS → Int32 → Prop) (h0 : tp_is w i0 20) (hw : wp_X11_addNode τ i0 K) : MI w yX11_addNode wsX11_addNode 2 48 [.ref (w.1 i0)] τ K := by
  refine tp_enterI (cc := cX11_addNode) (maxL := 1) (own := RX11) (by decide) rfl rfl (Nat.le_of_ble_eq_true rfl) (fun g C hR => ?_)
  show Zt w g τ (0, 0) 0 [(0, .ref (w.1 i0))] []
  unfold wp_X11_addNode at hw
  refine z_aload_n C 0 (by rfl) dX11_addNode_0 ?_
  refine z_iconst C 0 (by decide) dX11_addNode_1 ?_
  refine z_put C (Cn := RX11) (T := TX11) (N := 10) (ci := 10) h0.2 0 (tE20 h0.1) (tS20_0 h0.1 _) in_X11_addNode_X11 tyX11 tyX11_ok nmX11 rfl (by decide) mw_X11_addNode_0 rfl rfl (tyX11_ok 0 (by decide)) rfl rfl (Nat.le_of_ble_eq_true rfl) dX11_addNode_2 (fun τ21 eτ21 => ?_)
  have hw := hw τ21 eτ21
  refine z_aload_n C 0 (by rfl) dX11_addNode_5 ?_
  refine z_get C (Cn := RX11) (T := TX11) (N := 10) (ci := 10) h0.2 1 (tE20 h0.1) in_X11_addNode_X11 rfl (by decide) mw_X11_addNode_1 rfl rfl dX11_addNode_6 ?_
  refine z_bipush C 8 (by decide) dX11_addNode_9 ?_
  refine z_icmp_ne (tgt := 20) C dX11_addNode_11 (by decide) (fun c22 => ?_) (fun c22 => ?_)
  · have hw := hw.1 c22
    refine z_aload_n C 0 (by rfl) dX11_addNode_20 ?_
    refine z_dup C rfl dX11_addNode_21 ?_
    refine z_get C (Cn := RX11) (T := TX11) (N := 10) (ci := 10) h0.2 1 (tE20 h0.1) in_X11_addNode_X11 rfl (by decide) mw_X11_addNode_1 rfl rfl dX11_addNode_22 ?_
    refine z_iconst C 1 (by decide) dX11_addNode_25 ?_
    refine z_iadd C dX11_addNode_26 ?_
    refine z_put C (Cn := RX11) (T := TX11) (N := 10) (ci := 10) h0.2 1 (tE20 h0.1) (tS20_1 h0.1 _) in_X11_addNode_X11 tyX11 tyX11_ok nmX11 rfl (by decide) mw_X11_addNode_1 rfl rfl (tyX11_ok 1 (by decide)) rfl rfl (Nat.le_of_ble_eq_true rfl) dX11_addNode_27 (fun τ23 eτ23 => ?_)
    have hw := hw τ23 eτ23
    refine z_aload_n C 0 (by rfl) dX11_addNode_30 ?_
    refine z_get C (Cn := RX11) (T := TX11) (N := 10) (ci := 10) h0.2 7 (tE20 h0.1) in_X11_addNode_X11 rfl (by decide) mw_X11_addNode_2 rfl rfl dX11_addNode_31 ?_
    refine z_iconst C (-1) (by decide) dX11_addNode_34 ?_
    refine zv_v C (As := [.int (-1)]) (bytes := cX10_routes) (maxL := 6) (F1 := 1) (L1 := 23) (c_X10_routes w _ 239 (-1) _ (tR20_7 h0) hw) (tR20_7 h0).2 (tE21 (tR20_7 h0).1) rfl 1 gX11_addNode_X10_routes rfl (by decide +kernel) ⟨Nat.le_of_ble_eq_true rfl, Nat.le_of_ble_eq_true rfl⟩ rfl (Nat.le_of_ble_eq_true rfl) ⟨Nat.le_of_ble_eq_true rfl, Nat.le_of_ble_eq_true rfl⟩ rfl dX11_addNode_35 (fun τ24 hw => ?_)
    refine z_aload_n C 0 (by rfl) dX11_addNode_38 ?_
    refine z_get C (Cn := RX11) (T := TX11) (N := 10) (ci := 10) h0.2 1 (tE20 h0.1) in_X11_addNode_X11 rfl (by decide) mw_X11_addNode_1 rfl rfl dX11_addNode_39 ?_
    refine z_iconst C 1 (by decide) dX11_addNode_42 ?_
    refine z_isub C dX11_addNode_43 ?_
    exact hR _ _ _ _ dX11_addNode_44 hw
  · have hw := hw.2 c22
    refine z_aload_n C 0 (by rfl) dX11_addNode_14 ?_
    refine z_iconst C 1 (by decide) dX11_addNode_15 ?_
    refine zv_i C (As := [.int 1]) (bytes := cX11_refuse) (maxL := 2) (F1 := 0) (L1 := 0) (c_X11_refuse w _ i0 1 _ h0 hw) h0.2 (tE20 h0.1) rfl 1 gX11_addNode_X11_refuse rfl (by decide +kernel) ⟨Nat.le_of_ble_eq_true rfl, Nat.le_of_ble_eq_true rfl⟩ rfl (Nat.le_of_ble_eq_true rfl) ⟨Nat.le_of_ble_eq_true rfl, Nat.le_of_ble_eq_true rfl⟩ rfl dX11_addNode_16 (fun x26 τ25 hw => ?_)
    exact hR _ _ _ _ dX11_addNode_19 hw
def wp_X11_addLink (τ : TS) (i0 : Nat) (x1 : Int32) (x2 : Int32) (x3 : Int32) (x4 : Int32) (K : TS → Int32 → Prop) : Prop :=
  ∀ τ21 : TS, τ21 = tp_up τ i0 0 0 → wp_X11_isNode τ21 i0 x1 (fun τ22 x23 => ((x23 = 0) → (wp_X11_refuse τ22 i0 1 (fun τ25 x26 => K τ25 x26))) ∧ ((¬ x23 = 0) → (wp_X11_isNode τ22 i0 x2 (fun τ27 x28 => ((¬ x28 = 0) → (((x1 = x2) → (wp_X11_refuse τ27 i0 2 (fun τ31 x32 => K τ31 x32))) ∧ ((¬ x1 = x2) → (wp_X11_is τ27 x3 1 9 (fun τ33 x34 => ((x34 = 0) → (wp_X11_refuse τ33 i0 2 (fun τ36 x37 => K τ36 x37))) ∧ ((¬ x34 = 0) → (wp_X11_is τ33 x4 1 20 (fun τ38 x39 => ((¬ x39 = 0) → (∃ J41 : Int32 → Prop, (∀ (x42 : Int32), J41 x42 → (∃ (I46 : TS → Int32 → Int32 → Prop) (u46 : TS → Int32 → Int32 → Nat), I46 τ38 x42 0 ∧ ∀ (τ43 : TS) (x44 : Int32) (x45 : Int32), I46 τ43 x44 x45 → ((((τ43 i0 2) ≤ x45) → (((x44 = 0) → (vp_in (τ43 i0 2) 12 ∧ (∀ τ50 : TS, τ50 = tp_up τ43 235 (Int32.toNatClampNeg (τ43 i0 2)) x1 → vp_in (τ50 i0 2) 12 ∧ (∀ τ52 : TS, τ52 = tp_up τ50 236 (Int32.toNatClampNeg (τ50 i0 2)) x2 → vp_in (τ52 i0 2) 12 ∧ (∀ τ54 : TS, τ54 = tp_up τ52 237 (Int32.toNatClampNeg (τ52 i0 2)) x3 → vp_in (τ54 i0 2) 12 ∧ (∀ τ56 : TS, τ56 = tp_up τ54 238 (Int32.toNatClampNeg (τ54 i0 2)) x4 → vp_in (τ56 i0 2) 12 ∧ (∀ τ58 : TS, τ58 = tp_up τ56 (239 + 1) (Int32.toNatClampNeg (τ56 i0 2)) 1 → ∀ τ59 : TS, τ59 = tp_up τ58 i0 2 ((τ58 i0 2) + 1) → wp_X10_routes τ59 239 (-1) (fun τ60 => K τ60 ((τ60 i0 2) - 1))))))))) ∧ ((¬ x44 = 0) → (wp_X11_refuse τ43 i0 3 (fun τ61 x62 => K τ61 x62))))) ∧ ((¬ (τ43 i0 2) ≤ x45) → False)))) ∧ (((¬ (τ38 i0 2) = 12) → (J41 0)) ∧ (((τ38 i0 2) = 12) → (J41 1))))) ∧ ((x39 = 0) → (wp_X11_refuse τ38 i0 2 (fun τ64 x65 => K τ64 x65))))))))))) ∧ ((x28 = 0) → (wp_X11_refuse τ27 i0 1 (fun τ66 x67 => K τ66 x67)))))))
theorem mw_X11_addLink_0 : Cond.fieldLink RX11 34 "TidePostModel" "thrown" "I" ∈ wsX11_addLink := List.mem_of_getElem? (i := 1) rfl
theorem mw_X11_addLink_1 : Cond.fieldLink RX11 45 "TidePostModel" "links" "I" ∈ wsX11_addLink := List.mem_of_getElem? (i := 2) rfl
theorem mw_X11_addLink_2 : Cond.fieldLink RX11 9 "TidePostModel" "first" "[I" ∈ wsX11_addLink := List.mem_of_getElem? (i := 3) rfl
theorem mw_X11_addLink_3 : Cond.fieldLink RX11 13 "TidePostModel" "second" "[I" ∈ wsX11_addLink := List.mem_of_getElem? (i := 4) rfl
theorem mw_X11_addLink_4 : Cond.fieldLink RX11 16 "TidePostModel" "delay" "[I" ∈ wsX11_addLink := List.mem_of_getElem? (i := 5) rfl
theorem mw_X11_addLink_5 : Cond.fieldLink RX11 19 "TidePostModel" "space" "[I" ∈ wsX11_addLink := List.mem_of_getElem? (i := 6) rfl
theorem mw_X11_addLink_6 : Cond.fieldLink RX11 27 "TidePostModel" "now" "LTidePostModel$State;" ∈ wsX11_addLink := List.mem_of_getElem? (i := 7) rfl
theorem in_X11_addLink_X11 : ∀ x ∈ wsX110, x ∈ wsX11_addLink := fun _ h => List.mem_cons_of_mem _ (List.mem_append_left _ (List.mem_append_right _ h))
theorem in_X11_addLink_X10 : ∀ x ∈ wsX100, x ∈ wsX11_addLink := fun _ h => List.mem_cons_of_mem _ (List.mem_append_right _ h)
set_option maxHeartbeats 4000000 in
set_option maxRecDepth 100000 in
theorem c_X11_addLink (w : WPar) (τ : TS) (i0 : Nat) (x1 : Int32) (x2 : Int32) (x3 : Int32) (x4 : Int32) (K : TS → Int32 → Prop) (h0 : tp_is w i0 20) (hw : wp_X11_addLink τ i0 x1 x2 x3 x4 K) : MI w yX11_addLink wsX11_addLink 2 48 [.ref (w.1 i0), .int x1, .int x2, .int x3, .int x4] τ K := by
  refine tp_enterI (cc := cX11_addLink) (maxL := 7) (own := RX11) (by decide) rfl rfl (Nat.le_of_ble_eq_true rfl) (fun g C hR => ?_)
  show Zt w g τ (0, 0) 0 [(0, .ref (w.1 i0)), (1, .int x1), (2, .int x2), (3, .int x3), (4, .int x4)] []
  unfold wp_X11_addLink at hw
  refine z_aload_n C 0 (by rfl) dX11_addLink_0 ?_
  refine z_iconst C 0 (by decide) dX11_addLink_1 ?_
  refine z_put C (Cn := RX11) (T := TX11) (N := 10) (ci := 10) h0.2 0 (tE20 h0.1) (tS20_0 h0.1 _) in_X11_addLink_X11 tyX11 tyX11_ok nmX11 rfl (by decide) mw_X11_addLink_0 rfl rfl (tyX11_ok 0 (by decide)) rfl rfl (Nat.le_of_ble_eq_true rfl) dX11_addLink_2 (fun τ21 eτ21 => ?_)
  have hw := hw τ21 eτ21
  refine z_aload_n C 0 (by rfl) dX11_addLink_5 ?_
  refine z_iload_n C 1 (by rfl) dX11_addLink_6 ?_
  refine zv_i C (As := [.int x1]) (bytes := cX11_isNode) (maxL := 2) (F1 := 1) (L1 := 22) (c_X11_isNode w _ i0 x1 _ h0 hw) h0.2 (tE20 h0.1) rfl 1 gX11_addLink_X11_isNode rfl (by decide +kernel) ⟨Nat.le_of_ble_eq_true rfl, Nat.le_of_ble_eq_true rfl⟩ rfl (Nat.le_of_ble_eq_true rfl) ⟨Nat.le_of_ble_eq_true rfl, Nat.le_of_ble_eq_true rfl⟩ rfl dX11_addLink_7 (fun x23 τ22 hw => ?_)
  refine z_if_eq (tgt := 21) C dX11_addLink_10 (by decide) (fun c24 => ?_) (fun c24 => ?_)
  · have hw := hw.1 c24
    refine z_aload_n C 0 (by rfl) dX11_addLink_21 ?_
    refine z_iconst C 1 (by decide) dX11_addLink_22 ?_
    refine zv_i C (As := [.int 1]) (bytes := cX11_refuse) (maxL := 2) (F1 := 0) (L1 := 0) (c_X11_refuse w _ i0 1 _ h0 hw) h0.2 (tE20 h0.1) rfl 1 gX11_addLink_X11_refuse rfl (by decide +kernel) ⟨Nat.le_of_ble_eq_true rfl, Nat.le_of_ble_eq_true rfl⟩ rfl (Nat.le_of_ble_eq_true rfl) ⟨Nat.le_of_ble_eq_true rfl, Nat.le_of_ble_eq_true rfl⟩ rfl dX11_addLink_23 (fun x26 τ25 hw => ?_)
    exact hR _ _ _ _ dX11_addLink_26 hw
  · have hw := hw.2 c24
    refine z_aload_n C 0 (by rfl) dX11_addLink_13 ?_
    refine z_iload_n C 2 (by rfl) dX11_addLink_14 ?_
    refine zv_i C (As := [.int x2]) (bytes := cX11_isNode) (maxL := 2) (F1 := 1) (L1 := 22) (c_X11_isNode w _ i0 x2 _ h0 hw) h0.2 (tE20 h0.1) rfl 1 gX11_addLink_X11_isNode rfl (by decide +kernel) ⟨Nat.le_of_ble_eq_true rfl, Nat.le_of_ble_eq_true rfl⟩ rfl (Nat.le_of_ble_eq_true rfl) ⟨Nat.le_of_ble_eq_true rfl, Nat.le_of_ble_eq_true rfl⟩ rfl dX11_addLink_15 (fun x28 τ27 hw => ?_)
    refine z_if_ne (tgt := 27) C dX11_addLink_18 (by decide) (fun c29 => ?_) (fun c29 => ?_)
    · have hw := hw.1 c29
      refine z_iload_n C 1 (by rfl) dX11_addLink_27 ?_
      refine z_iload_n C 2 (by rfl) dX11_addLink_28 ?_
      refine z_icmp_eq (tgt := 53) C dX11_addLink_29 (by decide) (fun c30 => ?_) (fun c30 => ?_)
      · have hw := hw.1 c30
        refine z_aload_n C 0 (by rfl) dX11_addLink_53 ?_
        refine z_iconst C 2 (by decide) dX11_addLink_54 ?_
        refine zv_i C (As := [.int 2]) (bytes := cX11_refuse) (maxL := 2) (F1 := 0) (L1 := 0) (c_X11_refuse w _ i0 2 _ h0 hw) h0.2 (tE20 h0.1) rfl 1 gX11_addLink_X11_refuse rfl (by decide +kernel) ⟨Nat.le_of_ble_eq_true rfl, Nat.le_of_ble_eq_true rfl⟩ rfl (Nat.le_of_ble_eq_true rfl) ⟨Nat.le_of_ble_eq_true rfl, Nat.le_of_ble_eq_true rfl⟩ rfl dX11_addLink_55 (fun x32 τ31 hw => ?_)
        exact hR _ _ _ _ dX11_addLink_58 hw
      · have hw := hw.2 c30
        refine z_iload_n C 3 (by rfl) dX11_addLink_32 ?_
        refine z_iconst C 1 (by decide) dX11_addLink_33 ?_
        refine z_bipush C 9 (by decide) dX11_addLink_34 ?_
        refine zs_i C (As := [.int x3, .int 1, .int 9]) (bytes := cX11_is) (maxL := 3) (F1 := 0) (L1 := 0) (c_X11_is w _ x3 1 9 _  hw) 3 gX11_addLink_X11_is rfl (by decide +kernel) ⟨Nat.le_of_ble_eq_true rfl, Nat.le_of_ble_eq_true rfl⟩ rfl (Nat.le_of_ble_eq_true rfl) ⟨Nat.le_of_ble_eq_true rfl, Nat.le_of_ble_eq_true rfl⟩ rfl dX11_addLink_36 (fun x34 τ33 hw => ?_)
        refine z_if_eq (tgt := 53) C dX11_addLink_39 (by decide) (fun c35 => ?_) (fun c35 => ?_)
        · have hw := hw.1 c35
          refine z_aload_n C 0 (by rfl) dX11_addLink_53 ?_
          refine z_iconst C 2 (by decide) dX11_addLink_54 ?_
          refine zv_i C (As := [.int 2]) (bytes := cX11_refuse) (maxL := 2) (F1 := 0) (L1 := 0) (c_X11_refuse w _ i0 2 _ h0 hw) h0.2 (tE20 h0.1) rfl 1 gX11_addLink_X11_refuse rfl (by decide +kernel) ⟨Nat.le_of_ble_eq_true rfl, Nat.le_of_ble_eq_true rfl⟩ rfl (Nat.le_of_ble_eq_true rfl) ⟨Nat.le_of_ble_eq_true rfl, Nat.le_of_ble_eq_true rfl⟩ rfl dX11_addLink_55 (fun x37 τ36 hw => ?_)
          exact hR _ _ _ _ dX11_addLink_58 hw
        · have hw := hw.2 c35
          refine z_iload C 4 (by rfl) dX11_addLink_42 ?_
          refine z_iconst C 1 (by decide) dX11_addLink_44 ?_
          refine z_bipush C 20 (by decide) dX11_addLink_45 ?_
          refine zs_i C (As := [.int x4, .int 1, .int 20]) (bytes := cX11_is) (maxL := 3) (F1 := 0) (L1 := 0) (c_X11_is w _ x4 1 20 _  hw) 3 gX11_addLink_X11_is rfl (by decide +kernel) ⟨Nat.le_of_ble_eq_true rfl, Nat.le_of_ble_eq_true rfl⟩ rfl (Nat.le_of_ble_eq_true rfl) ⟨Nat.le_of_ble_eq_true rfl, Nat.le_of_ble_eq_true rfl⟩ rfl dX11_addLink_47 (fun x39 τ38 hw => ?_)
          refine z_if_ne (tgt := 59) C dX11_addLink_50 (by decide) (fun c40 => ?_) (fun c40 => ?_)
          · have hw := hw.1 c40
            refine z_aload_n C 0 (by rfl) dX11_addLink_59 ?_
            refine z_get C (Cn := RX11) (T := TX11) (N := 10) (ci := 10) h0.2 2 (tE20 h0.1) in_X11_addLink_X11 rfl (by decide) mw_X11_addLink_1 rfl rfl dX11_addLink_60 ?_
            refine z_bipush C 12 (by decide) dX11_addLink_63 ?_
            obtain ⟨J41, hJ41, hw⟩ := hw
            have jn41 : ∀ (x42 : Int32), J41 x42 → Zt w g τ38 (0, 0) 73 [(0, .ref (w.1 i0)), (1, .int x1), (2, .int x2), (3, .int x3), (4, .int x4)] [.int x42] := by
              intro x42 hj41
              have hw := hJ41 x42 hj41
              refine z_istore C [(5, .int x42), (0, .ref (w.1 i0)), (1, .int x1), (2, .int x2), (3, .int x3), (4, .int x4)] dX11_addLink_73 (by decide) rfl ?_
              refine z_iconst C 0 (by decide) dX11_addLink_75 ?_
              refine z_istore C [(6, .int 0), (5, .int x42), (0, .ref (w.1 i0)), (1, .int x1), (2, .int x2), (3, .int x3), (4, .int x4)] dX11_addLink_76 (by decide) rfl ?_
              obtain ⟨I46, u46, hI46, hs46⟩ := hw
              have lp46 : ∀ (n46 : Nat) (τ43 : TS) (x44 : Int32) (x45 : Int32), u46 τ43 x44 x45 < n46 → I46 τ43 x44 x45 → Zt w g τ43 (0, 0) 78 [(0, .ref (w.1 i0)), (1, .int x1), (2, .int x2), (3, .int x3), (4, .int x4), (5, .int x44), (6, .int x45)] [] := by
                intro n46
                induction n46 with
                | zero => intro τ43 x44 x45 hlt46; exact absurd hlt46 (Nat.not_lt_zero _)
                | succ n46 ih46 =>
                  intro τ43 x44 x45 hlt46 hh46
                  have hw := hs46 τ43 x44 x45 hh46
                  refine z_iload C 6 (by rfl) dX11_addLink_78 ?_
                  refine z_aload_n C 0 (by rfl) dX11_addLink_80 ?_
                  refine z_get C (Cn := RX11) (T := TX11) (N := 10) (ci := 10) h0.2 2 (tE20 h0.1) in_X11_addLink_X11 rfl (by decide) mw_X11_addLink_1 rfl rfl dX11_addLink_81 ?_
                  refine z_icmp_ge (tgt := 106) C dX11_addLink_84 (by decide) (fun c47 => ?_) (fun c47 => ?_)
                  · have hw := hw.1 c47
                    refine z_iload C 5 (by rfl) dX11_addLink_106 ?_
                    refine z_if_eq (tgt := 117) C dX11_addLink_108 (by decide) (fun c48 => ?_) (fun c48 => ?_)
                    · have hw := hw.1 c48
                      refine z_aload_n C 0 (by rfl) dX11_addLink_117 ?_
                      refine z_get C (Cn := RX11) (T := TX11) (N := 10) (ci := 10) h0.2 3 (tE20 h0.1) in_X11_addLink_X11 rfl (by decide) mw_X11_addLink_2 rfl rfl dX11_addLink_118 ?_
                      refine z_aload_n C 0 (by rfl) dX11_addLink_121 ?_
                      refine z_get C (Cn := RX11) (T := TX11) (N := 10) (ci := 10) h0.2 2 (tE20 h0.1) in_X11_addLink_X11 rfl (by decide) mw_X11_addLink_1 rfl rfl dX11_addLink_122 ?_
                      refine z_iload_n C 1 (by rfl) dX11_addLink_125 ?_
                      obtain ⟨s49, hw⟩ := hw
                      refine z_iast C (tR20_3 h0).2 (fun _ => tE11 (tR20_3 h0).1) s49 dX11_addLink_126 (fun τ50 eτ50 => ?_)
                      have hw := hw τ50 eτ50
                      refine z_aload_n C 0 (by rfl) dX11_addLink_127 ?_
                      refine z_get C (Cn := RX11) (T := TX11) (N := 10) (ci := 10) h0.2 4 (tE20 h0.1) in_X11_addLink_X11 rfl (by decide) mw_X11_addLink_3 rfl rfl dX11_addLink_128 ?_
                      refine z_aload_n C 0 (by rfl) dX11_addLink_131 ?_
                      refine z_get C (Cn := RX11) (T := TX11) (N := 10) (ci := 10) h0.2 2 (tE20 h0.1) in_X11_addLink_X11 rfl (by decide) mw_X11_addLink_1 rfl rfl dX11_addLink_132 ?_
                      refine z_iload_n C 2 (by rfl) dX11_addLink_135 ?_
                      obtain ⟨s51, hw⟩ := hw
                      refine z_iast C (tR20_4 h0).2 (fun _ => tE11 (tR20_4 h0).1) s51 dX11_addLink_136 (fun τ52 eτ52 => ?_)
                      have hw := hw τ52 eτ52
                      refine z_aload_n C 0 (by rfl) dX11_addLink_137 ?_
                      refine z_get C (Cn := RX11) (T := TX11) (N := 10) (ci := 10) h0.2 5 (tE20 h0.1) in_X11_addLink_X11 rfl (by decide) mw_X11_addLink_4 rfl rfl dX11_addLink_138 ?_
                      refine z_aload_n C 0 (by rfl) dX11_addLink_141 ?_
                      refine z_get C (Cn := RX11) (T := TX11) (N := 10) (ci := 10) h0.2 2 (tE20 h0.1) in_X11_addLink_X11 rfl (by decide) mw_X11_addLink_1 rfl rfl dX11_addLink_142 ?_
                      refine z_iload_n C 3 (by rfl) dX11_addLink_145 ?_
                      obtain ⟨s53, hw⟩ := hw
                      refine z_iast C (tR20_5 h0).2 (fun _ => tE11 (tR20_5 h0).1) s53 dX11_addLink_146 (fun τ54 eτ54 => ?_)
                      have hw := hw τ54 eτ54
                      refine z_aload_n C 0 (by rfl) dX11_addLink_147 ?_
                      refine z_get C (Cn := RX11) (T := TX11) (N := 10) (ci := 10) h0.2 6 (tE20 h0.1) in_X11_addLink_X11 rfl (by decide) mw_X11_addLink_5 rfl rfl dX11_addLink_148 ?_
                      refine z_aload_n C 0 (by rfl) dX11_addLink_151 ?_
                      refine z_get C (Cn := RX11) (T := TX11) (N := 10) (ci := 10) h0.2 2 (tE20 h0.1) in_X11_addLink_X11 rfl (by decide) mw_X11_addLink_1 rfl rfl dX11_addLink_152 ?_
                      refine z_iload C 4 (by rfl) dX11_addLink_155 ?_
                      obtain ⟨s55, hw⟩ := hw
                      refine z_iast C (tR20_6 h0).2 (fun _ => tE11 (tR20_6 h0).1) s55 dX11_addLink_157 (fun τ56 eτ56 => ?_)
                      have hw := hw τ56 eτ56
                      refine z_aload_n C 0 (by rfl) dX11_addLink_158 ?_
                      refine z_get C (Cn := RX11) (T := TX11) (N := 10) (ci := 10) h0.2 7 (tE20 h0.1) in_X11_addLink_X11 rfl (by decide) mw_X11_addLink_6 rfl rfl dX11_addLink_159 ?_
                      refine z_getN C (Cn := RX10) (T := TX10) (N := 13) (ci := 9) (tR20_7 h0).2 3 (tE21 (tR20_7 h0).1) in_X11_addLink_X10 rfl (by decide) (List.mem_of_getElem? (i := 6) rfl) rfl rfl dX11_addLink_162 ?_
                      refine z_aload_n C 0 (by rfl) dX11_addLink_165 ?_
                      refine z_get C (Cn := RX11) (T := TX11) (N := 10) (ci := 10) h0.2 2 (tE20 h0.1) in_X11_addLink_X11 rfl (by decide) mw_X11_addLink_1 rfl rfl dX11_addLink_166 ?_
                      refine z_iconst C 1 (by decide) dX11_addLink_169 ?_
                      obtain ⟨s57, hw⟩ := hw
                      refine z_zast C (tR21_3 (tR20_7 h0)).2 (fun _ => tE12 (tR21_3 (tR20_7 h0)).1) s57 tp_z1.2.2 dX11_addLink_170 (fun τ58 eτ58 => ?_)
                      have hw := hw τ58 eτ58
                      refine z_aload_n C 0 (by rfl) dX11_addLink_171 ?_
                      refine z_dup C rfl dX11_addLink_172 ?_
                      refine z_get C (Cn := RX11) (T := TX11) (N := 10) (ci := 10) h0.2 2 (tE20 h0.1) in_X11_addLink_X11 rfl (by decide) mw_X11_addLink_1 rfl rfl dX11_addLink_173 ?_
                      refine z_iconst C 1 (by decide) dX11_addLink_176 ?_
                      refine z_iadd C dX11_addLink_177 ?_
                      refine z_put C (Cn := RX11) (T := TX11) (N := 10) (ci := 10) h0.2 2 (tE20 h0.1) (tS20_2 h0.1 _) in_X11_addLink_X11 tyX11 tyX11_ok nmX11 rfl (by decide) mw_X11_addLink_1 rfl rfl (tyX11_ok 2 (by decide)) rfl rfl (Nat.le_of_ble_eq_true rfl) dX11_addLink_178 (fun τ59 eτ59 => ?_)
                      have hw := hw τ59 eτ59
                      refine z_aload_n C 0 (by rfl) dX11_addLink_181 ?_
                      refine z_get C (Cn := RX11) (T := TX11) (N := 10) (ci := 10) h0.2 7 (tE20 h0.1) in_X11_addLink_X11 rfl (by decide) mw_X11_addLink_6 rfl rfl dX11_addLink_182 ?_
                      refine z_iconst C (-1) (by decide) dX11_addLink_185 ?_
                      refine zv_v C (As := [.int (-1)]) (bytes := cX10_routes) (maxL := 6) (F1 := 1) (L1 := 23) (c_X10_routes w _ 239 (-1) _ (tR20_7 h0) hw) (tR20_7 h0).2 (tE21 (tR20_7 h0).1) rfl 1 gX11_addLink_X10_routes rfl (by decide +kernel) ⟨Nat.le_of_ble_eq_true rfl, Nat.le_of_ble_eq_true rfl⟩ rfl (Nat.le_of_ble_eq_true rfl) ⟨Nat.le_of_ble_eq_true rfl, Nat.le_of_ble_eq_true rfl⟩ rfl dX11_addLink_186 (fun τ60 hw => ?_)
                      refine z_aload_n C 0 (by rfl) dX11_addLink_189 ?_
                      refine z_get C (Cn := RX11) (T := TX11) (N := 10) (ci := 10) h0.2 2 (tE20 h0.1) in_X11_addLink_X11 rfl (by decide) mw_X11_addLink_1 rfl rfl dX11_addLink_190 ?_
                      refine z_iconst C 1 (by decide) dX11_addLink_193 ?_
                      refine z_isub C dX11_addLink_194 ?_
                      exact hR _ _ _ _ dX11_addLink_195 hw
                    · have hw := hw.2 c48
                      refine z_aload_n C 0 (by rfl) dX11_addLink_111 ?_
                      refine z_iconst C 3 (by decide) dX11_addLink_112 ?_
                      refine zv_i C (As := [.int 3]) (bytes := cX11_refuse) (maxL := 2) (F1 := 0) (L1 := 0) (c_X11_refuse w _ i0 3 _ h0 hw) h0.2 (tE20 h0.1) rfl 1 gX11_addLink_X11_refuse rfl (by decide +kernel) ⟨Nat.le_of_ble_eq_true rfl, Nat.le_of_ble_eq_true rfl⟩ rfl (Nat.le_of_ble_eq_true rfl) ⟨Nat.le_of_ble_eq_true rfl, Nat.le_of_ble_eq_true rfl⟩ rfl dX11_addLink_113 (fun x62 τ61 hw => ?_)
                      exact hR _ _ _ _ dX11_addLink_116 hw
                  · have hw := hw.2 c47
                    refine z_iload C 5 (by rfl) dX11_addLink_87 ?_
                    refine z_aload_n C 0 (by rfl) dX11_addLink_89 ?_
                    refine z_iload C 6 (by rfl) dX11_addLink_90 ?_
                    refine z_iload_n C 1 (by rfl) dX11_addLink_92 ?_
                    refine z_iload_n C 2 (by rfl) dX11_addLink_93 ?_
                    exact hw.elim
              refine z_sub [2, 3, 4, 5, 6, 1, 0] [(0, .ref (w.1 i0)), (1, .int x1), (2, .int x2), (3, .int x3), (4, .int x4), (5, .int x42), (6, .int 0)] rfl ?_
              exact lp46 _ τ38 x42 0 (Nat.lt_succ_self _) hI46
            refine z_icmp_ne (tgt := 72) C dX11_addLink_65 (by decide) (fun c63 => ?_) (fun c63 => ?_)
            · have hw := hw.1 c63
              refine z_iconst C 0 (by decide) dX11_addLink_72 ?_
              exact jn41 0 hw
            · have hw := hw.2 c63
              refine z_iconst C 1 (by decide) dX11_addLink_68 ?_
              refine z_goto (tgt := 73) C dX11_addLink_69 (by decide) ?_
              exact jn41 1 hw
          · have hw := hw.2 c40
            refine z_aload_n C 0 (by rfl) dX11_addLink_53 ?_
            refine z_iconst C 2 (by decide) dX11_addLink_54 ?_
            refine zv_i C (As := [.int 2]) (bytes := cX11_refuse) (maxL := 2) (F1 := 0) (L1 := 0) (c_X11_refuse w _ i0 2 _ h0 hw) h0.2 (tE20 h0.1) rfl 1 gX11_addLink_X11_refuse rfl (by decide +kernel) ⟨Nat.le_of_ble_eq_true rfl, Nat.le_of_ble_eq_true rfl⟩ rfl (Nat.le_of_ble_eq_true rfl) ⟨Nat.le_of_ble_eq_true rfl, Nat.le_of_ble_eq_true rfl⟩ rfl dX11_addLink_55 (fun x65 τ64 hw => ?_)
            exact hR _ _ _ _ dX11_addLink_58 hw
    · have hw := hw.2 c29
      refine z_aload_n C 0 (by rfl) dX11_addLink_21 ?_
      refine z_iconst C 1 (by decide) dX11_addLink_22 ?_
      refine zv_i C (As := [.int 1]) (bytes := cX11_refuse) (maxL := 2) (F1 := 0) (L1 := 0) (c_X11_refuse w _ i0 1 _ h0 hw) h0.2 (tE20 h0.1) rfl 1 gX11_addLink_X11_refuse rfl (by decide +kernel) ⟨Nat.le_of_ble_eq_true rfl, Nat.le_of_ble_eq_true rfl⟩ rfl (Nat.le_of_ble_eq_true rfl) ⟨Nat.le_of_ble_eq_true rfl, Nat.le_of_ble_eq_true rfl⟩ rfl dX11_addLink_23 (fun x67 τ66 hw => ?_)
      exact hR _ _ _ _ dX11_addLink_26 hw
def wp_X11_turn (τ : TS) (i0 : Nat) (x1 : Int32) (K : TS → Int32 → Prop) : Prop :=
  ∀ τ21 : TS, τ21 = tp_up τ i0 0 0 → wp_X11_isLink τ21 i0 x1 (fun τ22 x23 => ((¬ x23 = 0) → (vp_in x1 12 ∧ ((((τ22 (239 + 1) (Int32.toNatClampNeg x1)) = 0) → (vp_in x1 12 ∧ (((¬ (τ22 (239 + 1) (Int32.toNatClampNeg x1)) = 0) → (vp_in x1 12 ∧ (∀ τ30 : TS, τ30 = tp_up τ22 (239 + 1) (Int32.toNatClampNeg x1) 0 → wp_X10_routes τ30 239 (-1) (fun τ31 => K τ31 0)))) ∧ (((τ22 (239 + 1) (Int32.toNatClampNeg x1)) = 0) → (vp_in x1 12 ∧ (∀ τ33 : TS, τ33 = tp_up τ22 (239 + 1) (Int32.toNatClampNeg x1) 1 → wp_X10_routes τ33 239 (-1) (fun τ34 => K τ34 0))))))) ∧ ((¬ (τ22 (239 + 1) (Int32.toNatClampNeg x1)) = 0) → False)))) ∧ ((x23 = 0) → (wp_X11_refuse τ22 i0 1 (fun τ35 x36 => K τ35 x36))))
theorem mw_X11_turn_0 : Cond.fieldLink RX11 34 "TidePostModel" "thrown" "I" ∈ wsX11_turn := List.mem_of_getElem? (i := 1) rfl
theorem mw_X11_turn_1 : Cond.fieldLink RX11 27 "TidePostModel" "now" "LTidePostModel$State;" ∈ wsX11_turn := List.mem_of_getElem? (i := 2) rfl
theorem in_X11_turn_X11 : ∀ x ∈ wsX110, x ∈ wsX11_turn := fun _ h => List.mem_cons_of_mem _ (List.mem_append_left _ (List.mem_append_left _ (List.mem_append_right _ h)))
theorem in_X11_turn_X10 : ∀ x ∈ wsX100, x ∈ wsX11_turn := fun _ h => List.mem_cons_of_mem _ (List.mem_append_left _ (List.mem_append_right _ h))
set_option maxHeartbeats 4000000 in
set_option maxRecDepth 100000 in
theorem c_X11_turn (w : WPar) (τ : TS) (i0 : Nat) (x1 : Int32) (K : TS → Int32 → Prop) (h0 : tp_is w i0 20) (hw : wp_X11_turn τ i0 x1 K) : MI w yX11_turn wsX11_turn 2 48 [.ref (w.1 i0), .int x1] τ K := by
  refine tp_enterI (cc := cX11_turn) (maxL := 3) (own := RX11) (by decide) rfl rfl (Nat.le_of_ble_eq_true rfl) (fun g C hR => ?_)
  show Zt w g τ (0, 0) 0 [(0, .ref (w.1 i0)), (1, .int x1)] []
  unfold wp_X11_turn at hw
  refine z_aload_n C 0 (by rfl) dX11_turn_0 ?_
  refine z_iconst C 0 (by decide) dX11_turn_1 ?_
  refine z_put C (Cn := RX11) (T := TX11) (N := 10) (ci := 10) h0.2 0 (tE20 h0.1) (tS20_0 h0.1 _) in_X11_turn_X11 tyX11 tyX11_ok nmX11 rfl (by decide) mw_X11_turn_0 rfl rfl (tyX11_ok 0 (by decide)) rfl rfl (Nat.le_of_ble_eq_true rfl) dX11_turn_2 (fun τ21 eτ21 => ?_)
  have hw := hw τ21 eτ21
  refine z_aload_n C 0 (by rfl) dX11_turn_5 ?_
  refine z_iload_n C 1 (by rfl) dX11_turn_6 ?_
  refine zv_i C (As := [.int x1]) (bytes := cX11_isLink) (maxL := 2) (F1 := 1) (L1 := 22) (c_X11_isLink w _ i0 x1 _ h0 hw) h0.2 (tE20 h0.1) rfl 1 gX11_turn_X11_isLink rfl (by decide +kernel) ⟨Nat.le_of_ble_eq_true rfl, Nat.le_of_ble_eq_true rfl⟩ rfl (Nat.le_of_ble_eq_true rfl) ⟨Nat.le_of_ble_eq_true rfl, Nat.le_of_ble_eq_true rfl⟩ rfl dX11_turn_7 (fun x23 τ22 hw => ?_)
  refine z_if_ne (tgt := 19) C dX11_turn_10 (by decide) (fun c24 => ?_) (fun c24 => ?_)
  · have hw := hw.1 c24
    refine z_aload_n C 0 (by rfl) dX11_turn_19 ?_
    refine z_get C (Cn := RX11) (T := TX11) (N := 10) (ci := 10) h0.2 7 (tE20 h0.1) in_X11_turn_X11 rfl (by decide) mw_X11_turn_1 rfl rfl dX11_turn_20 ?_
    refine z_getN C (Cn := RX10) (T := TX10) (N := 13) (ci := 9) (tR20_7 h0).2 3 (tE21 (tR20_7 h0).1) in_X11_turn_X10 rfl (by decide) (List.mem_of_getElem? (i := 6) rfl) rfl rfl dX11_turn_23 ?_
    refine z_iload_n C 1 (by rfl) dX11_turn_26 ?_
    obtain ⟨s25, hw⟩ := hw
    refine z_zald C (tR21_3 (tR20_7 h0)).2 (tE12 (tR21_3 (tR20_7 h0)).1) s25 dX11_turn_27 ?_
    refine z_if_eq (tgt := 42) C dX11_turn_28 (by decide) (fun c26 => ?_) (fun c26 => ?_)
    · have hw := hw.1 c26
      refine z_iconst C 0 (by decide) dX11_turn_42 ?_
      refine z_istore_n C [(2, .int 0), (0, .ref (w.1 i0)), (1, .int x1)] dX11_turn_43 (by decide) rfl ?_
      refine z_aload_n C 1 (by rfl) dX11_turn_44 ?_
      refine z_get C (Cn := RX11) (T := TX11) (N := 10) (ci := 10) h0.2 7 (tE20 h0.1) in_X11_turn_X11 rfl (by decide) mw_X11_turn_1 rfl rfl dX11_turn_45 ?_
      refine z_getN C (Cn := RX10) (T := TX10) (N := 13) (ci := 9) (tR20_7 h0).2 3 (tE21 (tR20_7 h0).1) in_X11_turn_X10 rfl (by decide) (List.mem_of_getElem? (i := 6) rfl) rfl rfl dX11_turn_48 ?_
      refine z_iload_n C 2 (by rfl) dX11_turn_51 ?_
      refine z_aload_n C 1 (by rfl) dX11_turn_52 ?_
      refine z_get C (Cn := RX11) (T := TX11) (N := 10) (ci := 10) h0.2 7 (tE20 h0.1) in_X11_turn_X11 rfl (by decide) mw_X11_turn_1 rfl rfl dX11_turn_53 ?_
      refine z_getN C (Cn := RX10) (T := TX10) (N := 13) (ci := 9) (tR20_7 h0).2 3 (tE21 (tR20_7 h0).1) in_X11_turn_X10 rfl (by decide) (List.mem_of_getElem? (i := 6) rfl) rfl rfl dX11_turn_56 ?_
      refine z_iload_n C 2 (by rfl) dX11_turn_59 ?_
      obtain ⟨s27, hw⟩ := hw
      refine z_zald C (tR21_3 (tR20_7 h0)).2 (tE12 (tR21_3 (tR20_7 h0)).1) s27 dX11_turn_60 ?_
      refine z_if_ne (tgt := 68) C dX11_turn_61 (by decide) (fun c28 => ?_) (fun c28 => ?_)
      · have hw := hw.1 c28
        refine z_iconst C 0 (by decide) dX11_turn_68 ?_
        obtain ⟨s29, hw⟩ := hw
        refine z_zast C (tR21_3 (tR20_7 h0)).2 (fun _ => tE12 (tR21_3 (tR20_7 h0)).1) s29 tp_z0.2.2 dX11_turn_69 (fun τ30 eτ30 => ?_)
        have hw := hw τ30 eτ30
        refine z_aload_n C 1 (by rfl) dX11_turn_70 ?_
        refine z_get C (Cn := RX11) (T := TX11) (N := 10) (ci := 10) h0.2 7 (tE20 h0.1) in_X11_turn_X11 rfl (by decide) mw_X11_turn_1 rfl rfl dX11_turn_71 ?_
        refine z_iconst C (-1) (by decide) dX11_turn_74 ?_
        refine zv_v C (As := [.int (-1)]) (bytes := cX10_routes) (maxL := 6) (F1 := 1) (L1 := 23) (c_X10_routes w _ 239 (-1) _ (tR20_7 h0) hw) (tR20_7 h0).2 (tE21 (tR20_7 h0).1) rfl 1 gX11_turn_X10_routes rfl (by decide +kernel) ⟨Nat.le_of_ble_eq_true rfl, Nat.le_of_ble_eq_true rfl⟩ rfl (Nat.le_of_ble_eq_true rfl) ⟨Nat.le_of_ble_eq_true rfl, Nat.le_of_ble_eq_true rfl⟩ rfl dX11_turn_75 (fun τ31 hw => ?_)
        refine z_iload_n C 0 (by rfl) dX11_turn_78 ?_
        exact hR _ _ _ _ dX11_turn_79 hw
      · have hw := hw.2 c28
        refine z_iconst C 1 (by decide) dX11_turn_64 ?_
        refine z_goto (tgt := 69) C dX11_turn_65 (by decide) ?_
        obtain ⟨s32, hw⟩ := hw
        refine z_zast C (tR21_3 (tR20_7 h0)).2 (fun _ => tE12 (tR21_3 (tR20_7 h0)).1) s32 tp_z1.2.2 dX11_turn_69 (fun τ33 eτ33 => ?_)
        have hw := hw τ33 eτ33
        refine z_aload_n C 1 (by rfl) dX11_turn_70 ?_
        refine z_get C (Cn := RX11) (T := TX11) (N := 10) (ci := 10) h0.2 7 (tE20 h0.1) in_X11_turn_X11 rfl (by decide) mw_X11_turn_1 rfl rfl dX11_turn_71 ?_
        refine z_iconst C (-1) (by decide) dX11_turn_74 ?_
        refine zv_v C (As := [.int (-1)]) (bytes := cX10_routes) (maxL := 6) (F1 := 1) (L1 := 23) (c_X10_routes w _ 239 (-1) _ (tR20_7 h0) hw) (tR20_7 h0).2 (tE21 (tR20_7 h0).1) rfl 1 gX11_turn_X10_routes rfl (by decide +kernel) ⟨Nat.le_of_ble_eq_true rfl, Nat.le_of_ble_eq_true rfl⟩ rfl (Nat.le_of_ble_eq_true rfl) ⟨Nat.le_of_ble_eq_true rfl, Nat.le_of_ble_eq_true rfl⟩ rfl dX11_turn_75 (fun τ34 hw => ?_)
        refine z_iload_n C 0 (by rfl) dX11_turn_78 ?_
        exact hR _ _ _ _ dX11_turn_79 hw
    · have hw := hw.2 c26
      refine z_aload_n C 0 (by rfl) dX11_turn_31 ?_
      refine z_get C (Cn := RX11) (T := TX11) (N := 10) (ci := 10) h0.2 7 (tE20 h0.1) in_X11_turn_X11 rfl (by decide) mw_X11_turn_1 rfl rfl dX11_turn_32 ?_
      refine z_iload_n C 1 (by rfl) dX11_turn_35 ?_
      exact hw.elim
  · have hw := hw.2 c24
    refine z_aload_n C 0 (by rfl) dX11_turn_13 ?_
    refine z_iconst C 1 (by decide) dX11_turn_14 ?_
    refine zv_i C (As := [.int 1]) (bytes := cX11_refuse) (maxL := 2) (F1 := 0) (L1 := 0) (c_X11_refuse w _ i0 1 _ h0 hw) h0.2 (tE20 h0.1) rfl 1 gX11_turn_X11_refuse rfl (by decide +kernel) ⟨Nat.le_of_ble_eq_true rfl, Nat.le_of_ble_eq_true rfl⟩ rfl (Nat.le_of_ble_eq_true rfl) ⟨Nat.le_of_ble_eq_true rfl, Nat.le_of_ble_eq_true rfl⟩ rfl dX11_turn_15 (fun x36 τ35 hw => ?_)
    exact hR _ _ _ _ dX11_turn_18 hw
def wp_X11_lose (τ : TS) (i0 : Nat) (x1 : Int32) (x2 : Int32) (x3 : Int32) (K : TS → Int32 → Prop) : Prop :=
  ∀ τ21 : TS, τ21 = tp_up τ i0 0 0 → wp_X11_isLink τ21 i0 x1 (fun τ22 x23 => ((x23 = 0) → (wp_X11_refuse τ22 i0 1 (fun τ25 x26 => K τ25 x26))) ∧ ((¬ x23 = 0) → (wp_X11_is τ22 x2 0 1 (fun τ27 x28 => ((¬ x28 = 0) → (wp_X11_is τ27 x3 0 9 (fun τ30 x31 => ((¬ x31 = 0) → (vp_in ((2 * x1) + x2) 24 ∧ (∀ x34 : Int32, x34 = (τ30 (239 + 14) (Int32.toNatClampNeg ((2 * x1) + x2))) → vp_in ((2 * x1) + x2) 24 ∧ (∀ τ36 : TS, τ36 = tp_up τ30 (239 + 14) (Int32.toNatClampNeg ((2 * x1) + x2)) x3 → K τ36 x34)))) ∧ ((x31 = 0) → (wp_X11_refuse τ30 i0 2 (fun τ37 x38 => K τ37 x38)))))) ∧ ((x28 = 0) → (wp_X11_refuse τ27 i0 1 (fun τ39 x40 => K τ39 x40)))))))
theorem mw_X11_lose_0 : Cond.fieldLink RX11 34 "TidePostModel" "thrown" "I" ∈ wsX11_lose := List.mem_of_getElem? (i := 1) rfl
theorem mw_X11_lose_1 : Cond.fieldLink RX11 27 "TidePostModel" "now" "LTidePostModel$State;" ∈ wsX11_lose := List.mem_of_getElem? (i := 2) rfl
theorem in_X11_lose_X11 : ∀ x ∈ wsX110, x ∈ wsX11_lose := fun _ h => List.mem_cons_of_mem _ (List.mem_append_left _ (List.mem_append_right _ h))
theorem in_X11_lose_X10 : ∀ x ∈ wsX100, x ∈ wsX11_lose := fun _ h => List.mem_cons_of_mem _ (List.mem_append_right _ h)
set_option maxHeartbeats 4000000 in
set_option maxRecDepth 100000 in
theorem c_X11_lose (w : WPar) (τ : TS) (i0 : Nat) (x1 : Int32) (x2 : Int32) (x3 : Int32) (K : TS → Int32 → Prop) (h0 : tp_is w i0 20) (hw : wp_X11_lose τ i0 x1 x2 x3 K) : MI w yX11_lose wsX11_lose 2 43 [.ref (w.1 i0), .int x1, .int x2, .int x3] τ K := by
  refine tp_enterI (cc := cX11_lose) (maxL := 5) (own := RX11) (by decide) rfl rfl (Nat.le_of_ble_eq_true rfl) (fun g C hR => ?_)
  show Zt w g τ (0, 0) 0 [(0, .ref (w.1 i0)), (1, .int x1), (2, .int x2), (3, .int x3)] []
  unfold wp_X11_lose at hw
  refine z_aload_n C 0 (by rfl) dX11_lose_0 ?_
  refine z_iconst C 0 (by decide) dX11_lose_1 ?_
  refine z_put C (Cn := RX11) (T := TX11) (N := 10) (ci := 10) h0.2 0 (tE20 h0.1) (tS20_0 h0.1 _) in_X11_lose_X11 tyX11 tyX11_ok nmX11 rfl (by decide) mw_X11_lose_0 rfl rfl (tyX11_ok 0 (by decide)) rfl rfl (Nat.le_of_ble_eq_true rfl) dX11_lose_2 (fun τ21 eτ21 => ?_)
  have hw := hw τ21 eτ21
  refine z_aload_n C 0 (by rfl) dX11_lose_5 ?_
  refine z_iload_n C 1 (by rfl) dX11_lose_6 ?_
  refine zv_i C (As := [.int x1]) (bytes := cX11_isLink) (maxL := 2) (F1 := 1) (L1 := 22) (c_X11_isLink w _ i0 x1 _ h0 hw) h0.2 (tE20 h0.1) rfl 1 gX11_lose_X11_isLink rfl (by decide +kernel) ⟨Nat.le_of_ble_eq_true rfl, Nat.le_of_ble_eq_true rfl⟩ rfl (Nat.le_of_ble_eq_true rfl) ⟨Nat.le_of_ble_eq_true rfl, Nat.le_of_ble_eq_true rfl⟩ rfl dX11_lose_7 (fun x23 τ22 hw => ?_)
  refine z_if_eq (tgt := 22) C dX11_lose_10 (by decide) (fun c24 => ?_) (fun c24 => ?_)
  · have hw := hw.1 c24
    refine z_aload_n C 0 (by rfl) dX11_lose_22 ?_
    refine z_iconst C 1 (by decide) dX11_lose_23 ?_
    refine zv_i C (As := [.int 1]) (bytes := cX11_refuse) (maxL := 2) (F1 := 0) (L1 := 0) (c_X11_refuse w _ i0 1 _ h0 hw) h0.2 (tE20 h0.1) rfl 1 gX11_lose_X11_refuse rfl (by decide +kernel) ⟨Nat.le_of_ble_eq_true rfl, Nat.le_of_ble_eq_true rfl⟩ rfl (Nat.le_of_ble_eq_true rfl) ⟨Nat.le_of_ble_eq_true rfl, Nat.le_of_ble_eq_true rfl⟩ rfl dX11_lose_24 (fun x26 τ25 hw => ?_)
    exact hR _ _ _ _ dX11_lose_27 hw
  · have hw := hw.2 c24
    refine z_iload_n C 2 (by rfl) dX11_lose_13 ?_
    refine z_iconst C 0 (by decide) dX11_lose_14 ?_
    refine z_iconst C 1 (by decide) dX11_lose_15 ?_
    refine zs_i C (As := [.int x2, .int 0, .int 1]) (bytes := cX11_is) (maxL := 3) (F1 := 0) (L1 := 0) (c_X11_is w _ x2 0 1 _  hw) 3 gX11_lose_X11_is rfl (by decide +kernel) ⟨Nat.le_of_ble_eq_true rfl, Nat.le_of_ble_eq_true rfl⟩ rfl (Nat.le_of_ble_eq_true rfl) ⟨Nat.le_of_ble_eq_true rfl, Nat.le_of_ble_eq_true rfl⟩ rfl dX11_lose_16 (fun x28 τ27 hw => ?_)
    refine z_if_ne (tgt := 28) C dX11_lose_19 (by decide) (fun c29 => ?_) (fun c29 => ?_)
    · have hw := hw.1 c29
      refine z_iload_n C 3 (by rfl) dX11_lose_28 ?_
      refine z_iconst C 0 (by decide) dX11_lose_29 ?_
      refine z_bipush C 9 (by decide) dX11_lose_30 ?_
      refine zs_i C (As := [.int x3, .int 0, .int 9]) (bytes := cX11_is) (maxL := 3) (F1 := 0) (L1 := 0) (c_X11_is w _ x3 0 9 _  hw) 3 gX11_lose_X11_is rfl (by decide +kernel) ⟨Nat.le_of_ble_eq_true rfl, Nat.le_of_ble_eq_true rfl⟩ rfl (Nat.le_of_ble_eq_true rfl) ⟨Nat.le_of_ble_eq_true rfl, Nat.le_of_ble_eq_true rfl⟩ rfl dX11_lose_32 (fun x31 τ30 hw => ?_)
      refine z_if_ne (tgt := 44) C dX11_lose_35 (by decide) (fun c32 => ?_) (fun c32 => ?_)
      · have hw := hw.1 c32
        refine z_aload_n C 0 (by rfl) dX11_lose_44 ?_
        refine z_get C (Cn := RX11) (T := TX11) (N := 10) (ci := 10) h0.2 7 (tE20 h0.1) in_X11_lose_X11 rfl (by decide) mw_X11_lose_1 rfl rfl dX11_lose_45 ?_
        refine z_getN C (Cn := RX10) (T := TX10) (N := 13) (ci := 9) (tR20_7 h0).2 8 (tE21 (tR20_7 h0).1) in_X11_lose_X10 rfl (by decide) (List.mem_of_getElem? (i := 10) rfl) rfl rfl dX11_lose_48 ?_
        refine z_iconst C 2 (by decide) dX11_lose_51 ?_
        refine z_iload_n C 1 (by rfl) dX11_lose_52 ?_
        refine z_imul C dX11_lose_53 ?_
        refine z_iload_n C 2 (by rfl) dX11_lose_54 ?_
        refine z_iadd C dX11_lose_55 ?_
        obtain ⟨s33, hw⟩ := hw
        refine z_iald C (tR21_8 (tR20_7 h0)).2 (tE25 (tR21_8 (tR20_7 h0)).1) s33 dX11_lose_56 ?_
        refine z_top (fun x34 ex34 => ?_)
        have hw := hw x34 ex34
        refine z_istore C [(4, .int x34), (0, .ref (w.1 i0)), (1, .int x1), (2, .int x2), (3, .int x3)] dX11_lose_57 (by decide) rfl ?_
        refine z_aload_n C 1 (by rfl) dX11_lose_59 ?_
        refine z_get C (Cn := RX11) (T := TX11) (N := 10) (ci := 10) h0.2 7 (tE20 h0.1) in_X11_lose_X11 rfl (by decide) mw_X11_lose_1 rfl rfl dX11_lose_60 ?_
        refine z_getN C (Cn := RX10) (T := TX10) (N := 13) (ci := 9) (tR20_7 h0).2 8 (tE21 (tR20_7 h0).1) in_X11_lose_X10 rfl (by decide) (List.mem_of_getElem? (i := 10) rfl) rfl rfl dX11_lose_63 ?_
        refine z_iconst C 2 (by decide) dX11_lose_66 ?_
        refine z_iload_n C 2 (by rfl) dX11_lose_67 ?_
        refine z_imul C dX11_lose_68 ?_
        refine z_iload_n C 3 (by rfl) dX11_lose_69 ?_
        refine z_iadd C dX11_lose_70 ?_
        refine z_iload_n C 4 (by rfl) dX11_lose_71 ?_
        obtain ⟨s35, hw⟩ := hw
        refine z_iast C (tR21_8 (tR20_7 h0)).2 (fun _ => tE25 (tR21_8 (tR20_7 h0)).1) s35 dX11_lose_72 (fun τ36 eτ36 => ?_)
        have hw := hw τ36 eτ36
        refine z_iload C 0 (by rfl) dX11_lose_73 ?_
        exact hR _ _ _ _ dX11_lose_75 hw
      · have hw := hw.2 c32
        refine z_aload_n C 0 (by rfl) dX11_lose_38 ?_
        refine z_iconst C 2 (by decide) dX11_lose_39 ?_
        refine zv_i C (As := [.int 2]) (bytes := cX11_refuse) (maxL := 2) (F1 := 0) (L1 := 0) (c_X11_refuse w _ i0 2 _ h0 hw) h0.2 (tE20 h0.1) rfl 1 gX11_lose_X11_refuse rfl (by decide +kernel) ⟨Nat.le_of_ble_eq_true rfl, Nat.le_of_ble_eq_true rfl⟩ rfl (Nat.le_of_ble_eq_true rfl) ⟨Nat.le_of_ble_eq_true rfl, Nat.le_of_ble_eq_true rfl⟩ rfl dX11_lose_40 (fun x38 τ37 hw => ?_)
        exact hR _ _ _ _ dX11_lose_43 hw
    · have hw := hw.2 c29
      refine z_aload_n C 0 (by rfl) dX11_lose_22 ?_
      refine z_iconst C 1 (by decide) dX11_lose_23 ?_
      refine zv_i C (As := [.int 1]) (bytes := cX11_refuse) (maxL := 2) (F1 := 0) (L1 := 0) (c_X11_refuse w _ i0 1 _ h0 hw) h0.2 (tE20 h0.1) rfl 1 gX11_lose_X11_refuse rfl (by decide +kernel) ⟨Nat.le_of_ble_eq_true rfl, Nat.le_of_ble_eq_true rfl⟩ rfl (Nat.le_of_ble_eq_true rfl) ⟨Nat.le_of_ble_eq_true rfl, Nat.le_of_ble_eq_true rfl⟩ rfl dX11_lose_24 (fun x40 τ39 hw => ?_)
      exact hR _ _ _ _ dX11_lose_27 hw
def wp_X11_call (τ : TS) (i0 : Nat) (x1 : Int32) (x2 : Int32) (x3 : Int32) (K : TS → Int32 → Prop) : Prop :=
  ∀ τ21 : TS, τ21 = tp_up τ i0 0 0 → wp_X11_isNode τ21 i0 x1 (fun τ22 x23 => ((x23 = 0) → (wp_X11_refuse τ22 i0 1 (fun τ25 x26 => K τ25 x26))) ∧ ((¬ x23 = 0) → (wp_X11_isNode τ22 i0 x2 (fun τ27 x28 => ((¬ x28 = 0) → (((x1 = x2) → (wp_X11_refuse τ27 i0 2 (fun τ31 x32 => K τ31 x32))) ∧ ((¬ x1 = x2) → (wp_X11_is τ27 x3 1 16 (fun τ33 x34 => ((¬ x34 = 0) → (((¬ (τ33 239 2) = 6) → (∀ x37 : Int32, x37 = (τ33 239 2) → vp_in x37 6 ∧ (∀ τ40 : TS, τ40 = tp_up τ33 ((239 + 15) + 1 + (Int32.toNatClampNeg x37)) (Int32.toNatClampNeg 0) x1 → ∀ τ42 : TS, τ42 = tp_up τ40 ((239 + 15) + 1 + (Int32.toNatClampNeg x37)) (Int32.toNatClampNeg 1) x2 → ∀ τ44 : TS, τ44 = tp_up τ42 ((239 + 15) + 1 + (Int32.toNatClampNeg x37)) (Int32.toNatClampNeg 2) x3 → ∀ τ46 : TS, τ46 = tp_up τ44 ((239 + 15) + 1 + (Int32.toNatClampNeg x37)) (Int32.toNatClampNeg 8) 8 → ∀ τ48 : TS, τ48 = tp_up τ46 ((239 + 15) + 1 + (Int32.toNatClampNeg x37)) (Int32.toNatClampNeg 9) 128 → ∀ τ50 : TS, τ50 = tp_up τ48 ((239 + 15) + 1 + (Int32.toNatClampNeg x37)) (Int32.toNatClampNeg 10) x3 → ∀ τ52 : TS, τ52 = tp_up τ50 ((239 + 15) + 1 + (Int32.toNatClampNeg x37)) (Int32.toNatClampNeg 12) (-1) → ∀ τ54 : TS, τ54 = tp_up τ52 ((239 + 15) + 1 + (Int32.toNatClampNeg x37)) (Int32.toNatClampNeg 15) 12 → ∀ τ56 : TS, τ56 = tp_up τ54 ((239 + 15) + 1 + (Int32.toNatClampNeg x37)) (Int32.toNatClampNeg 17) (-1) → ∀ τ57 : TS, τ57 = tp_up τ56 239 2 ((τ56 239 2) + 1) → False))) ∧ (((τ33 239 2) = 6) → (wp_X11_refuse τ33 i0 3 (fun τ58 x59 => K τ58 x59))))) ∧ ((x34 = 0) → (wp_X11_refuse τ33 i0 2 (fun τ60 x61 => K τ60 x61)))))))) ∧ ((x28 = 0) → (wp_X11_refuse τ27 i0 1 (fun τ62 x63 => K τ62 x63)))))))
theorem mw_X11_call_0 : Cond.fieldLink RX11 34 "TidePostModel" "thrown" "I" ∈ wsX11_call := List.mem_of_getElem? (i := 1) rfl
theorem mw_X11_call_1 : Cond.fieldLink RX11 27 "TidePostModel" "now" "LTidePostModel$State;" ∈ wsX11_call := List.mem_of_getElem? (i := 2) rfl
theorem in_X11_call_X11 : ∀ x ∈ wsX110, x ∈ wsX11_call := fun _ h => List.mem_cons_of_mem _ (List.mem_append_left _ (List.mem_append_left _ (List.mem_append_right _ h)))
theorem in_X11_call_X10 : ∀ x ∈ wsX100, x ∈ wsX11_call := fun _ h => List.mem_cons_of_mem _ (List.mem_append_left _ (List.mem_append_right _ h))
set_option maxHeartbeats 4000000 in
set_option maxRecDepth 100000 in
theorem c_X11_call (w : WPar) (τ : TS) (i0 : Nat) (x1 : Int32) (x2 : Int32) (x3 : Int32) (K : TS → Int32 → Prop) (h0 : tp_is w i0 20) (hw : wp_X11_call τ i0 x1 x2 x3 K) : MI w yX11_call wsX11_call 2 43 [.ref (w.1 i0), .int x1, .int x2, .int x3] τ K := by
  refine tp_enterI (cc := cX11_call) (maxL := 6) (own := RX11) (by decide) rfl rfl (Nat.le_of_ble_eq_true rfl) (fun g C hR => ?_)
  show Zt w g τ (0, 0) 0 [(0, .ref (w.1 i0)), (1, .int x1), (2, .int x2), (3, .int x3)] []
  unfold wp_X11_call at hw
  refine z_aload_n C 0 (by rfl) dX11_call_0 ?_
  refine z_iconst C 0 (by decide) dX11_call_1 ?_
  refine z_put C (Cn := RX11) (T := TX11) (N := 10) (ci := 10) h0.2 0 (tE20 h0.1) (tS20_0 h0.1 _) in_X11_call_X11 tyX11 tyX11_ok nmX11 rfl (by decide) mw_X11_call_0 rfl rfl (tyX11_ok 0 (by decide)) rfl rfl (Nat.le_of_ble_eq_true rfl) dX11_call_2 (fun τ21 eτ21 => ?_)
  have hw := hw τ21 eτ21
  refine z_aload_n C 0 (by rfl) dX11_call_5 ?_
  refine z_iload_n C 1 (by rfl) dX11_call_6 ?_
  refine zv_i C (As := [.int x1]) (bytes := cX11_isNode) (maxL := 2) (F1 := 1) (L1 := 22) (c_X11_isNode w _ i0 x1 _ h0 hw) h0.2 (tE20 h0.1) rfl 1 gX11_call_X11_isNode rfl (by decide +kernel) ⟨Nat.le_of_ble_eq_true rfl, Nat.le_of_ble_eq_true rfl⟩ rfl (Nat.le_of_ble_eq_true rfl) ⟨Nat.le_of_ble_eq_true rfl, Nat.le_of_ble_eq_true rfl⟩ rfl dX11_call_7 (fun x23 τ22 hw => ?_)
  refine z_if_eq (tgt := 21) C dX11_call_10 (by decide) (fun c24 => ?_) (fun c24 => ?_)
  · have hw := hw.1 c24
    refine z_aload_n C 0 (by rfl) dX11_call_21 ?_
    refine z_iconst C 1 (by decide) dX11_call_22 ?_
    refine zv_i C (As := [.int 1]) (bytes := cX11_refuse) (maxL := 2) (F1 := 0) (L1 := 0) (c_X11_refuse w _ i0 1 _ h0 hw) h0.2 (tE20 h0.1) rfl 1 gX11_call_X11_refuse rfl (by decide +kernel) ⟨Nat.le_of_ble_eq_true rfl, Nat.le_of_ble_eq_true rfl⟩ rfl (Nat.le_of_ble_eq_true rfl) ⟨Nat.le_of_ble_eq_true rfl, Nat.le_of_ble_eq_true rfl⟩ rfl dX11_call_23 (fun x26 τ25 hw => ?_)
    exact hR _ _ _ _ dX11_call_26 hw
  · have hw := hw.2 c24
    refine z_aload_n C 0 (by rfl) dX11_call_13 ?_
    refine z_iload_n C 2 (by rfl) dX11_call_14 ?_
    refine zv_i C (As := [.int x2]) (bytes := cX11_isNode) (maxL := 2) (F1 := 1) (L1 := 22) (c_X11_isNode w _ i0 x2 _ h0 hw) h0.2 (tE20 h0.1) rfl 1 gX11_call_X11_isNode rfl (by decide +kernel) ⟨Nat.le_of_ble_eq_true rfl, Nat.le_of_ble_eq_true rfl⟩ rfl (Nat.le_of_ble_eq_true rfl) ⟨Nat.le_of_ble_eq_true rfl, Nat.le_of_ble_eq_true rfl⟩ rfl dX11_call_15 (fun x28 τ27 hw => ?_)
    refine z_if_ne (tgt := 27) C dX11_call_18 (by decide) (fun c29 => ?_) (fun c29 => ?_)
    · have hw := hw.1 c29
      refine z_iload_n C 1 (by rfl) dX11_call_27 ?_
      refine z_iload_n C 2 (by rfl) dX11_call_28 ?_
      refine z_icmp_eq (tgt := 42) C dX11_call_29 (by decide) (fun c30 => ?_) (fun c30 => ?_)
      · have hw := hw.1 c30
        refine z_aload_n C 0 (by rfl) dX11_call_42 ?_
        refine z_iconst C 2 (by decide) dX11_call_43 ?_
        refine zv_i C (As := [.int 2]) (bytes := cX11_refuse) (maxL := 2) (F1 := 0) (L1 := 0) (c_X11_refuse w _ i0 2 _ h0 hw) h0.2 (tE20 h0.1) rfl 1 gX11_call_X11_refuse rfl (by decide +kernel) ⟨Nat.le_of_ble_eq_true rfl, Nat.le_of_ble_eq_true rfl⟩ rfl (Nat.le_of_ble_eq_true rfl) ⟨Nat.le_of_ble_eq_true rfl, Nat.le_of_ble_eq_true rfl⟩ rfl dX11_call_44 (fun x32 τ31 hw => ?_)
        exact hR _ _ _ _ dX11_call_47 hw
      · have hw := hw.2 c30
        refine z_iload_n C 3 (by rfl) dX11_call_32 ?_
        refine z_iconst C 1 (by decide) dX11_call_33 ?_
        refine z_bipush C 16 (by decide) dX11_call_34 ?_
        refine zs_i C (As := [.int x3, .int 1, .int 16]) (bytes := cX11_is) (maxL := 3) (F1 := 0) (L1 := 0) (c_X11_is w _ x3 1 16 _  hw) 3 gX11_call_X11_is rfl (by decide +kernel) ⟨Nat.le_of_ble_eq_true rfl, Nat.le_of_ble_eq_true rfl⟩ rfl (Nat.le_of_ble_eq_true rfl) ⟨Nat.le_of_ble_eq_true rfl, Nat.le_of_ble_eq_true rfl⟩ rfl dX11_call_36 (fun x34 τ33 hw => ?_)
        refine z_if_ne (tgt := 48) C dX11_call_39 (by decide) (fun c35 => ?_) (fun c35 => ?_)
        · have hw := hw.1 c35
          refine z_aload_n C 0 (by rfl) dX11_call_48 ?_
          refine z_get C (Cn := RX11) (T := TX11) (N := 10) (ci := 10) h0.2 7 (tE20 h0.1) in_X11_call_X11 rfl (by decide) mw_X11_call_1 rfl rfl dX11_call_49 ?_
          refine z_getN C (Cn := RX10) (T := TX10) (N := 13) (ci := 9) (tR20_7 h0).2 2 (tE21 (tR20_7 h0).1) in_X11_call_X10 rfl (by decide) (List.mem_of_getElem? (i := 5) rfl) rfl rfl dX11_call_52 ?_
          refine z_bipush C 6 (by decide) dX11_call_55 ?_
          refine z_icmp_ne (tgt := 66) C dX11_call_57 (by decide) (fun c36 => ?_) (fun c36 => ?_)
          · have hw := hw.1 c36
            refine z_aload_n C 0 (by rfl) dX11_call_66 ?_
            refine z_get C (Cn := RX11) (T := TX11) (N := 10) (ci := 10) h0.2 7 (tE20 h0.1) in_X11_call_X11 rfl (by decide) mw_X11_call_1 rfl rfl dX11_call_67 ?_
            refine z_getN C (Cn := RX10) (T := TX10) (N := 13) (ci := 9) (tR20_7 h0).2 2 (tE21 (tR20_7 h0).1) in_X11_call_X10 rfl (by decide) (List.mem_of_getElem? (i := 5) rfl) rfl rfl dX11_call_70 ?_
            refine z_top (fun x37 ex37 => ?_)
            have hw := hw x37 ex37
            refine z_istore C [(4, .int x37), (0, .ref (w.1 i0)), (1, .int x1), (2, .int x2), (3, .int x3)] dX11_call_73 (by decide) rfl ?_
            refine z_aload_n C 1 (by rfl) dX11_call_75 ?_
            refine z_get C (Cn := RX11) (T := TX11) (N := 10) (ci := 10) h0.2 7 (tE20 h0.1) in_X11_call_X11 rfl (by decide) mw_X11_call_1 rfl rfl dX11_call_76 ?_
            refine z_getN C (Cn := RX10) (T := TX10) (N := 13) (ci := 9) (tR20_7 h0).2 9 (tE21 (tR20_7 h0).1) in_X11_call_X10 rfl (by decide) (List.mem_of_getElem? (i := 11) rfl) rfl rfl dX11_call_79 ?_
            refine z_iload C 0 (by rfl) dX11_call_82 ?_
            obtain ⟨s38, hw⟩ := hw
            refine z_aald_q4 C (tR21_9 (tR20_7 h0)).2 (tE26 (tR21_9 (tR20_7 h0)).1) s38 (if_pos (tp_lt s38)) dX11_call_84 ?_
            refine z_astore C [(5, .ref (w.1 ((239 + 15) + 1 + (Int32.toNatClampNeg x37)))), (4, .int x37), (0, .ref (w.1 i0)), (1, .int x1), (2, .int x2), (3, .int x3)] dX11_call_85 (by decide) rfl ?_
            refine z_aload C 0 (by rfl) dX11_call_87 ?_
            refine z_iconst C 0 (by decide) dX11_call_89 ?_
            refine z_iload_n C 3 (by rfl) dX11_call_90 ?_
            have s39 : vp_in 0 23 := by unfold vp_in; decide
            refine z_iast C (tR26 (tR21_9 (tR20_7 h0)) (tp_lt s38)).2 (fun _ => tE27 (tR26 (tR21_9 (tR20_7 h0)) (tp_lt s38)).1) s39 dX11_call_91 (fun τ40 eτ40 => ?_)
            have hw := hw τ40 eτ40
            refine z_aload C 0 (by rfl) dX11_call_92 ?_
            refine z_iconst C 1 (by decide) dX11_call_94 ?_
            refine z_iload_n C 4 (by rfl) dX11_call_95 ?_
            have s41 : vp_in 1 23 := by unfold vp_in; decide
            refine z_iast C (tR26 (tR21_9 (tR20_7 h0)) (tp_lt s38)).2 (fun _ => tE27 (tR26 (tR21_9 (tR20_7 h0)) (tp_lt s38)).1) s41 dX11_call_96 (fun τ42 eτ42 => ?_)
            have hw := hw τ42 eτ42
            refine z_aload C 0 (by rfl) dX11_call_97 ?_
            refine z_iconst C 2 (by decide) dX11_call_99 ?_
            refine z_iload_n C 5 (by rfl) dX11_call_100 ?_
            have s43 : vp_in 2 23 := by unfold vp_in; decide
            refine z_iast C (tR26 (tR21_9 (tR20_7 h0)) (tp_lt s38)).2 (fun _ => tE27 (tR26 (tR21_9 (tR20_7 h0)) (tp_lt s38)).1) s43 dX11_call_101 (fun τ44 eτ44 => ?_)
            have hw := hw τ44 eτ44
            refine z_aload C 0 (by rfl) dX11_call_102 ?_
            refine z_bipush C 8 (by decide) dX11_call_104 ?_
            refine z_bipush C 8 (by decide) dX11_call_106 ?_
            have s45 : vp_in 8 23 := by unfold vp_in; decide
            refine z_iast C (tR26 (tR21_9 (tR20_7 h0)) (tp_lt s38)).2 (fun _ => tE27 (tR26 (tR21_9 (tR20_7 h0)) (tp_lt s38)).1) s45 dX11_call_108 (fun τ46 eτ46 => ?_)
            have hw := hw τ46 eτ46
            refine z_aload C 0 (by rfl) dX11_call_109 ?_
            refine z_bipush C 9 (by decide) dX11_call_111 ?_
            refine z_sipush C 128 (by decide) dX11_call_113 ?_
            have s47 : vp_in 9 23 := by unfold vp_in; decide
            refine z_iast C (tR26 (tR21_9 (tR20_7 h0)) (tp_lt s38)).2 (fun _ => tE27 (tR26 (tR21_9 (tR20_7 h0)) (tp_lt s38)).1) s47 dX11_call_116 (fun τ48 eτ48 => ?_)
            have hw := hw τ48 eτ48
            refine z_aload C 0 (by rfl) dX11_call_117 ?_
            refine z_bipush C 10 (by decide) dX11_call_119 ?_
            refine z_iload_n C 5 (by rfl) dX11_call_121 ?_
            have s49 : vp_in 10 23 := by unfold vp_in; decide
            refine z_iast C (tR26 (tR21_9 (tR20_7 h0)) (tp_lt s38)).2 (fun _ => tE27 (tR26 (tR21_9 (tR20_7 h0)) (tp_lt s38)).1) s49 dX11_call_122 (fun τ50 eτ50 => ?_)
            have hw := hw τ50 eτ50
            refine z_aload C 0 (by rfl) dX11_call_123 ?_
            refine z_bipush C 12 (by decide) dX11_call_125 ?_
            refine z_iconst C (-1) (by decide) dX11_call_127 ?_
            have s51 : vp_in 12 23 := by unfold vp_in; decide
            refine z_iast C (tR26 (tR21_9 (tR20_7 h0)) (tp_lt s38)).2 (fun _ => tE27 (tR26 (tR21_9 (tR20_7 h0)) (tp_lt s38)).1) s51 dX11_call_128 (fun τ52 eτ52 => ?_)
            have hw := hw τ52 eτ52
            refine z_aload C 0 (by rfl) dX11_call_129 ?_
            refine z_bipush C 15 (by decide) dX11_call_131 ?_
            refine z_bipush C 12 (by decide) dX11_call_133 ?_
            have s53 : vp_in 15 23 := by unfold vp_in; decide
            refine z_iast C (tR26 (tR21_9 (tR20_7 h0)) (tp_lt s38)).2 (fun _ => tE27 (tR26 (tR21_9 (tR20_7 h0)) (tp_lt s38)).1) s53 dX11_call_135 (fun τ54 eτ54 => ?_)
            have hw := hw τ54 eτ54
            refine z_aload C 0 (by rfl) dX11_call_136 ?_
            refine z_bipush C 17 (by decide) dX11_call_138 ?_
            refine z_iconst C (-1) (by decide) dX11_call_140 ?_
            have s55 : vp_in 17 23 := by unfold vp_in; decide
            refine z_iast C (tR26 (tR21_9 (tR20_7 h0)) (tp_lt s38)).2 (fun _ => tE27 (tR26 (tR21_9 (tR20_7 h0)) (tp_lt s38)).1) s55 dX11_call_141 (fun τ56 eτ56 => ?_)
            have hw := hw τ56 eτ56
            refine z_aload_n C 2 (by rfl) dX11_call_142 ?_
            refine z_get C (Cn := RX11) (T := TX11) (N := 10) (ci := 10) h0.2 7 (tE20 h0.1) in_X11_call_X11 rfl (by decide) mw_X11_call_1 rfl rfl dX11_call_143 ?_
            refine z_dup C rfl dX11_call_146 ?_
            refine z_getN C (Cn := RX10) (T := TX10) (N := 13) (ci := 9) (tR20_7 h0).2 2 (tE21 (tR20_7 h0).1) in_X11_call_X10 rfl (by decide) (List.mem_of_getElem? (i := 5) rfl) rfl rfl dX11_call_147 ?_
            refine z_iconst C 1 (by decide) dX11_call_150 ?_
            refine z_iadd C dX11_call_151 ?_
            refine z_putN C (Cn := RX10) (T := TX10) (N := 13) (ci := 9) (tR20_7 h0).2 2 (tE21 (tR20_7 h0).1) (tS21_2 (tR20_7 h0).1 _) in_X11_call_X10 tyX10 tyX10_ok nmX10 rfl (by decide) (List.mem_of_getElem? (i := 5) rfl) rfl rfl (tyX10_ok 2 (by decide)) rfl rfl (Nat.le_of_ble_eq_true rfl) dX11_call_152 (fun τ57 eτ57 => ?_)
            have hw := hw τ57 eτ57
            refine z_aload_n C 2 (by rfl) dX11_call_155 ?_
            refine z_get C (Cn := RX11) (T := TX11) (N := 10) (ci := 10) h0.2 7 (tE20 h0.1) in_X11_call_X11 rfl (by decide) mw_X11_call_1 rfl rfl dX11_call_156 ?_
            refine z_iload C 1 (by rfl) dX11_call_159 ?_
            exact hw.elim
          · have hw := hw.2 c36
            refine z_aload_n C 0 (by rfl) dX11_call_60 ?_
            refine z_iconst C 3 (by decide) dX11_call_61 ?_
            refine zv_i C (As := [.int 3]) (bytes := cX11_refuse) (maxL := 2) (F1 := 0) (L1 := 0) (c_X11_refuse w _ i0 3 _ h0 hw) h0.2 (tE20 h0.1) rfl 1 gX11_call_X11_refuse rfl (by decide +kernel) ⟨Nat.le_of_ble_eq_true rfl, Nat.le_of_ble_eq_true rfl⟩ rfl (Nat.le_of_ble_eq_true rfl) ⟨Nat.le_of_ble_eq_true rfl, Nat.le_of_ble_eq_true rfl⟩ rfl dX11_call_62 (fun x59 τ58 hw => ?_)
            exact hR _ _ _ _ dX11_call_65 hw
        · have hw := hw.2 c35
          refine z_aload_n C 0 (by rfl) dX11_call_42 ?_
          refine z_iconst C 2 (by decide) dX11_call_43 ?_
          refine zv_i C (As := [.int 2]) (bytes := cX11_refuse) (maxL := 2) (F1 := 0) (L1 := 0) (c_X11_refuse w _ i0 2 _ h0 hw) h0.2 (tE20 h0.1) rfl 1 gX11_call_X11_refuse rfl (by decide +kernel) ⟨Nat.le_of_ble_eq_true rfl, Nat.le_of_ble_eq_true rfl⟩ rfl (Nat.le_of_ble_eq_true rfl) ⟨Nat.le_of_ble_eq_true rfl, Nat.le_of_ble_eq_true rfl⟩ rfl dX11_call_44 (fun x61 τ60 hw => ?_)
          exact hR _ _ _ _ dX11_call_47 hw
    · have hw := hw.2 c29
      refine z_aload_n C 0 (by rfl) dX11_call_21 ?_
      refine z_iconst C 1 (by decide) dX11_call_22 ?_
      refine zv_i C (As := [.int 1]) (bytes := cX11_refuse) (maxL := 2) (F1 := 0) (L1 := 0) (c_X11_refuse w _ i0 1 _ h0 hw) h0.2 (tE20 h0.1) rfl 1 gX11_call_X11_refuse rfl (by decide +kernel) ⟨Nat.le_of_ble_eq_true rfl, Nat.le_of_ble_eq_true rfl⟩ rfl (Nat.le_of_ble_eq_true rfl) ⟨Nat.le_of_ble_eq_true rfl, Nat.le_of_ble_eq_true rfl⟩ rfl dX11_call_23 (fun x63 τ62 hw => ?_)
      exact hR _ _ _ _ dX11_call_26 hw
def wp_X11_give (τ : TS) (i0 : Nat) (x1 : Int32) (x2 : Int32) (x3 : Int32) (K : TS → Int32 → Prop) : Prop :=
  ∀ τ21 : TS, τ21 = tp_up τ i0 0 0 → wp_X11_isCall τ21 i0 x1 (fun τ22 x23 => ((¬ x23 = 0) → (wp_X11_is τ22 x3 1 50 (fun τ25 x26 => ((¬ x26 = 0) → (vp_in x1 6 ∧ (False))) ∧ ((x26 = 0) → (wp_X11_refuse τ25 i0 2 (fun τ29 x30 => K τ29 x30)))))) ∧ ((x23 = 0) → (wp_X11_refuse τ22 i0 1 (fun τ31 x32 => K τ31 x32))))
theorem mw_X11_give_0 : Cond.fieldLink RX11 34 "TidePostModel" "thrown" "I" ∈ wsX11_give := List.mem_of_getElem? (i := 1) rfl
theorem mw_X11_give_1 : Cond.fieldLink RX11 27 "TidePostModel" "now" "LTidePostModel$State;" ∈ wsX11_give := List.mem_of_getElem? (i := 2) rfl
theorem in_X11_give_X11 : ∀ x ∈ wsX110, x ∈ wsX11_give := fun _ h => List.mem_cons_of_mem _ (List.mem_append_left _ (List.mem_append_right _ h))
theorem in_X11_give_X10 : ∀ x ∈ wsX100, x ∈ wsX11_give := fun _ h => List.mem_cons_of_mem _ (List.mem_append_right _ h)
set_option maxHeartbeats 4000000 in
set_option maxRecDepth 100000 in
theorem c_X11_give (w : WPar) (τ : TS) (i0 : Nat) (x1 : Int32) (x2 : Int32) (x3 : Int32) (K : TS → Int32 → Prop) (h0 : tp_is w i0 20) (hw : wp_X11_give τ i0 x1 x2 x3 K) : MI w yX11_give wsX11_give 2 43 [.ref (w.1 i0), .int x1, .int x2, .int x3] τ K := by
  refine tp_enterI (cc := cX11_give) (maxL := 6) (own := RX11) (by decide) rfl rfl (Nat.le_of_ble_eq_true rfl) (fun g C hR => ?_)
  show Zt w g τ (0, 0) 0 [(0, .ref (w.1 i0)), (1, .int x1), (2, .int x2), (3, .int x3)] []
  unfold wp_X11_give at hw
  refine z_aload_n C 0 (by rfl) dX11_give_0 ?_
  refine z_iconst C 0 (by decide) dX11_give_1 ?_
  refine z_put C (Cn := RX11) (T := TX11) (N := 10) (ci := 10) h0.2 0 (tE20 h0.1) (tS20_0 h0.1 _) in_X11_give_X11 tyX11 tyX11_ok nmX11 rfl (by decide) mw_X11_give_0 rfl rfl (tyX11_ok 0 (by decide)) rfl rfl (Nat.le_of_ble_eq_true rfl) dX11_give_2 (fun τ21 eτ21 => ?_)
  have hw := hw τ21 eτ21
  refine z_aload_n C 0 (by rfl) dX11_give_5 ?_
  refine z_iload_n C 1 (by rfl) dX11_give_6 ?_
  refine zv_i C (As := [.int x1]) (bytes := cX11_isCall) (maxL := 2) (F1 := 1) (L1 := 22) (c_X11_isCall w _ i0 x1 _ h0 hw) h0.2 (tE20 h0.1) rfl 1 gX11_give_X11_isCall rfl (by decide +kernel) ⟨Nat.le_of_ble_eq_true rfl, Nat.le_of_ble_eq_true rfl⟩ rfl (Nat.le_of_ble_eq_true rfl) ⟨Nat.le_of_ble_eq_true rfl, Nat.le_of_ble_eq_true rfl⟩ rfl dX11_give_7 (fun x23 τ22 hw => ?_)
  refine z_if_ne (tgt := 19) C dX11_give_10 (by decide) (fun c24 => ?_) (fun c24 => ?_)
  · have hw := hw.1 c24
    refine z_iload_n C 3 (by rfl) dX11_give_19 ?_
    refine z_iconst C 1 (by decide) dX11_give_20 ?_
    refine z_bipush C 50 (by decide) dX11_give_21 ?_
    refine zs_i C (As := [.int x3, .int 1, .int 50]) (bytes := cX11_is) (maxL := 3) (F1 := 0) (L1 := 0) (c_X11_is w _ x3 1 50 _  hw) 3 gX11_give_X11_is rfl (by decide +kernel) ⟨Nat.le_of_ble_eq_true rfl, Nat.le_of_ble_eq_true rfl⟩ rfl (Nat.le_of_ble_eq_true rfl) ⟨Nat.le_of_ble_eq_true rfl, Nat.le_of_ble_eq_true rfl⟩ rfl dX11_give_23 (fun x26 τ25 hw => ?_)
    refine z_if_ne (tgt := 35) C dX11_give_26 (by decide) (fun c27 => ?_) (fun c27 => ?_)
    · have hw := hw.1 c27
      refine z_aload_n C 0 (by rfl) dX11_give_35 ?_
      refine z_get C (Cn := RX11) (T := TX11) (N := 10) (ci := 10) h0.2 7 (tE20 h0.1) in_X11_give_X11 rfl (by decide) mw_X11_give_1 rfl rfl dX11_give_36 ?_
      refine z_getN C (Cn := RX10) (T := TX10) (N := 13) (ci := 9) (tR20_7 h0).2 9 (tE21 (tR20_7 h0).1) in_X11_give_X10 rfl (by decide) (List.mem_of_getElem? (i := 11) rfl) rfl rfl dX11_give_39 ?_
      refine z_iload_n C 1 (by rfl) dX11_give_42 ?_
      obtain ⟨s28, hw⟩ := hw
      refine z_aald_q4 C (tR21_9 (tR20_7 h0)).2 (tE26 (tR21_9 (tR20_7 h0)).1) s28 (if_pos (tp_lt s28)) dX11_give_43 ?_
      refine z_astore C [(4, .ref (w.1 ((239 + 15) + 1 + (Int32.toNatClampNeg x1)))), (0, .ref (w.1 i0)), (1, .int x1), (2, .int x2), (3, .int x3)] dX11_give_44 (by decide) rfl ?_
      refine z_aload_n C 1 (by rfl) dX11_give_46 ?_
      refine z_iload_n C 2 (by rfl) dX11_give_47 ?_
      exact hw.elim
    · have hw := hw.2 c27
      refine z_aload_n C 0 (by rfl) dX11_give_29 ?_
      refine z_iconst C 2 (by decide) dX11_give_30 ?_
      refine zv_i C (As := [.int 2]) (bytes := cX11_refuse) (maxL := 2) (F1 := 0) (L1 := 0) (c_X11_refuse w _ i0 2 _ h0 hw) h0.2 (tE20 h0.1) rfl 1 gX11_give_X11_refuse rfl (by decide +kernel) ⟨Nat.le_of_ble_eq_true rfl, Nat.le_of_ble_eq_true rfl⟩ rfl (Nat.le_of_ble_eq_true rfl) ⟨Nat.le_of_ble_eq_true rfl, Nat.le_of_ble_eq_true rfl⟩ rfl dX11_give_31 (fun x30 τ29 hw => ?_)
      exact hR _ _ _ _ dX11_give_34 hw
  · have hw := hw.2 c24
    refine z_aload_n C 0 (by rfl) dX11_give_13 ?_
    refine z_iconst C 1 (by decide) dX11_give_14 ?_
    refine zv_i C (As := [.int 1]) (bytes := cX11_refuse) (maxL := 2) (F1 := 0) (L1 := 0) (c_X11_refuse w _ i0 1 _ h0 hw) h0.2 (tE20 h0.1) rfl 1 gX11_give_X11_refuse rfl (by decide +kernel) ⟨Nat.le_of_ble_eq_true rfl, Nat.le_of_ble_eq_true rfl⟩ rfl (Nat.le_of_ble_eq_true rfl) ⟨Nat.le_of_ble_eq_true rfl, Nat.le_of_ble_eq_true rfl⟩ rfl dX11_give_15 (fun x32 τ31 hw => ?_)
    exact hR _ _ _ _ dX11_give_18 hw
def wp_X11_close (τ : TS) (i0 : Nat) (x1 : Int32) (K : TS → Int32 → Prop) : Prop :=
  ∀ τ21 : TS, τ21 = tp_up τ i0 0 0 → wp_X11_isCall τ21 i0 x1 (fun τ22 x23 => ((¬ x23 = 0) → False) ∧ ((x23 = 0) → (wp_X11_refuse τ22 i0 1 (fun τ25 x26 => K τ25 x26))))
theorem mw_X11_close_0 : Cond.fieldLink RX11 34 "TidePostModel" "thrown" "I" ∈ wsX11_close := List.mem_of_getElem? (i := 1) rfl
theorem in_X11_close_X11 : ∀ x ∈ wsX110, x ∈ wsX11_close := fun _ h => List.mem_cons_of_mem _ (List.mem_append_left _ (List.mem_append_right _ h))
set_option maxHeartbeats 4000000 in
set_option maxRecDepth 100000 in
theorem c_X11_close (w : WPar) (τ : TS) (i0 : Nat) (x1 : Int32) (K : TS → Int32 → Prop) (h0 : tp_is w i0 20) (hw : wp_X11_close τ i0 x1 K) : MI w yX11_close wsX11_close 2 43 [.ref (w.1 i0), .int x1] τ K := by
  refine tp_enterI (cc := cX11_close) (maxL := 2) (own := RX11) (by decide) rfl rfl (Nat.le_of_ble_eq_true rfl) (fun g C hR => ?_)
  show Zt w g τ (0, 0) 0 [(0, .ref (w.1 i0)), (1, .int x1)] []
  unfold wp_X11_close at hw
  refine z_aload_n C 0 (by rfl) dX11_close_0 ?_
  refine z_iconst C 0 (by decide) dX11_close_1 ?_
  refine z_put C (Cn := RX11) (T := TX11) (N := 10) (ci := 10) h0.2 0 (tE20 h0.1) (tS20_0 h0.1 _) in_X11_close_X11 tyX11 tyX11_ok nmX11 rfl (by decide) mw_X11_close_0 rfl rfl (tyX11_ok 0 (by decide)) rfl rfl (Nat.le_of_ble_eq_true rfl) dX11_close_2 (fun τ21 eτ21 => ?_)
  have hw := hw τ21 eτ21
  refine z_aload_n C 0 (by rfl) dX11_close_5 ?_
  refine z_iload_n C 1 (by rfl) dX11_close_6 ?_
  refine zv_i C (As := [.int x1]) (bytes := cX11_isCall) (maxL := 2) (F1 := 1) (L1 := 22) (c_X11_isCall w _ i0 x1 _ h0 hw) h0.2 (tE20 h0.1) rfl 1 gX11_close_X11_isCall rfl (by decide +kernel) ⟨Nat.le_of_ble_eq_true rfl, Nat.le_of_ble_eq_true rfl⟩ rfl (Nat.le_of_ble_eq_true rfl) ⟨Nat.le_of_ble_eq_true rfl, Nat.le_of_ble_eq_true rfl⟩ rfl dX11_close_7 (fun x23 τ22 hw => ?_)
  refine z_if_ne (tgt := 19) C dX11_close_10 (by decide) (fun c24 => ?_) (fun c24 => ?_)
  · have hw := hw.1 c24
    refine z_aload_n C 0 (by rfl) dX11_close_19 ?_
    refine z_iload_n C 1 (by rfl) dX11_close_20 ?_
    exact hw.elim
  · have hw := hw.2 c24
    refine z_aload_n C 0 (by rfl) dX11_close_13 ?_
    refine z_iconst C 1 (by decide) dX11_close_14 ?_
    refine zv_i C (As := [.int 1]) (bytes := cX11_refuse) (maxL := 2) (F1 := 0) (L1 := 0) (c_X11_refuse w _ i0 1 _ h0 hw) h0.2 (tE20 h0.1) rfl 1 gX11_close_X11_refuse rfl (by decide +kernel) ⟨Nat.le_of_ble_eq_true rfl, Nat.le_of_ble_eq_true rfl⟩ rfl (Nat.le_of_ble_eq_true rfl) ⟨Nat.le_of_ble_eq_true rfl, Nat.le_of_ble_eq_true rfl⟩ rfl dX11_close_15 (fun x26 τ25 hw => ?_)
    exact hR _ _ _ _ dX11_close_18 hw
def wp_X11_read (τ : TS) (i0 : Nat) (x1 : Int32) (x2 : Int32) (K : TS → Int32 → Prop) : Prop :=
  ∀ τ21 : TS, τ21 = tp_up τ i0 0 0 → wp_X11_isCall τ21 i0 x1 (fun τ22 x23 => ((¬ x23 = 0) → (wp_X11_is τ22 x2 1 50 (fun τ25 x26 => ((¬ x26 = 0) → False) ∧ ((x26 = 0) → (wp_X11_refuse τ25 i0 2 (fun τ28 x29 => K τ28 x29)))))) ∧ ((x23 = 0) → (wp_X11_refuse τ22 i0 1 (fun τ30 x31 => K τ30 x31))))
theorem mw_X11_read_0 : Cond.fieldLink RX11 34 "TidePostModel" "thrown" "I" ∈ wsX11_read := List.mem_of_getElem? (i := 1) rfl
theorem mw_X11_read_1 : Cond.fieldLink RX11 27 "TidePostModel" "now" "LTidePostModel$State;" ∈ wsX11_read := List.mem_of_getElem? (i := 2) rfl
theorem in_X11_read_X11 : ∀ x ∈ wsX110, x ∈ wsX11_read := fun _ h => List.mem_cons_of_mem _ (List.mem_append_left _ (List.mem_append_left _ (List.mem_append_right _ h)))
set_option maxHeartbeats 4000000 in
set_option maxRecDepth 100000 in
theorem c_X11_read (w : WPar) (τ : TS) (i0 : Nat) (x1 : Int32) (x2 : Int32) (K : TS → Int32 → Prop) (h0 : tp_is w i0 20) (hw : wp_X11_read τ i0 x1 x2 K) : MI w yX11_read wsX11_read 2 43 [.ref (w.1 i0), .int x1, .int x2] τ K := by
  refine tp_enterI (cc := cX11_read) (maxL := 7) (own := RX11) (by decide) rfl rfl (Nat.le_of_ble_eq_true rfl) (fun g C hR => ?_)
  show Zt w g τ (0, 0) 0 [(0, .ref (w.1 i0)), (1, .int x1), (2, .int x2)] []
  unfold wp_X11_read at hw
  refine z_aload_n C 0 (by rfl) dX11_read_0 ?_
  refine z_iconst C 0 (by decide) dX11_read_1 ?_
  refine z_put C (Cn := RX11) (T := TX11) (N := 10) (ci := 10) h0.2 0 (tE20 h0.1) (tS20_0 h0.1 _) in_X11_read_X11 tyX11 tyX11_ok nmX11 rfl (by decide) mw_X11_read_0 rfl rfl (tyX11_ok 0 (by decide)) rfl rfl (Nat.le_of_ble_eq_true rfl) dX11_read_2 (fun τ21 eτ21 => ?_)
  have hw := hw τ21 eτ21
  refine z_aload_n C 0 (by rfl) dX11_read_5 ?_
  refine z_iload_n C 1 (by rfl) dX11_read_6 ?_
  refine zv_i C (As := [.int x1]) (bytes := cX11_isCall) (maxL := 2) (F1 := 1) (L1 := 22) (c_X11_isCall w _ i0 x1 _ h0 hw) h0.2 (tE20 h0.1) rfl 1 gX11_read_X11_isCall rfl (by decide +kernel) ⟨Nat.le_of_ble_eq_true rfl, Nat.le_of_ble_eq_true rfl⟩ rfl (Nat.le_of_ble_eq_true rfl) ⟨Nat.le_of_ble_eq_true rfl, Nat.le_of_ble_eq_true rfl⟩ rfl dX11_read_7 (fun x23 τ22 hw => ?_)
  refine z_if_ne (tgt := 19) C dX11_read_10 (by decide) (fun c24 => ?_) (fun c24 => ?_)
  · have hw := hw.1 c24
    refine z_iload_n C 2 (by rfl) dX11_read_19 ?_
    refine z_iconst C 1 (by decide) dX11_read_20 ?_
    refine z_bipush C 50 (by decide) dX11_read_21 ?_
    refine zs_i C (As := [.int x2, .int 1, .int 50]) (bytes := cX11_is) (maxL := 3) (F1 := 0) (L1 := 0) (c_X11_is w _ x2 1 50 _  hw) 3 gX11_read_X11_is rfl (by decide +kernel) ⟨Nat.le_of_ble_eq_true rfl, Nat.le_of_ble_eq_true rfl⟩ rfl (Nat.le_of_ble_eq_true rfl) ⟨Nat.le_of_ble_eq_true rfl, Nat.le_of_ble_eq_true rfl⟩ rfl dX11_read_23 (fun x26 τ25 hw => ?_)
    refine z_if_ne (tgt := 35) C dX11_read_26 (by decide) (fun c27 => ?_) (fun c27 => ?_)
    · have hw := hw.1 c27
      refine z_iload_n C 2 (by rfl) dX11_read_35 ?_
      refine z_aload_n C 0 (by rfl) dX11_read_36 ?_
      refine z_get C (Cn := RX11) (T := TX11) (N := 10) (ci := 10) h0.2 7 (tE20 h0.1) in_X11_read_X11 rfl (by decide) mw_X11_read_1 rfl rfl dX11_read_37 ?_
      refine z_iload_n C 1 (by rfl) dX11_read_40 ?_
      exact hw.elim
    · have hw := hw.2 c27
      refine z_aload_n C 0 (by rfl) dX11_read_29 ?_
      refine z_iconst C 2 (by decide) dX11_read_30 ?_
      refine zv_i C (As := [.int 2]) (bytes := cX11_refuse) (maxL := 2) (F1 := 0) (L1 := 0) (c_X11_refuse w _ i0 2 _ h0 hw) h0.2 (tE20 h0.1) rfl 1 gX11_read_X11_refuse rfl (by decide +kernel) ⟨Nat.le_of_ble_eq_true rfl, Nat.le_of_ble_eq_true rfl⟩ rfl (Nat.le_of_ble_eq_true rfl) ⟨Nat.le_of_ble_eq_true rfl, Nat.le_of_ble_eq_true rfl⟩ rfl dX11_read_31 (fun x29 τ28 hw => ?_)
      exact hR _ _ _ _ dX11_read_34 hw
  · have hw := hw.2 c24
    refine z_aload_n C 0 (by rfl) dX11_read_13 ?_
    refine z_iconst C 1 (by decide) dX11_read_14 ?_
    refine zv_i C (As := [.int 1]) (bytes := cX11_refuse) (maxL := 2) (F1 := 0) (L1 := 0) (c_X11_refuse w _ i0 1 _ h0 hw) h0.2 (tE20 h0.1) rfl 1 gX11_read_X11_refuse rfl (by decide +kernel) ⟨Nat.le_of_ble_eq_true rfl, Nat.le_of_ble_eq_true rfl⟩ rfl (Nat.le_of_ble_eq_true rfl) ⟨Nat.le_of_ble_eq_true rfl, Nat.le_of_ble_eq_true rfl⟩ rfl dX11_read_15 (fun x31 τ30 hw => ?_)
    exact hR _ _ _ _ dX11_read_18 hw
def wp_X11_pass (τ : TS) (i0 : Nat) (x1 : Int32) (K : TS → Int32 → Prop) : Prop :=
  ∀ τ21 : TS, τ21 = tp_up τ i0 0 0 → wp_X11_is τ21 x1 1 50 (fun τ22 x23 => ((¬ x23 = 0) → (∃ (I27 : TS → Int32 → Prop) (u27 : TS → Int32 → Nat), I27 τ22 0 ∧ ∀ (τ25 : TS) (x26 : Int32), I27 τ25 x26 → (((x1 ≤ x26) → (K τ25 (τ25 239 0))) ∧ ((¬ x1 ≤ x26) → (wp_X10_tick τ25 239 (fun τ29 => ∀ x30 : Int32, x30 = x26 + 1 → I27 τ29 x30 ∧ u27 τ29 x30 < u27 τ25 x26)))))) ∧ ((x23 = 0) → (wp_X11_refuse τ22 i0 1 (fun τ31 x32 => K τ31 x32))))
theorem mw_X11_pass_0 : Cond.fieldLink RX11 34 "TidePostModel" "thrown" "I" ∈ wsX11_pass := List.mem_of_getElem? (i := 1) rfl
theorem mw_X11_pass_1 : Cond.fieldLink RX11 27 "TidePostModel" "now" "LTidePostModel$State;" ∈ wsX11_pass := List.mem_of_getElem? (i := 2) rfl
theorem in_X11_pass_X11 : ∀ x ∈ wsX110, x ∈ wsX11_pass := fun _ h => List.mem_cons_of_mem _ (List.mem_append_left _ (List.mem_append_left _ (List.mem_append_right _ h)))
theorem in_X11_pass_X10 : ∀ x ∈ wsX100, x ∈ wsX11_pass := fun _ h => List.mem_cons_of_mem _ (List.mem_append_left _ (List.mem_append_right _ h))
set_option maxHeartbeats 4000000 in
set_option maxRecDepth 100000 in
theorem c_X11_pass (w : WPar) (τ : TS) (i0 : Nat) (x1 : Int32) (K : TS → Int32 → Prop) (h0 : tp_is w i0 20) (hw : wp_X11_pass τ i0 x1 K) : MI w yX11_pass wsX11_pass 1 22 [.ref (w.1 i0), .int x1] τ K := by
  refine tp_enterI (cc := cX11_pass) (maxL := 3) (own := RX11) (by decide) rfl rfl (Nat.le_of_ble_eq_true rfl) (fun g C hR => ?_)
  show Zt w g τ (0, 0) 0 [(0, .ref (w.1 i0)), (1, .int x1)] []
  unfold wp_X11_pass at hw
  refine z_aload_n C 0 (by rfl) dX11_pass_0 ?_
  refine z_iconst C 0 (by decide) dX11_pass_1 ?_
  refine z_put C (Cn := RX11) (T := TX11) (N := 10) (ci := 10) h0.2 0 (tE20 h0.1) (tS20_0 h0.1 _) in_X11_pass_X11 tyX11 tyX11_ok nmX11 rfl (by decide) mw_X11_pass_0 rfl rfl (tyX11_ok 0 (by decide)) rfl rfl (Nat.le_of_ble_eq_true rfl) dX11_pass_2 (fun τ21 eτ21 => ?_)
  have hw := hw τ21 eτ21
  refine z_iload_n C 1 (by rfl) dX11_pass_5 ?_
  refine z_iconst C 1 (by decide) dX11_pass_6 ?_
  refine z_bipush C 50 (by decide) dX11_pass_7 ?_
  refine zs_i C (As := [.int x1, .int 1, .int 50]) (bytes := cX11_is) (maxL := 3) (F1 := 0) (L1 := 0) (c_X11_is w _ x1 1 50 _  hw) 3 gX11_pass_X11_is rfl (by decide +kernel) ⟨Nat.le_of_ble_eq_true rfl, Nat.le_of_ble_eq_true rfl⟩ rfl (Nat.le_of_ble_eq_true rfl) ⟨Nat.le_of_ble_eq_true rfl, Nat.le_of_ble_eq_true rfl⟩ rfl dX11_pass_9 (fun x23 τ22 hw => ?_)
  refine z_if_ne (tgt := 21) C dX11_pass_12 (by decide) (fun c24 => ?_) (fun c24 => ?_)
  · have hw := hw.1 c24
    refine z_iconst C 0 (by decide) dX11_pass_21 ?_
    refine z_istore_n C [(2, .int 0), (0, .ref (w.1 i0)), (1, .int x1)] dX11_pass_22 (by decide) rfl ?_
    obtain ⟨I27, u27, hI27, hs27⟩ := hw
    have lp27 : ∀ (n27 : Nat) (τ25 : TS) (x26 : Int32), u27 τ25 x26 < n27 → I27 τ25 x26 → Zt w g τ25 (0, 0) 23 [(0, .ref (w.1 i0)), (1, .int x1), (2, .int x26)] [] := by
      intro n27
      induction n27 with
      | zero => intro τ25 x26 hlt27; exact absurd hlt27 (Nat.not_lt_zero _)
      | succ n27 ih27 =>
        intro τ25 x26 hlt27 hh27
        have hw := hs27 τ25 x26 hh27
        refine z_iload_n C 2 (by rfl) dX11_pass_23 ?_
        refine z_iload_n C 1 (by rfl) dX11_pass_24 ?_
        refine z_icmp_ge (tgt := 41) C dX11_pass_25 (by decide) (fun c28 => ?_) (fun c28 => ?_)
        · have hw := hw.1 c28
          refine z_aload_n C 0 (by rfl) dX11_pass_41 ?_
          refine z_get C (Cn := RX11) (T := TX11) (N := 10) (ci := 10) h0.2 7 (tE20 h0.1) in_X11_pass_X11 rfl (by decide) mw_X11_pass_1 rfl rfl dX11_pass_42 ?_
          refine z_getN C (Cn := RX10) (T := TX10) (N := 13) (ci := 9) (tR20_7 h0).2 0 (tE21 (tR20_7 h0).1) in_X11_pass_X10 rfl (by decide) (List.mem_of_getElem? (i := 3) rfl) rfl rfl dX11_pass_45 ?_
          exact hR _ _ _ _ dX11_pass_48 hw
        · have hw := hw.2 c28
          refine z_aload_n C 0 (by rfl) dX11_pass_28 ?_
          refine z_get C (Cn := RX11) (T := TX11) (N := 10) (ci := 10) h0.2 7 (tE20 h0.1) in_X11_pass_X11 rfl (by decide) mw_X11_pass_1 rfl rfl dX11_pass_29 ?_
          refine zv_v C (As := []) (bytes := cX10_tick) (maxL := 2) (F1 := 0) (L1 := 0) (c_X10_tick w _ 239 _ (tR20_7 h0) hw) (tR20_7 h0).2 (tE21 (tR20_7 h0).1) rfl 0 gX11_pass_X10_tick rfl (by decide +kernel) ⟨Nat.le_of_ble_eq_true rfl, Nat.le_of_ble_eq_true rfl⟩ rfl (Nat.le_of_ble_eq_true rfl) ⟨Nat.le_of_ble_eq_true rfl, Nat.le_of_ble_eq_true rfl⟩ rfl dX11_pass_32 (fun τ29 hw => ?_)
          obtain ⟨x30, ex30⟩ : ∃ z : Int32, z = x26 + 1 := ⟨_, rfl⟩
          have hw := hw x30 ex30
          refine z_iinc C 2 x30 [(2, .int x30), (0, .ref (w.1 i0)), (1, .int x1)] dX11_pass_35 (by rfl) (by rw [ex30]; rfl) (by decide) rfl ?_
          refine z_goto (tgt := 23) C dX11_pass_38 (by decide) ?_
          refine z_sub [1, 2, 0] [(0, .ref (w.1 i0)), (1, .int x1), (2, .int x30)] rfl ?_
          exact ih27 τ29 x30 (Nat.lt_of_lt_of_le hw.2 (Nat.le_of_lt_succ hlt27)) hw.1
    refine z_sub [1, 2, 0] [(0, .ref (w.1 i0)), (1, .int x1), (2, .int 0)] rfl ?_
    exact lp27 _ τ22 0 (Nat.lt_succ_self _) hI27
  · have hw := hw.2 c24
    refine z_aload_n C 0 (by rfl) dX11_pass_15 ?_
    refine z_iconst C 1 (by decide) dX11_pass_16 ?_
    refine zv_i C (As := [.int 1]) (bytes := cX11_refuse) (maxL := 2) (F1 := 0) (L1 := 0) (c_X11_refuse w _ i0 1 _ h0 hw) h0.2 (tE20 h0.1) rfl 1 gX11_pass_X11_refuse rfl (by decide +kernel) ⟨Nat.le_of_ble_eq_true rfl, Nat.le_of_ble_eq_true rfl⟩ rfl (Nat.le_of_ble_eq_true rfl) ⟨Nat.le_of_ble_eq_true rfl, Nat.le_of_ble_eq_true rfl⟩ rfl dX11_pass_17 (fun x32 τ31 hw => ?_)
    exact hR _ _ _ _ dX11_pass_20 hw
def wp_X11_clock (τ : TS) (i0 : Nat) (K : TS → Int32 → Prop) : Prop :=
  ∀ τ21 : TS, τ21 = tp_up τ i0 0 0 → K τ21 (τ21 239 0)
theorem mw_X11_clock_0 : Cond.fieldLink RX11 34 "TidePostModel" "thrown" "I" ∈ wsX11_clock := List.mem_of_getElem? (i := 1) rfl
theorem mw_X11_clock_1 : Cond.fieldLink RX11 27 "TidePostModel" "now" "LTidePostModel$State;" ∈ wsX11_clock := List.mem_of_getElem? (i := 2) rfl
theorem in_X11_clock_X11 : ∀ x ∈ wsX110, x ∈ wsX11_clock := fun _ h => List.mem_cons_of_mem _ (List.mem_append_left _ (List.mem_append_right _ h))
theorem in_X11_clock_X10 : ∀ x ∈ wsX100, x ∈ wsX11_clock := fun _ h => List.mem_cons_of_mem _ (List.mem_append_right _ h)
set_option maxHeartbeats 4000000 in
set_option maxRecDepth 100000 in
theorem c_X11_clock (w : WPar) (τ : TS) (i0 : Nat) (K : TS → Int32 → Prop) (h0 : tp_is w i0 20) (hw : wp_X11_clock τ i0 K) : MI w yX11_clock wsX11_clock 0 0 [.ref (w.1 i0)] τ K := by
  refine tp_enterI (cc := cX11_clock) (maxL := 1) (own := RX11) (by decide) rfl rfl (Nat.le_of_ble_eq_true rfl) (fun g C hR => ?_)
  show Zt w g τ (0, 0) 0 [(0, .ref (w.1 i0))] []
  unfold wp_X11_clock at hw
  refine z_aload_n C 0 (by rfl) dX11_clock_0 ?_
  refine z_iconst C 0 (by decide) dX11_clock_1 ?_
  refine z_put C (Cn := RX11) (T := TX11) (N := 10) (ci := 10) h0.2 0 (tE20 h0.1) (tS20_0 h0.1 _) in_X11_clock_X11 tyX11 tyX11_ok nmX11 rfl (by decide) mw_X11_clock_0 rfl rfl (tyX11_ok 0 (by decide)) rfl rfl (Nat.le_of_ble_eq_true rfl) dX11_clock_2 (fun τ21 eτ21 => ?_)
  have hw := hw τ21 eτ21
  refine z_aload_n C 0 (by rfl) dX11_clock_5 ?_
  refine z_get C (Cn := RX11) (T := TX11) (N := 10) (ci := 10) h0.2 7 (tE20 h0.1) in_X11_clock_X11 rfl (by decide) mw_X11_clock_1 rfl rfl dX11_clock_6 ?_
  refine z_getN C (Cn := RX10) (T := TX10) (N := 13) (ci := 9) (tR20_7 h0).2 0 (tE21 (tR20_7 h0).1) in_X11_clock_X10 rfl (by decide) (List.mem_of_getElem? (i := 3) rfl) rfl rfl dX11_clock_9 ?_
  exact hR _ _ _ _ dX11_clock_12 hw
def wp_X11_nodes (τ : TS) (i0 : Nat) (K : TS → Int32 → Prop) : Prop :=
  ∀ τ21 : TS, τ21 = tp_up τ i0 0 0 → K τ21 (τ21 i0 1)
theorem mw_X11_nodes_0 : Cond.fieldLink RX11 34 "TidePostModel" "thrown" "I" ∈ wsX11_nodes := List.mem_of_getElem? (i := 1) rfl
theorem mw_X11_nodes_1 : Cond.fieldLink RX11 38 "TidePostModel" "nodes" "I" ∈ wsX11_nodes := List.mem_of_getElem? (i := 2) rfl
theorem in_X11_nodes_X11 : ∀ x ∈ wsX110, x ∈ wsX11_nodes := fun _ h => List.mem_cons_of_mem _ (List.mem_append_right _ h)
set_option maxHeartbeats 4000000 in
set_option maxRecDepth 100000 in
theorem c_X11_nodes (w : WPar) (τ : TS) (i0 : Nat) (K : TS → Int32 → Prop) (h0 : tp_is w i0 20) (hw : wp_X11_nodes τ i0 K) : MI w yX11_nodes wsX11_nodes 0 0 [.ref (w.1 i0)] τ K := by
  refine tp_enterI (cc := cX11_nodes) (maxL := 1) (own := RX11) (by decide) rfl rfl (Nat.le_of_ble_eq_true rfl) (fun g C hR => ?_)
  show Zt w g τ (0, 0) 0 [(0, .ref (w.1 i0))] []
  unfold wp_X11_nodes at hw
  refine z_aload_n C 0 (by rfl) dX11_nodes_0 ?_
  refine z_iconst C 0 (by decide) dX11_nodes_1 ?_
  refine z_put C (Cn := RX11) (T := TX11) (N := 10) (ci := 10) h0.2 0 (tE20 h0.1) (tS20_0 h0.1 _) in_X11_nodes_X11 tyX11 tyX11_ok nmX11 rfl (by decide) mw_X11_nodes_0 rfl rfl (tyX11_ok 0 (by decide)) rfl rfl (Nat.le_of_ble_eq_true rfl) dX11_nodes_2 (fun τ21 eτ21 => ?_)
  have hw := hw τ21 eτ21
  refine z_aload_n C 0 (by rfl) dX11_nodes_5 ?_
  refine z_get C (Cn := RX11) (T := TX11) (N := 10) (ci := 10) h0.2 1 (tE20 h0.1) in_X11_nodes_X11 rfl (by decide) mw_X11_nodes_1 rfl rfl dX11_nodes_6 ?_
  exact hR _ _ _ _ dX11_nodes_9 hw
def wp_X11_links (τ : TS) (i0 : Nat) (K : TS → Int32 → Prop) : Prop :=
  ∀ τ21 : TS, τ21 = tp_up τ i0 0 0 → K τ21 (τ21 i0 2)
theorem mw_X11_links_0 : Cond.fieldLink RX11 34 "TidePostModel" "thrown" "I" ∈ wsX11_links := List.mem_of_getElem? (i := 1) rfl
theorem mw_X11_links_1 : Cond.fieldLink RX11 45 "TidePostModel" "links" "I" ∈ wsX11_links := List.mem_of_getElem? (i := 2) rfl
theorem in_X11_links_X11 : ∀ x ∈ wsX110, x ∈ wsX11_links := fun _ h => List.mem_cons_of_mem _ (List.mem_append_right _ h)
set_option maxHeartbeats 4000000 in
set_option maxRecDepth 100000 in
theorem c_X11_links (w : WPar) (τ : TS) (i0 : Nat) (K : TS → Int32 → Prop) (h0 : tp_is w i0 20) (hw : wp_X11_links τ i0 K) : MI w yX11_links wsX11_links 0 0 [.ref (w.1 i0)] τ K := by
  refine tp_enterI (cc := cX11_links) (maxL := 1) (own := RX11) (by decide) rfl rfl (Nat.le_of_ble_eq_true rfl) (fun g C hR => ?_)
  show Zt w g τ (0, 0) 0 [(0, .ref (w.1 i0))] []
  unfold wp_X11_links at hw
  refine z_aload_n C 0 (by rfl) dX11_links_0 ?_
  refine z_iconst C 0 (by decide) dX11_links_1 ?_
  refine z_put C (Cn := RX11) (T := TX11) (N := 10) (ci := 10) h0.2 0 (tE20 h0.1) (tS20_0 h0.1 _) in_X11_links_X11 tyX11 tyX11_ok nmX11 rfl (by decide) mw_X11_links_0 rfl rfl (tyX11_ok 0 (by decide)) rfl rfl (Nat.le_of_ble_eq_true rfl) dX11_links_2 (fun τ21 eτ21 => ?_)
  have hw := hw τ21 eτ21
  refine z_aload_n C 0 (by rfl) dX11_links_5 ?_
  refine z_get C (Cn := RX11) (T := TX11) (N := 10) (ci := 10) h0.2 2 (tE20 h0.1) in_X11_links_X11 rfl (by decide) mw_X11_links_1 rfl rfl dX11_links_6 ?_
  exact hR _ _ _ _ dX11_links_9 hw
def wp_X11_isUp (τ : TS) (i0 : Nat) (x1 : Int32) (K : TS → Int32 → Prop) : Prop :=
  wp_X11_isLink τ i0 x1 (fun τ21 x22 => ((x22 = 0) → (∀ τ24 : TS, τ24 = tp_up τ21 i0 0 1 → ((¬ (τ24 i0 0) = 0) → (K τ24 0)) ∧ (((τ24 i0 0) = 0) → (vp_in x1 12 ∧ ((((τ24 (239 + 1) (Int32.toNatClampNeg x1)) = 0) → (K τ24 0)) ∧ ((¬ (τ24 (239 + 1) (Int32.toNatClampNeg x1)) = 0) → (K τ24 1))))))) ∧ ((¬ x22 = 0) → (∀ τ28 : TS, τ28 = tp_up τ21 i0 0 0 → ((¬ (τ28 i0 0) = 0) → (K τ28 0)) ∧ (((τ28 i0 0) = 0) → (vp_in x1 12 ∧ ((((τ28 (239 + 1) (Int32.toNatClampNeg x1)) = 0) → (K τ28 0)) ∧ ((¬ (τ28 (239 + 1) (Int32.toNatClampNeg x1)) = 0) → (K τ28 1))))))))
theorem mw_X11_isUp_0 : Cond.fieldLink RX11 34 "TidePostModel" "thrown" "I" ∈ wsX11_isUp := List.mem_of_getElem? (i := 1) rfl
theorem mw_X11_isUp_1 : Cond.fieldLink RX11 27 "TidePostModel" "now" "LTidePostModel$State;" ∈ wsX11_isUp := List.mem_of_getElem? (i := 2) rfl
theorem in_X11_isUp_X11 : ∀ x ∈ wsX110, x ∈ wsX11_isUp := fun _ h => List.mem_cons_of_mem _ (List.mem_append_left _ (List.mem_append_right _ h))
theorem in_X11_isUp_X10 : ∀ x ∈ wsX100, x ∈ wsX11_isUp := fun _ h => List.mem_cons_of_mem _ (List.mem_append_right _ h)
set_option maxHeartbeats 4000000 in
set_option maxRecDepth 100000 in
theorem c_X11_isUp (w : WPar) (τ : TS) (i0 : Nat) (x1 : Int32) (K : TS → Int32 → Prop) (h0 : tp_is w i0 20) (hw : wp_X11_isUp τ i0 x1 K) : MI w yX11_isUp wsX11_isUp 2 43 [.ref (w.1 i0), .int x1] τ K := by
  refine tp_enterZ (cc := cX11_isUp) (maxL := 2) (own := RX11) (by decide) rfl rfl (Nat.le_of_ble_eq_true rfl) (fun g C hR => ?_)
  show Zt w g τ (0, 0) 0 [(0, .ref (w.1 i0)), (1, .int x1)] []
  unfold wp_X11_isUp at hw
  refine z_aload_n C 0 (by rfl) dX11_isUp_0 ?_
  refine z_aload_n C 0 (by rfl) dX11_isUp_1 ?_
  refine z_iload_n C 1 (by rfl) dX11_isUp_2 ?_
  refine zv_i C (As := [.int x1]) (bytes := cX11_isLink) (maxL := 2) (F1 := 1) (L1 := 22) (c_X11_isLink w _ i0 x1 _ h0 hw) h0.2 (tE20 h0.1) rfl 1 gX11_isUp_X11_isLink rfl (by decide +kernel) ⟨Nat.le_of_ble_eq_true rfl, Nat.le_of_ble_eq_true rfl⟩ rfl (Nat.le_of_ble_eq_true rfl) ⟨Nat.le_of_ble_eq_true rfl, Nat.le_of_ble_eq_true rfl⟩ rfl dX11_isUp_3 (fun x22 τ21 hw => ?_)
  refine z_if_eq (tgt := 13) C dX11_isUp_6 (by decide) (fun c23 => ?_) (fun c23 => ?_)
  · have hw := hw.1 c23
    refine z_iconst C 1 (by decide) dX11_isUp_13 ?_
    refine z_put C (Cn := RX11) (T := TX11) (N := 10) (ci := 10) h0.2 0 (tE20 h0.1) (tS20_0 h0.1 _) in_X11_isUp_X11 tyX11 tyX11_ok nmX11 rfl (by decide) mw_X11_isUp_0 rfl rfl (tyX11_ok 0 (by decide)) rfl rfl (Nat.le_of_ble_eq_true rfl) dX11_isUp_14 (fun τ24 eτ24 => ?_)
    have hw := hw τ24 eτ24
    refine z_aload_n C 0 (by rfl) dX11_isUp_17 ?_
    refine z_get C (Cn := RX11) (T := TX11) (N := 10) (ci := 10) h0.2 0 (tE20 h0.1) in_X11_isUp_X11 rfl (by decide) mw_X11_isUp_0 rfl rfl dX11_isUp_18 ?_
    refine z_if_ne (tgt := 40) C dX11_isUp_21 (by decide) (fun c25 => ?_) (fun c25 => ?_)
    · have hw := hw.1 c25
      refine z_iconst C 0 (by decide) dX11_isUp_40 ?_
      exact hR _ _ _ _ dX11_isUp_41 rfl hw
    · have hw := hw.2 c25
      refine z_aload_n C 0 (by rfl) dX11_isUp_24 ?_
      refine z_get C (Cn := RX11) (T := TX11) (N := 10) (ci := 10) h0.2 7 (tE20 h0.1) in_X11_isUp_X11 rfl (by decide) mw_X11_isUp_1 rfl rfl dX11_isUp_25 ?_
      refine z_getN C (Cn := RX10) (T := TX10) (N := 13) (ci := 9) (tR20_7 h0).2 3 (tE21 (tR20_7 h0).1) in_X11_isUp_X10 rfl (by decide) (List.mem_of_getElem? (i := 6) rfl) rfl rfl dX11_isUp_28 ?_
      refine z_iload_n C 1 (by rfl) dX11_isUp_31 ?_
      obtain ⟨s26, hw⟩ := hw
      refine z_zald C (tR21_3 (tR20_7 h0)).2 (tE12 (tR21_3 (tR20_7 h0)).1) s26 dX11_isUp_32 ?_
      refine z_if_eq (tgt := 40) C dX11_isUp_33 (by decide) (fun c27 => ?_) (fun c27 => ?_)
      · have hw := hw.1 c27
        refine z_iconst C 0 (by decide) dX11_isUp_40 ?_
        exact hR _ _ _ _ dX11_isUp_41 rfl hw
      · have hw := hw.2 c27
        refine z_iconst C 1 (by decide) dX11_isUp_36 ?_
        refine z_goto (tgt := 41) C dX11_isUp_37 (by decide) ?_
        exact hR _ _ _ _ dX11_isUp_41 rfl hw
  · have hw := hw.2 c23
    refine z_iconst C 0 (by decide) dX11_isUp_9 ?_
    refine z_goto (tgt := 14) C dX11_isUp_10 (by decide) ?_
    refine z_put C (Cn := RX11) (T := TX11) (N := 10) (ci := 10) h0.2 0 (tE20 h0.1) (tS20_0 h0.1 _) in_X11_isUp_X11 tyX11 tyX11_ok nmX11 rfl (by decide) mw_X11_isUp_0 rfl rfl (tyX11_ok 0 (by decide)) rfl rfl (Nat.le_of_ble_eq_true rfl) dX11_isUp_14 (fun τ28 eτ28 => ?_)
    have hw := hw τ28 eτ28
    refine z_aload_n C 0 (by rfl) dX11_isUp_17 ?_
    refine z_get C (Cn := RX11) (T := TX11) (N := 10) (ci := 10) h0.2 0 (tE20 h0.1) in_X11_isUp_X11 rfl (by decide) mw_X11_isUp_0 rfl rfl dX11_isUp_18 ?_
    refine z_if_ne (tgt := 40) C dX11_isUp_21 (by decide) (fun c29 => ?_) (fun c29 => ?_)
    · have hw := hw.1 c29
      refine z_iconst C 0 (by decide) dX11_isUp_40 ?_
      exact hR _ _ _ _ dX11_isUp_41 rfl hw
    · have hw := hw.2 c29
      refine z_aload_n C 0 (by rfl) dX11_isUp_24 ?_
      refine z_get C (Cn := RX11) (T := TX11) (N := 10) (ci := 10) h0.2 7 (tE20 h0.1) in_X11_isUp_X11 rfl (by decide) mw_X11_isUp_1 rfl rfl dX11_isUp_25 ?_
      refine z_getN C (Cn := RX10) (T := TX10) (N := 13) (ci := 9) (tR20_7 h0).2 3 (tE21 (tR20_7 h0).1) in_X11_isUp_X10 rfl (by decide) (List.mem_of_getElem? (i := 6) rfl) rfl rfl dX11_isUp_28 ?_
      refine z_iload_n C 1 (by rfl) dX11_isUp_31 ?_
      obtain ⟨s30, hw⟩ := hw
      refine z_zald C (tR21_3 (tR20_7 h0)).2 (tE12 (tR21_3 (tR20_7 h0)).1) s30 dX11_isUp_32 ?_
      refine z_if_eq (tgt := 40) C dX11_isUp_33 (by decide) (fun c31 => ?_) (fun c31 => ?_)
      · have hw := hw.1 c31
        refine z_iconst C 0 (by decide) dX11_isUp_40 ?_
        exact hR _ _ _ _ dX11_isUp_41 rfl hw
      · have hw := hw.2 c31
        refine z_iconst C 1 (by decide) dX11_isUp_36 ?_
        refine z_goto (tgt := 41) C dX11_isUp_37 (by decide) ?_
        exact hR _ _ _ _ dX11_isUp_41 rfl hw
def wp_X11_distance (τ : TS) (i0 : Nat) (x1 : Int32) (x2 : Int32) (K : TS → Int32 → Prop) : Prop :=
  ∀ τ21 : TS, τ21 = tp_up τ i0 0 0 → wp_X11_isNode τ21 i0 x1 (fun τ22 x23 => ((x23 = 0) → (wp_X11_refuse τ22 i0 1 (fun τ25 x26 => K τ25 x26))) ∧ ((¬ x23 = 0) → (wp_X11_isNode τ22 i0 x2 (fun τ27 x28 => ((x28 = 0) → (wp_X11_refuse τ27 i0 1 (fun τ30 x31 => K τ30 x31))) ∧ ((¬ x28 = 0) → False)))))
theorem mw_X11_distance_0 : Cond.fieldLink RX11 34 "TidePostModel" "thrown" "I" ∈ wsX11_distance := List.mem_of_getElem? (i := 1) rfl
theorem mw_X11_distance_1 : Cond.fieldLink RX11 27 "TidePostModel" "now" "LTidePostModel$State;" ∈ wsX11_distance := List.mem_of_getElem? (i := 2) rfl
theorem in_X11_distance_X11 : ∀ x ∈ wsX110, x ∈ wsX11_distance := fun _ h => List.mem_cons_of_mem _ (List.mem_append_left _ (List.mem_append_right _ h))
set_option maxHeartbeats 4000000 in
set_option maxRecDepth 100000 in
theorem c_X11_distance (w : WPar) (τ : TS) (i0 : Nat) (x1 : Int32) (x2 : Int32) (K : TS → Int32 → Prop) (h0 : tp_is w i0 20) (hw : wp_X11_distance τ i0 x1 x2 K) : MI w yX11_distance wsX11_distance 2 43 [.ref (w.1 i0), .int x1, .int x2] τ K := by
  refine tp_enterI (cc := cX11_distance) (maxL := 3) (own := RX11) (by decide) rfl rfl (Nat.le_of_ble_eq_true rfl) (fun g C hR => ?_)
  show Zt w g τ (0, 0) 0 [(0, .ref (w.1 i0)), (1, .int x1), (2, .int x2)] []
  unfold wp_X11_distance at hw
  refine z_aload_n C 0 (by rfl) dX11_distance_0 ?_
  refine z_iconst C 0 (by decide) dX11_distance_1 ?_
  refine z_put C (Cn := RX11) (T := TX11) (N := 10) (ci := 10) h0.2 0 (tE20 h0.1) (tS20_0 h0.1 _) in_X11_distance_X11 tyX11 tyX11_ok nmX11 rfl (by decide) mw_X11_distance_0 rfl rfl (tyX11_ok 0 (by decide)) rfl rfl (Nat.le_of_ble_eq_true rfl) dX11_distance_2 (fun τ21 eτ21 => ?_)
  have hw := hw τ21 eτ21
  refine z_aload_n C 0 (by rfl) dX11_distance_5 ?_
  refine z_iload_n C 1 (by rfl) dX11_distance_6 ?_
  refine zv_i C (As := [.int x1]) (bytes := cX11_isNode) (maxL := 2) (F1 := 1) (L1 := 22) (c_X11_isNode w _ i0 x1 _ h0 hw) h0.2 (tE20 h0.1) rfl 1 gX11_distance_X11_isNode rfl (by decide +kernel) ⟨Nat.le_of_ble_eq_true rfl, Nat.le_of_ble_eq_true rfl⟩ rfl (Nat.le_of_ble_eq_true rfl) ⟨Nat.le_of_ble_eq_true rfl, Nat.le_of_ble_eq_true rfl⟩ rfl dX11_distance_7 (fun x23 τ22 hw => ?_)
  refine z_if_eq (tgt := 33) C dX11_distance_10 (by decide) (fun c24 => ?_) (fun c24 => ?_)
  · have hw := hw.1 c24
    refine z_aload_n C 0 (by rfl) dX11_distance_33 ?_
    refine z_iconst C 1 (by decide) dX11_distance_34 ?_
    refine zv_i C (As := [.int 1]) (bytes := cX11_refuse) (maxL := 2) (F1 := 0) (L1 := 0) (c_X11_refuse w _ i0 1 _ h0 hw) h0.2 (tE20 h0.1) rfl 1 gX11_distance_X11_refuse rfl (by decide +kernel) ⟨Nat.le_of_ble_eq_true rfl, Nat.le_of_ble_eq_true rfl⟩ rfl (Nat.le_of_ble_eq_true rfl) ⟨Nat.le_of_ble_eq_true rfl, Nat.le_of_ble_eq_true rfl⟩ rfl dX11_distance_35 (fun x26 τ25 hw => ?_)
    exact hR _ _ _ _ dX11_distance_38 hw
  · have hw := hw.2 c24
    refine z_aload_n C 0 (by rfl) dX11_distance_13 ?_
    refine z_iload_n C 2 (by rfl) dX11_distance_14 ?_
    refine zv_i C (As := [.int x2]) (bytes := cX11_isNode) (maxL := 2) (F1 := 1) (L1 := 22) (c_X11_isNode w _ i0 x2 _ h0 hw) h0.2 (tE20 h0.1) rfl 1 gX11_distance_X11_isNode rfl (by decide +kernel) ⟨Nat.le_of_ble_eq_true rfl, Nat.le_of_ble_eq_true rfl⟩ rfl (Nat.le_of_ble_eq_true rfl) ⟨Nat.le_of_ble_eq_true rfl, Nat.le_of_ble_eq_true rfl⟩ rfl dX11_distance_15 (fun x28 τ27 hw => ?_)
    refine z_if_eq (tgt := 33) C dX11_distance_18 (by decide) (fun c29 => ?_) (fun c29 => ?_)
    · have hw := hw.1 c29
      refine z_aload_n C 0 (by rfl) dX11_distance_33 ?_
      refine z_iconst C 1 (by decide) dX11_distance_34 ?_
      refine zv_i C (As := [.int 1]) (bytes := cX11_refuse) (maxL := 2) (F1 := 0) (L1 := 0) (c_X11_refuse w _ i0 1 _ h0 hw) h0.2 (tE20 h0.1) rfl 1 gX11_distance_X11_refuse rfl (by decide +kernel) ⟨Nat.le_of_ble_eq_true rfl, Nat.le_of_ble_eq_true rfl⟩ rfl (Nat.le_of_ble_eq_true rfl) ⟨Nat.le_of_ble_eq_true rfl, Nat.le_of_ble_eq_true rfl⟩ rfl dX11_distance_35 (fun x31 τ30 hw => ?_)
      exact hR _ _ _ _ dX11_distance_38 hw
    · have hw := hw.2 c29
      refine z_aload_n C 0 (by rfl) dX11_distance_21 ?_
      refine z_get C (Cn := RX11) (T := TX11) (N := 10) (ci := 10) h0.2 7 (tE20 h0.1) in_X11_distance_X11 rfl (by decide) mw_X11_distance_1 rfl rfl dX11_distance_22 ?_
      refine z_iload_n C 1 (by rfl) dX11_distance_25 ?_
      refine z_iload_n C 2 (by rfl) dX11_distance_26 ?_
      exact hw.elim
def wp_X11_nextLink (τ : TS) (i0 : Nat) (x1 : Int32) (x2 : Int32) (K : TS → Int32 → Prop) : Prop :=
  ∀ τ21 : TS, τ21 = tp_up τ i0 0 0 → wp_X11_isNode τ21 i0 x1 (fun τ22 x23 => ((x23 = 0) → (wp_X11_refuse τ22 i0 1 (fun τ25 x26 => K τ25 x26))) ∧ ((¬ x23 = 0) → (wp_X11_isNode τ22 i0 x2 (fun τ27 x28 => ((x28 = 0) → (wp_X11_refuse τ27 i0 1 (fun τ30 x31 => K τ30 x31))) ∧ ((¬ x28 = 0) → False)))))
theorem mw_X11_nextLink_0 : Cond.fieldLink RX11 34 "TidePostModel" "thrown" "I" ∈ wsX11_nextLink := List.mem_of_getElem? (i := 1) rfl
theorem mw_X11_nextLink_1 : Cond.fieldLink RX11 27 "TidePostModel" "now" "LTidePostModel$State;" ∈ wsX11_nextLink := List.mem_of_getElem? (i := 2) rfl
theorem in_X11_nextLink_X11 : ∀ x ∈ wsX110, x ∈ wsX11_nextLink := fun _ h => List.mem_cons_of_mem _ (List.mem_append_left _ (List.mem_append_right _ h))
set_option maxHeartbeats 4000000 in
set_option maxRecDepth 100000 in
theorem c_X11_nextLink (w : WPar) (τ : TS) (i0 : Nat) (x1 : Int32) (x2 : Int32) (K : TS → Int32 → Prop) (h0 : tp_is w i0 20) (hw : wp_X11_nextLink τ i0 x1 x2 K) : MI w yX11_nextLink wsX11_nextLink 2 43 [.ref (w.1 i0), .int x1, .int x2] τ K := by
  refine tp_enterI (cc := cX11_nextLink) (maxL := 3) (own := RX11) (by decide) rfl rfl (Nat.le_of_ble_eq_true rfl) (fun g C hR => ?_)
  show Zt w g τ (0, 0) 0 [(0, .ref (w.1 i0)), (1, .int x1), (2, .int x2)] []
  unfold wp_X11_nextLink at hw
  refine z_aload_n C 0 (by rfl) dX11_nextLink_0 ?_
  refine z_iconst C 0 (by decide) dX11_nextLink_1 ?_
  refine z_put C (Cn := RX11) (T := TX11) (N := 10) (ci := 10) h0.2 0 (tE20 h0.1) (tS20_0 h0.1 _) in_X11_nextLink_X11 tyX11 tyX11_ok nmX11 rfl (by decide) mw_X11_nextLink_0 rfl rfl (tyX11_ok 0 (by decide)) rfl rfl (Nat.le_of_ble_eq_true rfl) dX11_nextLink_2 (fun τ21 eτ21 => ?_)
  have hw := hw τ21 eτ21
  refine z_aload_n C 0 (by rfl) dX11_nextLink_5 ?_
  refine z_iload_n C 1 (by rfl) dX11_nextLink_6 ?_
  refine zv_i C (As := [.int x1]) (bytes := cX11_isNode) (maxL := 2) (F1 := 1) (L1 := 22) (c_X11_isNode w _ i0 x1 _ h0 hw) h0.2 (tE20 h0.1) rfl 1 gX11_nextLink_X11_isNode rfl (by decide +kernel) ⟨Nat.le_of_ble_eq_true rfl, Nat.le_of_ble_eq_true rfl⟩ rfl (Nat.le_of_ble_eq_true rfl) ⟨Nat.le_of_ble_eq_true rfl, Nat.le_of_ble_eq_true rfl⟩ rfl dX11_nextLink_7 (fun x23 τ22 hw => ?_)
  refine z_if_eq (tgt := 33) C dX11_nextLink_10 (by decide) (fun c24 => ?_) (fun c24 => ?_)
  · have hw := hw.1 c24
    refine z_aload_n C 0 (by rfl) dX11_nextLink_33 ?_
    refine z_iconst C 1 (by decide) dX11_nextLink_34 ?_
    refine zv_i C (As := [.int 1]) (bytes := cX11_refuse) (maxL := 2) (F1 := 0) (L1 := 0) (c_X11_refuse w _ i0 1 _ h0 hw) h0.2 (tE20 h0.1) rfl 1 gX11_nextLink_X11_refuse rfl (by decide +kernel) ⟨Nat.le_of_ble_eq_true rfl, Nat.le_of_ble_eq_true rfl⟩ rfl (Nat.le_of_ble_eq_true rfl) ⟨Nat.le_of_ble_eq_true rfl, Nat.le_of_ble_eq_true rfl⟩ rfl dX11_nextLink_35 (fun x26 τ25 hw => ?_)
    exact hR _ _ _ _ dX11_nextLink_38 hw
  · have hw := hw.2 c24
    refine z_aload_n C 0 (by rfl) dX11_nextLink_13 ?_
    refine z_iload_n C 2 (by rfl) dX11_nextLink_14 ?_
    refine zv_i C (As := [.int x2]) (bytes := cX11_isNode) (maxL := 2) (F1 := 1) (L1 := 22) (c_X11_isNode w _ i0 x2 _ h0 hw) h0.2 (tE20 h0.1) rfl 1 gX11_nextLink_X11_isNode rfl (by decide +kernel) ⟨Nat.le_of_ble_eq_true rfl, Nat.le_of_ble_eq_true rfl⟩ rfl (Nat.le_of_ble_eq_true rfl) ⟨Nat.le_of_ble_eq_true rfl, Nat.le_of_ble_eq_true rfl⟩ rfl dX11_nextLink_15 (fun x28 τ27 hw => ?_)
    refine z_if_eq (tgt := 33) C dX11_nextLink_18 (by decide) (fun c29 => ?_) (fun c29 => ?_)
    · have hw := hw.1 c29
      refine z_aload_n C 0 (by rfl) dX11_nextLink_33 ?_
      refine z_iconst C 1 (by decide) dX11_nextLink_34 ?_
      refine zv_i C (As := [.int 1]) (bytes := cX11_refuse) (maxL := 2) (F1 := 0) (L1 := 0) (c_X11_refuse w _ i0 1 _ h0 hw) h0.2 (tE20 h0.1) rfl 1 gX11_nextLink_X11_refuse rfl (by decide +kernel) ⟨Nat.le_of_ble_eq_true rfl, Nat.le_of_ble_eq_true rfl⟩ rfl (Nat.le_of_ble_eq_true rfl) ⟨Nat.le_of_ble_eq_true rfl, Nat.le_of_ble_eq_true rfl⟩ rfl dX11_nextLink_35 (fun x31 τ30 hw => ?_)
      exact hR _ _ _ _ dX11_nextLink_38 hw
    · have hw := hw.2 c29
      refine z_aload_n C 0 (by rfl) dX11_nextLink_21 ?_
      refine z_get C (Cn := RX11) (T := TX11) (N := 10) (ci := 10) h0.2 7 (tE20 h0.1) in_X11_nextLink_X11 rfl (by decide) mw_X11_nextLink_1 rfl rfl dX11_nextLink_22 ?_
      refine z_iload_n C 1 (by rfl) dX11_nextLink_25 ?_
      refine z_iload_n C 2 (by rfl) dX11_nextLink_26 ?_
      exact hw.elim
def wp_X11_hasWay (τ : TS) (i0 : Nat) (x1 : Int32) (x2 : Int32) (K : TS → Int32 → Prop) : Prop :=
  wp_X11_isLink τ i0 x1 (fun τ21 x22 => ((x22 = 0) → (∀ τ24 : TS, τ24 = tp_up τ21 i0 0 1 → ((¬ (τ24 i0 0) = 0) → (K τ24 0)) ∧ (((τ24 i0 0) = 0) → (K τ24 1)))) ∧ ((¬ x22 = 0) → (wp_X11_is τ21 x2 0 1 (fun τ26 x27 => ((x27 = 0) → (∀ τ29 : TS, τ29 = tp_up τ26 i0 0 1 → ((¬ (τ29 i0 0) = 0) → (K τ29 0)) ∧ (((τ29 i0 0) = 0) → (K τ29 1)))) ∧ ((¬ x27 = 0) → (∀ τ31 : TS, τ31 = tp_up τ26 i0 0 0 → ((¬ (τ31 i0 0) = 0) → (K τ31 0)) ∧ (((τ31 i0 0) = 0) → (K τ31 1))))))))
theorem mw_X11_hasWay_0 : Cond.fieldLink RX11 34 "TidePostModel" "thrown" "I" ∈ wsX11_hasWay := List.mem_of_getElem? (i := 1) rfl
theorem in_X11_hasWay_X11 : ∀ x ∈ wsX110, x ∈ wsX11_hasWay := fun _ h => List.mem_cons_of_mem _ (List.mem_append_right _ h)
set_option maxHeartbeats 4000000 in
set_option maxRecDepth 100000 in
theorem c_X11_hasWay (w : WPar) (τ : TS) (i0 : Nat) (x1 : Int32) (x2 : Int32) (K : TS → Int32 → Prop) (h0 : tp_is w i0 20) (hw : wp_X11_hasWay τ i0 x1 x2 K) : MI w yX11_hasWay wsX11_hasWay 2 43 [.ref (w.1 i0), .int x1, .int x2] τ K := by
  refine tp_enterZ (cc := cX11_hasWay) (maxL := 3) (own := RX11) (by decide) rfl rfl (Nat.le_of_ble_eq_true rfl) (fun g C hR => ?_)
  show Zt w g τ (0, 0) 0 [(0, .ref (w.1 i0)), (1, .int x1), (2, .int x2)] []
  unfold wp_X11_hasWay at hw
  refine z_aload_n C 0 (by rfl) dX11_hasWay_0 ?_
  refine z_aload_n C 0 (by rfl) dX11_hasWay_1 ?_
  refine z_iload_n C 1 (by rfl) dX11_hasWay_2 ?_
  refine zv_i C (As := [.int x1]) (bytes := cX11_isLink) (maxL := 2) (F1 := 1) (L1 := 22) (c_X11_isLink w _ i0 x1 _ h0 hw) h0.2 (tE20 h0.1) rfl 1 gX11_hasWay_X11_isLink rfl (by decide +kernel) ⟨Nat.le_of_ble_eq_true rfl, Nat.le_of_ble_eq_true rfl⟩ rfl (Nat.le_of_ble_eq_true rfl) ⟨Nat.le_of_ble_eq_true rfl, Nat.le_of_ble_eq_true rfl⟩ rfl dX11_hasWay_3 (fun x22 τ21 hw => ?_)
  refine z_if_eq (tgt := 22) C dX11_hasWay_6 (by decide) (fun c23 => ?_) (fun c23 => ?_)
  · have hw := hw.1 c23
    refine z_iconst C 1 (by decide) dX11_hasWay_22 ?_
    refine z_put C (Cn := RX11) (T := TX11) (N := 10) (ci := 10) h0.2 0 (tE20 h0.1) (tS20_0 h0.1 _) in_X11_hasWay_X11 tyX11 tyX11_ok nmX11 rfl (by decide) mw_X11_hasWay_0 rfl rfl (tyX11_ok 0 (by decide)) rfl rfl (Nat.le_of_ble_eq_true rfl) dX11_hasWay_23 (fun τ24 eτ24 => ?_)
    have hw := hw τ24 eτ24
    refine z_aload_n C 0 (by rfl) dX11_hasWay_26 ?_
    refine z_get C (Cn := RX11) (T := TX11) (N := 10) (ci := 10) h0.2 0 (tE20 h0.1) in_X11_hasWay_X11 rfl (by decide) mw_X11_hasWay_0 rfl rfl dX11_hasWay_27 ?_
    refine z_if_ne (tgt := 37) C dX11_hasWay_30 (by decide) (fun c25 => ?_) (fun c25 => ?_)
    · have hw := hw.1 c25
      refine z_iconst C 0 (by decide) dX11_hasWay_37 ?_
      exact hR _ _ _ _ dX11_hasWay_38 rfl hw
    · have hw := hw.2 c25
      refine z_iconst C 1 (by decide) dX11_hasWay_33 ?_
      refine z_goto (tgt := 38) C dX11_hasWay_34 (by decide) ?_
      exact hR _ _ _ _ dX11_hasWay_38 rfl hw
  · have hw := hw.2 c23
    refine z_iload_n C 2 (by rfl) dX11_hasWay_9 ?_
    refine z_iconst C 0 (by decide) dX11_hasWay_10 ?_
    refine z_iconst C 1 (by decide) dX11_hasWay_11 ?_
    refine zs_i C (As := [.int x2, .int 0, .int 1]) (bytes := cX11_is) (maxL := 3) (F1 := 0) (L1 := 0) (c_X11_is w _ x2 0 1 _  hw) 3 gX11_hasWay_X11_is rfl (by decide +kernel) ⟨Nat.le_of_ble_eq_true rfl, Nat.le_of_ble_eq_true rfl⟩ rfl (Nat.le_of_ble_eq_true rfl) ⟨Nat.le_of_ble_eq_true rfl, Nat.le_of_ble_eq_true rfl⟩ rfl dX11_hasWay_12 (fun x27 τ26 hw => ?_)
    refine z_if_eq (tgt := 22) C dX11_hasWay_15 (by decide) (fun c28 => ?_) (fun c28 => ?_)
    · have hw := hw.1 c28
      refine z_iconst C 1 (by decide) dX11_hasWay_22 ?_
      refine z_put C (Cn := RX11) (T := TX11) (N := 10) (ci := 10) h0.2 0 (tE20 h0.1) (tS20_0 h0.1 _) in_X11_hasWay_X11 tyX11 tyX11_ok nmX11 rfl (by decide) mw_X11_hasWay_0 rfl rfl (tyX11_ok 0 (by decide)) rfl rfl (Nat.le_of_ble_eq_true rfl) dX11_hasWay_23 (fun τ29 eτ29 => ?_)
      have hw := hw τ29 eτ29
      refine z_aload_n C 0 (by rfl) dX11_hasWay_26 ?_
      refine z_get C (Cn := RX11) (T := TX11) (N := 10) (ci := 10) h0.2 0 (tE20 h0.1) in_X11_hasWay_X11 rfl (by decide) mw_X11_hasWay_0 rfl rfl dX11_hasWay_27 ?_
      refine z_if_ne (tgt := 37) C dX11_hasWay_30 (by decide) (fun c30 => ?_) (fun c30 => ?_)
      · have hw := hw.1 c30
        refine z_iconst C 0 (by decide) dX11_hasWay_37 ?_
        exact hR _ _ _ _ dX11_hasWay_38 rfl hw
      · have hw := hw.2 c30
        refine z_iconst C 1 (by decide) dX11_hasWay_33 ?_
        refine z_goto (tgt := 38) C dX11_hasWay_34 (by decide) ?_
        exact hR _ _ _ _ dX11_hasWay_38 rfl hw
    · have hw := hw.2 c28
      refine z_iconst C 0 (by decide) dX11_hasWay_18 ?_
      refine z_goto (tgt := 23) C dX11_hasWay_19 (by decide) ?_
      refine z_put C (Cn := RX11) (T := TX11) (N := 10) (ci := 10) h0.2 0 (tE20 h0.1) (tS20_0 h0.1 _) in_X11_hasWay_X11 tyX11 tyX11_ok nmX11 rfl (by decide) mw_X11_hasWay_0 rfl rfl (tyX11_ok 0 (by decide)) rfl rfl (Nat.le_of_ble_eq_true rfl) dX11_hasWay_23 (fun τ31 eτ31 => ?_)
      have hw := hw τ31 eτ31
      refine z_aload_n C 0 (by rfl) dX11_hasWay_26 ?_
      refine z_get C (Cn := RX11) (T := TX11) (N := 10) (ci := 10) h0.2 0 (tE20 h0.1) in_X11_hasWay_X11 rfl (by decide) mw_X11_hasWay_0 rfl rfl dX11_hasWay_27 ?_
      refine z_if_ne (tgt := 37) C dX11_hasWay_30 (by decide) (fun c32 => ?_) (fun c32 => ?_)
      · have hw := hw.1 c32
        refine z_iconst C 0 (by decide) dX11_hasWay_37 ?_
        exact hR _ _ _ _ dX11_hasWay_38 rfl hw
      · have hw := hw.2 c32
        refine z_iconst C 1 (by decide) dX11_hasWay_33 ?_
        refine z_goto (tgt := 38) C dX11_hasWay_34 (by decide) ?_
        exact hR _ _ _ _ dX11_hasWay_38 rfl hw
def wp_X11_queued (τ : TS) (i0 : Nat) (x1 : Int32) (x2 : Int32) (K : TS → Int32 → Prop) : Prop :=
  wp_X11_hasWay τ i0 x1 x2 (fun τ21 x22 => ((x22 = 0) → (K τ21 0)) ∧ ((¬ x22 = 0) → (vp_in ((2 * x1) + x2) 24 ∧ (K τ21 (τ21 ((239 + 11) + 25 + 4 * (Int32.toNatClampNeg ((2 * x1) + x2))) 1)))))
theorem mw_X11_queued_0 : Cond.fieldLink RX11 27 "TidePostModel" "now" "LTidePostModel$State;" ∈ wsX11_queued := List.mem_of_getElem? (i := 1) rfl
theorem in_X11_queued_X11 : ∀ x ∈ wsX110, x ∈ wsX11_queued := fun _ h => List.mem_cons_of_mem _ (List.mem_append_left _ (List.mem_append_left _ (List.mem_append_right _ h)))
theorem in_X11_queued_X10 : ∀ x ∈ wsX100, x ∈ wsX11_queued := fun _ h => List.mem_cons_of_mem _ (List.mem_append_left _ (List.mem_append_right _ h))
theorem in_X11_queued_X9 : ∀ x ∈ wsX90, x ∈ wsX11_queued := fun _ h => List.mem_cons_of_mem _ (List.mem_append_right _ h)
set_option maxHeartbeats 4000000 in
set_option maxRecDepth 100000 in
theorem c_X11_queued (w : WPar) (τ : TS) (i0 : Nat) (x1 : Int32) (x2 : Int32) (K : TS → Int32 → Prop) (h0 : tp_is w i0 20) (hw : wp_X11_queued τ i0 x1 x2 K) : MI w yX11_queued wsX11_queued 3 65 [.ref (w.1 i0), .int x1, .int x2] τ K := by
  refine tp_enterI (cc := cX11_queued) (maxL := 3) (own := RX11) (by decide) rfl rfl (Nat.le_of_ble_eq_true rfl) (fun g C hR => ?_)
  show Zt w g τ (0, 0) 0 [(0, .ref (w.1 i0)), (1, .int x1), (2, .int x2)] []
  unfold wp_X11_queued at hw
  refine z_aload_n C 0 (by rfl) dX11_queued_0 ?_
  refine z_iload_n C 1 (by rfl) dX11_queued_1 ?_
  refine z_iload_n C 2 (by rfl) dX11_queued_2 ?_
  refine zv_i C (As := [.int x1, .int x2]) (bytes := cX11_hasWay) (maxL := 3) (F1 := 2) (L1 := 43) (c_X11_hasWay w _ i0 x1 x2 _ h0 hw) h0.2 (tE20 h0.1) rfl 2 gX11_queued_X11_hasWay rfl (by decide +kernel) ⟨Nat.le_of_ble_eq_true rfl, Nat.le_of_ble_eq_true rfl⟩ rfl (Nat.le_of_ble_eq_true rfl) ⟨Nat.le_of_ble_eq_true rfl, Nat.le_of_ble_eq_true rfl⟩ rfl dX11_queued_3 (fun x22 τ21 hw => ?_)
  refine z_if_eq (tgt := 28) C dX11_queued_6 (by decide) (fun c23 => ?_) (fun c23 => ?_)
  · have hw := hw.1 c23
    refine z_iconst C 0 (by decide) dX11_queued_28 ?_
    exact hR _ _ _ _ dX11_queued_29 hw
  · have hw := hw.2 c23
    refine z_aload_n C 0 (by rfl) dX11_queued_9 ?_
    refine z_get C (Cn := RX11) (T := TX11) (N := 10) (ci := 10) h0.2 7 (tE20 h0.1) in_X11_queued_X11 rfl (by decide) mw_X11_queued_0 rfl rfl dX11_queued_10 ?_
    refine z_getN C (Cn := RX10) (T := TX10) (N := 13) (ci := 9) (tR20_7 h0).2 5 (tE21 (tR20_7 h0).1) in_X11_queued_X10 rfl (by decide) (List.mem_of_getElem? (i := 7) rfl) rfl rfl dX11_queued_13 ?_
    refine z_iconst C 2 (by decide) dX11_queued_16 ?_
    refine z_iload_n C 1 (by rfl) dX11_queued_17 ?_
    refine z_imul C dX11_queued_18 ?_
    refine z_iload_n C 2 (by rfl) dX11_queued_19 ?_
    refine z_iadd C dX11_queued_20 ?_
    obtain ⟨s24, hw⟩ := hw
    refine z_aald_q5 C (tR21_5 (tR20_7 h0)).2 (tE23 (tR21_5 (tR20_7 h0)).1) s24 (if_pos (tp_lt s24)) dX11_queued_21 ?_
    refine z_getN C (Cn := RX9) (T := TX9) (N := 2) (ci := 8) (tR23 (tR21_5 (tR20_7 h0)) (tp_lt s24)).2 1 (tE31 (tR23 (tR21_5 (tR20_7 h0)) (tp_lt s24)).1) in_X11_queued_X9 rfl (by decide) (List.mem_of_getElem? (i := 2) rfl) rfl rfl dX11_queued_22 ?_
    refine z_goto (tgt := 29) C dX11_queued_25 (by decide) ?_
    exact hR _ _ _ _ dX11_queued_29 hw
def wp_X11_flying (τ : TS) (i0 : Nat) (x1 : Int32) (x2 : Int32) (K : TS → Int32 → Prop) : Prop :=
  wp_X11_hasWay τ i0 x1 x2 (fun τ21 x22 => ((x22 = 0) → (K τ21 0)) ∧ ((¬ x22 = 0) → (vp_in ((2 * x1) + x2) 24 ∧ (K τ21 (τ21 ((239 + 12) + 26 + 4 * (Int32.toNatClampNeg ((2 * x1) + x2))) 1)))))
theorem mw_X11_flying_0 : Cond.fieldLink RX11 27 "TidePostModel" "now" "LTidePostModel$State;" ∈ wsX11_flying := List.mem_of_getElem? (i := 1) rfl
theorem in_X11_flying_X11 : ∀ x ∈ wsX110, x ∈ wsX11_flying := fun _ h => List.mem_cons_of_mem _ (List.mem_append_left _ (List.mem_append_left _ (List.mem_append_right _ h)))
theorem in_X11_flying_X10 : ∀ x ∈ wsX100, x ∈ wsX11_flying := fun _ h => List.mem_cons_of_mem _ (List.mem_append_left _ (List.mem_append_right _ h))
theorem in_X11_flying_X9 : ∀ x ∈ wsX90, x ∈ wsX11_flying := fun _ h => List.mem_cons_of_mem _ (List.mem_append_right _ h)
set_option maxHeartbeats 4000000 in
set_option maxRecDepth 100000 in
theorem c_X11_flying (w : WPar) (τ : TS) (i0 : Nat) (x1 : Int32) (x2 : Int32) (K : TS → Int32 → Prop) (h0 : tp_is w i0 20) (hw : wp_X11_flying τ i0 x1 x2 K) : MI w yX11_flying wsX11_flying 3 65 [.ref (w.1 i0), .int x1, .int x2] τ K := by
  refine tp_enterI (cc := cX11_flying) (maxL := 3) (own := RX11) (by decide) rfl rfl (Nat.le_of_ble_eq_true rfl) (fun g C hR => ?_)
  show Zt w g τ (0, 0) 0 [(0, .ref (w.1 i0)), (1, .int x1), (2, .int x2)] []
  unfold wp_X11_flying at hw
  refine z_aload_n C 0 (by rfl) dX11_flying_0 ?_
  refine z_iload_n C 1 (by rfl) dX11_flying_1 ?_
  refine z_iload_n C 2 (by rfl) dX11_flying_2 ?_
  refine zv_i C (As := [.int x1, .int x2]) (bytes := cX11_hasWay) (maxL := 3) (F1 := 2) (L1 := 43) (c_X11_hasWay w _ i0 x1 x2 _ h0 hw) h0.2 (tE20 h0.1) rfl 2 gX11_flying_X11_hasWay rfl (by decide +kernel) ⟨Nat.le_of_ble_eq_true rfl, Nat.le_of_ble_eq_true rfl⟩ rfl (Nat.le_of_ble_eq_true rfl) ⟨Nat.le_of_ble_eq_true rfl, Nat.le_of_ble_eq_true rfl⟩ rfl dX11_flying_3 (fun x22 τ21 hw => ?_)
  refine z_if_eq (tgt := 28) C dX11_flying_6 (by decide) (fun c23 => ?_) (fun c23 => ?_)
  · have hw := hw.1 c23
    refine z_iconst C 0 (by decide) dX11_flying_28 ?_
    exact hR _ _ _ _ dX11_flying_29 hw
  · have hw := hw.2 c23
    refine z_aload_n C 0 (by rfl) dX11_flying_9 ?_
    refine z_get C (Cn := RX11) (T := TX11) (N := 10) (ci := 10) h0.2 7 (tE20 h0.1) in_X11_flying_X11 rfl (by decide) mw_X11_flying_0 rfl rfl dX11_flying_10 ?_
    refine z_getN C (Cn := RX10) (T := TX10) (N := 13) (ci := 9) (tR20_7 h0).2 6 (tE21 (tR20_7 h0).1) in_X11_flying_X10 rfl (by decide) (List.mem_of_getElem? (i := 8) rfl) rfl rfl dX11_flying_13 ?_
    refine z_iconst C 2 (by decide) dX11_flying_16 ?_
    refine z_iload_n C 1 (by rfl) dX11_flying_17 ?_
    refine z_imul C dX11_flying_18 ?_
    refine z_iload_n C 2 (by rfl) dX11_flying_19 ?_
    refine z_iadd C dX11_flying_20 ?_
    obtain ⟨s24, hw⟩ := hw
    refine z_aald_q5 C (tR21_6 (tR20_7 h0)).2 (tE24 (tR21_6 (tR20_7 h0)).1) s24 (if_pos (tp_lt s24)) dX11_flying_21 ?_
    refine z_getN C (Cn := RX9) (T := TX9) (N := 2) (ci := 8) (tR24 (tR21_6 (tR20_7 h0)) (tp_lt s24)).2 1 (tE31 (tR24 (tR21_6 (tR20_7 h0)) (tp_lt s24)).1) in_X11_flying_X9 rfl (by decide) (List.mem_of_getElem? (i := 2) rfl) rfl rfl dX11_flying_22 ?_
    refine z_goto (tgt := 29) C dX11_flying_25 (by decide) ?_
    exact hR _ _ _ _ dX11_flying_29 hw
def wp_X11_flown (τ : TS) (i0 : Nat) (x1 : Int32) (x2 : Int32) (K : TS → Int32 → Prop) : Prop :=
  wp_X11_hasWay τ i0 x1 x2 (fun τ21 x22 => ((x22 = 0) → (K τ21 0)) ∧ ((¬ x22 = 0) → (vp_in ((2 * x1) + x2) 24 ∧ (K τ21 (τ21 (239 + 13) (Int32.toNatClampNeg ((2 * x1) + x2)))))))
theorem mw_X11_flown_0 : Cond.fieldLink RX11 27 "TidePostModel" "now" "LTidePostModel$State;" ∈ wsX11_flown := List.mem_of_getElem? (i := 1) rfl
theorem in_X11_flown_X11 : ∀ x ∈ wsX110, x ∈ wsX11_flown := fun _ h => List.mem_cons_of_mem _ (List.mem_append_left _ (List.mem_append_right _ h))
theorem in_X11_flown_X10 : ∀ x ∈ wsX100, x ∈ wsX11_flown := fun _ h => List.mem_cons_of_mem _ (List.mem_append_right _ h)
set_option maxHeartbeats 4000000 in
set_option maxRecDepth 100000 in
theorem c_X11_flown (w : WPar) (τ : TS) (i0 : Nat) (x1 : Int32) (x2 : Int32) (K : TS → Int32 → Prop) (h0 : tp_is w i0 20) (hw : wp_X11_flown τ i0 x1 x2 K) : MI w yX11_flown wsX11_flown 3 65 [.ref (w.1 i0), .int x1, .int x2] τ K := by
  refine tp_enterI (cc := cX11_flown) (maxL := 3) (own := RX11) (by decide) rfl rfl (Nat.le_of_ble_eq_true rfl) (fun g C hR => ?_)
  show Zt w g τ (0, 0) 0 [(0, .ref (w.1 i0)), (1, .int x1), (2, .int x2)] []
  unfold wp_X11_flown at hw
  refine z_aload_n C 0 (by rfl) dX11_flown_0 ?_
  refine z_iload_n C 1 (by rfl) dX11_flown_1 ?_
  refine z_iload_n C 2 (by rfl) dX11_flown_2 ?_
  refine zv_i C (As := [.int x1, .int x2]) (bytes := cX11_hasWay) (maxL := 3) (F1 := 2) (L1 := 43) (c_X11_hasWay w _ i0 x1 x2 _ h0 hw) h0.2 (tE20 h0.1) rfl 2 gX11_flown_X11_hasWay rfl (by decide +kernel) ⟨Nat.le_of_ble_eq_true rfl, Nat.le_of_ble_eq_true rfl⟩ rfl (Nat.le_of_ble_eq_true rfl) ⟨Nat.le_of_ble_eq_true rfl, Nat.le_of_ble_eq_true rfl⟩ rfl dX11_flown_3 (fun x22 τ21 hw => ?_)
  refine z_if_eq (tgt := 25) C dX11_flown_6 (by decide) (fun c23 => ?_) (fun c23 => ?_)
  · have hw := hw.1 c23
    refine z_iconst C 0 (by decide) dX11_flown_25 ?_
    exact hR _ _ _ _ dX11_flown_26 hw
  · have hw := hw.2 c23
    refine z_aload_n C 0 (by rfl) dX11_flown_9 ?_
    refine z_get C (Cn := RX11) (T := TX11) (N := 10) (ci := 10) h0.2 7 (tE20 h0.1) in_X11_flown_X11 rfl (by decide) mw_X11_flown_0 rfl rfl dX11_flown_10 ?_
    refine z_getN C (Cn := RX10) (T := TX10) (N := 13) (ci := 9) (tR20_7 h0).2 7 (tE21 (tR20_7 h0).1) in_X11_flown_X10 rfl (by decide) (List.mem_of_getElem? (i := 9) rfl) rfl rfl dX11_flown_13 ?_
    refine z_iconst C 2 (by decide) dX11_flown_16 ?_
    refine z_iload_n C 1 (by rfl) dX11_flown_17 ?_
    refine z_imul C dX11_flown_18 ?_
    refine z_iload_n C 2 (by rfl) dX11_flown_19 ?_
    refine z_iadd C dX11_flown_20 ?_
    obtain ⟨s24, hw⟩ := hw
    refine z_iald C (tR21_7 (tR20_7 h0)).2 (tE25 (tR21_7 (tR20_7 h0)).1) s24 dX11_flown_21 ?_
    refine z_goto (tgt := 26) C dX11_flown_22 (by decide) ?_
    exact hR _ _ _ _ dX11_flown_26 hw
def wp_X11_lost (τ : TS) (i0 : Nat) (K : TS → Int32 → Prop) : Prop :=
  ∀ τ21 : TS, τ21 = tp_up τ i0 0 0 → K τ21 (τ21 239 1)
theorem mw_X11_lost_0 : Cond.fieldLink RX11 34 "TidePostModel" "thrown" "I" ∈ wsX11_lost := List.mem_of_getElem? (i := 1) rfl
theorem mw_X11_lost_1 : Cond.fieldLink RX11 27 "TidePostModel" "now" "LTidePostModel$State;" ∈ wsX11_lost := List.mem_of_getElem? (i := 2) rfl
theorem in_X11_lost_X11 : ∀ x ∈ wsX110, x ∈ wsX11_lost := fun _ h => List.mem_cons_of_mem _ (List.mem_append_left _ (List.mem_append_right _ h))
theorem in_X11_lost_X10 : ∀ x ∈ wsX100, x ∈ wsX11_lost := fun _ h => List.mem_cons_of_mem _ (List.mem_append_right _ h)
set_option maxHeartbeats 4000000 in
set_option maxRecDepth 100000 in
theorem c_X11_lost (w : WPar) (τ : TS) (i0 : Nat) (K : TS → Int32 → Prop) (h0 : tp_is w i0 20) (hw : wp_X11_lost τ i0 K) : MI w yX11_lost wsX11_lost 0 0 [.ref (w.1 i0)] τ K := by
  refine tp_enterI (cc := cX11_lost) (maxL := 1) (own := RX11) (by decide) rfl rfl (Nat.le_of_ble_eq_true rfl) (fun g C hR => ?_)
  show Zt w g τ (0, 0) 0 [(0, .ref (w.1 i0))] []
  unfold wp_X11_lost at hw
  refine z_aload_n C 0 (by rfl) dX11_lost_0 ?_
  refine z_iconst C 0 (by decide) dX11_lost_1 ?_
  refine z_put C (Cn := RX11) (T := TX11) (N := 10) (ci := 10) h0.2 0 (tE20 h0.1) (tS20_0 h0.1 _) in_X11_lost_X11 tyX11 tyX11_ok nmX11 rfl (by decide) mw_X11_lost_0 rfl rfl (tyX11_ok 0 (by decide)) rfl rfl (Nat.le_of_ble_eq_true rfl) dX11_lost_2 (fun τ21 eτ21 => ?_)
  have hw := hw τ21 eτ21
  refine z_aload_n C 0 (by rfl) dX11_lost_5 ?_
  refine z_get C (Cn := RX11) (T := TX11) (N := 10) (ci := 10) h0.2 7 (tE20 h0.1) in_X11_lost_X11 rfl (by decide) mw_X11_lost_1 rfl rfl dX11_lost_6 ?_
  refine z_getN C (Cn := RX10) (T := TX10) (N := 13) (ci := 9) (tR20_7 h0).2 1 (tE21 (tR20_7 h0).1) in_X11_lost_X10 rfl (by decide) (List.mem_of_getElem? (i := 4) rfl) rfl rfl dX11_lost_9 ?_
  exact hR _ _ _ _ dX11_lost_12 hw
def wp_X11_underWay (τ : TS) (i0 : Nat) (K : TS → Int32 → Prop) : Prop :=
  ∀ τ21 : TS, τ21 = tp_up τ i0 0 0 → wp_X10_underWay τ21 239 (fun τ22 x23 => K τ22 x23)
theorem mw_X11_underWay_0 : Cond.fieldLink RX11 34 "TidePostModel" "thrown" "I" ∈ wsX11_underWay := List.mem_of_getElem? (i := 1) rfl
theorem mw_X11_underWay_1 : Cond.fieldLink RX11 27 "TidePostModel" "now" "LTidePostModel$State;" ∈ wsX11_underWay := List.mem_of_getElem? (i := 2) rfl
theorem in_X11_underWay_X11 : ∀ x ∈ wsX110, x ∈ wsX11_underWay := fun _ h => List.mem_cons_of_mem _ (List.mem_append_left _ (List.mem_append_left _ (List.mem_append_right _ h)))
set_option maxHeartbeats 4000000 in
set_option maxRecDepth 100000 in
theorem c_X11_underWay (w : WPar) (τ : TS) (i0 : Nat) (K : TS → Int32 → Prop) (h0 : tp_is w i0 20) (hw : wp_X11_underWay τ i0 K) : MI w yX11_underWay wsX11_underWay 1 22 [.ref (w.1 i0)] τ K := by
  refine tp_enterI (cc := cX11_underWay) (maxL := 1) (own := RX11) (by decide) rfl rfl (Nat.le_of_ble_eq_true rfl) (fun g C hR => ?_)
  show Zt w g τ (0, 0) 0 [(0, .ref (w.1 i0))] []
  unfold wp_X11_underWay at hw
  refine z_aload_n C 0 (by rfl) dX11_underWay_0 ?_
  refine z_iconst C 0 (by decide) dX11_underWay_1 ?_
  refine z_put C (Cn := RX11) (T := TX11) (N := 10) (ci := 10) h0.2 0 (tE20 h0.1) (tS20_0 h0.1 _) in_X11_underWay_X11 tyX11 tyX11_ok nmX11 rfl (by decide) mw_X11_underWay_0 rfl rfl (tyX11_ok 0 (by decide)) rfl rfl (Nat.le_of_ble_eq_true rfl) dX11_underWay_2 (fun τ21 eτ21 => ?_)
  have hw := hw τ21 eτ21
  refine z_aload_n C 0 (by rfl) dX11_underWay_5 ?_
  refine z_get C (Cn := RX11) (T := TX11) (N := 10) (ci := 10) h0.2 7 (tE20 h0.1) in_X11_underWay_X11 rfl (by decide) mw_X11_underWay_1 rfl rfl dX11_underWay_6 ?_
  refine zv_i C (As := []) (bytes := cX10_underWay) (maxL := 3) (F1 := 0) (L1 := 0) (c_X10_underWay w _ 239 _ (tR20_7 h0) hw) (tR20_7 h0).2 (tE21 (tR20_7 h0).1) rfl 0 gX11_underWay_X10_underWay rfl (by decide +kernel) ⟨Nat.le_of_ble_eq_true rfl, Nat.le_of_ble_eq_true rfl⟩ rfl (Nat.le_of_ble_eq_true rfl) ⟨Nat.le_of_ble_eq_true rfl, Nat.le_of_ble_eq_true rfl⟩ rfl dX11_underWay_9 (fun x23 τ22 hw => ?_)
  exact hR _ _ _ _ dX11_underWay_12 hw
def wp_X11_connections (τ : TS) (i0 : Nat) (K : TS → Int32 → Prop) : Prop :=
  ∀ τ21 : TS, τ21 = tp_up τ i0 0 0 → K τ21 (τ21 239 2)
theorem mw_X11_connections_0 : Cond.fieldLink RX11 34 "TidePostModel" "thrown" "I" ∈ wsX11_connections := List.mem_of_getElem? (i := 1) rfl
theorem mw_X11_connections_1 : Cond.fieldLink RX11 27 "TidePostModel" "now" "LTidePostModel$State;" ∈ wsX11_connections := List.mem_of_getElem? (i := 2) rfl
theorem in_X11_connections_X11 : ∀ x ∈ wsX110, x ∈ wsX11_connections := fun _ h => List.mem_cons_of_mem _ (List.mem_append_left _ (List.mem_append_right _ h))
theorem in_X11_connections_X10 : ∀ x ∈ wsX100, x ∈ wsX11_connections := fun _ h => List.mem_cons_of_mem _ (List.mem_append_right _ h)
set_option maxHeartbeats 4000000 in
set_option maxRecDepth 100000 in
theorem c_X11_connections (w : WPar) (τ : TS) (i0 : Nat) (K : TS → Int32 → Prop) (h0 : tp_is w i0 20) (hw : wp_X11_connections τ i0 K) : MI w yX11_connections wsX11_connections 0 0 [.ref (w.1 i0)] τ K := by
  refine tp_enterI (cc := cX11_connections) (maxL := 1) (own := RX11) (by decide) rfl rfl (Nat.le_of_ble_eq_true rfl) (fun g C hR => ?_)
  show Zt w g τ (0, 0) 0 [(0, .ref (w.1 i0))] []
  unfold wp_X11_connections at hw
  refine z_aload_n C 0 (by rfl) dX11_connections_0 ?_
  refine z_iconst C 0 (by decide) dX11_connections_1 ?_
  refine z_put C (Cn := RX11) (T := TX11) (N := 10) (ci := 10) h0.2 0 (tE20 h0.1) (tS20_0 h0.1 _) in_X11_connections_X11 tyX11 tyX11_ok nmX11 rfl (by decide) mw_X11_connections_0 rfl rfl (tyX11_ok 0 (by decide)) rfl rfl (Nat.le_of_ble_eq_true rfl) dX11_connections_2 (fun τ21 eτ21 => ?_)
  have hw := hw τ21 eτ21
  refine z_aload_n C 0 (by rfl) dX11_connections_5 ?_
  refine z_get C (Cn := RX11) (T := TX11) (N := 10) (ci := 10) h0.2 7 (tE20 h0.1) in_X11_connections_X11 rfl (by decide) mw_X11_connections_1 rfl rfl dX11_connections_6 ?_
  refine z_getN C (Cn := RX10) (T := TX10) (N := 13) (ci := 9) (tR20_7 h0).2 2 (tE21 (tR20_7 h0).1) in_X11_connections_X10 rfl (by decide) (List.mem_of_getElem? (i := 5) rfl) rfl rfl dX11_connections_9 ?_
  exact hR _ _ _ _ dX11_connections_12 hw
