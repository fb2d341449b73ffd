def wpx_X8_base (τ : TS) (i0 : Nat) (x1 : Int32) (K : TS → Int32 → Prop) (X : TS → Nat → Prop) : Prop :=
  wpx_X8_callerOf τ i0 x1 (fun τ21 j22 => K τ21 (τ21 j22 3)) X
theorem mw_X8_base_0 : Cond.fieldLink RX8 130 "TidePost$Caller" "base" "I" ∈ wsX8_base := List.mem_of_getElem? (i := 1) rfl
theorem in_X8_base_X1 : ∀ x ∈ wsX10, x ∈ wsX8_base := fun _ h => List.mem_cons_of_mem _ (List.mem_append_left _ (List.mem_append_left _ (List.mem_append_left _ (List.mem_append_left _ (List.mem_append_right _ h)))))
set_option maxHeartbeats 4000000 in
set_option maxRecDepth 100000 in
theorem cx_X8_base (w : WPar) (τ : TS) (i0 : Nat) (x1 : Int32) (K : TS → Int32 → Prop) (X : TS → Nat → Prop) (hl : w.2.1.stackTraces = false) (h0 : tp_is w i0 7) (hw : wpx_X8_base τ i0 x1 K X) : XI w yX8_base wsX8_base 8 124 1 6 [.ref (w.1 i0), .int x1] τ K X := by
  refine tp_enterXI (cc := cX8_base) (maxL := 2) hl (by decide) rfl rfl (Nat.le_of_ble_eq_true rfl) (fun g C D hR hRX hT => ?_)
  show Zt w g τ (0, 0) 0 [(0, .ref (w.1 i0)), (1, .int x1)] []
  unfold wpx_X8_base at hw
  refine z_aload_n C 0 (by rfl) dX8_base_0 ?_
  refine z_iload_n C 1 (by rfl) dX8_base_1 ?_
  refine xv_r C D (As := [.int x1]) (bytes := cX8_callerOf) (maxL := 2) (F1 := 7) (L1 := 103) (mc := 1) (ms := 6) (cx_X8_callerOf w _ i0 x1 _ _ hl h0 hw) h0.2 (tE7 h0.1) rfl 1 gX8_base_X8_callerOf rfl (by decide +kernel) ⟨Nat.le_of_ble_eq_true rfl, Nat.le_of_ble_eq_true rfl⟩ rfl (Nat.le_of_ble_eq_true rfl) (k2 := (1, 6)) rfl ⟨Nat.le_of_ble_eq_true rfl, Nat.le_of_ble_eq_true rfl⟩ rfl dX8_base_2 (fun _ _ hx => hRX _ _ _ _ _ (Nat.le_of_ble_eq_true rfl) (Nat.le_of_ble_eq_true rfl) hx) (fun τ21 j22 hw hj22 => ?_)
  refine z_get C (Cn := RX1) (T := TX1) (N := 14) (ci := 1) hj22.2 3 (tE1 hj22.1) in_X8_base_X1 rfl (by decide) mw_X8_base_0 rfl rfl dX8_base_5 ?_
  exact hR _ _ _ _ dX8_base_8 hw
def wpx_X8_next (τ : TS) (i0 : Nat) (x1 : Int32) (K : TS → Int32 → Prop) (X : TS → Nat → Prop) : Prop :=
  wpx_X8_callerOf τ i0 x1 (fun τ21 j22 => K τ21 (τ21 j22 4)) X
theorem mw_X8_next_0 : Cond.fieldLink RX8 196 "TidePost$Caller" "next" "I" ∈ wsX8_next := List.mem_of_getElem? (i := 1) rfl
theorem in_X8_next_X1 : ∀ x ∈ wsX10, x ∈ wsX8_next := fun _ h => List.mem_cons_of_mem _ (List.mem_append_left _ (List.mem_append_left _ (List.mem_append_left _ (List.mem_append_left _ (List.mem_append_right _ h)))))
set_option maxHeartbeats 4000000 in
set_option maxRecDepth 100000 in
theorem cx_X8_next (w : WPar) (τ : TS) (i0 : Nat) (x1 : Int32) (K : TS → Int32 → Prop) (X : TS → Nat → Prop) (hl : w.2.1.stackTraces = false) (h0 : tp_is w i0 7) (hw : wpx_X8_next τ i0 x1 K X) : XI w yX8_next wsX8_next 8 124 1 6 [.ref (w.1 i0), .int x1] τ K X := by
  refine tp_enterXI (cc := cX8_next) (maxL := 2) hl (by decide) rfl rfl (Nat.le_of_ble_eq_true rfl) (fun g C D hR hRX hT => ?_)
  show Zt w g τ (0, 0) 0 [(0, .ref (w.1 i0)), (1, .int x1)] []
  unfold wpx_X8_next at hw
  refine z_aload_n C 0 (by rfl) dX8_next_0 ?_
  refine z_iload_n C 1 (by rfl) dX8_next_1 ?_
  refine xv_r C D (As := [.int x1]) (bytes := cX8_callerOf) (maxL := 2) (F1 := 7) (L1 := 103) (mc := 1) (ms := 6) (cx_X8_callerOf w _ i0 x1 _ _ hl h0 hw) h0.2 (tE7 h0.1) rfl 1 gX8_next_X8_callerOf rfl (by decide +kernel) ⟨Nat.le_of_ble_eq_true rfl, Nat.le_of_ble_eq_true rfl⟩ rfl (Nat.le_of_ble_eq_true rfl) (k2 := (1, 6)) rfl ⟨Nat.le_of_ble_eq_true rfl, Nat.le_of_ble_eq_true rfl⟩ rfl dX8_next_2 (fun _ _ hx => hRX _ _ _ _ _ (Nat.le_of_ble_eq_true rfl) (Nat.le_of_ble_eq_true rfl) hx) (fun τ21 j22 hw hj22 => ?_)
  refine z_get C (Cn := RX1) (T := TX1) (N := 14) (ci := 1) hj22.2 4 (tE1 hj22.1) in_X8_next_X1 rfl (by decide) mw_X8_next_0 rfl rfl dX8_next_5 ?_
  exact hR _ _ _ _ dX8_next_8 hw
def wpx_X8_window (τ : TS) (i0 : Nat) (x1 : Int32) (K : TS → Int32 → Prop) (X : TS → Nat → Prop) : Prop :=
  wpx_X8_callerOf τ i0 x1 (fun τ21 j22 => K τ21 (τ21 j22 5)) X
theorem mw_X8_window_0 : Cond.fieldLink RX8 199 "TidePost$Caller" "window" "I" ∈ wsX8_window := List.mem_of_getElem? (i := 1) rfl
theorem in_X8_window_X1 : ∀ x ∈ wsX10, x ∈ wsX8_window := fun _ h => List.mem_cons_of_mem _ (List.mem_append_left _ (List.mem_append_left _ (List.mem_append_left _ (List.mem_append_left _ (List.mem_append_right _ h)))))
set_option maxHeartbeats 4000000 in
set_option maxRecDepth 100000 in
theorem cx_X8_window (w : WPar) (τ : TS) (i0 : Nat) (x1 : Int32) (K : TS → Int32 → Prop) (X : TS → Nat → Prop) (hl : w.2.1.stackTraces = false) (h0 : tp_is w i0 7) (hw : wpx_X8_window τ i0 x1 K X) : XI w yX8_window wsX8_window 8 124 1 6 [.ref (w.1 i0), .int x1] τ K X := by
  refine tp_enterXI (cc := cX8_window) (maxL := 2) hl (by decide) rfl rfl (Nat.le_of_ble_eq_true rfl) (fun g C D hR hRX hT => ?_)
  show Zt w g τ (0, 0) 0 [(0, .ref (w.1 i0)), (1, .int x1)] []
  unfold wpx_X8_window at hw
  refine z_aload_n C 0 (by rfl) dX8_window_0 ?_
  refine z_iload_n C 1 (by rfl) dX8_window_1 ?_
  refine xv_r C D (As := [.int x1]) (bytes := cX8_callerOf) (maxL := 2) (F1 := 7) (L1 := 103) (mc := 1) (ms := 6) (cx_X8_callerOf w _ i0 x1 _ _ hl h0 hw) h0.2 (tE7 h0.1) rfl 1 gX8_window_X8_callerOf rfl (by decide +kernel) ⟨Nat.le_of_ble_eq_true rfl, Nat.le_of_ble_eq_true rfl⟩ rfl (Nat.le_of_ble_eq_true rfl) (k2 := (1, 6)) rfl ⟨Nat.le_of_ble_eq_true rfl, Nat.le_of_ble_eq_true rfl⟩ rfl dX8_window_2 (fun _ _ hx => hRX _ _ _ _ _ (Nat.le_of_ble_eq_true rfl) (Nat.le_of_ble_eq_true rfl) hx) (fun τ21 j22 hw hj22 => ?_)
  refine z_get C (Cn := RX1) (T := TX1) (N := 14) (ci := 1) hj22.2 5 (tE1 hj22.1) in_X8_window_X1 rfl (by decide) mw_X8_window_0 rfl rfl dX8_window_5 ?_
  exact hR _ _ _ _ dX8_window_8 hw
def wpx_X8_threshold (τ : TS) (i0 : Nat) (x1 : Int32) (K : TS → Int32 → Prop) (X : TS → Nat → Prop) : Prop :=
  wpx_X8_callerOf τ i0 x1 (fun τ21 j22 => K τ21 (τ21 j22 6)) X
theorem mw_X8_threshold_0 : Cond.fieldLink RX8 202 "TidePost$Caller" "threshold" "I" ∈ wsX8_threshold := List.mem_of_getElem? (i := 1) rfl
theorem in_X8_threshold_X1 : ∀ x ∈ wsX10, x ∈ wsX8_threshold := fun _ h => List.mem_cons_of_mem _ (List.mem_append_left _ (List.mem_append_left _ (List.mem_append_left _ (List.mem_append_left _ (List.mem_append_right _ h)))))
set_option maxHeartbeats 4000000 in
set_option maxRecDepth 100000 in
theorem cx_X8_threshold (w : WPar) (τ : TS) (i0 : Nat) (x1 : Int32) (K : TS → Int32 → Prop) (X : TS → Nat → Prop) (hl : w.2.1.stackTraces = false) (h0 : tp_is w i0 7) (hw : wpx_X8_threshold τ i0 x1 K X) : XI w yX8_threshold wsX8_threshold 8 124 1 6 [.ref (w.1 i0), .int x1] τ K X := by
  refine tp_enterXI (cc := cX8_threshold) (maxL := 2) hl (by decide) rfl rfl (Nat.le_of_ble_eq_true rfl) (fun g C D hR hRX hT => ?_)
  show Zt w g τ (0, 0) 0 [(0, .ref (w.1 i0)), (1, .int x1)] []
  unfold wpx_X8_threshold at hw
  refine z_aload_n C 0 (by rfl) dX8_threshold_0 ?_
  refine z_iload_n C 1 (by rfl) dX8_threshold_1 ?_
  refine xv_r C D (As := [.int x1]) (bytes := cX8_callerOf) (maxL := 2) (F1 := 7) (L1 := 103) (mc := 1) (ms := 6) (cx_X8_callerOf w _ i0 x1 _ _ hl h0 hw) h0.2 (tE7 h0.1) rfl 1 gX8_threshold_X8_callerOf rfl (by decide +kernel) ⟨Nat.le_of_ble_eq_true rfl, Nat.le_of_ble_eq_true rfl⟩ rfl (Nat.le_of_ble_eq_true rfl) (k2 := (1, 6)) rfl ⟨Nat.le_of_ble_eq_true rfl, Nat.le_of_ble_eq_true rfl⟩ rfl dX8_threshold_2 (fun _ _ hx => hRX _ _ _ _ _ (Nat.le_of_ble_eq_true rfl) (Nat.le_of_ble_eq_true rfl) hx) (fun τ21 j22 hw hj22 => ?_)
  refine z_get C (Cn := RX1) (T := TX1) (N := 14) (ci := 1) hj22.2 6 (tE1 hj22.1) in_X8_threshold_X1 rfl (by decide) mw_X8_threshold_0 rfl rfl dX8_threshold_5 ?_
  exact hR _ _ _ _ dX8_threshold_8 hw
def wpx_X8_room (τ : TS) (i0 : Nat) (x1 : Int32) (K : TS → Int32 → Prop) (X : TS → Nat → Prop) : Prop :=
  wpx_X8_callerOf τ i0 x1 (fun τ21 j22 => K τ21 (τ21 j22 7)) X
theorem mw_X8_room_0 : Cond.fieldLink RX8 205 "TidePost$Caller" "room" "I" ∈ wsX8_room := List.mem_of_getElem? (i := 1) rfl
theorem in_X8_room_X1 : ∀ x ∈ wsX10, x ∈ wsX8_room := fun _ h => List.mem_cons_of_mem _ (List.mem_append_left _ (List.mem_append_left _ (List.mem_append_left _ (List.mem_append_left _ (List.mem_append_right _ h)))))
set_option maxHeartbeats 4000000 in
set_option maxRecDepth 100000 in
theorem cx_X8_room (w : WPar) (τ : TS) (i0 : Nat) (x1 : Int32) (K : TS → Int32 → Prop) (X : TS → Nat → Prop) (hl : w.2.1.stackTraces = false) (h0 : tp_is w i0 7) (hw : wpx_X8_room τ i0 x1 K X) : XI w yX8_room wsX8_room 8 124 1 6 [.ref (w.1 i0), .int x1] τ K X := by
  refine tp_enterXI (cc := cX8_room) (maxL := 2) hl (by decide) rfl rfl (Nat.le_of_ble_eq_true rfl) (fun g C D hR hRX hT => ?_)
  show Zt w g τ (0, 0) 0 [(0, .ref (w.1 i0)), (1, .int x1)] []
  unfold wpx_X8_room at hw
  refine z_aload_n C 0 (by rfl) dX8_room_0 ?_
  refine z_iload_n C 1 (by rfl) dX8_room_1 ?_
  refine xv_r C D (As := [.int x1]) (bytes := cX8_callerOf) (maxL := 2) (F1 := 7) (L1 := 103) (mc := 1) (ms := 6) (cx_X8_callerOf w _ i0 x1 _ _ hl h0 hw) h0.2 (tE7 h0.1) rfl 1 gX8_room_X8_callerOf rfl (by decide +kernel) ⟨Nat.le_of_ble_eq_true rfl, Nat.le_of_ble_eq_true rfl⟩ rfl (Nat.le_of_ble_eq_true rfl) (k2 := (1, 6)) rfl ⟨Nat.le_of_ble_eq_true rfl, Nat.le_of_ble_eq_true rfl⟩ rfl dX8_room_2 (fun _ _ hx => hRX _ _ _ _ _ (Nat.le_of_ble_eq_true rfl) (Nat.le_of_ble_eq_true rfl) hx) (fun τ21 j22 hw hj22 => ?_)
  refine z_get C (Cn := RX1) (T := TX1) (N := 14) (ci := 1) hj22.2 7 (tE1 hj22.1) in_X8_room_X1 rfl (by decide) mw_X8_room_0 rfl rfl dX8_room_5 ?_
  exact hR _ _ _ _ dX8_room_8 hw
def wpx_X8_like (τ : TS) (i0 : Nat) (x1 : Int32) (K : TS → Int32 → Prop) (X : TS → Nat → Prop) : Prop :=
  wpx_X8_callerOf τ i0 x1 (fun τ21 j22 => K τ21 (τ21 j22 8)) X
theorem mw_X8_like_0 : Cond.fieldLink RX8 208 "TidePost$Caller" "like" "I" ∈ wsX8_like := List.mem_of_getElem? (i := 1) rfl
theorem in_X8_like_X1 : ∀ x ∈ wsX10, x ∈ wsX8_like := fun _ h => List.mem_cons_of_mem _ (List.mem_append_left _ (List.mem_append_left _ (List.mem_append_left _ (List.mem_append_left _ (List.mem_append_right _ h)))))
set_option maxHeartbeats 4000000 in
set_option maxRecDepth 100000 in
theorem cx_X8_like (w : WPar) (τ : TS) (i0 : Nat) (x1 : Int32) (K : TS → Int32 → Prop) (X : TS → Nat → Prop) (hl : w.2.1.stackTraces = false) (h0 : tp_is w i0 7) (hw : wpx_X8_like τ i0 x1 K X) : XI w yX8_like wsX8_like 8 124 1 6 [.ref (w.1 i0), .int x1] τ K X := by
  refine tp_enterXI (cc := cX8_like) (maxL := 2) hl (by decide) rfl rfl (Nat.le_of_ble_eq_true rfl) (fun g C D hR hRX hT => ?_)
  show Zt w g τ (0, 0) 0 [(0, .ref (w.1 i0)), (1, .int x1)] []
  unfold wpx_X8_like at hw
  refine z_aload_n C 0 (by rfl) dX8_like_0 ?_
  refine z_iload_n C 1 (by rfl) dX8_like_1 ?_
  refine xv_r C D (As := [.int x1]) (bytes := cX8_callerOf) (maxL := 2) (F1 := 7) (L1 := 103) (mc := 1) (ms := 6) (cx_X8_callerOf w _ i0 x1 _ _ hl h0 hw) h0.2 (tE7 h0.1) rfl 1 gX8_like_X8_callerOf rfl (by decide +kernel) ⟨Nat.le_of_ble_eq_true rfl, Nat.le_of_ble_eq_true rfl⟩ rfl (Nat.le_of_ble_eq_true rfl) (k2 := (1, 6)) rfl ⟨Nat.le_of_ble_eq_true rfl, Nat.le_of_ble_eq_true rfl⟩ rfl dX8_like_2 (fun _ _ hx => hRX _ _ _ _ _ (Nat.le_of_ble_eq_true rfl) (Nat.le_of_ble_eq_true rfl) hx) (fun τ21 j22 hw hj22 => ?_)
  refine z_get C (Cn := RX1) (T := TX1) (N := 14) (ci := 1) hj22.2 8 (tE1 hj22.1) in_X8_like_X1 rfl (by decide) mw_X8_like_0 rfl rfl dX8_like_5 ?_
  exact hR _ _ _ _ dX8_like_8 hw
def wpx_X8_recover (τ : TS) (i0 : Nat) (x1 : Int32) (K : TS → Int32 → Prop) (X : TS → Nat → Prop) : Prop :=
  wpx_X8_callerOf τ i0 x1 (fun τ21 j22 => K τ21 (τ21 j22 9)) X
theorem mw_X8_recover_0 : Cond.fieldLink RX8 211 "TidePost$Caller" "recover" "I" ∈ wsX8_recover := List.mem_of_getElem? (i := 1) rfl
theorem in_X8_recover_X1 : ∀ x ∈ wsX10, x ∈ wsX8_recover := fun _ h => List.mem_cons_of_mem _ (List.mem_append_left _ (List.mem_append_left _ (List.mem_append_left _ (List.mem_append_left _ (List.mem_append_right _ h)))))
set_option maxHeartbeats 4000000 in
set_option maxRecDepth 100000 in
theorem cx_X8_recover (w : WPar) (τ : TS) (i0 : Nat) (x1 : Int32) (K : TS → Int32 → Prop) (X : TS → Nat → Prop) (hl : w.2.1.stackTraces = false) (h0 : tp_is w i0 7) (hw : wpx_X8_recover τ i0 x1 K X) : XI w yX8_recover wsX8_recover 8 124 1 6 [.ref (w.1 i0), .int x1] τ K X := by
  refine tp_enterXI (cc := cX8_recover) (maxL := 2) hl (by decide) rfl rfl (Nat.le_of_ble_eq_true rfl) (fun g C D hR hRX hT => ?_)
  show Zt w g τ (0, 0) 0 [(0, .ref (w.1 i0)), (1, .int x1)] []
  unfold wpx_X8_recover at hw
  refine z_aload_n C 0 (by rfl) dX8_recover_0 ?_
  refine z_iload_n C 1 (by rfl) dX8_recover_1 ?_
  refine xv_r C D (As := [.int x1]) (bytes := cX8_callerOf) (maxL := 2) (F1 := 7) (L1 := 103) (mc := 1) (ms := 6) (cx_X8_callerOf w _ i0 x1 _ _ hl h0 hw) h0.2 (tE7 h0.1) rfl 1 gX8_recover_X8_callerOf rfl (by decide +kernel) ⟨Nat.le_of_ble_eq_true rfl, Nat.le_of_ble_eq_true rfl⟩ rfl (Nat.le_of_ble_eq_true rfl) (k2 := (1, 6)) rfl ⟨Nat.le_of_ble_eq_true rfl, Nat.le_of_ble_eq_true rfl⟩ rfl dX8_recover_2 (fun _ _ hx => hRX _ _ _ _ _ (Nat.le_of_ble_eq_true rfl) (Nat.le_of_ble_eq_true rfl) hx) (fun τ21 j22 hw hj22 => ?_)
  refine z_get C (Cn := RX1) (T := TX1) (N := 14) (ci := 1) hj22.2 9 (tE1 hj22.1) in_X8_recover_X1 rfl (by decide) mw_X8_recover_0 rfl rfl dX8_recover_5 ?_
  exact hR _ _ _ _ dX8_recover_8 hw
def wpx_X8_round (τ : TS) (i0 : Nat) (x1 : Int32) (K : TS → Int32 → Prop) (X : TS → Nat → Prop) : Prop :=
  wpx_X8_callerOf τ i0 x1 (fun τ21 j22 => K τ21 (τ21 (j22 + 1) 0)) X
theorem mw_X8_round_0 : Cond.fieldLink RX8 214 "TidePost$Caller" "timing" "LTidePost$Timing;" ∈ wsX8_round := List.mem_of_getElem? (i := 1) rfl
theorem mw_X8_round_1 : Cond.fieldLink RX8 218 "TidePost$Timing" "round" "I" ∈ wsX8_round := List.mem_of_getElem? (i := 2) rfl
theorem in_X8_round_X1 : ∀ x ∈ wsX10, x ∈ wsX8_round := fun _ h => List.mem_cons_of_mem _ (List.mem_append_left _ (List.mem_append_left _ (List.mem_append_left _ (List.mem_append_left _ (List.mem_append_left _ (List.mem_append_right _ h))))))
theorem in_X8_round_X5 : ∀ x ∈ wsX50, x ∈ wsX8_round := fun _ h => List.mem_cons_of_mem _ (List.mem_append_left _ (List.mem_append_left _ (List.mem_append_left _ (List.mem_append_left _ (List.mem_append_right _ h)))))
set_option maxHeartbeats 4000000 in
set_option maxRecDepth 100000 in
theorem cx_X8_round (w : WPar) (τ : TS) (i0 : Nat) (x1 : Int32) (K : TS → Int32 → Prop) (X : TS → Nat → Prop) (hl : w.2.1.stackTraces = false) (h0 : tp_is w i0 7) (hw : wpx_X8_round τ i0 x1 K X) : XI w yX8_round wsX8_round 8 124 1 6 [.ref (w.1 i0), .int x1] τ K X := by
  refine tp_enterXI (cc := cX8_round) (maxL := 2) hl (by decide) rfl rfl (Nat.le_of_ble_eq_true rfl) (fun g C D hR hRX hT => ?_)
  show Zt w g τ (0, 0) 0 [(0, .ref (w.1 i0)), (1, .int x1)] []
  unfold wpx_X8_round at hw
  refine z_aload_n C 0 (by rfl) dX8_round_0 ?_
  refine z_iload_n C 1 (by rfl) dX8_round_1 ?_
  refine xv_r C D (As := [.int x1]) (bytes := cX8_callerOf) (maxL := 2) (F1 := 7) (L1 := 103) (mc := 1) (ms := 6) (cx_X8_callerOf w _ i0 x1 _ _ hl h0 hw) h0.2 (tE7 h0.1) rfl 1 gX8_round_X8_callerOf rfl (by decide +kernel) ⟨Nat.le_of_ble_eq_true rfl, Nat.le_of_ble_eq_true rfl⟩ rfl (Nat.le_of_ble_eq_true rfl) (k2 := (1, 6)) rfl ⟨Nat.le_of_ble_eq_true rfl, Nat.le_of_ble_eq_true rfl⟩ rfl dX8_round_2 (fun _ _ hx => hRX _ _ _ _ _ (Nat.le_of_ble_eq_true rfl) (Nat.le_of_ble_eq_true rfl) hx) (fun τ21 j22 hw hj22 => ?_)
  refine z_get C (Cn := RX1) (T := TX1) (N := 14) (ci := 1) hj22.2 13 (tE1 hj22.1) in_X8_round_X1 rfl (by decide) mw_X8_round_0 rfl rfl dX8_round_5 ?_
  refine z_get C (Cn := RX5) (T := TX5) (N := 5) (ci := 4) (tR1_13 hj22).2 0 (tE4 (tR1_13 hj22).1) in_X8_round_X5 rfl (by decide) mw_X8_round_1 rfl rfl dX8_round_8 ?_
  exact hR _ _ _ _ dX8_round_11 hw
def wpx_X8_swing (τ : TS) (i0 : Nat) (x1 : Int32) (K : TS → Int32 → Prop) (X : TS → Nat → Prop) : Prop :=
  wpx_X8_callerOf τ i0 x1 (fun τ21 j22 => K τ21 (τ21 (j22 + 1) 1)) X
theorem mw_X8_swing_0 : Cond.fieldLink RX8 214 "TidePost$Caller" "timing" "LTidePost$Timing;" ∈ wsX8_swing := List.mem_of_getElem? (i := 1) rfl
theorem mw_X8_swing_1 : Cond.fieldLink RX8 223 "TidePost$Timing" "swing" "I" ∈ wsX8_swing := List.mem_of_getElem? (i := 2) rfl
theorem in_X8_swing_X1 : ∀ x ∈ wsX10, x ∈ wsX8_swing := fun _ h => List.mem_cons_of_mem _ (List.mem_append_left _ (List.mem_append_left _ (List.mem_append_left _ (List.mem_append_left _ (List.mem_append_left _ (List.mem_append_right _ h))))))
theorem in_X8_swing_X5 : ∀ x ∈ wsX50, x ∈ wsX8_swing := fun _ h => List.mem_cons_of_mem _ (List.mem_append_left _ (List.mem_append_left _ (List.mem_append_left _ (List.mem_append_left _ (List.mem_append_right _ h)))))
set_option maxHeartbeats 4000000 in
set_option maxRecDepth 100000 in
theorem cx_X8_swing (w : WPar) (τ : TS) (i0 : Nat) (x1 : Int32) (K : TS → Int32 → Prop) (X : TS → Nat → Prop) (hl : w.2.1.stackTraces = false) (h0 : tp_is w i0 7) (hw : wpx_X8_swing τ i0 x1 K X) : XI w yX8_swing wsX8_swing 8 124 1 6 [.ref (w.1 i0), .int x1] τ K X := by
  refine tp_enterXI (cc := cX8_swing) (maxL := 2) hl (by decide) rfl rfl (Nat.le_of_ble_eq_true rfl) (fun g C D hR hRX hT => ?_)
  show Zt w g τ (0, 0) 0 [(0, .ref (w.1 i0)), (1, .int x1)] []
  unfold wpx_X8_swing at hw
  refine z_aload_n C 0 (by rfl) dX8_swing_0 ?_
  refine z_iload_n C 1 (by rfl) dX8_swing_1 ?_
  refine xv_r C D (As := [.int x1]) (bytes := cX8_callerOf) (maxL := 2) (F1 := 7) (L1 := 103) (mc := 1) (ms := 6) (cx_X8_callerOf w _ i0 x1 _ _ hl h0 hw) h0.2 (tE7 h0.1) rfl 1 gX8_swing_X8_callerOf rfl (by decide +kernel) ⟨Nat.le_of_ble_eq_true rfl, Nat.le_of_ble_eq_true rfl⟩ rfl (Nat.le_of_ble_eq_true rfl) (k2 := (1, 6)) rfl ⟨Nat.le_of_ble_eq_true rfl, Nat.le_of_ble_eq_true rfl⟩ rfl dX8_swing_2 (fun _ _ hx => hRX _ _ _ _ _ (Nat.le_of_ble_eq_true rfl) (Nat.le_of_ble_eq_true rfl) hx) (fun τ21 j22 hw hj22 => ?_)
  refine z_get C (Cn := RX1) (T := TX1) (N := 14) (ci := 1) hj22.2 13 (tE1 hj22.1) in_X8_swing_X1 rfl (by decide) mw_X8_swing_0 rfl rfl dX8_swing_5 ?_
  refine z_get C (Cn := RX5) (T := TX5) (N := 5) (ci := 4) (tR1_13 hj22).2 1 (tE4 (tR1_13 hj22).1) in_X8_swing_X5 rfl (by decide) mw_X8_swing_1 rfl rfl dX8_swing_8 ?_
  exact hR _ _ _ _ dX8_swing_11 hw
def wpx_X8_timeout (τ : TS) (i0 : Nat) (x1 : Int32) (K : TS → Int32 → Prop) (X : TS → Nat → Prop) : Prop :=
  wpx_X8_callerOf τ i0 x1 (fun τ21 j22 => K τ21 (τ21 (j22 + 1) 2)) X
theorem mw_X8_timeout_0 : Cond.fieldLink RX8 214 "TidePost$Caller" "timing" "LTidePost$Timing;" ∈ wsX8_timeout := List.mem_of_getElem? (i := 1) rfl
theorem mw_X8_timeout_1 : Cond.fieldLink RX8 226 "TidePost$Timing" "timeout" "I" ∈ wsX8_timeout := List.mem_of_getElem? (i := 2) rfl
theorem in_X8_timeout_X1 : ∀ x ∈ wsX10, x ∈ wsX8_timeout := fun _ h => List.mem_cons_of_mem _ (List.mem_append_left _ (List.mem_append_left _ (List.mem_append_left _ (List.mem_append_left _ (List.mem_append_left _ (List.mem_append_right _ h))))))
theorem in_X8_timeout_X5 : ∀ x ∈ wsX50, x ∈ wsX8_timeout := fun _ h => List.mem_cons_of_mem _ (List.mem_append_left _ (List.mem_append_left _ (List.mem_append_left _ (List.mem_append_left _ (List.mem_append_right _ h)))))
set_option maxHeartbeats 4000000 in
set_option maxRecDepth 100000 in
theorem cx_X8_timeout (w : WPar) (τ : TS) (i0 : Nat) (x1 : Int32) (K : TS → Int32 → Prop) (X : TS → Nat → Prop) (hl : w.2.1.stackTraces = false) (h0 : tp_is w i0 7) (hw : wpx_X8_timeout τ i0 x1 K X) : XI w yX8_timeout wsX8_timeout 8 124 1 6 [.ref (w.1 i0), .int x1] τ K X := by
  refine tp_enterXI (cc := cX8_timeout) (maxL := 2) hl (by decide) rfl rfl (Nat.le_of_ble_eq_true rfl) (fun g C D hR hRX hT => ?_)
  show Zt w g τ (0, 0) 0 [(0, .ref (w.1 i0)), (1, .int x1)] []
  unfold wpx_X8_timeout at hw
  refine z_aload_n C 0 (by rfl) dX8_timeout_0 ?_
  refine z_iload_n C 1 (by rfl) dX8_timeout_1 ?_
  refine xv_r C D (As := [.int x1]) (bytes := cX8_callerOf) (maxL := 2) (F1 := 7) (L1 := 103) (mc := 1) (ms := 6) (cx_X8_callerOf w _ i0 x1 _ _ hl h0 hw) h0.2 (tE7 h0.1) rfl 1 gX8_timeout_X8_callerOf rfl (by decide +kernel) ⟨Nat.le_of_ble_eq_true rfl, Nat.le_of_ble_eq_true rfl⟩ rfl (Nat.le_of_ble_eq_true rfl) (k2 := (1, 6)) rfl ⟨Nat.le_of_ble_eq_true rfl, Nat.le_of_ble_eq_true rfl⟩ rfl dX8_timeout_2 (fun _ _ hx => hRX _ _ _ _ _ (Nat.le_of_ble_eq_true rfl) (Nat.le_of_ble_eq_true rfl) hx) (fun τ21 j22 hw hj22 => ?_)
  refine z_get C (Cn := RX1) (T := TX1) (N := 14) (ci := 1) hj22.2 13 (tE1 hj22.1) in_X8_timeout_X1 rfl (by decide) mw_X8_timeout_0 rfl rfl dX8_timeout_5 ?_
  refine z_get C (Cn := RX5) (T := TX5) (N := 5) (ci := 4) (tR1_13 hj22).2 2 (tE4 (tR1_13 hj22).1) in_X8_timeout_X5 rfl (by decide) mw_X8_timeout_1 rfl rfl dX8_timeout_8 ?_
  exact hR _ _ _ _ dX8_timeout_11 hw
def wpx_X8_timer (τ : TS) (i0 : Nat) (x1 : Int32) (K : TS → Int32 → Prop) (X : TS → Nat → Prop) : Prop :=
  wpx_X8_callerOf τ i0 x1 (fun τ21 j22 => K τ21 (τ21 j22 10)) X
theorem mw_X8_timer_0 : Cond.fieldLink RX8 229 "TidePost$Caller" "timer" "I" ∈ wsX8_timer := List.mem_of_getElem? (i := 1) rfl
theorem in_X8_timer_X1 : ∀ x ∈ wsX10, x ∈ wsX8_timer := fun _ h => List.mem_cons_of_mem _ (List.mem_append_left _ (List.mem_append_left _ (List.mem_append_left _ (List.mem_append_left _ (List.mem_append_right _ h)))))
set_option maxHeartbeats 4000000 in
set_option maxRecDepth 100000 in
theorem cx_X8_timer (w : WPar) (τ : TS) (i0 : Nat) (x1 : Int32) (K : TS → Int32 → Prop) (X : TS → Nat → Prop) (hl : w.2.1.stackTraces = false) (h0 : tp_is w i0 7) (hw : wpx_X8_timer τ i0 x1 K X) : XI w yX8_timer wsX8_timer 8 124 1 6 [.ref (w.1 i0), .int x1] τ K X := by
  refine tp_enterXI (cc := cX8_timer) (maxL := 2) hl (by decide) rfl rfl (Nat.le_of_ble_eq_true rfl) (fun g C D hR hRX hT => ?_)
  show Zt w g τ (0, 0) 0 [(0, .ref (w.1 i0)), (1, .int x1)] []
  unfold wpx_X8_timer at hw
  refine z_aload_n C 0 (by rfl) dX8_timer_0 ?_
  refine z_iload_n C 1 (by rfl) dX8_timer_1 ?_
  refine xv_r C D (As := [.int x1]) (bytes := cX8_callerOf) (maxL := 2) (F1 := 7) (L1 := 103) (mc := 1) (ms := 6) (cx_X8_callerOf w _ i0 x1 _ _ hl h0 hw) h0.2 (tE7 h0.1) rfl 1 gX8_timer_X8_callerOf rfl (by decide +kernel) ⟨Nat.le_of_ble_eq_true rfl, Nat.le_of_ble_eq_true rfl⟩ rfl (Nat.le_of_ble_eq_true rfl) (k2 := (1, 6)) rfl ⟨Nat.le_of_ble_eq_true rfl, Nat.le_of_ble_eq_true rfl⟩ rfl dX8_timer_2 (fun _ _ hx => hRX _ _ _ _ _ (Nat.le_of_ble_eq_true rfl) (Nat.le_of_ble_eq_true rfl) hx) (fun τ21 j22 hw hj22 => ?_)
  refine z_get C (Cn := RX1) (T := TX1) (N := 14) (ci := 1) hj22.2 10 (tE1 hj22.1) in_X8_timer_X1 rfl (by decide) mw_X8_timer_0 rfl rfl dX8_timer_5 ?_
  exact hR _ _ _ _ dX8_timer_8 hw
def wpx_X8_measured (τ : TS) (i0 : Nat) (x1 : Int32) (K : TS → Int32 → Prop) (X : TS → Nat → Prop) : Prop :=
  wpx_X8_callerOf τ i0 x1 (fun τ21 j22 => K τ21 (τ21 (j22 + 1) 3)) X
theorem mw_X8_measured_0 : Cond.fieldLink RX8 214 "TidePost$Caller" "timing" "LTidePost$Timing;" ∈ wsX8_measured := List.mem_of_getElem? (i := 1) rfl
theorem mw_X8_measured_1 : Cond.fieldLink RX8 232 "TidePost$Timing" "measured" "I" ∈ wsX8_measured := List.mem_of_getElem? (i := 2) rfl
theorem in_X8_measured_X1 : ∀ x ∈ wsX10, x ∈ wsX8_measured := fun _ h => List.mem_cons_of_mem _ (List.mem_append_left _ (List.mem_append_left _ (List.mem_append_left _ (List.mem_append_left _ (List.mem_append_left _ (List.mem_append_right _ h))))))
theorem in_X8_measured_X5 : ∀ x ∈ wsX50, x ∈ wsX8_measured := fun _ h => List.mem_cons_of_mem _ (List.mem_append_left _ (List.mem_append_left _ (List.mem_append_left _ (List.mem_append_left _ (List.mem_append_right _ h)))))
set_option maxHeartbeats 4000000 in
set_option maxRecDepth 100000 in
theorem cx_X8_measured (w : WPar) (τ : TS) (i0 : Nat) (x1 : Int32) (K : TS → Int32 → Prop) (X : TS → Nat → Prop) (hl : w.2.1.stackTraces = false) (h0 : tp_is w i0 7) (hw : wpx_X8_measured τ i0 x1 K X) : XI w yX8_measured wsX8_measured 8 124 1 6 [.ref (w.1 i0), .int x1] τ K X := by
  refine tp_enterXI (cc := cX8_measured) (maxL := 2) hl (by decide) rfl rfl (Nat.le_of_ble_eq_true rfl) (fun g C D hR hRX hT => ?_)
  show Zt w g τ (0, 0) 0 [(0, .ref (w.1 i0)), (1, .int x1)] []
  unfold wpx_X8_measured at hw
  refine z_aload_n C 0 (by rfl) dX8_measured_0 ?_
  refine z_iload_n C 1 (by rfl) dX8_measured_1 ?_
  refine xv_r C D (As := [.int x1]) (bytes := cX8_callerOf) (maxL := 2) (F1 := 7) (L1 := 103) (mc := 1) (ms := 6) (cx_X8_callerOf w _ i0 x1 _ _ hl h0 hw) h0.2 (tE7 h0.1) rfl 1 gX8_measured_X8_callerOf rfl (by decide +kernel) ⟨Nat.le_of_ble_eq_true rfl, Nat.le_of_ble_eq_true rfl⟩ rfl (Nat.le_of_ble_eq_true rfl) (k2 := (1, 6)) rfl ⟨Nat.le_of_ble_eq_true rfl, Nat.le_of_ble_eq_true rfl⟩ rfl dX8_measured_2 (fun _ _ hx => hRX _ _ _ _ _ (Nat.le_of_ble_eq_true rfl) (Nat.le_of_ble_eq_true rfl) hx) (fun τ21 j22 hw hj22 => ?_)
  refine z_get C (Cn := RX1) (T := TX1) (N := 14) (ci := 1) hj22.2 13 (tE1 hj22.1) in_X8_measured_X1 rfl (by decide) mw_X8_measured_0 rfl rfl dX8_measured_5 ?_
  refine z_get C (Cn := RX5) (T := TX5) (N := 5) (ci := 4) (tR1_13 hj22).2 3 (tE4 (tR1_13 hj22).1) in_X8_measured_X5 rfl (by decide) mw_X8_measured_1 rfl rfl dX8_measured_8 ?_
  exact hR _ _ _ _ dX8_measured_11 hw
def wpx_X8_tries (τ : TS) (i0 : Nat) (x1 : Int32) (K : TS → Int32 → Prop) (X : TS → Nat → Prop) : Prop :=
  wpx_X8_callerOf τ i0 x1 (fun τ21 j22 => K τ21 (τ21 j22 11)) X
theorem mw_X8_tries_0 : Cond.fieldLink RX8 235 "TidePost$Caller" "tries" "I" ∈ wsX8_tries := List.mem_of_getElem? (i := 1) rfl
theorem in_X8_tries_X1 : ∀ x ∈ wsX10, x ∈ wsX8_tries := fun _ h => List.mem_cons_of_mem _ (List.mem_append_left _ (List.mem_append_left _ (List.mem_append_left _ (List.mem_append_left _ (List.mem_append_right _ h)))))
set_option maxHeartbeats 4000000 in
set_option maxRecDepth 100000 in
theorem cx_X8_tries (w : WPar) (τ : TS) (i0 : Nat) (x1 : Int32) (K : TS → Int32 → Prop) (X : TS → Nat → Prop) (hl : w.2.1.stackTraces = false) (h0 : tp_is w i0 7) (hw : wpx_X8_tries τ i0 x1 K X) : XI w yX8_tries wsX8_tries 8 124 1 6 [.ref (w.1 i0), .int x1] τ K X := by
  refine tp_enterXI (cc := cX8_tries) (maxL := 2) hl (by decide) rfl rfl (Nat.le_of_ble_eq_true rfl) (fun g C D hR hRX hT => ?_)
  show Zt w g τ (0, 0) 0 [(0, .ref (w.1 i0)), (1, .int x1)] []
  unfold wpx_X8_tries at hw
  refine z_aload_n C 0 (by rfl) dX8_tries_0 ?_
  refine z_iload_n C 1 (by rfl) dX8_tries_1 ?_
  refine xv_r C D (As := [.int x1]) (bytes := cX8_callerOf) (maxL := 2) (F1 := 7) (L1 := 103) (mc := 1) (ms := 6) (cx_X8_callerOf w _ i0 x1 _ _ hl h0 hw) h0.2 (tE7 h0.1) rfl 1 gX8_tries_X8_callerOf rfl (by decide +kernel) ⟨Nat.le_of_ble_eq_true rfl, Nat.le_of_ble_eq_true rfl⟩ rfl (Nat.le_of_ble_eq_true rfl) (k2 := (1, 6)) rfl ⟨Nat.le_of_ble_eq_true rfl, Nat.le_of_ble_eq_true rfl⟩ rfl dX8_tries_2 (fun _ _ hx => hRX _ _ _ _ _ (Nat.le_of_ble_eq_true rfl) (Nat.le_of_ble_eq_true rfl) hx) (fun τ21 j22 hw hj22 => ?_)
  refine z_get C (Cn := RX1) (T := TX1) (N := 14) (ci := 1) hj22.2 11 (tE1 hj22.1) in_X8_tries_X1 rfl (by decide) mw_X8_tries_0 rfl rfl dX8_tries_5 ?_
  exact hR _ _ _ _ dX8_tries_8 hw
def wpx_X8_sentAgain (τ : TS) (i0 : Nat) (x1 : Int32) (K : TS → Int32 → Prop) (X : TS → Nat → Prop) : Prop :=
  wpx_X8_callerOf τ i0 x1 (fun τ21 j22 => K τ21 (τ21 j22 12)) X
theorem mw_X8_sentAgain_0 : Cond.fieldLink RX8 238 "TidePost$Caller" "sentAgain" "I" ∈ wsX8_sentAgain := List.mem_of_getElem? (i := 1) rfl
theorem in_X8_sentAgain_X1 : ∀ x ∈ wsX10, x ∈ wsX8_sentAgain := fun _ h => List.mem_cons_of_mem _ (List.mem_append_left _ (List.mem_append_left _ (List.mem_append_left _ (List.mem_append_left _ (List.mem_append_right _ h)))))
set_option maxHeartbeats 4000000 in
set_option maxRecDepth 100000 in
theorem cx_X8_sentAgain (w : WPar) (τ : TS) (i0 : Nat) (x1 : Int32) (K : TS → Int32 → Prop) (X : TS → Nat → Prop) (hl : w.2.1.stackTraces = false) (h0 : tp_is w i0 7) (hw : wpx_X8_sentAgain τ i0 x1 K X) : XI w yX8_sentAgain wsX8_sentAgain 8 124 1 6 [.ref (w.1 i0), .int x1] τ K X := by
  refine tp_enterXI (cc := cX8_sentAgain) (maxL := 2) hl (by decide) rfl rfl (Nat.le_of_ble_eq_true rfl) (fun g C D hR hRX hT => ?_)
  show Zt w g τ (0, 0) 0 [(0, .ref (w.1 i0)), (1, .int x1)] []
  unfold wpx_X8_sentAgain at hw
  refine z_aload_n C 0 (by rfl) dX8_sentAgain_0 ?_
  refine z_iload_n C 1 (by rfl) dX8_sentAgain_1 ?_
  refine xv_r C D (As := [.int x1]) (bytes := cX8_callerOf) (maxL := 2) (F1 := 7) (L1 := 103) (mc := 1) (ms := 6) (cx_X8_callerOf w _ i0 x1 _ _ hl h0 hw) h0.2 (tE7 h0.1) rfl 1 gX8_sentAgain_X8_callerOf rfl (by decide +kernel) ⟨Nat.le_of_ble_eq_true rfl, Nat.le_of_ble_eq_true rfl⟩ rfl (Nat.le_of_ble_eq_true rfl) (k2 := (1, 6)) rfl ⟨Nat.le_of_ble_eq_true rfl, Nat.le_of_ble_eq_true rfl⟩ rfl dX8_sentAgain_2 (fun _ _ hx => hRX _ _ _ _ _ (Nat.le_of_ble_eq_true rfl) (Nat.le_of_ble_eq_true rfl) hx) (fun τ21 j22 hw hj22 => ?_)
  refine z_get C (Cn := RX1) (T := TX1) (N := 14) (ci := 1) hj22.2 12 (tE1 hj22.1) in_X8_sentAgain_X1 rfl (by decide) mw_X8_sentAgain_0 rfl rfl dX8_sentAgain_5 ?_
  exact hR _ _ _ _ dX8_sentAgain_8 hw
def wpx_X8_wanted (τ : TS) (i0 : Nat) (x1 : Int32) (K : TS → Int32 → Prop) (X : TS → Nat → Prop) : Prop :=
  wpx_X8_connectionOf τ i0 x1 (fun τ21 j22 => K τ21 (τ21 (j22 + 3) 1)) X
theorem mw_X8_wanted_0 : Cond.fieldLink RX8 150 "TidePost$Connection" "callee" "LTidePost$Callee;" ∈ wsX8_wanted := List.mem_of_getElem? (i := 1) rfl
theorem mw_X8_wanted_1 : Cond.fieldLink RX8 241 "TidePost$Callee" "wanted" "I" ∈ wsX8_wanted := List.mem_of_getElem? (i := 2) rfl
theorem in_X8_wanted_X2 : ∀ x ∈ wsX20, x ∈ wsX8_wanted := fun _ h => List.mem_cons_of_mem _ (List.mem_append_left _ (List.mem_append_left _ (List.mem_append_left _ (List.mem_append_left _ (List.mem_append_right _ h)))))
theorem in_X8_wanted_X0 : ∀ x ∈ wsX00, x ∈ wsX8_wanted := fun _ h => List.mem_cons_of_mem _ (List.mem_append_left _ (List.mem_append_left _ (List.mem_append_left _ (List.mem_append_right _ h))))
set_option maxHeartbeats 4000000 in
set_option maxRecDepth 100000 in
theorem cx_X8_wanted (w : WPar) (τ : TS) (i0 : Nat) (x1 : Int32) (K : TS → Int32 → Prop) (X : TS → Nat → Prop) (hl : w.2.1.stackTraces = false) (h0 : tp_is w i0 7) (hw : wpx_X8_wanted τ i0 x1 K X) : XI w yX8_wanted wsX8_wanted 7 103 1 6 [.ref (w.1 i0), .int x1] τ K X := by
  refine tp_enterXI (cc := cX8_wanted) (maxL := 2) hl (by decide) rfl rfl (Nat.le_of_ble_eq_true rfl) (fun g C D hR hRX hT => ?_)
  show Zt w g τ (0, 0) 0 [(0, .ref (w.1 i0)), (1, .int x1)] []
  unfold wpx_X8_wanted at hw
  refine z_aload_n C 0 (by rfl) dX8_wanted_0 ?_
  refine z_iload_n C 1 (by rfl) dX8_wanted_1 ?_
  refine xv_r C D (As := [.int x1]) (bytes := cX8_connectionOf) (maxL := 2) (F1 := 6) (L1 := 82) (mc := 1) (ms := 6) (cx_X8_connectionOf w _ i0 x1 _ _ hl h0 hw) h0.2 (tE7 h0.1) rfl 1 gX8_wanted_X8_connectionOf rfl (by decide +kernel) ⟨Nat.le_of_ble_eq_true rfl, Nat.le_of_ble_eq_true rfl⟩ rfl (Nat.le_of_ble_eq_true rfl) (k2 := (1, 6)) rfl ⟨Nat.le_of_ble_eq_true rfl, Nat.le_of_ble_eq_true rfl⟩ rfl dX8_wanted_2 (fun _ _ hx => hRX _ _ _ _ _ (Nat.le_of_ble_eq_true rfl) (Nat.le_of_ble_eq_true rfl) hx) (fun τ21 j22 hw hj22 => ?_)
  refine z_get C (Cn := RX2) (T := TX2) (N := 4) (ci := 2) hj22.2 3 (tE2 hj22.1) in_X8_wanted_X2 rfl (by decide) mw_X8_wanted_0 rfl rfl dX8_wanted_5 ?_
  refine z_get C (Cn := RX0) (T := TX0) (N := 4) (ci := 0) (tR2_3 hj22).2 1 (tE0 (tR2_3 hj22).1) in_X8_wanted_X0 rfl (by decide) mw_X8_wanted_1 rfl rfl dX8_wanted_8 ?_
  exact hR _ _ _ _ dX8_wanted_11 hw
def wpx_X8_holds (τ : TS) (i0 : Nat) (x1 : Int32) (x2 : Int32) (K : TS → Int32 → Prop) (X : TS → Nat → Prop) : Prop :=
  wpx_X8_connectionOf τ i0 x1 (fun τ21 j22 => ((x2 < 0) → (K τ21 0)) ∧ ((¬ x2 < 0) → (((201 ≤ x2) → (K τ21 0)) ∧ ((¬ 201 ≤ x2) → (vp_in x2 201 ∧ ((((τ21 ((j22 + 3) + 1) (Int32.toNatClampNeg x2)) = 0) → (K τ21 0)) ∧ ((¬ (τ21 ((j22 + 3) + 1) (Int32.toNatClampNeg x2)) = 0) → (K τ21 1)))))))) X
theorem mw_X8_holds_0 : Cond.fieldLink RX8 150 "TidePost$Connection" "callee" "LTidePost$Callee;" ∈ wsX8_holds := List.mem_of_getElem? (i := 1) rfl
theorem mw_X8_holds_1 : Cond.fieldLink RX8 244 "TidePost$Callee" "held" "[Z" ∈ wsX8_holds := List.mem_of_getElem? (i := 2) rfl
theorem in_X8_holds_X2 : ∀ x ∈ wsX20, x ∈ wsX8_holds := fun _ h => List.mem_cons_of_mem _ (List.mem_append_left _ (List.mem_append_left _ (List.mem_append_left _ (List.mem_append_left _ (List.mem_append_right _ h)))))
theorem in_X8_holds_X0 : ∀ x ∈ wsX00, x ∈ wsX8_holds := fun _ h => List.mem_cons_of_mem _ (List.mem_append_left _ (List.mem_append_left _ (List.mem_append_left _ (List.mem_append_right _ h))))
set_option maxHeartbeats 4000000 in
set_option maxRecDepth 100000 in
theorem cx_X8_holds (w : WPar) (τ : TS) (i0 : Nat) (x1 : Int32) (x2 : Int32) (K : TS → Int32 → Prop) (X : TS → Nat → Prop) (hl : w.2.1.stackTraces = false) (h0 : tp_is w i0 7) (hw : wpx_X8_holds τ i0 x1 x2 K X) : XI w yX8_holds wsX8_holds 7 103 1 6 [.ref (w.1 i0), .int x1, .int x2] τ K X := by
  refine tp_enterXZ (cc := cX8_holds) (maxL := 4) hl (by decide) rfl rfl (Nat.le_of_ble_eq_true rfl) (fun g C D hR hRX hT => ?_)
  show Zt w g τ (0, 0) 0 [(0, .ref (w.1 i0)), (1, .int x1), (2, .int x2)] []
  unfold wpx_X8_holds at hw
  refine z_aload_n C 0 (by rfl) dX8_holds_0 ?_
  refine z_iload_n C 1 (by rfl) dX8_holds_1 ?_
  refine xv_r C D (As := [.int x1]) (bytes := cX8_connectionOf) (maxL := 2) (F1 := 6) (L1 := 82) (mc := 1) (ms := 6) (cx_X8_connectionOf w _ i0 x1 _ _ hl h0 hw) h0.2 (tE7 h0.1) rfl 1 gX8_holds_X8_connectionOf rfl (by decide +kernel) ⟨Nat.le_of_ble_eq_true rfl, Nat.le_of_ble_eq_true rfl⟩ rfl (Nat.le_of_ble_eq_true rfl) (k2 := (1, 6)) rfl ⟨Nat.le_of_ble_eq_true rfl, Nat.le_of_ble_eq_true rfl⟩ rfl dX8_holds_2 (fun _ _ hx => hRX _ _ _ _ _ (Nat.le_of_ble_eq_true rfl) (Nat.le_of_ble_eq_true rfl) hx) (fun τ21 j22 hw hj22 => ?_)
  refine z_get C (Cn := RX2) (T := TX2) (N := 4) (ci := 2) hj22.2 3 (tE2 hj22.1) in_X8_holds_X2 rfl (by decide) mw_X8_holds_0 rfl rfl dX8_holds_5 ?_
  refine z_get C (Cn := RX0) (T := TX0) (N := 4) (ci := 0) (tR2_3 hj22).2 3 (tE0 (tR2_3 hj22).1) in_X8_holds_X0 rfl (by decide) mw_X8_holds_1 rfl rfl dX8_holds_8 ?_
  refine z_astore_n C [(3, .ref (w.1 ((j22 + 3) + 1))), (0, .ref (w.1 i0)), (1, .int x1), (2, .int x2)] dX8_holds_11 (by decide) rfl ?_
  refine z_iload_n C 3 (by rfl) dX8_holds_12 ?_
  refine z_if_lt (tgt := 32) C dX8_holds_13 (by decide) (fun c23 => ?_) (fun c23 => ?_)
  · have hw := hw.1 c23
    refine z_iconst C 0 (by decide) dX8_holds_32 ?_
    exact hR _ _ _ _ dX8_holds_33 rfl hw
  · have hw := hw.2 c23
    refine z_iload_n C 3 (by rfl) dX8_holds_16 ?_
    refine z_aload_n C 0 (by rfl) dX8_holds_17 ?_
    refine z_alen C 1 201 (tR0_3 (tR2_3 hj22)).2 (tE10 (tR0_3 (tR2_3 hj22)).1) rfl rfl dX8_holds_18 ?_
    refine z_icmp_ge (tgt := 32) C dX8_holds_19 (by decide) (fun c24 => ?_) (fun c24 => ?_)
    · have hw := hw.1 c24
      refine z_iconst C 0 (by decide) dX8_holds_32 ?_
      exact hR _ _ _ _ dX8_holds_33 rfl hw
    · have hw := hw.2 c24
      refine z_aload_n C 0 (by rfl) dX8_holds_22 ?_
      refine z_iload_n C 3 (by rfl) dX8_holds_23 ?_
      obtain ⟨s25, hw⟩ := hw
      refine z_zald C (tR0_3 (tR2_3 hj22)).2 (tE10 (tR0_3 (tR2_3 hj22)).1) s25 dX8_holds_24 ?_
      refine z_if_eq (tgt := 32) C dX8_holds_25 (by decide) (fun c26 => ?_) (fun c26 => ?_)
      · have hw := hw.1 c26
        refine z_iconst C 0 (by decide) dX8_holds_32 ?_
        exact hR _ _ _ _ dX8_holds_33 rfl hw
      · have hw := hw.2 c26
        refine z_iconst C 1 (by decide) dX8_holds_28 ?_
        refine z_goto (tgt := 33) C dX8_holds_29 (by decide) ?_
        exact hR _ _ _ _ dX8_holds_33 rfl hw
def wpx_X8_readable (τ : TS) (i0 : Nat) (x1 : Int32) (K : TS → Int32 → Prop) (X : TS → Nat → Prop) : Prop :=
  wpx_X8_connectionOf τ i0 x1 (fun τ21 j22 => False) X
set_option maxHeartbeats 4000000 in
set_option maxRecDepth 100000 in
theorem cx_X8_readable (w : WPar) (τ : TS) (i0 : Nat) (x1 : Int32) (K : TS → Int32 → Prop) (X : TS → Nat → Prop) (hl : w.2.1.stackTraces = false) (h0 : tp_is w i0 7) (hw : wpx_X8_readable τ i0 x1 K X) : XI w yX8_readable wsX8_readable 7 103 1 6 [.ref (w.1 i0), .int x1] τ K X := by
  refine tp_enterXI (cc := cX8_readable) (maxL := 2) hl (by decide) rfl rfl (Nat.le_of_ble_eq_true rfl) (fun g C D hR hRX hT => ?_)
  show Zt w g τ (0, 0) 0 [(0, .ref (w.1 i0)), (1, .int x1)] []
  unfold wpx_X8_readable at hw
  refine z_aload_n C 0 (by rfl) dX8_readable_0 ?_
  refine z_iload_n C 1 (by rfl) dX8_readable_1 ?_
  refine xv_r C D (As := [.int x1]) (bytes := cX8_connectionOf) (maxL := 2) (F1 := 6) (L1 := 82) (mc := 1) (ms := 6) (cx_X8_connectionOf w _ i0 x1 _ _ hl h0 hw) h0.2 (tE7 h0.1) rfl 1 gX8_readable_X8_connectionOf rfl (by decide +kernel) ⟨Nat.le_of_ble_eq_true rfl, Nat.le_of_ble_eq_true rfl⟩ rfl (Nat.le_of_ble_eq_true rfl) (k2 := (1, 6)) rfl ⟨Nat.le_of_ble_eq_true rfl, Nat.le_of_ble_eq_true rfl⟩ rfl dX8_readable_2 (fun _ _ hx => hRX _ _ _ _ _ (Nat.le_of_ble_eq_true rfl) (Nat.le_of_ble_eq_true rfl) hx) (fun τ21 j22 hw hj22 => ?_)
  exact hw.elim
def wpx_X8_hasRead (τ : TS) (i0 : Nat) (x1 : Int32) (K : TS → Int32 → Prop) (X : TS → Nat → Prop) : Prop :=
  wpx_X8_connectionOf τ i0 x1 (fun τ21 j22 => K τ21 (τ21 (j22 + 3) 2)) X
theorem mw_X8_hasRead_0 : Cond.fieldLink RX8 150 "TidePost$Connection" "callee" "LTidePost$Callee;" ∈ wsX8_hasRead := List.mem_of_getElem? (i := 1) rfl
theorem mw_X8_hasRead_1 : Cond.fieldLink RX8 159 "TidePost$Callee" "read" "I" ∈ wsX8_hasRead := List.mem_of_getElem? (i := 2) rfl
theorem in_X8_hasRead_X2 : ∀ x ∈ wsX20, x ∈ wsX8_hasRead := fun _ h => List.mem_cons_of_mem _ (List.mem_append_left _ (List.mem_append_left _ (List.mem_append_left _ (List.mem_append_left _ (List.mem_append_right _ h)))))
theorem in_X8_hasRead_X0 : ∀ x ∈ wsX00, x ∈ wsX8_hasRead := fun _ h => List.mem_cons_of_mem _ (List.mem_append_left _ (List.mem_append_left _ (List.mem_append_left _ (List.mem_append_right _ h))))
set_option maxHeartbeats 4000000 in
set_option maxRecDepth 100000 in
theorem cx_X8_hasRead (w : WPar) (τ : TS) (i0 : Nat) (x1 : Int32) (K : TS → Int32 → Prop) (X : TS → Nat → Prop) (hl : w.2.1.stackTraces = false) (h0 : tp_is w i0 7) (hw : wpx_X8_hasRead τ i0 x1 K X) : XI w yX8_hasRead wsX8_hasRead 7 103 1 6 [.ref (w.1 i0), .int x1] τ K X := by
  refine tp_enterXI (cc := cX8_hasRead) (maxL := 2) hl (by decide) rfl rfl (Nat.le_of_ble_eq_true rfl) (fun g C D hR hRX hT => ?_)
  show Zt w g τ (0, 0) 0 [(0, .ref (w.1 i0)), (1, .int x1)] []
  unfold wpx_X8_hasRead at hw
  refine z_aload_n C 0 (by rfl) dX8_hasRead_0 ?_
  refine z_iload_n C 1 (by rfl) dX8_hasRead_1 ?_
  refine xv_r C D (As := [.int x1]) (bytes := cX8_connectionOf) (maxL := 2) (F1 := 6) (L1 := 82) (mc := 1) (ms := 6) (cx_X8_connectionOf w _ i0 x1 _ _ hl h0 hw) h0.2 (tE7 h0.1) rfl 1 gX8_hasRead_X8_connectionOf rfl (by decide +kernel) ⟨Nat.le_of_ble_eq_true rfl, Nat.le_of_ble_eq_true rfl⟩ rfl (Nat.le_of_ble_eq_true rfl) (k2 := (1, 6)) rfl ⟨Nat.le_of_ble_eq_true rfl, Nat.le_of_ble_eq_true rfl⟩ rfl dX8_hasRead_2 (fun _ _ hx => hRX _ _ _ _ _ (Nat.le_of_ble_eq_true rfl) (Nat.le_of_ble_eq_true rfl) hx) (fun τ21 j22 hw hj22 => ?_)
  refine z_get C (Cn := RX2) (T := TX2) (N := 4) (ci := 2) hj22.2 3 (tE2 hj22.1) in_X8_hasRead_X2 rfl (by decide) mw_X8_hasRead_0 rfl rfl dX8_hasRead_5 ?_
  refine z_get C (Cn := RX0) (T := TX0) (N := 4) (ci := 0) (tR2_3 hj22).2 2 (tE0 (tR2_3 hj22).1) in_X8_hasRead_X0 rfl (by decide) mw_X8_hasRead_1 rfl rfl dX8_hasRead_8 ?_
  exact hR _ _ _ _ dX8_hasRead_11 hw
def wpx_X8_ticksUntil (τ : TS) (i0 : Nat) (x1 : Int32) (x2 : Int32) (x3 : Int32) (K : TS → Int32 → Prop) (X : TS → Nat → Prop) : Prop :=
  wpx_X8_callerOf τ i0 x1 (fun τ21 j22 => wpx_X8_checkRange τ21 x3 1 60 (fun τ23 => (((τ23 j22 3) < x2) → (wp_X6_copyFrom τ23 122 17 (fun τ25 => ∃ (I28 : TS → Int32 → Prop) (u28 : TS → Int32 → Nat), I28 τ25 1 ∧ ∀ (τ26 : TS) (x27 : Int32), I28 τ26 x27 → (((x3 < x27) → (K τ26 (-1))) ∧ ((¬ x3 < x27) → (wp_X6_tick τ26 122 (fun τ30 => vp_in x1 6 ∧ ((((τ30 (((122 + 2) + 73 + 5 * (Int32.toNatClampNeg x1)) + 1) 3) < x2) → (∀ x33 : Int32, x33 = x27 + 1 → I28 τ30 x33 ∧ u28 τ30 x33 < u28 τ26 x27)) ∧ ((¬ (τ30 (((122 + 2) + 73 + 5 * (Int32.toNatClampNeg x1)) + 1) 3) < x2) → (K τ30 x27)))))))))) ∧ ((¬ (τ23 j22 3) < x2) → (K τ23 0))) X) X
theorem mw_X8_ticksUntil_0 : Cond.fieldLink RX8 130 "TidePost$Caller" "base" "I" ∈ wsX8_ticksUntil := List.mem_of_getElem? (i := 1) rfl
theorem mw_X8_ticksUntil_1 : Cond.fieldLink RX8 25 "TidePost" "ahead" "LTidePost$Traffic;" ∈ wsX8_ticksUntil := List.mem_of_getElem? (i := 2) rfl
theorem mw_X8_ticksUntil_2 : Cond.fieldLink RX8 21 "TidePost" "traffic" "LTidePost$Traffic;" ∈ wsX8_ticksUntil := List.mem_of_getElem? (i := 3) rfl
theorem mw_X8_ticksUntil_3 : Cond.fieldLink RX8 247 "TidePost$Traffic" "all" "[LTidePost$Connection;" ∈ wsX8_ticksUntil := List.mem_of_getElem? (i := 4) rfl
theorem mw_X8_ticksUntil_4 : Cond.fieldLink RX8 251 "TidePost$Connection" "caller" "LTidePost$Caller;" ∈ wsX8_ticksUntil := List.mem_of_getElem? (i := 5) rfl
theorem in_X8_ticksUntil_X1 : ∀ x ∈ wsX10, x ∈ wsX8_ticksUntil := fun _ h => List.mem_cons_of_mem _ (List.mem_append_left _ (List.mem_append_left _ (List.mem_append_left _ (List.mem_append_left _ (List.mem_append_left _ (List.mem_append_left _ (List.mem_append_left _ (List.mem_append_left _ (List.mem_append_left _ (List.mem_append_right _ h))))))))))
theorem in_X8_ticksUntil_X8 : ∀ x ∈ wsX80, x ∈ wsX8_ticksUntil := fun _ h => List.mem_cons_of_mem _ (List.mem_append_left _ (List.mem_append_left _ (List.mem_append_left _ (List.mem_append_left _ (List.mem_append_left _ (List.mem_append_left _ (List.mem_append_left _ (List.mem_append_left _ (List.mem_append_right _ h)))))))))
theorem in_X8_ticksUntil_X6 : ∀ x ∈ wsX60, x ∈ wsX8_ticksUntil := fun _ h => List.mem_cons_of_mem _ (List.mem_append_left _ (List.mem_append_left _ (List.mem_append_left _ (List.mem_append_left _ (List.mem_append_left _ (List.mem_append_left _ (List.mem_append_left _ (List.mem_append_right _ h))))))))
theorem in_X8_ticksUntil_X2 : ∀ x ∈ wsX20, x ∈ wsX8_ticksUntil := fun _ h => List.mem_cons_of_mem _ (List.mem_append_left _ (List.mem_append_left _ (List.mem_append_left _ (List.mem_append_left _ (List.mem_append_left _ (List.mem_append_left _ (List.mem_append_right _ h)))))))
set_option maxHeartbeats 4000000 in
set_option maxRecDepth 100000 in
theorem cx_X8_ticksUntil (w : WPar) (τ : TS) (i0 : Nat) (x1 : Int32) (x2 : Int32) (x3 : Int32) (K : TS → Int32 → Prop) (X : TS → Nat → Prop) (hl : w.2.1.stackTraces = false) (h0 : tp_is w i0 7) (hw : wpx_X8_ticksUntil τ i0 x1 x2 x3 K X) : XI w yX8_ticksUntil wsX8_ticksUntil 8 124 2 12 [.ref (w.1 i0), .int x1, .int x2, .int x3] τ K X := by
  refine tp_enterXI (cc := cX8_ticksUntil) (maxL := 6) hl (by decide) rfl rfl (Nat.le_of_ble_eq_true rfl) (fun g C D hR hRX hT => ?_)
  show Zt w g τ (0, 0) 0 [(0, .ref (w.1 i0)), (1, .int x1), (2, .int x2), (3, .int x3)] []
  unfold wpx_X8_ticksUntil at hw
  refine z_aload_n C 0 (by rfl) dX8_ticksUntil_0 ?_
  refine z_iload_n C 1 (by rfl) dX8_ticksUntil_1 ?_
  refine xv_r C D (As := [.int x1]) (bytes := cX8_callerOf) (maxL := 2) (F1 := 7) (L1 := 103) (mc := 1) (ms := 6) (cx_X8_callerOf w _ i0 x1 _ _ hl h0 hw) h0.2 (tE7 h0.1) rfl 1 gX8_ticksUntil_X8_callerOf rfl (by decide +kernel) ⟨Nat.le_of_ble_eq_true rfl, Nat.le_of_ble_eq_true rfl⟩ rfl (Nat.le_of_ble_eq_true rfl) (k2 := (1, 6)) rfl ⟨Nat.le_of_ble_eq_true rfl, Nat.le_of_ble_eq_true rfl⟩ rfl dX8_ticksUntil_2 (fun _ _ hx => hRX _ _ _ _ _ (Nat.le_of_ble_eq_true rfl) (Nat.le_of_ble_eq_true rfl) hx) (fun τ21 j22 hw hj22 => ?_)
  refine z_astore C [(4, .ref (w.1 j22)), (0, .ref (w.1 i0)), (1, .int x1), (2, .int x2), (3, .int x3)] dX8_ticksUntil_5 (by decide) rfl ?_
  refine z_iload_n C 4 (by rfl) dX8_ticksUntil_7 ?_
  refine z_iconst C 1 (by decide) dX8_ticksUntil_8 ?_
  refine z_bipush C 60 (by decide) dX8_ticksUntil_9 ?_
  refine xs_v C D (As := [.int x3, .int 1, .int 60]) (bytes := cX8_checkRange) (maxL := 3) (F1 := 6) (L1 := 82) (mc := 1) (ms := 6) (cx_X8_checkRange w _ x3 1 60 _ _ hl  hw) 3 gX8_ticksUntil_X8_checkRange rfl (by decide +kernel) ⟨Nat.le_of_ble_eq_true rfl, Nat.le_of_ble_eq_true rfl⟩ rfl (Nat.le_of_ble_eq_true rfl) (k2 := (2, 12)) rfl ⟨Nat.le_of_ble_eq_true rfl, Nat.le_of_ble_eq_true rfl⟩ rfl dX8_ticksUntil_11 (fun _ _ hx => hRX _ _ _ _ _ (Nat.le_of_ble_eq_true rfl) (Nat.le_of_ble_eq_true rfl) hx) (fun τ23 hw => ?_)
  refine z_aload C 0 (by rfl) dX8_ticksUntil_14 ?_
  refine z_get C (Cn := RX1) (T := TX1) (N := 14) (ci := 1) hj22.2 3 (tE1 hj22.1) in_X8_ticksUntil_X1 rfl (by decide) mw_X8_ticksUntil_0 rfl rfl dX8_ticksUntil_16 ?_
  refine z_iload_n C 3 (by rfl) dX8_ticksUntil_19 ?_
  refine z_icmp_lt (tgt := 25) C dX8_ticksUntil_20 (by decide) (fun c24 => ?_) (fun c24 => ?_)
  · have hw := hw.1 c24
    refine z_aload_n C 1 (by rfl) dX8_ticksUntil_25 ?_
    refine z_get C (Cn := RX8) (T := TX8) (N := 4) (ci := 7) h0.2 2 (tE7 h0.1) in_X8_ticksUntil_X8 rfl (by decide) mw_X8_ticksUntil_1 rfl rfl dX8_ticksUntil_26 ?_
    refine z_aload_n C 1 (by rfl) dX8_ticksUntil_29 ?_
    refine z_get C (Cn := RX8) (T := TX8) (N := 4) (ci := 7) h0.2 1 (tE7 h0.1) in_X8_ticksUntil_X8 rfl (by decide) mw_X8_ticksUntil_2 rfl rfl dX8_ticksUntil_30 ?_
    refine zv_v C (As := [.ref (w.1 17)]) (bytes := cX6_copyFrom) (maxL := 3) (F1 := 0) (L1 := 0) (c_X6_copyFrom w _ 122 17 _ (tR7_2 h0) (tR7_1 h0) hw) (tR7_2 h0).2 (tE5 (tR7_2 h0).1) rfl 1 gX8_ticksUntil_X6_copyFrom rfl (by decide +kernel) ⟨Nat.le_of_ble_eq_true rfl, Nat.le_of_ble_eq_true rfl⟩ rfl (Nat.le_of_ble_eq_true rfl) ⟨Nat.le_of_ble_eq_true rfl, Nat.le_of_ble_eq_true rfl⟩ rfl dX8_ticksUntil_33 (fun τ25 hw => ?_)
    refine z_iconst C 1 (by decide) dX8_ticksUntil_36 ?_
    refine z_istore C [(5, .int 1), (4, .ref (w.1 j22)), (0, .ref (w.1 i0)), (1, .int x1), (2, .int x2), (3, .int x3)] dX8_ticksUntil_37 (by decide) rfl ?_
    obtain ⟨I28, u28, hI28, hs28⟩ := hw
    have lp28 : ∀ (n28 : Nat) (τ26 : TS) (x27 : Int32), u28 τ26 x27 < n28 → I28 τ26 x27 → Zt w g τ26 (2, 12) 39 [(0, .ref (w.1 i0)), (1, .int x1), (2, .int x2), (3, .int x3), (5, .int x27)] [] := by
      intro n28
      induction n28 with
      | zero => intro τ26 x27 hlt28; exact absurd hlt28 (Nat.not_lt_zero _)
      | succ n28 ih28 =>
        intro τ26 x27 hlt28 hh28
        have hw := hs28 τ26 x27 hh28
        refine z_iload C 4 (by rfl) dX8_ticksUntil_39 ?_
        refine z_iload_n C 3 (by rfl) dX8_ticksUntil_41 ?_
        refine z_icmp_gt (tgt := 80) C dX8_ticksUntil_42 (by decide) (fun c29 => ?_) (fun c29 => ?_)
        · have hw := hw.1 c29
          refine z_iconst C (-1) (by decide) dX8_ticksUntil_80 ?_
          exact hR _ _ _ _ dX8_ticksUntil_81 hw
        · have hw := hw.2 c29
          refine z_aload_n C 0 (by rfl) dX8_ticksUntil_45 ?_
          refine z_get C (Cn := RX8) (T := TX8) (N := 4) (ci := 7) h0.2 2 (tE7 h0.1) in_X8_ticksUntil_X8 rfl (by decide) mw_X8_ticksUntil_1 rfl rfl dX8_ticksUntil_46 ?_
          refine zv_v C (As := []) (bytes := cX6_tick) (maxL := 1) (F1 := 1) (L1 := 23) (c_X6_tick w _ 122 _ (tR7_2 h0) hw) (tR7_2 h0).2 (tE5 (tR7_2 h0).1) rfl 0 gX8_ticksUntil_X6_tick rfl (by decide +kernel) ⟨Nat.le_of_ble_eq_true rfl, Nat.le_of_ble_eq_true rfl⟩ rfl (Nat.le_of_ble_eq_true rfl) ⟨Nat.le_of_ble_eq_true rfl, Nat.le_of_ble_eq_true rfl⟩ rfl dX8_ticksUntil_49 (fun τ30 hw => ?_)
          refine z_aload_n C 0 (by rfl) dX8_ticksUntil_52 ?_
          refine z_get C (Cn := RX8) (T := TX8) (N := 4) (ci := 7) h0.2 2 (tE7 h0.1) in_X8_ticksUntil_X8 rfl (by decide) mw_X8_ticksUntil_1 rfl rfl dX8_ticksUntil_53 ?_
          refine z_get C (Cn := RX6) (T := TX6) (N := 6) (ci := 5) (tR7_2 h0).2 2 (tE5 (tR7_2 h0).1) in_X8_ticksUntil_X6 rfl (by decide) mw_X8_ticksUntil_3 rfl rfl dX8_ticksUntil_56 ?_
          refine z_iload_n C 1 (by rfl) dX8_ticksUntil_59 ?_
          obtain ⟨s31, hw⟩ := hw
          refine z_aald_q3 C (tR5_2 (tR7_2 h0)).2 (tE16 (tR5_2 (tR7_2 h0)).1) s31 (if_pos (tp_lt s31)) dX8_ticksUntil_60 ?_
          refine z_get C (Cn := RX2) (T := TX2) (N := 4) (ci := 2) (tR16 (tR5_2 (tR7_2 h0)) (tp_lt s31)).2 2 (tE2 (tR16 (tR5_2 (tR7_2 h0)) (tp_lt s31)).1) in_X8_ticksUntil_X2 rfl (by decide) mw_X8_ticksUntil_4 rfl rfl dX8_ticksUntil_61 ?_
          refine z_get C (Cn := RX1) (T := TX1) (N := 14) (ci := 1) (tR2_2 (tR16 (tR5_2 (tR7_2 h0)) (tp_lt s31))).2 3 (tE1 (tR2_2 (tR16 (tR5_2 (tR7_2 h0)) (tp_lt s31))).1) in_X8_ticksUntil_X1 rfl (by decide) mw_X8_ticksUntil_0 rfl rfl dX8_ticksUntil_64 ?_
          refine z_iload_n C 2 (by rfl) dX8_ticksUntil_67 ?_
          refine z_icmp_lt (tgt := 74) C dX8_ticksUntil_68 (by decide) (fun c32 => ?_) (fun c32 => ?_)
          · have hw := hw.1 c32
            obtain ⟨x33, ex33⟩ : ∃ z : Int32, z = x27 + 1 := ⟨_, rfl⟩
            have hw := hw x33 ex33
            refine z_iinc C 4 x33 [(5, .int x33), (0, .ref (w.1 i0)), (1, .int x1), (2, .int x2), (3, .int x3)] dX8_ticksUntil_74 (by rfl) (by rw [ex33]; rfl) (by decide) rfl ?_
            refine z_goto (tgt := 39) C dX8_ticksUntil_77 (by decide) ?_
            refine z_sub [1, 2, 3, 4, 0] [(0, .ref (w.1 i0)), (1, .int x1), (2, .int x2), (3, .int x3), (5, .int x33)] rfl ?_
            exact ih28 τ30 x33 (Nat.lt_of_lt_of_le hw.2 (Nat.le_of_lt_succ hlt28)) hw.1
          · have hw := hw.2 c32
            refine z_iload C 4 (by rfl) dX8_ticksUntil_71 ?_
            exact hR _ _ _ _ dX8_ticksUntil_73 hw
    refine z_sub [2, 3, 4, 5, 0] [(0, .ref (w.1 i0)), (1, .int x1), (2, .int x2), (3, .int x3), (5, .int 1)] rfl ?_
    exact lp28 _ τ25 1 (Nat.lt_succ_self _) hI28
  · have hw := hw.2 c24
    refine z_iconst C 0 (by decide) dX8_ticksUntil_23 ?_
    exact hR _ _ _ _ dX8_ticksUntil_24 hw
def wpx_X8_lostIn (τ : TS) (i0 : Nat) (x1 : Int32) (K : TS → Int32 → Prop) (X : TS → Nat → Prop) : Prop :=
  wpx_X8_checkRange τ x1 1 50 (fun τ21 => wp_X6_copyFrom τ21 122 17 (fun τ22 => ∃ (I25 : TS → Int32 → Prop) (u25 : TS → Int32 → Nat), I25 τ22 0 ∧ ∀ (τ23 : TS) (x24 : Int32), I25 τ23 x24 → (((x1 ≤ x24) → (K τ23 ((τ23 122 5) - (τ23 17 5)))) ∧ ((¬ x1 ≤ x24) → (wp_X6_tick τ23 122 (fun τ27 => ∀ x28 : Int32, x28 = x24 + 1 → I25 τ27 x28 ∧ u25 τ27 x28 < u25 τ23 x24)))))) X
theorem mw_X8_lostIn_0 : Cond.fieldLink RX8 25 "TidePost" "ahead" "LTidePost$Traffic;" ∈ wsX8_lostIn := List.mem_of_getElem? (i := 1) rfl
theorem mw_X8_lostIn_1 : Cond.fieldLink RX8 21 "TidePost" "traffic" "LTidePost$Traffic;" ∈ wsX8_lostIn := List.mem_of_getElem? (i := 2) rfl
theorem mw_X8_lostIn_2 : Cond.fieldLink RX8 186 "TidePost$Traffic" "lost" "I" ∈ wsX8_lostIn := List.mem_of_getElem? (i := 3) rfl
theorem in_X8_lostIn_X8 : ∀ x ∈ wsX80, x ∈ wsX8_lostIn := fun _ h => List.mem_cons_of_mem _ (List.mem_append_left _ (List.mem_append_left _ (List.mem_append_left _ (List.mem_append_left _ (List.mem_append_left _ (List.mem_append_left _ (List.mem_append_left _ (List.mem_append_left _ (List.mem_append_right _ h)))))))))
theorem in_X8_lostIn_X6 : ∀ x ∈ wsX60, x ∈ wsX8_lostIn := fun _ h => List.mem_cons_of_mem _ (List.mem_append_left _ (List.mem_append_left _ (List.mem_append_left _ (List.mem_append_left _ (List.mem_append_left _ (List.mem_append_left _ (List.mem_append_left _ (List.mem_append_right _ h))))))))
set_option maxHeartbeats 4000000 in
set_option maxRecDepth 100000 in
theorem cx_X8_lostIn (w : WPar) (τ : TS) (i0 : Nat) (x1 : Int32) (K : TS → Int32 → Prop) (X : TS → Nat → Prop) (hl : w.2.1.stackTraces = false) (h0 : tp_is w i0 7) (hw : wpx_X8_lostIn τ i0 x1 K X) : XI w yX8_lostIn wsX8_lostIn 7 104 1 6 [.ref (w.1 i0), .int x1] τ K X := by
  refine tp_enterXI (cc := cX8_lostIn) (maxL := 3) hl (by decide) rfl rfl (Nat.le_of_ble_eq_true rfl) (fun g C D hR hRX hT => ?_)
  show Zt w g τ (0, 0) 0 [(0, .ref (w.1 i0)), (1, .int x1)] []
  unfold wpx_X8_lostIn at hw
  refine z_iload_n C 1 (by rfl) dX8_lostIn_0 ?_
  refine z_iconst C 1 (by decide) dX8_lostIn_1 ?_
  refine z_bipush C 50 (by decide) dX8_lostIn_2 ?_
  refine xs_v C D (As := [.int x1, .int 1, .int 50]) (bytes := cX8_checkRange) (maxL := 3) (F1 := 6) (L1 := 82) (mc := 1) (ms := 6) (cx_X8_checkRange w _ x1 1 50 _ _ hl  hw) 3 gX8_lostIn_X8_checkRange rfl (by decide +kernel) ⟨Nat.le_of_ble_eq_true rfl, Nat.le_of_ble_eq_true rfl⟩ rfl (Nat.le_of_ble_eq_true rfl) (k2 := (1, 6)) rfl ⟨Nat.le_of_ble_eq_true rfl, Nat.le_of_ble_eq_true rfl⟩ rfl dX8_lostIn_4 (fun _ _ hx => hRX _ _ _ _ _ (Nat.le_of_ble_eq_true rfl) (Nat.le_of_ble_eq_true rfl) hx) (fun τ21 hw => ?_)
  refine z_aload_n C 0 (by rfl) dX8_lostIn_7 ?_
  refine z_get C (Cn := RX8) (T := TX8) (N := 4) (ci := 7) h0.2 2 (tE7 h0.1) in_X8_lostIn_X8 rfl (by decide) mw_X8_lostIn_0 rfl rfl dX8_lostIn_8 ?_
  refine z_aload_n C 0 (by rfl) dX8_lostIn_11 ?_
  refine z_get C (Cn := RX8) (T := TX8) (N := 4) (ci := 7) h0.2 1 (tE7 h0.1) in_X8_lostIn_X8 rfl (by decide) mw_X8_lostIn_1 rfl rfl dX8_lostIn_12 ?_
  refine zv_v C (As := [.ref (w.1 17)]) (bytes := cX6_copyFrom) (maxL := 3) (F1 := 0) (L1 := 0) (c_X6_copyFrom w _ 122 17 _ (tR7_2 h0) (tR7_1 h0) hw) (tR7_2 h0).2 (tE5 (tR7_2 h0).1) rfl 1 gX8_lostIn_X6_copyFrom rfl (by decide +kernel) ⟨Nat.le_of_ble_eq_true rfl, Nat.le_of_ble_eq_true rfl⟩ rfl (Nat.le_of_ble_eq_true rfl) ⟨Nat.le_of_ble_eq_true rfl, Nat.le_of_ble_eq_true rfl⟩ rfl dX8_lostIn_15 (fun τ22 hw => ?_)
  refine z_iconst C 0 (by decide) dX8_lostIn_18 ?_
  refine z_istore_n C [(2, .int 0), (0, .ref (w.1 i0)), (1, .int x1)] dX8_lostIn_19 (by decide) rfl ?_
  obtain ⟨I25, u25, hI25, hs25⟩ := hw
  have lp25 : ∀ (n25 : Nat) (τ23 : TS) (x24 : Int32), u25 τ23 x24 < n25 → I25 τ23 x24 → Zt w g τ23 (1, 6) 20 [(0, .ref (w.1 i0)), (1, .int x1), (2, .int x24)] [] := by
    intro n25
    induction n25 with
    | zero => intro τ23 x24 hlt25; exact absurd hlt25 (Nat.not_lt_zero _)
    | succ n25 ih25 =>
      intro τ23 x24 hlt25 hh25
      have hw := hs25 τ23 x24 hh25
      refine z_iload_n C 2 (by rfl) dX8_lostIn_20 ?_
      refine z_iload_n C 1 (by rfl) dX8_lostIn_21 ?_
      refine z_icmp_ge (tgt := 38) C dX8_lostIn_22 (by decide) (fun c26 => ?_) (fun c26 => ?_)
      · have hw := hw.1 c26
        refine z_aload_n C 0 (by rfl) dX8_lostIn_38 ?_
        refine z_get C (Cn := RX8) (T := TX8) (N := 4) (ci := 7) h0.2 2 (tE7 h0.1) in_X8_lostIn_X8 rfl (by decide) mw_X8_lostIn_0 rfl rfl dX8_lostIn_39 ?_
        refine z_get C (Cn := RX6) (T := TX6) (N := 6) (ci := 5) (tR7_2 h0).2 5 (tE5 (tR7_2 h0).1) in_X8_lostIn_X6 rfl (by decide) mw_X8_lostIn_2 rfl rfl dX8_lostIn_42 ?_
        refine z_aload_n C 0 (by rfl) dX8_lostIn_45 ?_
        refine z_get C (Cn := RX8) (T := TX8) (N := 4) (ci := 7) h0.2 1 (tE7 h0.1) in_X8_lostIn_X8 rfl (by decide) mw_X8_lostIn_1 rfl rfl dX8_lostIn_46 ?_
        refine z_get C (Cn := RX6) (T := TX6) (N := 6) (ci := 5) (tR7_1 h0).2 5 (tE5 (tR7_1 h0).1) in_X8_lostIn_X6 rfl (by decide) mw_X8_lostIn_2 rfl rfl dX8_lostIn_49 ?_
        refine z_isub C dX8_lostIn_52 ?_
        exact hR _ _ _ _ dX8_lostIn_53 hw
      · have hw := hw.2 c26
        refine z_aload_n C 0 (by rfl) dX8_lostIn_25 ?_
        refine z_get C (Cn := RX8) (T := TX8) (N := 4) (ci := 7) h0.2 2 (tE7 h0.1) in_X8_lostIn_X8 rfl (by decide) mw_X8_lostIn_0 rfl rfl dX8_lostIn_26 ?_
        refine zv_v C (As := []) (bytes := cX6_tick) (maxL := 1) (F1 := 1) (L1 := 23) (c_X6_tick w _ 122 _ (tR7_2 h0) hw) (tR7_2 h0).2 (tE5 (tR7_2 h0).1) rfl 0 gX8_lostIn_X6_tick rfl (by decide +kernel) ⟨Nat.le_of_ble_eq_true rfl, Nat.le_of_ble_eq_true rfl⟩ rfl (Nat.le_of_ble_eq_true rfl) ⟨Nat.le_of_ble_eq_true rfl, Nat.le_of_ble_eq_true rfl⟩ rfl dX8_lostIn_29 (fun τ27 hw => ?_)
        obtain ⟨x28, ex28⟩ : ∃ z : Int32, z = x24 + 1 := ⟨_, rfl⟩
        have hw := hw x28 ex28
        refine z_iinc C 2 x28 [(2, .int x28), (0, .ref (w.1 i0)), (1, .int x1)] dX8_lostIn_32 (by rfl) (by rw [ex28]; rfl) (by decide) rfl ?_
        refine z_goto (tgt := 20) C dX8_lostIn_35 (by decide) ?_
        refine z_sub [1, 2, 0] [(0, .ref (w.1 i0)), (1, .int x1), (2, .int x28)] rfl ?_
        exact ih25 τ27 x28 (Nat.lt_of_lt_of_le hw.2 (Nat.le_of_lt_succ hlt25)) hw.1
  refine z_sub [1, 2, 0] [(0, .ref (w.1 i0)), (1, .int x1), (2, .int 0)] rfl ?_
  exact lp25 _ τ22 0 (Nat.lt_succ_self _) hI25
def wpx_X8_distanceWithout (τ : TS) (i0 : Nat) (x1 : Int32) (x2 : Int32) (x3 : Int32) (K : TS → Int32 → Prop) (X : TS → Nat → Prop) : Prop :=
  wpx_X8_checkLink τ i0 x1 (fun τ21 => wpx_X8_checkNode τ21 i0 x2 (fun τ22 => wpx_X8_checkNode τ22 i0 x3 (fun τ23 => wp_X3_spread τ23 1 x3 x1 16 (fun τ24 => vp_in x2 8 ∧ (K τ24 (τ24 16 (Int32.toNatClampNeg x2))))) X) X) X
theorem mw_X8_distanceWithout_0 : Cond.fieldLink RX8 12 "TidePost" "net" "LTidePost$Net;" ∈ wsX8_distanceWithout := List.mem_of_getElem? (i := 1) rfl
theorem mw_X8_distanceWithout_1 : Cond.fieldLink RX8 259 "TidePost$Net" "trial" "[I" ∈ wsX8_distanceWithout := List.mem_of_getElem? (i := 2) rfl
theorem in_X8_distanceWithout_X8 : ∀ x ∈ wsX80, x ∈ wsX8_distanceWithout := fun _ h => List.mem_cons_of_mem _ (List.mem_append_left _ (List.mem_append_left _ (List.mem_append_right _ h)))
theorem in_X8_distanceWithout_X3 : ∀ x ∈ wsX30, x ∈ wsX8_distanceWithout := fun _ h => List.mem_cons_of_mem _ (List.mem_append_left _ (List.mem_append_right _ h))
set_option maxHeartbeats 4000000 in
set_option maxRecDepth 100000 in
theorem cx_X8_distanceWithout (w : WPar) (τ : TS) (i0 : Nat) (x1 : Int32) (x2 : Int32) (x3 : Int32) (K : TS → Int32 → Prop) (X : TS → Nat → Prop) (hl : w.2.1.stackTraces = false) (h0 : tp_is w i0 7) (hw : wpx_X8_distanceWithout τ i0 x1 x2 x3 K X) : XI w yX8_distanceWithout wsX8_distanceWithout 7 103 3 18 [.ref (w.1 i0), .int x1, .int x2, .int x3] τ K X := by
  refine tp_enterXI (cc := cX8_distanceWithout) (maxL := 4) hl (by decide) rfl rfl (Nat.le_of_ble_eq_true rfl) (fun g C D hR hRX hT => ?_)
  show Zt w g τ (0, 0) 0 [(0, .ref (w.1 i0)), (1, .int x1), (2, .int x2), (3, .int x3)] []
  unfold wpx_X8_distanceWithout at hw
  refine z_aload_n C 0 (by rfl) dX8_distanceWithout_0 ?_
  refine z_iload_n C 1 (by rfl) dX8_distanceWithout_1 ?_
  refine xv_v C D (As := [.int x1]) (bytes := cX8_checkLink) (maxL := 2) (F1 := 6) (L1 := 82) (mc := 1) (ms := 6) (cx_X8_checkLink w _ i0 x1 _ _ hl h0 hw) h0.2 (tE7 h0.1) rfl 1 gX8_distanceWithout_X8_checkLink rfl (by decide +kernel) ⟨Nat.le_of_ble_eq_true rfl, Nat.le_of_ble_eq_true rfl⟩ rfl (Nat.le_of_ble_eq_true rfl) (k2 := (1, 6)) rfl ⟨Nat.le_of_ble_eq_true rfl, Nat.le_of_ble_eq_true rfl⟩ rfl dX8_distanceWithout_2 (fun _ _ hx => hRX _ _ _ _ _ (Nat.le_of_ble_eq_true rfl) (Nat.le_of_ble_eq_true rfl) hx) (fun τ21 hw => ?_)
  refine z_aload_n C 0 (by rfl) dX8_distanceWithout_5 ?_
  refine z_iload_n C 2 (by rfl) dX8_distanceWithout_6 ?_
  refine xv_v C D (As := [.int x2]) (bytes := cX8_checkNode) (maxL := 2) (F1 := 6) (L1 := 82) (mc := 1) (ms := 6) (cx_X8_checkNode w _ i0 x2 _ _ hl h0 hw) h0.2 (tE7 h0.1) rfl 1 gX8_distanceWithout_X8_checkNode rfl (by decide +kernel) ⟨Nat.le_of_ble_eq_true rfl, Nat.le_of_ble_eq_true rfl⟩ rfl (Nat.le_of_ble_eq_true rfl) (k2 := (2, 12)) rfl ⟨Nat.le_of_ble_eq_true rfl, Nat.le_of_ble_eq_true rfl⟩ rfl dX8_distanceWithout_7 (fun _ _ hx => hRX _ _ _ _ _ (Nat.le_of_ble_eq_true rfl) (Nat.le_of_ble_eq_true rfl) hx) (fun τ22 hw => ?_)
  refine z_aload_n C 0 (by rfl) dX8_distanceWithout_10 ?_
  refine z_iload_n C 3 (by rfl) dX8_distanceWithout_11 ?_
  refine xv_v C D (As := [.int x3]) (bytes := cX8_checkNode) (maxL := 2) (F1 := 6) (L1 := 82) (mc := 1) (ms := 6) (cx_X8_checkNode w _ i0 x3 _ _ hl h0 hw) h0.2 (tE7 h0.1) rfl 1 gX8_distanceWithout_X8_checkNode rfl (by decide +kernel) ⟨Nat.le_of_ble_eq_true rfl, Nat.le_of_ble_eq_true rfl⟩ rfl (Nat.le_of_ble_eq_true rfl) (k2 := (3, 18)) rfl ⟨Nat.le_of_ble_eq_true rfl, Nat.le_of_ble_eq_true rfl⟩ rfl dX8_distanceWithout_12 (fun _ _ hx => hRX _ _ _ _ _ (Nat.le_of_ble_eq_true rfl) (Nat.le_of_ble_eq_true rfl) hx) (fun τ23 hw => ?_)
  refine z_aload_n C 0 (by rfl) dX8_distanceWithout_15 ?_
  refine z_get C (Cn := RX8) (T := TX8) (N := 4) (ci := 7) h0.2 0 (tE7 h0.1) in_X8_distanceWithout_X8 rfl (by decide) mw_X8_distanceWithout_0 rfl rfl dX8_distanceWithout_16 ?_
  refine z_iload_n C 3 (by rfl) dX8_distanceWithout_19 ?_
  refine z_iload_n C 1 (by rfl) dX8_distanceWithout_20 ?_
  refine z_aload_n C 0 (by rfl) dX8_distanceWithout_21 ?_
  refine z_get C (Cn := RX8) (T := TX8) (N := 4) (ci := 7) h0.2 0 (tE7 h0.1) in_X8_distanceWithout_X8 rfl (by decide) mw_X8_distanceWithout_0 rfl rfl dX8_distanceWithout_22 ?_
  refine z_get C (Cn := RX3) (T := TX3) (N := 9) (ci := 3) (tR7_0 h0).2 8 (tE3 (tR7_0 h0).1) in_X8_distanceWithout_X3 rfl (by decide) mw_X8_distanceWithout_1 rfl rfl dX8_distanceWithout_25 ?_
  refine zv_v C (As := [.int x3, .int x1, .ref (w.1 16)]) (bytes := cX3_spread) (maxL := 9) (F1 := 0) (L1 := 0) (c_X3_spread w _ 1 x3 x1 16 _ (tR7_0 h0) (tR3_8 (tR7_0 h0)) hw) (tR7_0 h0).2 (tE3 (tR7_0 h0).1) rfl 3 gX8_distanceWithout_X3_spread rfl (by decide +kernel) ⟨Nat.le_of_ble_eq_true rfl, Nat.le_of_ble_eq_true rfl⟩ rfl (Nat.le_of_ble_eq_true rfl) ⟨Nat.le_of_ble_eq_true rfl, Nat.le_of_ble_eq_true rfl⟩ rfl dX8_distanceWithout_28 (fun τ24 hw => ?_)
  refine z_aload_n C 0 (by rfl) dX8_distanceWithout_31 ?_
  refine z_get C (Cn := RX8) (T := TX8) (N := 4) (ci := 7) h0.2 0 (tE7 h0.1) in_X8_distanceWithout_X8 rfl (by decide) mw_X8_distanceWithout_0 rfl rfl dX8_distanceWithout_32 ?_
  refine z_get C (Cn := RX3) (T := TX3) (N := 9) (ci := 3) (tR7_0 h0).2 8 (tE3 (tR7_0 h0).1) in_X8_distanceWithout_X3 rfl (by decide) mw_X8_distanceWithout_1 rfl rfl dX8_distanceWithout_35 ?_
  refine z_iload_n C 2 (by rfl) dX8_distanceWithout_38 ?_
  obtain ⟨s25, hw⟩ := hw
  refine z_iald C (tR3_8 (tR7_0 h0)).2 (tE13 (tR3_8 (tR7_0 h0)).1) s25 dX8_distanceWithout_39 ?_
  exact hR _ _ _ _ dX8_distanceWithout_40 hw
