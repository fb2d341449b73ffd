def wp_X11_stateOf (τ : TS) (i0 : Nat) (x1 : Int32) (K : TS → Int32 → Prop) : Prop :=
  wp_X11_of τ i0 x1 3 (fun τ21 x22 => K τ21 x22)
set_option maxHeartbeats 4000000 in
set_option maxRecDepth 100000 in
theorem c_X11_stateOf (w : WPar) (τ : TS) (i0 : Nat) (x1 : Int32) (K : TS → Int32 → Prop) (h0 : tp_is w i0 20) (hw : wp_X11_stateOf τ i0 x1 K) : MI w yX11_stateOf wsX11_stateOf 3 65 [.ref (w.1 i0), .int x1] τ K := by
  refine tp_enterI (cc := cX11_stateOf) (maxL := 2) (own := RX11) (by decide) rfl rfl (Nat.le_of_ble_eq_true rfl) (fun g C hR => ?_)
  show Zt w g τ (0, 0) 0 [(0, .ref (w.1 i0)), (1, .int x1)] []
  unfold wp_X11_stateOf at hw
  refine z_aload_n C 0 (by rfl) dX11_stateOf_0 ?_
  refine z_iload_n C 1 (by rfl) dX11_stateOf_1 ?_
  refine z_iconst C 3 (by decide) dX11_stateOf_2 ?_
  refine zv_i C (As := [.int x1, .int 3]) (bytes := cX11_of) (maxL := 3) (F1 := 2) (L1 := 43) (c_X11_of w _ i0 x1 3 _ h0 hw) h0.2 (tE20 h0.1) rfl 2 gX11_stateOf_X11_of rfl (by decide +kernel) ⟨Nat.le_of_ble_eq_true rfl, Nat.le_of_ble_eq_true rfl⟩ rfl (Nat.le_of_ble_eq_true rfl) ⟨Nat.le_of_ble_eq_true rfl, Nat.le_of_ble_eq_true rfl⟩ rfl dX11_stateOf_3 (fun x22 τ21 hw => ?_)
  exact hR _ _ _ _ dX11_stateOf_6 hw
def wp_X11_given (τ : TS) (i0 : Nat) (x1 : Int32) (K : TS → Int32 → Prop) : Prop :=
  wp_X11_of τ i0 x1 4 (fun τ21 x22 => K τ21 x22)
set_option maxHeartbeats 4000000 in
set_option maxRecDepth 100000 in
theorem c_X11_given (w : WPar) (τ : TS) (i0 : Nat) (x1 : Int32) (K : TS → Int32 → Prop) (h0 : tp_is w i0 20) (hw : wp_X11_given τ i0 x1 K) : MI w yX11_given wsX11_given 3 65 [.ref (w.1 i0), .int x1] τ K := by
  refine tp_enterI (cc := cX11_given) (maxL := 2) (own := RX11) (by decide) rfl rfl (Nat.le_of_ble_eq_true rfl) (fun g C hR => ?_)
  show Zt w g τ (0, 0) 0 [(0, .ref (w.1 i0)), (1, .int x1)] []
  unfold wp_X11_given at hw
  refine z_aload_n C 0 (by rfl) dX11_given_0 ?_
  refine z_iload_n C 1 (by rfl) dX11_given_1 ?_
  refine z_iconst C 4 (by decide) dX11_given_2 ?_
  refine zv_i C (As := [.int x1, .int 4]) (bytes := cX11_of) (maxL := 3) (F1 := 2) (L1 := 43) (c_X11_of w _ i0 x1 4 _ h0 hw) h0.2 (tE20 h0.1) rfl 2 gX11_given_X11_of rfl (by decide +kernel) ⟨Nat.le_of_ble_eq_true rfl, Nat.le_of_ble_eq_true rfl⟩ rfl (Nat.le_of_ble_eq_true rfl) ⟨Nat.le_of_ble_eq_true rfl, Nat.le_of_ble_eq_true rfl⟩ rfl dX11_given_3 (fun x22 τ21 hw => ?_)
  exact hR _ _ _ _ dX11_given_6 hw
def wp_X11_base (τ : TS) (i0 : Nat) (x1 : Int32) (K : TS → Int32 → Prop) : Prop :=
  wp_X11_of τ i0 x1 6 (fun τ21 x22 => K τ21 x22)
set_option maxHeartbeats 4000000 in
set_option maxRecDepth 100000 in
theorem c_X11_base (w : WPar) (τ : TS) (i0 : Nat) (x1 : Int32) (K : TS → Int32 → Prop) (h0 : tp_is w i0 20) (hw : wp_X11_base τ i0 x1 K) : MI w yX11_base wsX11_base 3 65 [.ref (w.1 i0), .int x1] τ K := by
  refine tp_enterI (cc := cX11_base) (maxL := 2) (own := RX11) (by decide) rfl rfl (Nat.le_of_ble_eq_true rfl) (fun g C hR => ?_)
  show Zt w g τ (0, 0) 0 [(0, .ref (w.1 i0)), (1, .int x1)] []
  unfold wp_X11_base at hw
  refine z_aload_n C 0 (by rfl) dX11_base_0 ?_
  refine z_iload_n C 1 (by rfl) dX11_base_1 ?_
  refine z_bipush C 6 (by decide) dX11_base_2 ?_
  refine zv_i C (As := [.int x1, .int 6]) (bytes := cX11_of) (maxL := 3) (F1 := 2) (L1 := 43) (c_X11_of w _ i0 x1 6 _ h0 hw) h0.2 (tE20 h0.1) rfl 2 gX11_base_X11_of rfl (by decide +kernel) ⟨Nat.le_of_ble_eq_true rfl, Nat.le_of_ble_eq_true rfl⟩ rfl (Nat.le_of_ble_eq_true rfl) ⟨Nat.le_of_ble_eq_true rfl, Nat.le_of_ble_eq_true rfl⟩ rfl dX11_base_4 (fun x22 τ21 hw => ?_)
  exact hR _ _ _ _ dX11_base_7 hw
def wp_X11_next (τ : TS) (i0 : Nat) (x1 : Int32) (K : TS → Int32 → Prop) : Prop :=
  wp_X11_of τ i0 x1 7 (fun τ21 x22 => K τ21 x22)
set_option maxHeartbeats 4000000 in
set_option maxRecDepth 100000 in
theorem c_X11_next (w : WPar) (τ : TS) (i0 : Nat) (x1 : Int32) (K : TS → Int32 → Prop) (h0 : tp_is w i0 20) (hw : wp_X11_next τ i0 x1 K) : MI w yX11_next wsX11_next 3 65 [.ref (w.1 i0), .int x1] τ K := by
  refine tp_enterI (cc := cX11_next) (maxL := 2) (own := RX11) (by decide) rfl rfl (Nat.le_of_ble_eq_true rfl) (fun g C hR => ?_)
  show Zt w g τ (0, 0) 0 [(0, .ref (w.1 i0)), (1, .int x1)] []
  unfold wp_X11_next at hw
  refine z_aload_n C 0 (by rfl) dX11_next_0 ?_
  refine z_iload_n C 1 (by rfl) dX11_next_1 ?_
  refine z_bipush C 7 (by decide) dX11_next_2 ?_
  refine zv_i C (As := [.int x1, .int 7]) (bytes := cX11_of) (maxL := 3) (F1 := 2) (L1 := 43) (c_X11_of w _ i0 x1 7 _ h0 hw) h0.2 (tE20 h0.1) rfl 2 gX11_next_X11_of rfl (by decide +kernel) ⟨Nat.le_of_ble_eq_true rfl, Nat.le_of_ble_eq_true rfl⟩ rfl (Nat.le_of_ble_eq_true rfl) ⟨Nat.le_of_ble_eq_true rfl, Nat.le_of_ble_eq_true rfl⟩ rfl dX11_next_4 (fun x22 τ21 hw => ?_)
  exact hR _ _ _ _ dX11_next_7 hw
def wp_X11_window (τ : TS) (i0 : Nat) (x1 : Int32) (K : TS → Int32 → Prop) : Prop :=
  wp_X11_of τ i0 x1 8 (fun τ21 x22 => K τ21 x22)
set_option maxHeartbeats 4000000 in
set_option maxRecDepth 100000 in
theorem c_X11_window (w : WPar) (τ : TS) (i0 : Nat) (x1 : Int32) (K : TS → Int32 → Prop) (h0 : tp_is w i0 20) (hw : wp_X11_window τ i0 x1 K) : MI w yX11_window wsX11_window 3 65 [.ref (w.1 i0), .int x1] τ K := by
  refine tp_enterI (cc := cX11_window) (maxL := 2) (own := RX11) (by decide) rfl rfl (Nat.le_of_ble_eq_true rfl) (fun g C hR => ?_)
  show Zt w g τ (0, 0) 0 [(0, .ref (w.1 i0)), (1, .int x1)] []
  unfold wp_X11_window at hw
  refine z_aload_n C 0 (by rfl) dX11_window_0 ?_
  refine z_iload_n C 1 (by rfl) dX11_window_1 ?_
  refine z_bipush C 8 (by decide) dX11_window_2 ?_
  refine zv_i C (As := [.int x1, .int 8]) (bytes := cX11_of) (maxL := 3) (F1 := 2) (L1 := 43) (c_X11_of w _ i0 x1 8 _ h0 hw) h0.2 (tE20 h0.1) rfl 2 gX11_window_X11_of rfl (by decide +kernel) ⟨Nat.le_of_ble_eq_true rfl, Nat.le_of_ble_eq_true rfl⟩ rfl (Nat.le_of_ble_eq_true rfl) ⟨Nat.le_of_ble_eq_true rfl, Nat.le_of_ble_eq_true rfl⟩ rfl dX11_window_4 (fun x22 τ21 hw => ?_)
  exact hR _ _ _ _ dX11_window_7 hw
def wp_X11_threshold (τ : TS) (i0 : Nat) (x1 : Int32) (K : TS → Int32 → Prop) : Prop :=
  wp_X11_of τ i0 x1 9 (fun τ21 x22 => K τ21 x22)
set_option maxHeartbeats 4000000 in
set_option maxRecDepth 100000 in
theorem c_X11_threshold (w : WPar) (τ : TS) (i0 : Nat) (x1 : Int32) (K : TS → Int32 → Prop) (h0 : tp_is w i0 20) (hw : wp_X11_threshold τ i0 x1 K) : MI w yX11_threshold wsX11_threshold 3 65 [.ref (w.1 i0), .int x1] τ K := by
  refine tp_enterI (cc := cX11_threshold) (maxL := 2) (own := RX11) (by decide) rfl rfl (Nat.le_of_ble_eq_true rfl) (fun g C hR => ?_)
  show Zt w g τ (0, 0) 0 [(0, .ref (w.1 i0)), (1, .int x1)] []
  unfold wp_X11_threshold at hw
  refine z_aload_n C 0 (by rfl) dX11_threshold_0 ?_
  refine z_iload_n C 1 (by rfl) dX11_threshold_1 ?_
  refine z_bipush C 9 (by decide) dX11_threshold_2 ?_
  refine zv_i C (As := [.int x1, .int 9]) (bytes := cX11_of) (maxL := 3) (F1 := 2) (L1 := 43) (c_X11_of w _ i0 x1 9 _ h0 hw) h0.2 (tE20 h0.1) rfl 2 gX11_threshold_X11_of rfl (by decide +kernel) ⟨Nat.le_of_ble_eq_true rfl, Nat.le_of_ble_eq_true rfl⟩ rfl (Nat.le_of_ble_eq_true rfl) ⟨Nat.le_of_ble_eq_true rfl, Nat.le_of_ble_eq_true rfl⟩ rfl dX11_threshold_4 (fun x22 τ21 hw => ?_)
  exact hR _ _ _ _ dX11_threshold_7 hw
def wp_X11_room (τ : TS) (i0 : Nat) (x1 : Int32) (K : TS → Int32 → Prop) : Prop :=
  wp_X11_of τ i0 x1 10 (fun τ21 x22 => K τ21 x22)
set_option maxHeartbeats 4000000 in
set_option maxRecDepth 100000 in
theorem c_X11_room (w : WPar) (τ : TS) (i0 : Nat) (x1 : Int32) (K : TS → Int32 → Prop) (h0 : tp_is w i0 20) (hw : wp_X11_room τ i0 x1 K) : MI w yX11_room wsX11_room 3 65 [.ref (w.1 i0), .int x1] τ K := by
  refine tp_enterI (cc := cX11_room) (maxL := 2) (own := RX11) (by decide) rfl rfl (Nat.le_of_ble_eq_true rfl) (fun g C hR => ?_)
  show Zt w g τ (0, 0) 0 [(0, .ref (w.1 i0)), (1, .int x1)] []
  unfold wp_X11_room at hw
  refine z_aload_n C 0 (by rfl) dX11_room_0 ?_
  refine z_iload_n C 1 (by rfl) dX11_room_1 ?_
  refine z_bipush C 10 (by decide) dX11_room_2 ?_
  refine zv_i C (As := [.int x1, .int 10]) (bytes := cX11_of) (maxL := 3) (F1 := 2) (L1 := 43) (c_X11_of w _ i0 x1 10 _ h0 hw) h0.2 (tE20 h0.1) rfl 2 gX11_room_X11_of rfl (by decide +kernel) ⟨Nat.le_of_ble_eq_true rfl, Nat.le_of_ble_eq_true rfl⟩ rfl (Nat.le_of_ble_eq_true rfl) ⟨Nat.le_of_ble_eq_true rfl, Nat.le_of_ble_eq_true rfl⟩ rfl dX11_room_4 (fun x22 τ21 hw => ?_)
  exact hR _ _ _ _ dX11_room_7 hw
def wp_X11_like (τ : TS) (i0 : Nat) (x1 : Int32) (K : TS → Int32 → Prop) : Prop :=
  wp_X11_of τ i0 x1 11 (fun τ21 x22 => K τ21 x22)
set_option maxHeartbeats 4000000 in
set_option maxRecDepth 100000 in
theorem c_X11_like (w : WPar) (τ : TS) (i0 : Nat) (x1 : Int32) (K : TS → Int32 → Prop) (h0 : tp_is w i0 20) (hw : wp_X11_like τ i0 x1 K) : MI w yX11_like wsX11_like 3 65 [.ref (w.1 i0), .int x1] τ K := by
  refine tp_enterI (cc := cX11_like) (maxL := 2) (own := RX11) (by decide) rfl rfl (Nat.le_of_ble_eq_true rfl) (fun g C hR => ?_)
  show Zt w g τ (0, 0) 0 [(0, .ref (w.1 i0)), (1, .int x1)] []
  unfold wp_X11_like at hw
  refine z_aload_n C 0 (by rfl) dX11_like_0 ?_
  refine z_iload_n C 1 (by rfl) dX11_like_1 ?_
  refine z_bipush C 11 (by decide) dX11_like_2 ?_
  refine zv_i C (As := [.int x1, .int 11]) (bytes := cX11_of) (maxL := 3) (F1 := 2) (L1 := 43) (c_X11_of w _ i0 x1 11 _ h0 hw) h0.2 (tE20 h0.1) rfl 2 gX11_like_X11_of rfl (by decide +kernel) ⟨Nat.le_of_ble_eq_true rfl, Nat.le_of_ble_eq_true rfl⟩ rfl (Nat.le_of_ble_eq_true rfl) ⟨Nat.le_of_ble_eq_true rfl, Nat.le_of_ble_eq_true rfl⟩ rfl dX11_like_4 (fun x22 τ21 hw => ?_)
  exact hR _ _ _ _ dX11_like_7 hw
def wp_X11_recover (τ : TS) (i0 : Nat) (x1 : Int32) (K : TS → Int32 → Prop) : Prop :=
  wp_X11_of τ i0 x1 12 (fun τ21 x22 => K τ21 x22)
set_option maxHeartbeats 4000000 in
set_option maxRecDepth 100000 in
theorem c_X11_recover (w : WPar) (τ : TS) (i0 : Nat) (x1 : Int32) (K : TS → Int32 → Prop) (h0 : tp_is w i0 20) (hw : wp_X11_recover τ i0 x1 K) : MI w yX11_recover wsX11_recover 3 65 [.ref (w.1 i0), .int x1] τ K := by
  refine tp_enterI (cc := cX11_recover) (maxL := 2) (own := RX11) (by decide) rfl rfl (Nat.le_of_ble_eq_true rfl) (fun g C hR => ?_)
  show Zt w g τ (0, 0) 0 [(0, .ref (w.1 i0)), (1, .int x1)] []
  unfold wp_X11_recover at hw
  refine z_aload_n C 0 (by rfl) dX11_recover_0 ?_
  refine z_iload_n C 1 (by rfl) dX11_recover_1 ?_
  refine z_bipush C 12 (by decide) dX11_recover_2 ?_
  refine zv_i C (As := [.int x1, .int 12]) (bytes := cX11_of) (maxL := 3) (F1 := 2) (L1 := 43) (c_X11_of w _ i0 x1 12 _ h0 hw) h0.2 (tE20 h0.1) rfl 2 gX11_recover_X11_of rfl (by decide +kernel) ⟨Nat.le_of_ble_eq_true rfl, Nat.le_of_ble_eq_true rfl⟩ rfl (Nat.le_of_ble_eq_true rfl) ⟨Nat.le_of_ble_eq_true rfl, Nat.le_of_ble_eq_true rfl⟩ rfl dX11_recover_4 (fun x22 τ21 hw => ?_)
  exact hR _ _ _ _ dX11_recover_7 hw
def wp_X11_round (τ : TS) (i0 : Nat) (x1 : Int32) (K : TS → Int32 → Prop) : Prop :=
  wp_X11_of τ i0 x1 13 (fun τ21 x22 => K τ21 x22)
set_option maxHeartbeats 4000000 in
set_option maxRecDepth 100000 in
theorem c_X11_round (w : WPar) (τ : TS) (i0 : Nat) (x1 : Int32) (K : TS → Int32 → Prop) (h0 : tp_is w i0 20) (hw : wp_X11_round τ i0 x1 K) : MI w yX11_round wsX11_round 3 65 [.ref (w.1 i0), .int x1] τ K := by
  refine tp_enterI (cc := cX11_round) (maxL := 2) (own := RX11) (by decide) rfl rfl (Nat.le_of_ble_eq_true rfl) (fun g C hR => ?_)
  show Zt w g τ (0, 0) 0 [(0, .ref (w.1 i0)), (1, .int x1)] []
  unfold wp_X11_round at hw
  refine z_aload_n C 0 (by rfl) dX11_round_0 ?_
  refine z_iload_n C 1 (by rfl) dX11_round_1 ?_
  refine z_bipush C 13 (by decide) dX11_round_2 ?_
  refine zv_i C (As := [.int x1, .int 13]) (bytes := cX11_of) (maxL := 3) (F1 := 2) (L1 := 43) (c_X11_of w _ i0 x1 13 _ h0 hw) h0.2 (tE20 h0.1) rfl 2 gX11_round_X11_of rfl (by decide +kernel) ⟨Nat.le_of_ble_eq_true rfl, Nat.le_of_ble_eq_true rfl⟩ rfl (Nat.le_of_ble_eq_true rfl) ⟨Nat.le_of_ble_eq_true rfl, Nat.le_of_ble_eq_true rfl⟩ rfl dX11_round_4 (fun x22 τ21 hw => ?_)
  exact hR _ _ _ _ dX11_round_7 hw
def wp_X11_swing (τ : TS) (i0 : Nat) (x1 : Int32) (K : TS → Int32 → Prop) : Prop :=
  wp_X11_of τ i0 x1 14 (fun τ21 x22 => K τ21 x22)
set_option maxHeartbeats 4000000 in
set_option maxRecDepth 100000 in
theorem c_X11_swing (w : WPar) (τ : TS) (i0 : Nat) (x1 : Int32) (K : TS → Int32 → Prop) (h0 : tp_is w i0 20) (hw : wp_X11_swing τ i0 x1 K) : MI w yX11_swing wsX11_swing 3 65 [.ref (w.1 i0), .int x1] τ K := by
  refine tp_enterI (cc := cX11_swing) (maxL := 2) (own := RX11) (by decide) rfl rfl (Nat.le_of_ble_eq_true rfl) (fun g C hR => ?_)
  show Zt w g τ (0, 0) 0 [(0, .ref (w.1 i0)), (1, .int x1)] []
  unfold wp_X11_swing at hw
  refine z_aload_n C 0 (by rfl) dX11_swing_0 ?_
  refine z_iload_n C 1 (by rfl) dX11_swing_1 ?_
  refine z_bipush C 14 (by decide) dX11_swing_2 ?_
  refine zv_i C (As := [.int x1, .int 14]) (bytes := cX11_of) (maxL := 3) (F1 := 2) (L1 := 43) (c_X11_of w _ i0 x1 14 _ h0 hw) h0.2 (tE20 h0.1) rfl 2 gX11_swing_X11_of rfl (by decide +kernel) ⟨Nat.le_of_ble_eq_true rfl, Nat.le_of_ble_eq_true rfl⟩ rfl (Nat.le_of_ble_eq_true rfl) ⟨Nat.le_of_ble_eq_true rfl, Nat.le_of_ble_eq_true rfl⟩ rfl dX11_swing_4 (fun x22 τ21 hw => ?_)
  exact hR _ _ _ _ dX11_swing_7 hw
def wp_X11_timeout (τ : TS) (i0 : Nat) (x1 : Int32) (K : TS → Int32 → Prop) : Prop :=
  wp_X11_of τ i0 x1 15 (fun τ21 x22 => K τ21 x22)
set_option maxHeartbeats 4000000 in
set_option maxRecDepth 100000 in
theorem c_X11_timeout (w : WPar) (τ : TS) (i0 : Nat) (x1 : Int32) (K : TS → Int32 → Prop) (h0 : tp_is w i0 20) (hw : wp_X11_timeout τ i0 x1 K) : MI w yX11_timeout wsX11_timeout 3 65 [.ref (w.1 i0), .int x1] τ K := by
  refine tp_enterI (cc := cX11_timeout) (maxL := 2) (own := RX11) (by decide) rfl rfl (Nat.le_of_ble_eq_true rfl) (fun g C hR => ?_)
  show Zt w g τ (0, 0) 0 [(0, .ref (w.1 i0)), (1, .int x1)] []
  unfold wp_X11_timeout at hw
  refine z_aload_n C 0 (by rfl) dX11_timeout_0 ?_
  refine z_iload_n C 1 (by rfl) dX11_timeout_1 ?_
  refine z_bipush C 15 (by decide) dX11_timeout_2 ?_
  refine zv_i C (As := [.int x1, .int 15]) (bytes := cX11_of) (maxL := 3) (F1 := 2) (L1 := 43) (c_X11_of w _ i0 x1 15 _ h0 hw) h0.2 (tE20 h0.1) rfl 2 gX11_timeout_X11_of rfl (by decide +kernel) ⟨Nat.le_of_ble_eq_true rfl, Nat.le_of_ble_eq_true rfl⟩ rfl (Nat.le_of_ble_eq_true rfl) ⟨Nat.le_of_ble_eq_true rfl, Nat.le_of_ble_eq_true rfl⟩ rfl dX11_timeout_4 (fun x22 τ21 hw => ?_)
  exact hR _ _ _ _ dX11_timeout_7 hw
def wp_X11_timer (τ : TS) (i0 : Nat) (x1 : Int32) (K : TS → Int32 → Prop) : Prop :=
  wp_X11_of τ i0 x1 16 (fun τ21 x22 => K τ21 x22)
set_option maxHeartbeats 4000000 in
set_option maxRecDepth 100000 in
theorem c_X11_timer (w : WPar) (τ : TS) (i0 : Nat) (x1 : Int32) (K : TS → Int32 → Prop) (h0 : tp_is w i0 20) (hw : wp_X11_timer τ i0 x1 K) : MI w yX11_timer wsX11_timer 3 65 [.ref (w.1 i0), .int x1] τ K := by
  refine tp_enterI (cc := cX11_timer) (maxL := 2) (own := RX11) (by decide) rfl rfl (Nat.le_of_ble_eq_true rfl) (fun g C hR => ?_)
  show Zt w g τ (0, 0) 0 [(0, .ref (w.1 i0)), (1, .int x1)] []
  unfold wp_X11_timer at hw
  refine z_aload_n C 0 (by rfl) dX11_timer_0 ?_
  refine z_iload_n C 1 (by rfl) dX11_timer_1 ?_
  refine z_bipush C 16 (by decide) dX11_timer_2 ?_
  refine zv_i C (As := [.int x1, .int 16]) (bytes := cX11_of) (maxL := 3) (F1 := 2) (L1 := 43) (c_X11_of w _ i0 x1 16 _ h0 hw) h0.2 (tE20 h0.1) rfl 2 gX11_timer_X11_of rfl (by decide +kernel) ⟨Nat.le_of_ble_eq_true rfl, Nat.le_of_ble_eq_true rfl⟩ rfl (Nat.le_of_ble_eq_true rfl) ⟨Nat.le_of_ble_eq_true rfl, Nat.le_of_ble_eq_true rfl⟩ rfl dX11_timer_4 (fun x22 τ21 hw => ?_)
  exact hR _ _ _ _ dX11_timer_7 hw
def wp_X11_measured (τ : TS) (i0 : Nat) (x1 : Int32) (K : TS → Int32 → Prop) : Prop :=
  wp_X11_of τ i0 x1 17 (fun τ21 x22 => K τ21 x22)
set_option maxHeartbeats 4000000 in
set_option maxRecDepth 100000 in
theorem c_X11_measured (w : WPar) (τ : TS) (i0 : Nat) (x1 : Int32) (K : TS → Int32 → Prop) (h0 : tp_is w i0 20) (hw : wp_X11_measured τ i0 x1 K) : MI w yX11_measured wsX11_measured 3 65 [.ref (w.1 i0), .int x1] τ K := by
  refine tp_enterI (cc := cX11_measured) (maxL := 2) (own := RX11) (by decide) rfl rfl (Nat.le_of_ble_eq_true rfl) (fun g C hR => ?_)
  show Zt w g τ (0, 0) 0 [(0, .ref (w.1 i0)), (1, .int x1)] []
  unfold wp_X11_measured at hw
  refine z_aload_n C 0 (by rfl) dX11_measured_0 ?_
  refine z_iload_n C 1 (by rfl) dX11_measured_1 ?_
  refine z_bipush C 17 (by decide) dX11_measured_2 ?_
  refine zv_i C (As := [.int x1, .int 17]) (bytes := cX11_of) (maxL := 3) (F1 := 2) (L1 := 43) (c_X11_of w _ i0 x1 17 _ h0 hw) h0.2 (tE20 h0.1) rfl 2 gX11_measured_X11_of rfl (by decide +kernel) ⟨Nat.le_of_ble_eq_true rfl, Nat.le_of_ble_eq_true rfl⟩ rfl (Nat.le_of_ble_eq_true rfl) ⟨Nat.le_of_ble_eq_true rfl, Nat.le_of_ble_eq_true rfl⟩ rfl dX11_measured_4 (fun x22 τ21 hw => ?_)
  exact hR _ _ _ _ dX11_measured_7 hw
def wp_X11_tries (τ : TS) (i0 : Nat) (x1 : Int32) (K : TS → Int32 → Prop) : Prop :=
  wp_X11_of τ i0 x1 19 (fun τ21 x22 => K τ21 x22)
set_option maxHeartbeats 4000000 in
set_option maxRecDepth 100000 in
theorem c_X11_tries (w : WPar) (τ : TS) (i0 : Nat) (x1 : Int32) (K : TS → Int32 → Prop) (h0 : tp_is w i0 20) (hw : wp_X11_tries τ i0 x1 K) : MI w yX11_tries wsX11_tries 3 65 [.ref (w.1 i0), .int x1] τ K := by
  refine tp_enterI (cc := cX11_tries) (maxL := 2) (own := RX11) (by decide) rfl rfl (Nat.le_of_ble_eq_true rfl) (fun g C hR => ?_)
  show Zt w g τ (0, 0) 0 [(0, .ref (w.1 i0)), (1, .int x1)] []
  unfold wp_X11_tries at hw
  refine z_aload_n C 0 (by rfl) dX11_tries_0 ?_
  refine z_iload_n C 1 (by rfl) dX11_tries_1 ?_
  refine z_bipush C 19 (by decide) dX11_tries_2 ?_
  refine zv_i C (As := [.int x1, .int 19]) (bytes := cX11_of) (maxL := 3) (F1 := 2) (L1 := 43) (c_X11_of w _ i0 x1 19 _ h0 hw) h0.2 (tE20 h0.1) rfl 2 gX11_tries_X11_of rfl (by decide +kernel) ⟨Nat.le_of_ble_eq_true rfl, Nat.le_of_ble_eq_true rfl⟩ rfl (Nat.le_of_ble_eq_true rfl) ⟨Nat.le_of_ble_eq_true rfl, Nat.le_of_ble_eq_true rfl⟩ rfl dX11_tries_4 (fun x22 τ21 hw => ?_)
  exact hR _ _ _ _ dX11_tries_7 hw
def wp_X11_sentAgain (τ : TS) (i0 : Nat) (x1 : Int32) (K : TS → Int32 → Prop) : Prop :=
  wp_X11_of τ i0 x1 20 (fun τ21 x22 => K τ21 x22)
set_option maxHeartbeats 4000000 in
set_option maxRecDepth 100000 in
theorem c_X11_sentAgain (w : WPar) (τ : TS) (i0 : Nat) (x1 : Int32) (K : TS → Int32 → Prop) (h0 : tp_is w i0 20) (hw : wp_X11_sentAgain τ i0 x1 K) : MI w yX11_sentAgain wsX11_sentAgain 3 65 [.ref (w.1 i0), .int x1] τ K := by
  refine tp_enterI (cc := cX11_sentAgain) (maxL := 2) (own := RX11) (by decide) rfl rfl (Nat.le_of_ble_eq_true rfl) (fun g C hR => ?_)
  show Zt w g τ (0, 0) 0 [(0, .ref (w.1 i0)), (1, .int x1)] []
  unfold wp_X11_sentAgain at hw
  refine z_aload_n C 0 (by rfl) dX11_sentAgain_0 ?_
  refine z_iload_n C 1 (by rfl) dX11_sentAgain_1 ?_
  refine z_bipush C 20 (by decide) dX11_sentAgain_2 ?_
  refine zv_i C (As := [.int x1, .int 20]) (bytes := cX11_of) (maxL := 3) (F1 := 2) (L1 := 43) (c_X11_of w _ i0 x1 20 _ h0 hw) h0.2 (tE20 h0.1) rfl 2 gX11_sentAgain_X11_of rfl (by decide +kernel) ⟨Nat.le_of_ble_eq_true rfl, Nat.le_of_ble_eq_true rfl⟩ rfl (Nat.le_of_ble_eq_true rfl) ⟨Nat.le_of_ble_eq_true rfl, Nat.le_of_ble_eq_true rfl⟩ rfl dX11_sentAgain_4 (fun x22 τ21 hw => ?_)
  exact hR _ _ _ _ dX11_sentAgain_7 hw
def wp_X11_wanted (τ : TS) (i0 : Nat) (x1 : Int32) (K : TS → Int32 → Prop) : Prop :=
  wp_X11_of τ i0 x1 21 (fun τ21 x22 => K τ21 x22)
set_option maxHeartbeats 4000000 in
set_option maxRecDepth 100000 in
theorem c_X11_wanted (w : WPar) (τ : TS) (i0 : Nat) (x1 : Int32) (K : TS → Int32 → Prop) (h0 : tp_is w i0 20) (hw : wp_X11_wanted τ i0 x1 K) : MI w yX11_wanted wsX11_wanted 3 65 [.ref (w.1 i0), .int x1] τ K := by
  refine tp_enterI (cc := cX11_wanted) (maxL := 2) (own := RX11) (by decide) rfl rfl (Nat.le_of_ble_eq_true rfl) (fun g C hR => ?_)
  show Zt w g τ (0, 0) 0 [(0, .ref (w.1 i0)), (1, .int x1)] []
  unfold wp_X11_wanted at hw
  refine z_aload_n C 0 (by rfl) dX11_wanted_0 ?_
  refine z_iload_n C 1 (by rfl) dX11_wanted_1 ?_
  refine z_bipush C 21 (by decide) dX11_wanted_2 ?_
  refine zv_i C (As := [.int x1, .int 21]) (bytes := cX11_of) (maxL := 3) (F1 := 2) (L1 := 43) (c_X11_of w _ i0 x1 21 _ h0 hw) h0.2 (tE20 h0.1) rfl 2 gX11_wanted_X11_of rfl (by decide +kernel) ⟨Nat.le_of_ble_eq_true rfl, Nat.le_of_ble_eq_true rfl⟩ rfl (Nat.le_of_ble_eq_true rfl) ⟨Nat.le_of_ble_eq_true rfl, Nat.le_of_ble_eq_true rfl⟩ rfl dX11_wanted_4 (fun x22 τ21 hw => ?_)
  exact hR _ _ _ _ dX11_wanted_7 hw
def wp_X11_holds (τ : TS) (i0 : Nat) (x1 : Int32) (x2 : Int32) (K : TS → Int32 → Prop) : Prop :=
  wp_X11_isCall τ i0 x1 (fun τ21 x22 => ∃ J23 : Int32 → Prop, (∀ (x24 : Int32), J23 x24 → (∀ τ25 : TS, τ25 = tp_up τ21 i0 0 x24 → ((¬ (τ25 i0 0) = 0) → (K τ25 0)) ∧ (((τ25 i0 0) = 0) → (wp_X11_is τ25 x2 0 200 (fun τ27 x28 => ((x28 = 0) → (K τ27 0)) ∧ ((¬ x28 = 0) → (vp_in x1 6 ∧ (vp_in x2 202 ∧ ((((τ27 ((239 + 29) + 1 + (Int32.toNatClampNeg x1)) (Int32.toNatClampNeg x2)) = 0) → (K τ27 0)) ∧ ((¬ (τ27 ((239 + 29) + 1 + (Int32.toNatClampNeg x1)) (Int32.toNatClampNeg x2)) = 0) → (K τ27 1))))))))))) ∧ (((x22 = 0) → (J23 1)) ∧ ((¬ x22 = 0) → (J23 0))))
theorem mw_X11_holds_0 : Cond.fieldLink RX11 34 "TidePostModel" "thrown" "I" ∈ wsX11_holds := List.mem_of_getElem? (i := 1) rfl
theorem mw_X11_holds_1 : Cond.fieldLink RX11 27 "TidePostModel" "now" "LTidePostModel$State;" ∈ wsX11_holds := List.mem_of_getElem? (i := 2) rfl
theorem in_X11_holds_X11 : ∀ x ∈ wsX110, x ∈ wsX11_holds := fun _ h => List.mem_cons_of_mem _ (List.mem_append_left _ (List.mem_append_right _ h))
theorem in_X11_holds_X10 : ∀ x ∈ wsX100, x ∈ wsX11_holds := fun _ h => List.mem_cons_of_mem _ (List.mem_append_right _ h)
set_option maxHeartbeats 4000000 in
set_option maxRecDepth 100000 in
theorem c_X11_holds (w : WPar) (τ : TS) (i0 : Nat) (x1 : Int32) (x2 : Int32) (K : TS → Int32 → Prop) (h0 : tp_is w i0 20) (hw : wp_X11_holds τ i0 x1 x2 K) : MI w yX11_holds wsX11_holds 2 43 [.ref (w.1 i0), .int x1, .int x2] τ K := by
  refine tp_enterZ (cc := cX11_holds) (maxL := 3) (own := RX11) (by decide) rfl rfl (Nat.le_of_ble_eq_true rfl) (fun g C hR => ?_)
  show Zt w g τ (0, 0) 0 [(0, .ref (w.1 i0)), (1, .int x1), (2, .int x2)] []
  unfold wp_X11_holds at hw
  refine z_aload_n C 0 (by rfl) dX11_holds_0 ?_
  refine z_aload_n C 0 (by rfl) dX11_holds_1 ?_
  refine z_iload_n C 1 (by rfl) dX11_holds_2 ?_
  refine zv_i C (As := [.int x1]) (bytes := cX11_isCall) (maxL := 2) (F1 := 1) (L1 := 22) (c_X11_isCall w _ i0 x1 _ h0 hw) h0.2 (tE20 h0.1) rfl 1 gX11_holds_X11_isCall rfl (by decide +kernel) ⟨Nat.le_of_ble_eq_true rfl, Nat.le_of_ble_eq_true rfl⟩ rfl (Nat.le_of_ble_eq_true rfl) ⟨Nat.le_of_ble_eq_true rfl, Nat.le_of_ble_eq_true rfl⟩ rfl dX11_holds_3 (fun x22 τ21 hw => ?_)
  obtain ⟨J23, hJ23, hw⟩ := hw
  have jn23 : ∀ (x24 : Int32), J23 x24 → Zt w g τ21 (0, 0) 14 [(0, .ref (w.1 i0)), (1, .int x1), (2, .int x2)] [.int x24, .ref (w.1 i0)] := by
    intro x24 hj23
    have hw := hJ23 x24 hj23
    refine z_put C (Cn := RX11) (T := TX11) (N := 10) (ci := 10) h0.2 0 (tE20 h0.1) (tS20_0 h0.1 _) in_X11_holds_X11 tyX11 tyX11_ok nmX11 rfl (by decide) mw_X11_holds_0 rfl rfl (tyX11_ok 0 (by decide)) rfl rfl (Nat.le_of_ble_eq_true rfl) dX11_holds_14 (fun τ25 eτ25 => ?_)
    have hw := hw τ25 eτ25
    refine z_aload_n C 0 (by rfl) dX11_holds_17 ?_
    refine z_get C (Cn := RX11) (T := TX11) (N := 10) (ci := 10) h0.2 0 (tE20 h0.1) in_X11_holds_X11 rfl (by decide) mw_X11_holds_0 rfl rfl dX11_holds_18 ?_
    refine z_if_ne (tgt := 53) C dX11_holds_21 (by decide) (fun c26 => ?_) (fun c26 => ?_)
    · have hw := hw.1 c26
      refine z_iconst C 0 (by decide) dX11_holds_53 ?_
      exact hR _ _ _ _ dX11_holds_54 rfl hw
    · have hw := hw.2 c26
      refine z_iload_n C 2 (by rfl) dX11_holds_24 ?_
      refine z_iconst C 0 (by decide) dX11_holds_25 ?_
      refine z_sipush C 200 (by decide) dX11_holds_26 ?_
      refine zs_i C (As := [.int x2, .int 0, .int 200]) (bytes := cX11_is) (maxL := 3) (F1 := 0) (L1 := 0) (c_X11_is w _ x2 0 200 _  hw) 3 gX11_holds_X11_is rfl (by decide +kernel) ⟨Nat.le_of_ble_eq_true rfl, Nat.le_of_ble_eq_true rfl⟩ rfl (Nat.le_of_ble_eq_true rfl) ⟨Nat.le_of_ble_eq_true rfl, Nat.le_of_ble_eq_true rfl⟩ rfl dX11_holds_29 (fun x28 τ27 hw => ?_)
      refine z_if_eq (tgt := 53) C dX11_holds_32 (by decide) (fun c29 => ?_) (fun c29 => ?_)
      · have hw := hw.1 c29
        refine z_iconst C 0 (by decide) dX11_holds_53 ?_
        exact hR _ _ _ _ dX11_holds_54 rfl hw
      · have hw := hw.2 c29
        refine z_aload_n C 0 (by rfl) dX11_holds_35 ?_
        refine z_get C (Cn := RX11) (T := TX11) (N := 10) (ci := 10) h0.2 7 (tE20 h0.1) in_X11_holds_X11 rfl (by decide) mw_X11_holds_1 rfl rfl dX11_holds_36 ?_
        refine z_getN C (Cn := RX10) (T := TX10) (N := 13) (ci := 9) (tR20_7 h0).2 11 (tE21 (tR20_7 h0).1) in_X11_holds_X10 rfl (by decide) (List.mem_of_getElem? (i := 13) rfl) rfl rfl dX11_holds_39 ?_
        refine z_iload_n C 1 (by rfl) dX11_holds_42 ?_
        obtain ⟨s30, hw⟩ := hw
        refine z_aald_q6 C (tR21_11 (tR20_7 h0)).2 (tE29 (tR21_11 (tR20_7 h0)).1) s30 (if_pos (tp_lt s30)) dX11_holds_43 ?_
        refine z_iload_n C 2 (by rfl) dX11_holds_44 ?_
        obtain ⟨s31, hw⟩ := hw
        refine z_zald C (tR29 (tR21_11 (tR20_7 h0)) (tp_lt s30)).2 (tE30 (tR29 (tR21_11 (tR20_7 h0)) (tp_lt s30)).1) s31 dX11_holds_45 ?_
        refine z_if_eq (tgt := 53) C dX11_holds_46 (by decide) (fun c32 => ?_) (fun c32 => ?_)
        · have hw := hw.1 c32
          refine z_iconst C 0 (by decide) dX11_holds_53 ?_
          exact hR _ _ _ _ dX11_holds_54 rfl hw
        · have hw := hw.2 c32
          refine z_iconst C 1 (by decide) dX11_holds_49 ?_
          refine z_goto (tgt := 54) C dX11_holds_50 (by decide) ?_
          exact hR _ _ _ _ dX11_holds_54 rfl hw
  refine z_if_eq (tgt := 13) C dX11_holds_6 (by decide) (fun c33 => ?_) (fun c33 => ?_)
  · have hw := hw.1 c33
    refine z_iconst C 1 (by decide) dX11_holds_13 ?_
    exact jn23 1 hw
  · have hw := hw.2 c33
    refine z_iconst C 0 (by decide) dX11_holds_9 ?_
    refine z_goto (tgt := 14) C dX11_holds_10 (by decide) ?_
    exact jn23 0 hw
def wp_X11_readable (τ : TS) (i0 : Nat) (x1 : Int32) (K : TS → Int32 → Prop) : Prop :=
  ∀ τ21 : TS, τ21 = tp_up τ i0 0 0 → wp_X11_isCall τ21 i0 x1 (fun τ22 x23 => ((x23 = 0) → (wp_X11_refuse τ22 i0 1 (fun τ25 x26 => K τ25 x26))) ∧ ((¬ x23 = 0) → False))
theorem mw_X11_readable_0 : Cond.fieldLink RX11 34 "TidePostModel" "thrown" "I" ∈ wsX11_readable := List.mem_of_getElem? (i := 1) rfl
theorem mw_X11_readable_1 : Cond.fieldLink RX11 27 "TidePostModel" "now" "LTidePostModel$State;" ∈ wsX11_readable := List.mem_of_getElem? (i := 2) rfl
theorem in_X11_readable_X11 : ∀ x ∈ wsX110, x ∈ wsX11_readable := fun _ h => List.mem_cons_of_mem _ (List.mem_append_left _ (List.mem_append_right _ h))
set_option maxHeartbeats 4000000 in
set_option maxRecDepth 100000 in
theorem c_X11_readable (w : WPar) (τ : TS) (i0 : Nat) (x1 : Int32) (K : TS → Int32 → Prop) (h0 : tp_is w i0 20) (hw : wp_X11_readable τ i0 x1 K) : MI w yX11_readable wsX11_readable 2 43 [.ref (w.1 i0), .int x1] τ K := by
  refine tp_enterI (cc := cX11_readable) (maxL := 2) (own := RX11) (by decide) rfl rfl (Nat.le_of_ble_eq_true rfl) (fun g C hR => ?_)
  show Zt w g τ (0, 0) 0 [(0, .ref (w.1 i0)), (1, .int x1)] []
  unfold wp_X11_readable at hw
  refine z_aload_n C 0 (by rfl) dX11_readable_0 ?_
  refine z_iconst C 0 (by decide) dX11_readable_1 ?_
  refine z_put C (Cn := RX11) (T := TX11) (N := 10) (ci := 10) h0.2 0 (tE20 h0.1) (tS20_0 h0.1 _) in_X11_readable_X11 tyX11 tyX11_ok nmX11 rfl (by decide) mw_X11_readable_0 rfl rfl (tyX11_ok 0 (by decide)) rfl rfl (Nat.le_of_ble_eq_true rfl) dX11_readable_2 (fun τ21 eτ21 => ?_)
  have hw := hw τ21 eτ21
  refine z_aload_n C 0 (by rfl) dX11_readable_5 ?_
  refine z_iload_n C 1 (by rfl) dX11_readable_6 ?_
  refine zv_i C (As := [.int x1]) (bytes := cX11_isCall) (maxL := 2) (F1 := 1) (L1 := 22) (c_X11_isCall w _ i0 x1 _ h0 hw) h0.2 (tE20 h0.1) rfl 1 gX11_readable_X11_isCall rfl (by decide +kernel) ⟨Nat.le_of_ble_eq_true rfl, Nat.le_of_ble_eq_true rfl⟩ rfl (Nat.le_of_ble_eq_true rfl) ⟨Nat.le_of_ble_eq_true rfl, Nat.le_of_ble_eq_true rfl⟩ rfl dX11_readable_7 (fun x23 τ22 hw => ?_)
  refine z_if_eq (tgt := 24) C dX11_readable_10 (by decide) (fun c24 => ?_) (fun c24 => ?_)
  · have hw := hw.1 c24
    refine z_aload_n C 0 (by rfl) dX11_readable_24 ?_
    refine z_iconst C 1 (by decide) dX11_readable_25 ?_
    refine zv_i C (As := [.int 1]) (bytes := cX11_refuse) (maxL := 2) (F1 := 0) (L1 := 0) (c_X11_refuse w _ i0 1 _ h0 hw) h0.2 (tE20 h0.1) rfl 1 gX11_readable_X11_refuse rfl (by decide +kernel) ⟨Nat.le_of_ble_eq_true rfl, Nat.le_of_ble_eq_true rfl⟩ rfl (Nat.le_of_ble_eq_true rfl) ⟨Nat.le_of_ble_eq_true rfl, Nat.le_of_ble_eq_true rfl⟩ rfl dX11_readable_26 (fun x26 τ25 hw => ?_)
    exact hR _ _ _ _ dX11_readable_29 hw
  · have hw := hw.2 c24
    refine z_aload_n C 0 (by rfl) dX11_readable_13 ?_
    refine z_get C (Cn := RX11) (T := TX11) (N := 10) (ci := 10) h0.2 7 (tE20 h0.1) in_X11_readable_X11 rfl (by decide) mw_X11_readable_1 rfl rfl dX11_readable_14 ?_
    refine z_iload_n C 1 (by rfl) dX11_readable_17 ?_
    exact hw.elim
def wp_X11_hasRead (τ : TS) (i0 : Nat) (x1 : Int32) (K : TS → Int32 → Prop) : Prop :=
  wp_X11_of τ i0 x1 22 (fun τ21 x22 => K τ21 x22)
set_option maxHeartbeats 4000000 in
set_option maxRecDepth 100000 in
theorem c_X11_hasRead (w : WPar) (τ : TS) (i0 : Nat) (x1 : Int32) (K : TS → Int32 → Prop) (h0 : tp_is w i0 20) (hw : wp_X11_hasRead τ i0 x1 K) : MI w yX11_hasRead wsX11_hasRead 3 65 [.ref (w.1 i0), .int x1] τ K := by
  refine tp_enterI (cc := cX11_hasRead) (maxL := 2) (own := RX11) (by decide) rfl rfl (Nat.le_of_ble_eq_true rfl) (fun g C hR => ?_)
  show Zt w g τ (0, 0) 0 [(0, .ref (w.1 i0)), (1, .int x1)] []
  unfold wp_X11_hasRead at hw
  refine z_aload_n C 0 (by rfl) dX11_hasRead_0 ?_
  refine z_iload_n C 1 (by rfl) dX11_hasRead_1 ?_
  refine z_bipush C 22 (by decide) dX11_hasRead_2 ?_
  refine zv_i C (As := [.int x1, .int 22]) (bytes := cX11_of) (maxL := 3) (F1 := 2) (L1 := 43) (c_X11_of w _ i0 x1 22 _ h0 hw) h0.2 (tE20 h0.1) rfl 2 gX11_hasRead_X11_of rfl (by decide +kernel) ⟨Nat.le_of_ble_eq_true rfl, Nat.le_of_ble_eq_true rfl⟩ rfl (Nat.le_of_ble_eq_true rfl) ⟨Nat.le_of_ble_eq_true rfl, Nat.le_of_ble_eq_true rfl⟩ rfl dX11_hasRead_4 (fun x22 τ21 hw => ?_)
  exact hR _ _ _ _ dX11_hasRead_7 hw
def wp_X11_meanWindow (τ : TS) (i0 : Nat) (K : TS → UInt64 → Prop) : Prop :=
  ∀ τ21 : TS, τ21 = tp_up τ i0 0 0 → ∃ (I26 : TS → Int32 → Int32 → Int32 → Prop) (u26 : TS → Int32 → Int32 → Int32 → Nat), I26 τ21 0 0 0 ∧ ∀ (τ22 : TS) (x23 : Int32) (x24 : Int32) (x25 : Int32), I26 τ22 x23 x24 x25 → ((((τ22 239 2) ≤ x25) → (((¬ x24 = 0) → False) ∧ ((x24 = 0) → (K τ22 FP.dconst0)))) ∧ ((¬ (τ22 239 2) ≤ x25) → (vp_in x25 6 ∧ ((((τ22 ((239 + 15) + 1 + (Int32.toNatClampNeg x25)) (Int32.toNatClampNeg 3)) = 1) → (vp_in x25 6 ∧ (∀ x34 : Int32, x34 = (x23 + (τ22 ((239 + 15) + 1 + (Int32.toNatClampNeg x25)) (Int32.toNatClampNeg 8))) → ∀ x35 : Int32, x35 = x24 + 1 → ∀ x36 : Int32, x36 = x25 + 1 → I26 τ22 x34 x35 x36 ∧ u26 τ22 x34 x35 x36 < u26 τ22 x23 x24 x25))) ∧ ((¬ (τ22 ((239 + 15) + 1 + (Int32.toNatClampNeg x25)) (Int32.toNatClampNeg 3)) = 1) → (∀ x37 : Int32, x37 = x25 + 1 → I26 τ22 x23 x24 x37 ∧ u26 τ22 x23 x24 x37 < u26 τ22 x23 x24 x25))))))
theorem mw_X11_meanWindow_0 : Cond.fieldLink RX11 34 "TidePostModel" "thrown" "I" ∈ wsX11_meanWindow := List.mem_of_getElem? (i := 1) rfl
theorem mw_X11_meanWindow_1 : Cond.fieldLink RX11 27 "TidePostModel" "now" "LTidePostModel$State;" ∈ wsX11_meanWindow := List.mem_of_getElem? (i := 2) rfl
theorem in_X11_meanWindow_X11 : ∀ x ∈ wsX110, x ∈ wsX11_meanWindow := fun _ h => List.mem_cons_of_mem _ (List.mem_append_left _ (List.mem_append_right _ h))
theorem in_X11_meanWindow_X10 : ∀ x ∈ wsX100, x ∈ wsX11_meanWindow := fun _ h => List.mem_cons_of_mem _ (List.mem_append_right _ h)
set_option maxHeartbeats 4000000 in
set_option maxRecDepth 100000 in
theorem c_X11_meanWindow (w : WPar) (τ : TS) (i0 : Nat) (K : TS → UInt64 → Prop) (h0 : tp_is w i0 20) (hw : wp_X11_meanWindow τ i0 K) : MD w yX11_meanWindow wsX11_meanWindow 0 0 [.ref (w.1 i0)] τ K := by
  refine tp_enterD (cc := cX11_meanWindow) (maxL := 4) (own := RX11) (by decide) rfl rfl (Nat.le_of_ble_eq_true rfl) (fun g C hR => ?_)
  show Zt w g τ (0, 0) 0 [(0, .ref (w.1 i0))] []
  unfold wp_X11_meanWindow at hw
  refine z_aload_n C 0 (by rfl) dX11_meanWindow_0 ?_
  refine z_iconst C 0 (by decide) dX11_meanWindow_1 ?_
  refine z_put C (Cn := RX11) (T := TX11) (N := 10) (ci := 10) h0.2 0 (tE20 h0.1) (tS20_0 h0.1 _) in_X11_meanWindow_X11 tyX11 tyX11_ok nmX11 rfl (by decide) mw_X11_meanWindow_0 rfl rfl (tyX11_ok 0 (by decide)) rfl rfl (Nat.le_of_ble_eq_true rfl) dX11_meanWindow_2 (fun τ21 eτ21 => ?_)
  have hw := hw τ21 eτ21
  refine z_iconst C 0 (by decide) dX11_meanWindow_5 ?_
  refine z_istore_n C [(1, .int 0), (0, .ref (w.1 i0))] dX11_meanWindow_6 (by decide) rfl ?_
  refine z_iconst C 0 (by decide) dX11_meanWindow_7 ?_
  refine z_istore_n C [(2, .int 0), (1, .int 0), (0, .ref (w.1 i0))] dX11_meanWindow_8 (by decide) rfl ?_
  refine z_iconst C 0 (by decide) dX11_meanWindow_9 ?_
  refine z_istore_n C [(3, .int 0), (2, .int 0), (1, .int 0), (0, .ref (w.1 i0))] dX11_meanWindow_10 (by decide) rfl ?_
  obtain ⟨I26, u26, hI26, hs26⟩ := hw
  have lp26 : ∀ (n26 : Nat) (τ22 : TS) (x23 : Int32) (x24 : Int32) (x25 : Int32), u26 τ22 x23 x24 x25 < n26 → I26 τ22 x23 x24 x25 → Zt w g τ22 (0, 0) 11 [(0, .ref (w.1 i0)), (1, .int x23), (2, .int x24), (3, .int x25)] [] := by
    intro n26
    induction n26 with
    | zero => intro τ22 x23 x24 x25 hlt26; exact absurd hlt26 (Nat.not_lt_zero _)
    | succ n26 ih26 =>
      intro τ22 x23 x24 x25 hlt26 hh26
      have hw := hs26 τ22 x23 x24 x25 hh26
      refine z_iload_n C 3 (by rfl) dX11_meanWindow_11 ?_
      refine z_aload_n C 0 (by rfl) dX11_meanWindow_12 ?_
      refine z_get C (Cn := RX11) (T := TX11) (N := 10) (ci := 10) h0.2 7 (tE20 h0.1) in_X11_meanWindow_X11 rfl (by decide) mw_X11_meanWindow_1 rfl rfl dX11_meanWindow_13 ?_
      refine z_getN C (Cn := RX10) (T := TX10) (N := 13) (ci := 9) (tR20_7 h0).2 2 (tE21 (tR20_7 h0).1) in_X11_meanWindow_X10 rfl (by decide) (List.mem_of_getElem? (i := 5) rfl) rfl rfl dX11_meanWindow_16 ?_
      refine z_icmp_ge (tgt := 64) C dX11_meanWindow_19 (by decide) (fun c27 => ?_) (fun c27 => ?_)
      · have hw := hw.1 c27
        refine z_iload_n C 2 (by rfl) dX11_meanWindow_64 ?_
        refine z_if_ne (tgt := 72) C dX11_meanWindow_65 (by decide) (fun c28 => ?_) (fun c28 => ?_)
        · have hw := hw.1 c28
          refine z_iload_n C 1 (by rfl) dX11_meanWindow_72 ?_
          exact hw.elim
        · have hw := hw.2 c28
          refine z_dconst0 C dX11_meanWindow_68 ?_
          refine z_goto (tgt := 77) C dX11_meanWindow_69 (by decide) ?_
          exact hR _ _ _ _ dX11_meanWindow_77 hw
      · have hw := hw.2 c27
        refine z_aload_n C 0 (by rfl) dX11_meanWindow_22 ?_
        refine z_get C (Cn := RX11) (T := TX11) (N := 10) (ci := 10) h0.2 7 (tE20 h0.1) in_X11_meanWindow_X11 rfl (by decide) mw_X11_meanWindow_1 rfl rfl dX11_meanWindow_23 ?_
        refine z_getN C (Cn := RX10) (T := TX10) (N := 13) (ci := 9) (tR20_7 h0).2 9 (tE21 (tR20_7 h0).1) in_X11_meanWindow_X10 rfl (by decide) (List.mem_of_getElem? (i := 11) rfl) rfl rfl dX11_meanWindow_26 ?_
        refine z_iload_n C 3 (by rfl) dX11_meanWindow_29 ?_
        obtain ⟨s29, hw⟩ := hw
        refine z_aald_q4 C (tR21_9 (tR20_7 h0)).2 (tE26 (tR21_9 (tR20_7 h0)).1) s29 (if_pos (tp_lt s29)) dX11_meanWindow_30 ?_
        refine z_iconst C 3 (by decide) dX11_meanWindow_31 ?_
        have s30 : vp_in 3 23 := by unfold vp_in; decide
        refine z_iald C (tR26 (tR21_9 (tR20_7 h0)) (tp_lt s29)).2 (tE27 (tR26 (tR21_9 (tR20_7 h0)) (tp_lt s29)).1) s30 dX11_meanWindow_32 ?_
        refine z_iconst C 1 (by decide) dX11_meanWindow_33 ?_
        refine z_icmp_eq (tgt := 40) C dX11_meanWindow_34 (by decide) (fun c31 => ?_) (fun c31 => ?_)
        · have hw := hw.1 c31
          refine z_iload_n C 1 (by rfl) dX11_meanWindow_40 ?_
          refine z_aload_n C 0 (by rfl) dX11_meanWindow_41 ?_
          refine z_get C (Cn := RX11) (T := TX11) (N := 10) (ci := 10) h0.2 7 (tE20 h0.1) in_X11_meanWindow_X11 rfl (by decide) mw_X11_meanWindow_1 rfl rfl dX11_meanWindow_42 ?_
          refine z_getN C (Cn := RX10) (T := TX10) (N := 13) (ci := 9) (tR20_7 h0).2 9 (tE21 (tR20_7 h0).1) in_X11_meanWindow_X10 rfl (by decide) (List.mem_of_getElem? (i := 11) rfl) rfl rfl dX11_meanWindow_45 ?_
          refine z_iload_n C 3 (by rfl) dX11_meanWindow_48 ?_
          obtain ⟨s32, hw⟩ := hw
          refine z_aald_q4 C (tR21_9 (tR20_7 h0)).2 (tE26 (tR21_9 (tR20_7 h0)).1) s32 (if_pos (tp_lt s32)) dX11_meanWindow_49 ?_
          refine z_bipush C 8 (by decide) dX11_meanWindow_50 ?_
          have s33 : vp_in 8 23 := by unfold vp_in; decide
          refine z_iald C (tR26 (tR21_9 (tR20_7 h0)) (tp_lt s32)).2 (tE27 (tR26 (tR21_9 (tR20_7 h0)) (tp_lt s32)).1) s33 dX11_meanWindow_52 ?_
          refine z_iadd C dX11_meanWindow_53 ?_
          refine z_top (fun x34 ex34 => ?_)
          have hw := hw x34 ex34
          refine z_istore_n C [(1, .int x34), (0, .ref (w.1 i0)), (2, .int x24), (3, .int x25)] dX11_meanWindow_54 (by decide) rfl ?_
          obtain ⟨x35, ex35⟩ : ∃ z : Int32, z = x24 + 1 := ⟨_, rfl⟩
          have hw := hw x35 ex35
          refine z_iinc C 2 x35 [(2, .int x35), (1, .int x34), (0, .ref (w.1 i0)), (3, .int x25)] dX11_meanWindow_55 (by rfl) (by rw [ex35]; rfl) (by decide) rfl ?_
          obtain ⟨x36, ex36⟩ : ∃ z : Int32, z = x25 + 1 := ⟨_, rfl⟩
          have hw := hw x36 ex36
          refine z_iinc C 3 x36 [(3, .int x36), (2, .int x35), (1, .int x34), (0, .ref (w.1 i0))] dX11_meanWindow_58 (by rfl) (by rw [ex36]; rfl) (by decide) rfl ?_
          refine z_goto (tgt := 11) C dX11_meanWindow_61 (by decide) ?_
          refine z_sub [3, 2, 1, 0] [(0, .ref (w.1 i0)), (1, .int x34), (2, .int x35), (3, .int x36)] rfl ?_
          exact ih26 τ22 x34 x35 x36 (Nat.lt_of_lt_of_le hw.2 (Nat.le_of_lt_succ hlt26)) hw.1
        · have hw := hw.2 c31
          refine z_goto (tgt := 58) C dX11_meanWindow_37 (by decide) ?_
          obtain ⟨x37, ex37⟩ : ∃ z : Int32, z = x25 + 1 := ⟨_, rfl⟩
          have hw := hw x37 ex37
          refine z_iinc C 3 x37 [(3, .int x37), (0, .ref (w.1 i0)), (1, .int x23), (2, .int x24)] dX11_meanWindow_58 (by rfl) (by rw [ex37]; rfl) (by decide) rfl ?_
          refine z_goto (tgt := 11) C dX11_meanWindow_61 (by decide) ?_
          refine z_sub [1, 2, 3, 0] [(0, .ref (w.1 i0)), (1, .int x23), (2, .int x24), (3, .int x37)] rfl ?_
          exact ih26 τ22 x23 x24 x37 (Nat.lt_of_lt_of_le hw.2 (Nat.le_of_lt_succ hlt26)) hw.1
  refine z_sub [3, 2, 1, 0] [(0, .ref (w.1 i0)), (1, .int 0), (2, .int 0), (3, .int 0)] rfl ?_
  exact lp26 _ τ21 0 0 0 (Nat.lt_succ_self _) hI26
def wp_X11_ticksUntil (τ : TS) (i0 : Nat) (x1 : Int32) (x2 : Int32) (x3 : Int32) (K : TS → Int32 → Prop) : Prop :=
  ∀ τ21 : TS, τ21 = tp_up τ i0 0 0 → wp_X11_isCall τ21 i0 x1 (fun τ22 x23 => ((¬ x23 = 0) → (wp_X11_is τ22 x3 1 60 (fun τ25 x26 => ((¬ x26 = 0) → (wp_X10_become τ25 371 239 (fun τ28 => ∃ (I31 : TS → Int32 → Prop) (u31 : TS → Int32 → Nat), I31 τ28 0 ∧ ∀ (τ29 : TS) (x30 : Int32), I31 τ29 x30 → (((x3 < x30) → (K τ29 (-1))) ∧ ((¬ x3 < x30) → (vp_in x1 6 ∧ ((((τ29 ((371 + 15) + 1 + (Int32.toNatClampNeg x1)) (Int32.toNatClampNeg 6)) < x2) → (wp_X10_tick τ29 371 (fun τ36 => ∀ x37 : Int32, x37 = x30 + 1 → I31 τ36 x37 ∧ u31 τ36 x37 < u31 τ29 x30))) ∧ ((¬ (τ29 ((371 + 15) + 1 + (Int32.toNatClampNeg x1)) (Int32.toNatClampNeg 6)) < x2) → (K τ29 x30))))))))) ∧ ((x26 = 0) → (wp_X11_refuse τ25 i0 2 (fun τ38 x39 => K τ38 x39)))))) ∧ ((x23 = 0) → (wp_X11_refuse τ22 i0 1 (fun τ40 x41 => K τ40 x41))))
theorem mw_X11_ticksUntil_0 : Cond.fieldLink RX11 34 "TidePostModel" "thrown" "I" ∈ wsX11_ticksUntil := List.mem_of_getElem? (i := 1) rfl
theorem mw_X11_ticksUntil_1 : Cond.fieldLink RX11 31 "TidePostModel" "ahead" "LTidePostModel$State;" ∈ wsX11_ticksUntil := List.mem_of_getElem? (i := 2) rfl
theorem mw_X11_ticksUntil_2 : Cond.fieldLink RX11 27 "TidePostModel" "now" "LTidePostModel$State;" ∈ wsX11_ticksUntil := List.mem_of_getElem? (i := 3) rfl
theorem in_X11_ticksUntil_X11 : ∀ x ∈ wsX110, x ∈ wsX11_ticksUntil := fun _ h => List.mem_cons_of_mem _ (List.mem_append_left _ (List.mem_append_left _ (List.mem_append_right _ h)))
theorem in_X11_ticksUntil_X10 : ∀ x ∈ wsX100, x ∈ wsX11_ticksUntil := fun _ h => List.mem_cons_of_mem _ (List.mem_append_left _ (List.mem_append_right _ h))
set_option maxHeartbeats 4000000 in
set_option maxRecDepth 100000 in
theorem c_X11_ticksUntil (w : WPar) (τ : TS) (i0 : Nat) (x1 : Int32) (x2 : Int32) (x3 : Int32) (K : TS → Int32 → Prop) (h0 : tp_is w i0 20) (hw : wp_X11_ticksUntil τ i0 x1 x2 x3 K) : MI w yX11_ticksUntil wsX11_ticksUntil 3 61 [.ref (w.1 i0), .int x1, .int x2, .int x3] τ K := by
  refine tp_enterI (cc := cX11_ticksUntil) (maxL := 5) (own := RX11) (by decide) rfl rfl (Nat.le_of_ble_eq_true rfl) (fun g C hR => ?_)
  show Zt w g τ (0, 0) 0 [(0, .ref (w.1 i0)), (1, .int x1), (2, .int x2), (3, .int x3)] []
  unfold wp_X11_ticksUntil at hw
  refine z_aload_n C 0 (by rfl) dX11_ticksUntil_0 ?_
  refine z_iconst C 0 (by decide) dX11_ticksUntil_1 ?_
  refine z_put C (Cn := RX11) (T := TX11) (N := 10) (ci := 10) h0.2 0 (tE20 h0.1) (tS20_0 h0.1 _) in_X11_ticksUntil_X11 tyX11 tyX11_ok nmX11 rfl (by decide) mw_X11_ticksUntil_0 rfl rfl (tyX11_ok 0 (by decide)) rfl rfl (Nat.le_of_ble_eq_true rfl) dX11_ticksUntil_2 (fun τ21 eτ21 => ?_)
  have hw := hw τ21 eτ21
  refine z_aload_n C 0 (by rfl) dX11_ticksUntil_5 ?_
  refine z_iload_n C 1 (by rfl) dX11_ticksUntil_6 ?_
  refine zv_i C (As := [.int x1]) (bytes := cX11_isCall) (maxL := 2) (F1 := 1) (L1 := 22) (c_X11_isCall w _ i0 x1 _ h0 hw) h0.2 (tE20 h0.1) rfl 1 gX11_ticksUntil_X11_isCall rfl (by decide +kernel) ⟨Nat.le_of_ble_eq_true rfl, Nat.le_of_ble_eq_true rfl⟩ rfl (Nat.le_of_ble_eq_true rfl) ⟨Nat.le_of_ble_eq_true rfl, Nat.le_of_ble_eq_true rfl⟩ rfl dX11_ticksUntil_7 (fun x23 τ22 hw => ?_)
  refine z_if_ne (tgt := 19) C dX11_ticksUntil_10 (by decide) (fun c24 => ?_) (fun c24 => ?_)
  · have hw := hw.1 c24
    refine z_iload_n C 3 (by rfl) dX11_ticksUntil_19 ?_
    refine z_iconst C 1 (by decide) dX11_ticksUntil_20 ?_
    refine z_bipush C 60 (by decide) dX11_ticksUntil_21 ?_
    refine zs_i C (As := [.int x3, .int 1, .int 60]) (bytes := cX11_is) (maxL := 3) (F1 := 0) (L1 := 0) (c_X11_is w _ x3 1 60 _  hw) 3 gX11_ticksUntil_X11_is rfl (by decide +kernel) ⟨Nat.le_of_ble_eq_true rfl, Nat.le_of_ble_eq_true rfl⟩ rfl (Nat.le_of_ble_eq_true rfl) ⟨Nat.le_of_ble_eq_true rfl, Nat.le_of_ble_eq_true rfl⟩ rfl dX11_ticksUntil_23 (fun x26 τ25 hw => ?_)
    refine z_if_ne (tgt := 35) C dX11_ticksUntil_26 (by decide) (fun c27 => ?_) (fun c27 => ?_)
    · have hw := hw.1 c27
      refine z_aload_n C 0 (by rfl) dX11_ticksUntil_35 ?_
      refine z_get C (Cn := RX11) (T := TX11) (N := 10) (ci := 10) h0.2 8 (tE20 h0.1) in_X11_ticksUntil_X11 rfl (by decide) mw_X11_ticksUntil_1 rfl rfl dX11_ticksUntil_36 ?_
      refine z_aload_n C 0 (by rfl) dX11_ticksUntil_39 ?_
      refine z_get C (Cn := RX11) (T := TX11) (N := 10) (ci := 10) h0.2 7 (tE20 h0.1) in_X11_ticksUntil_X11 rfl (by decide) mw_X11_ticksUntil_2 rfl rfl dX11_ticksUntil_40 ?_
      refine zv_v C (As := [.ref (w.1 239)]) (bytes := cX10_become) (maxL := 3) (F1 := 2) (L1 := 39) (c_X10_become w _ 371 239 _ (tR20_8 h0) (tR20_7 h0) hw) (tR20_8 h0).2 (tE21 (tR20_8 h0).1) rfl 1 gX11_ticksUntil_X10_become rfl (by decide +kernel) ⟨Nat.le_of_ble_eq_true rfl, Nat.le_of_ble_eq_true rfl⟩ rfl (Nat.le_of_ble_eq_true rfl) ⟨Nat.le_of_ble_eq_true rfl, Nat.le_of_ble_eq_true rfl⟩ rfl dX11_ticksUntil_43 (fun τ28 hw => ?_)
      refine z_iconst C 0 (by decide) dX11_ticksUntil_46 ?_
      refine z_istore C [(4, .int 0), (0, .ref (w.1 i0)), (1, .int x1), (2, .int x2), (3, .int x3)] dX11_ticksUntil_47 (by decide) rfl ?_
      obtain ⟨I31, u31, hI31, hs31⟩ := hw
      have lp31 : ∀ (n31 : Nat) (τ29 : TS) (x30 : Int32), u31 τ29 x30 < n31 → I31 τ29 x30 → Zt w g τ29 (0, 0) 49 [(0, .ref (w.1 i0)), (1, .int x1), (2, .int x2), (3, .int x3), (4, .int x30)] [] := by
        intro n31
        induction n31 with
        | zero => intro τ29 x30 hlt31; exact absurd hlt31 (Nat.not_lt_zero _)
        | succ n31 ih31 =>
          intro τ29 x30 hlt31 hh31
          have hw := hs31 τ29 x30 hh31
          refine z_iload C 4 (by rfl) dX11_ticksUntil_49 ?_
          refine z_iload_n C 3 (by rfl) dX11_ticksUntil_51 ?_
          refine z_icmp_gt (tgt := 87) C dX11_ticksUntil_52 (by decide) (fun c32 => ?_) (fun c32 => ?_)
          · have hw := hw.1 c32
            refine z_iconst C (-1) (by decide) dX11_ticksUntil_87 ?_
            exact hR _ _ _ _ dX11_ticksUntil_88 hw
          · have hw := hw.2 c32
            refine z_aload_n C 0 (by rfl) dX11_ticksUntil_55 ?_
            refine z_get C (Cn := RX11) (T := TX11) (N := 10) (ci := 10) h0.2 8 (tE20 h0.1) in_X11_ticksUntil_X11 rfl (by decide) mw_X11_ticksUntil_1 rfl rfl dX11_ticksUntil_56 ?_
            refine z_getN C (Cn := RX10) (T := TX10) (N := 13) (ci := 9) (tR20_8 h0).2 9 (tE21 (tR20_8 h0).1) in_X11_ticksUntil_X10 rfl (by decide) (List.mem_of_getElem? (i := 11) rfl) rfl rfl dX11_ticksUntil_59 ?_
            refine z_iload_n C 1 (by rfl) dX11_ticksUntil_62 ?_
            obtain ⟨s33, hw⟩ := hw
            refine z_aald_q4 C (tR21_9 (tR20_8 h0)).2 (tE26 (tR21_9 (tR20_8 h0)).1) s33 (if_pos (tp_lt s33)) dX11_ticksUntil_63 ?_
            refine z_bipush C 6 (by decide) dX11_ticksUntil_64 ?_
            have s34 : vp_in 6 23 := by unfold vp_in; decide
            refine z_iald C (tR26 (tR21_9 (tR20_8 h0)) (tp_lt s33)).2 (tE27 (tR26 (tR21_9 (tR20_8 h0)) (tp_lt s33)).1) s34 dX11_ticksUntil_66 ?_
            refine z_iload_n C 2 (by rfl) dX11_ticksUntil_67 ?_
            refine z_icmp_lt (tgt := 74) C dX11_ticksUntil_68 (by decide) (fun c35 => ?_) (fun c35 => ?_)
            · have hw := hw.1 c35
              refine z_aload_n C 0 (by rfl) dX11_ticksUntil_74 ?_
              refine z_get C (Cn := RX11) (T := TX11) (N := 10) (ci := 10) h0.2 8 (tE20 h0.1) in_X11_ticksUntil_X11 rfl (by decide) mw_X11_ticksUntil_1 rfl rfl dX11_ticksUntil_75 ?_
              refine zv_v C (As := []) (bytes := cX10_tick) (maxL := 2) (F1 := 0) (L1 := 0) (c_X10_tick w _ 371 _ (tR20_8 h0) hw) (tR20_8 h0).2 (tE21 (tR20_8 h0).1) rfl 0 gX11_ticksUntil_X10_tick rfl (by decide +kernel) ⟨Nat.le_of_ble_eq_true rfl, Nat.le_of_ble_eq_true rfl⟩ rfl (Nat.le_of_ble_eq_true rfl) ⟨Nat.le_of_ble_eq_true rfl, Nat.le_of_ble_eq_true rfl⟩ rfl dX11_ticksUntil_78 (fun τ36 hw => ?_)
              obtain ⟨x37, ex37⟩ : ∃ z : Int32, z = x30 + 1 := ⟨_, rfl⟩
              have hw := hw x37 ex37
              refine z_iinc C 4 x37 [(4, .int x37), (0, .ref (w.1 i0)), (1, .int x1), (2, .int x2), (3, .int x3)] dX11_ticksUntil_81 (by rfl) (by rw [ex37]; rfl) (by decide) rfl ?_
              refine z_goto (tgt := 49) C dX11_ticksUntil_84 (by decide) ?_
              refine z_sub [1, 2, 3, 4, 0] [(0, .ref (w.1 i0)), (1, .int x1), (2, .int x2), (3, .int x3), (4, .int x37)] rfl ?_
              exact ih31 τ36 x37 (Nat.lt_of_lt_of_le hw.2 (Nat.le_of_lt_succ hlt31)) hw.1
            · have hw := hw.2 c35
              refine z_iload C 4 (by rfl) dX11_ticksUntil_71 ?_
              exact hR _ _ _ _ dX11_ticksUntil_73 hw
      refine z_sub [1, 2, 3, 4, 0] [(0, .ref (w.1 i0)), (1, .int x1), (2, .int x2), (3, .int x3), (4, .int 0)] rfl ?_
      exact lp31 _ τ28 0 (Nat.lt_succ_self _) hI31
    · have hw := hw.2 c27
      refine z_aload_n C 0 (by rfl) dX11_ticksUntil_29 ?_
      refine z_iconst C 2 (by decide) dX11_ticksUntil_30 ?_
      refine zv_i C (As := [.int 2]) (bytes := cX11_refuse) (maxL := 2) (F1 := 0) (L1 := 0) (c_X11_refuse w _ i0 2 _ h0 hw) h0.2 (tE20 h0.1) rfl 1 gX11_ticksUntil_X11_refuse rfl (by decide +kernel) ⟨Nat.le_of_ble_eq_true rfl, Nat.le_of_ble_eq_true rfl⟩ rfl (Nat.le_of_ble_eq_true rfl) ⟨Nat.le_of_ble_eq_true rfl, Nat.le_of_ble_eq_true rfl⟩ rfl dX11_ticksUntil_31 (fun x39 τ38 hw => ?_)
      exact hR _ _ _ _ dX11_ticksUntil_34 hw
  · have hw := hw.2 c24
    refine z_aload_n C 0 (by rfl) dX11_ticksUntil_13 ?_
    refine z_iconst C 1 (by decide) dX11_ticksUntil_14 ?_
    refine zv_i C (As := [.int 1]) (bytes := cX11_refuse) (maxL := 2) (F1 := 0) (L1 := 0) (c_X11_refuse w _ i0 1 _ h0 hw) h0.2 (tE20 h0.1) rfl 1 gX11_ticksUntil_X11_refuse rfl (by decide +kernel) ⟨Nat.le_of_ble_eq_true rfl, Nat.le_of_ble_eq_true rfl⟩ rfl (Nat.le_of_ble_eq_true rfl) ⟨Nat.le_of_ble_eq_true rfl, Nat.le_of_ble_eq_true rfl⟩ rfl dX11_ticksUntil_15 (fun x41 τ40 hw => ?_)
    exact hR _ _ _ _ dX11_ticksUntil_18 hw
def wp_X11_lostIn (τ : TS) (i0 : Nat) (x1 : Int32) (K : TS → Int32 → Prop) : Prop :=
  ∀ τ21 : TS, τ21 = tp_up τ i0 0 0 → wp_X11_is τ21 x1 1 50 (fun τ22 x23 => ((¬ x23 = 0) → (wp_X10_become τ22 371 239 (fun τ25 => ∃ (I28 : TS → Int32 → Prop) (u28 : TS → Int32 → Nat), I28 τ25 0 ∧ ∀ (τ26 : TS) (x27 : Int32), I28 τ26 x27 → (((x1 ≤ x27) → (K τ26 ((τ26 371 1) - (τ26 239 1)))) ∧ ((¬ x1 ≤ x27) → (wp_X10_tick τ26 371 (fun τ30 => ∀ x31 : Int32, x31 = x27 + 1 → I28 τ30 x31 ∧ u28 τ30 x31 < u28 τ26 x27))))))) ∧ ((x23 = 0) → (wp_X11_refuse τ22 i0 1 (fun τ32 x33 => K τ32 x33))))
theorem mw_X11_lostIn_0 : Cond.fieldLink RX11 34 "TidePostModel" "thrown" "I" ∈ wsX11_lostIn := List.mem_of_getElem? (i := 1) rfl
theorem mw_X11_lostIn_1 : Cond.fieldLink RX11 31 "TidePostModel" "ahead" "LTidePostModel$State;" ∈ wsX11_lostIn := List.mem_of_getElem? (i := 2) rfl
theorem mw_X11_lostIn_2 : Cond.fieldLink RX11 27 "TidePostModel" "now" "LTidePostModel$State;" ∈ wsX11_lostIn := List.mem_of_getElem? (i := 3) rfl
theorem in_X11_lostIn_X11 : ∀ x ∈ wsX110, x ∈ wsX11_lostIn := fun _ h => List.mem_cons_of_mem _ (List.mem_append_left _ (List.mem_append_left _ (List.mem_append_right _ h)))
theorem in_X11_lostIn_X10 : ∀ x ∈ wsX100, x ∈ wsX11_lostIn := fun _ h => List.mem_cons_of_mem _ (List.mem_append_left _ (List.mem_append_right _ h))
set_option maxHeartbeats 4000000 in
set_option maxRecDepth 100000 in
theorem c_X11_lostIn (w : WPar) (τ : TS) (i0 : Nat) (x1 : Int32) (K : TS → Int32 → Prop) (h0 : tp_is w i0 20) (hw : wp_X11_lostIn τ i0 x1 K) : MI w yX11_lostIn wsX11_lostIn 3 61 [.ref (w.1 i0), .int x1] τ K := by
  refine tp_enterI (cc := cX11_lostIn) (maxL := 3) (own := RX11) (by decide) rfl rfl (Nat.le_of_ble_eq_true rfl) (fun g C hR => ?_)
  show Zt w g τ (0, 0) 0 [(0, .ref (w.1 i0)), (1, .int x1)] []
  unfold wp_X11_lostIn at hw
  refine z_aload_n C 0 (by rfl) dX11_lostIn_0 ?_
  refine z_iconst C 0 (by decide) dX11_lostIn_1 ?_
  refine z_put C (Cn := RX11) (T := TX11) (N := 10) (ci := 10) h0.2 0 (tE20 h0.1) (tS20_0 h0.1 _) in_X11_lostIn_X11 tyX11 tyX11_ok nmX11 rfl (by decide) mw_X11_lostIn_0 rfl rfl (tyX11_ok 0 (by decide)) rfl rfl (Nat.le_of_ble_eq_true rfl) dX11_lostIn_2 (fun τ21 eτ21 => ?_)
  have hw := hw τ21 eτ21
  refine z_iload_n C 1 (by rfl) dX11_lostIn_5 ?_
  refine z_iconst C 1 (by decide) dX11_lostIn_6 ?_
  refine z_bipush C 50 (by decide) dX11_lostIn_7 ?_
  refine zs_i C (As := [.int x1, .int 1, .int 50]) (bytes := cX11_is) (maxL := 3) (F1 := 0) (L1 := 0) (c_X11_is w _ x1 1 50 _  hw) 3 gX11_lostIn_X11_is rfl (by decide +kernel) ⟨Nat.le_of_ble_eq_true rfl, Nat.le_of_ble_eq_true rfl⟩ rfl (Nat.le_of_ble_eq_true rfl) ⟨Nat.le_of_ble_eq_true rfl, Nat.le_of_ble_eq_true rfl⟩ rfl dX11_lostIn_9 (fun x23 τ22 hw => ?_)
  refine z_if_ne (tgt := 21) C dX11_lostIn_12 (by decide) (fun c24 => ?_) (fun c24 => ?_)
  · have hw := hw.1 c24
    refine z_aload_n C 0 (by rfl) dX11_lostIn_21 ?_
    refine z_get C (Cn := RX11) (T := TX11) (N := 10) (ci := 10) h0.2 8 (tE20 h0.1) in_X11_lostIn_X11 rfl (by decide) mw_X11_lostIn_1 rfl rfl dX11_lostIn_22 ?_
    refine z_aload_n C 0 (by rfl) dX11_lostIn_25 ?_
    refine z_get C (Cn := RX11) (T := TX11) (N := 10) (ci := 10) h0.2 7 (tE20 h0.1) in_X11_lostIn_X11 rfl (by decide) mw_X11_lostIn_2 rfl rfl dX11_lostIn_26 ?_
    refine zv_v C (As := [.ref (w.1 239)]) (bytes := cX10_become) (maxL := 3) (F1 := 2) (L1 := 39) (c_X10_become w _ 371 239 _ (tR20_8 h0) (tR20_7 h0) hw) (tR20_8 h0).2 (tE21 (tR20_8 h0).1) rfl 1 gX11_lostIn_X10_become rfl (by decide +kernel) ⟨Nat.le_of_ble_eq_true rfl, Nat.le_of_ble_eq_true rfl⟩ rfl (Nat.le_of_ble_eq_true rfl) ⟨Nat.le_of_ble_eq_true rfl, Nat.le_of_ble_eq_true rfl⟩ rfl dX11_lostIn_29 (fun τ25 hw => ?_)
    refine z_iconst C 0 (by decide) dX11_lostIn_32 ?_
    refine z_istore_n C [(2, .int 0), (0, .ref (w.1 i0)), (1, .int x1)] dX11_lostIn_33 (by decide) rfl ?_
    obtain ⟨I28, u28, hI28, hs28⟩ := hw
    have lp28 : ∀ (n28 : Nat) (τ26 : TS) (x27 : Int32), u28 τ26 x27 < n28 → I28 τ26 x27 → Zt w g τ26 (0, 0) 34 [(0, .ref (w.1 i0)), (1, .int x1), (2, .int x27)] [] := by
      intro n28
      induction n28 with
      | zero => intro τ26 x27 hlt28; exact absurd hlt28 (Nat.not_lt_zero _)
      | succ n28 ih28 =>
        intro τ26 x27 hlt28 hh28
        have hw := hs28 τ26 x27 hh28
        refine z_iload_n C 2 (by rfl) dX11_lostIn_34 ?_
        refine z_iload_n C 1 (by rfl) dX11_lostIn_35 ?_
        refine z_icmp_ge (tgt := 52) C dX11_lostIn_36 (by decide) (fun c29 => ?_) (fun c29 => ?_)
        · have hw := hw.1 c29
          refine z_aload_n C 0 (by rfl) dX11_lostIn_52 ?_
          refine z_get C (Cn := RX11) (T := TX11) (N := 10) (ci := 10) h0.2 8 (tE20 h0.1) in_X11_lostIn_X11 rfl (by decide) mw_X11_lostIn_1 rfl rfl dX11_lostIn_53 ?_
          refine z_getN C (Cn := RX10) (T := TX10) (N := 13) (ci := 9) (tR20_8 h0).2 1 (tE21 (tR20_8 h0).1) in_X11_lostIn_X10 rfl (by decide) (List.mem_of_getElem? (i := 4) rfl) rfl rfl dX11_lostIn_56 ?_
          refine z_aload_n C 0 (by rfl) dX11_lostIn_59 ?_
          refine z_get C (Cn := RX11) (T := TX11) (N := 10) (ci := 10) h0.2 7 (tE20 h0.1) in_X11_lostIn_X11 rfl (by decide) mw_X11_lostIn_2 rfl rfl dX11_lostIn_60 ?_
          refine z_getN C (Cn := RX10) (T := TX10) (N := 13) (ci := 9) (tR20_7 h0).2 1 (tE21 (tR20_7 h0).1) in_X11_lostIn_X10 rfl (by decide) (List.mem_of_getElem? (i := 4) rfl) rfl rfl dX11_lostIn_63 ?_
          refine z_isub C dX11_lostIn_66 ?_
          exact hR _ _ _ _ dX11_lostIn_67 hw
        · have hw := hw.2 c29
          refine z_aload_n C 0 (by rfl) dX11_lostIn_39 ?_
          refine z_get C (Cn := RX11) (T := TX11) (N := 10) (ci := 10) h0.2 8 (tE20 h0.1) in_X11_lostIn_X11 rfl (by decide) mw_X11_lostIn_1 rfl rfl dX11_lostIn_40 ?_
          refine zv_v C (As := []) (bytes := cX10_tick) (maxL := 2) (F1 := 0) (L1 := 0) (c_X10_tick w _ 371 _ (tR20_8 h0) hw) (tR20_8 h0).2 (tE21 (tR20_8 h0).1) rfl 0 gX11_lostIn_X10_tick rfl (by decide +kernel) ⟨Nat.le_of_ble_eq_true rfl, Nat.le_of_ble_eq_true rfl⟩ rfl (Nat.le_of_ble_eq_true rfl) ⟨Nat.le_of_ble_eq_true rfl, Nat.le_of_ble_eq_true rfl⟩ rfl dX11_lostIn_43 (fun τ30 hw => ?_)
          obtain ⟨x31, ex31⟩ : ∃ z : Int32, z = x27 + 1 := ⟨_, rfl⟩
          have hw := hw x31 ex31
          refine z_iinc C 2 x31 [(2, .int x31), (0, .ref (w.1 i0)), (1, .int x1)] dX11_lostIn_46 (by rfl) (by rw [ex31]; rfl) (by decide) rfl ?_
          refine z_goto (tgt := 34) C dX11_lostIn_49 (by decide) ?_
          refine z_sub [1, 2, 0] [(0, .ref (w.1 i0)), (1, .int x1), (2, .int x31)] rfl ?_
          exact ih28 τ30 x31 (Nat.lt_of_lt_of_le hw.2 (Nat.le_of_lt_succ hlt28)) hw.1
    refine z_sub [1, 2, 0] [(0, .ref (w.1 i0)), (1, .int x1), (2, .int 0)] rfl ?_
    exact lp28 _ τ25 0 (Nat.lt_succ_self _) hI28
  · have hw := hw.2 c24
    refine z_aload_n C 0 (by rfl) dX11_lostIn_15 ?_
    refine z_iconst C 1 (by decide) dX11_lostIn_16 ?_
    refine zv_i C (As := [.int 1]) (bytes := cX11_refuse) (maxL := 2) (F1 := 0) (L1 := 0) (c_X11_refuse w _ i0 1 _ h0 hw) h0.2 (tE20 h0.1) rfl 1 gX11_lostIn_X11_refuse rfl (by decide +kernel) ⟨Nat.le_of_ble_eq_true rfl, Nat.le_of_ble_eq_true rfl⟩ rfl (Nat.le_of_ble_eq_true rfl) ⟨Nat.le_of_ble_eq_true rfl, Nat.le_of_ble_eq_true rfl⟩ rfl dX11_lostIn_17 (fun x33 τ32 hw => ?_)
    exact hR _ _ _ _ dX11_lostIn_20 hw
def wp_X11_distanceWithout (τ : TS) (i0 : Nat) (x1 : Int32) (x2 : Int32) (x3 : Int32) (K : TS → Int32 → Prop) : Prop :=
  ∀ τ21 : TS, τ21 = tp_up τ i0 0 0 → wp_X11_isLink τ21 i0 x1 (fun τ22 x23 => ((x23 = 0) → (wp_X11_refuse τ22 i0 1 (fun τ25 x26 => K τ25 x26))) ∧ ((¬ x23 = 0) → (wp_X11_isNode τ22 i0 x2 (fun τ27 x28 => ((x28 = 0) → (wp_X11_refuse τ27 i0 1 (fun τ30 x31 => K τ30 x31))) ∧ ((¬ x28 = 0) → (wp_X11_isNode τ27 i0 x3 (fun τ32 x33 => ((¬ x33 = 0) → (wp_X10_become τ32 371 239 (fun τ35 => wp_X10_routes τ35 371 x1 (fun τ36 => False)))) ∧ ((x33 = 0) → (wp_X11_refuse τ32 i0 1 (fun τ37 x38 => K τ37 x38))))))))))
theorem mw_X11_distanceWithout_0 : Cond.fieldLink RX11 34 "TidePostModel" "thrown" "I" ∈ wsX11_distanceWithout := List.mem_of_getElem? (i := 1) rfl
theorem mw_X11_distanceWithout_1 : Cond.fieldLink RX11 31 "TidePostModel" "ahead" "LTidePostModel$State;" ∈ wsX11_distanceWithout := List.mem_of_getElem? (i := 2) rfl
theorem mw_X11_distanceWithout_2 : Cond.fieldLink RX11 27 "TidePostModel" "now" "LTidePostModel$State;" ∈ wsX11_distanceWithout := List.mem_of_getElem? (i := 3) rfl
theorem in_X11_distanceWithout_X11 : ∀ x ∈ wsX110, x ∈ wsX11_distanceWithout := fun _ h => List.mem_cons_of_mem _ (List.mem_append_left _ (List.mem_append_left _ (List.mem_append_right _ h)))
set_option maxHeartbeats 4000000 in
set_option maxRecDepth 100000 in
theorem c_X11_distanceWithout (w : WPar) (τ : TS) (i0 : Nat) (x1 : Int32) (x2 : Int32) (x3 : Int32) (K : TS → Int32 → Prop) (h0 : tp_is w i0 20) (hw : wp_X11_distanceWithout τ i0 x1 x2 x3 K) : MI w yX11_distanceWithout wsX11_distanceWithout 3 61 [.ref (w.1 i0), .int x1, .int x2, .int x3] τ K := by
  refine tp_enterI (cc := cX11_distanceWithout) (maxL := 4) (own := RX11) (by decide) rfl rfl (Nat.le_of_ble_eq_true rfl) (fun g C hR => ?_)
  show Zt w g τ (0, 0) 0 [(0, .ref (w.1 i0)), (1, .int x1), (2, .int x2), (3, .int x3)] []
  unfold wp_X11_distanceWithout at hw
  refine z_aload_n C 0 (by rfl) dX11_distanceWithout_0 ?_
  refine z_iconst C 0 (by decide) dX11_distanceWithout_1 ?_
  refine z_put C (Cn := RX11) (T := TX11) (N := 10) (ci := 10) h0.2 0 (tE20 h0.1) (tS20_0 h0.1 _) in_X11_distanceWithout_X11 tyX11 tyX11_ok nmX11 rfl (by decide) mw_X11_distanceWithout_0 rfl rfl (tyX11_ok 0 (by decide)) rfl rfl (Nat.le_of_ble_eq_true rfl) dX11_distanceWithout_2 (fun τ21 eτ21 => ?_)
  have hw := hw τ21 eτ21
  refine z_aload_n C 0 (by rfl) dX11_distanceWithout_5 ?_
  refine z_iload_n C 1 (by rfl) dX11_distanceWithout_6 ?_
  refine zv_i C (As := [.int x1]) (bytes := cX11_isLink) (maxL := 2) (F1 := 1) (L1 := 22) (c_X11_isLink w _ i0 x1 _ h0 hw) h0.2 (tE20 h0.1) rfl 1 gX11_distanceWithout_X11_isLink rfl (by decide +kernel) ⟨Nat.le_of_ble_eq_true rfl, Nat.le_of_ble_eq_true rfl⟩ rfl (Nat.le_of_ble_eq_true rfl) ⟨Nat.le_of_ble_eq_true rfl, Nat.le_of_ble_eq_true rfl⟩ rfl dX11_distanceWithout_7 (fun x23 τ22 hw => ?_)
  refine z_if_eq (tgt := 29) C dX11_distanceWithout_10 (by decide) (fun c24 => ?_) (fun c24 => ?_)
  · have hw := hw.1 c24
    refine z_aload_n C 0 (by rfl) dX11_distanceWithout_29 ?_
    refine z_iconst C 1 (by decide) dX11_distanceWithout_30 ?_
    refine zv_i C (As := [.int 1]) (bytes := cX11_refuse) (maxL := 2) (F1 := 0) (L1 := 0) (c_X11_refuse w _ i0 1 _ h0 hw) h0.2 (tE20 h0.1) rfl 1 gX11_distanceWithout_X11_refuse rfl (by decide +kernel) ⟨Nat.le_of_ble_eq_true rfl, Nat.le_of_ble_eq_true rfl⟩ rfl (Nat.le_of_ble_eq_true rfl) ⟨Nat.le_of_ble_eq_true rfl, Nat.le_of_ble_eq_true rfl⟩ rfl dX11_distanceWithout_31 (fun x26 τ25 hw => ?_)
    exact hR _ _ _ _ dX11_distanceWithout_34 hw
  · have hw := hw.2 c24
    refine z_aload_n C 0 (by rfl) dX11_distanceWithout_13 ?_
    refine z_iload_n C 2 (by rfl) dX11_distanceWithout_14 ?_
    refine zv_i C (As := [.int x2]) (bytes := cX11_isNode) (maxL := 2) (F1 := 1) (L1 := 22) (c_X11_isNode w _ i0 x2 _ h0 hw) h0.2 (tE20 h0.1) rfl 1 gX11_distanceWithout_X11_isNode rfl (by decide +kernel) ⟨Nat.le_of_ble_eq_true rfl, Nat.le_of_ble_eq_true rfl⟩ rfl (Nat.le_of_ble_eq_true rfl) ⟨Nat.le_of_ble_eq_true rfl, Nat.le_of_ble_eq_true rfl⟩ rfl dX11_distanceWithout_15 (fun x28 τ27 hw => ?_)
    refine z_if_eq (tgt := 29) C dX11_distanceWithout_18 (by decide) (fun c29 => ?_) (fun c29 => ?_)
    · have hw := hw.1 c29
      refine z_aload_n C 0 (by rfl) dX11_distanceWithout_29 ?_
      refine z_iconst C 1 (by decide) dX11_distanceWithout_30 ?_
      refine zv_i C (As := [.int 1]) (bytes := cX11_refuse) (maxL := 2) (F1 := 0) (L1 := 0) (c_X11_refuse w _ i0 1 _ h0 hw) h0.2 (tE20 h0.1) rfl 1 gX11_distanceWithout_X11_refuse rfl (by decide +kernel) ⟨Nat.le_of_ble_eq_true rfl, Nat.le_of_ble_eq_true rfl⟩ rfl (Nat.le_of_ble_eq_true rfl) ⟨Nat.le_of_ble_eq_true rfl, Nat.le_of_ble_eq_true rfl⟩ rfl dX11_distanceWithout_31 (fun x31 τ30 hw => ?_)
      exact hR _ _ _ _ dX11_distanceWithout_34 hw
    · have hw := hw.2 c29
      refine z_aload_n C 0 (by rfl) dX11_distanceWithout_21 ?_
      refine z_iload_n C 3 (by rfl) dX11_distanceWithout_22 ?_
      refine zv_i C (As := [.int x3]) (bytes := cX11_isNode) (maxL := 2) (F1 := 1) (L1 := 22) (c_X11_isNode w _ i0 x3 _ h0 hw) h0.2 (tE20 h0.1) rfl 1 gX11_distanceWithout_X11_isNode rfl (by decide +kernel) ⟨Nat.le_of_ble_eq_true rfl, Nat.le_of_ble_eq_true rfl⟩ rfl (Nat.le_of_ble_eq_true rfl) ⟨Nat.le_of_ble_eq_true rfl, Nat.le_of_ble_eq_true rfl⟩ rfl dX11_distanceWithout_23 (fun x33 τ32 hw => ?_)
      refine z_if_ne (tgt := 35) C dX11_distanceWithout_26 (by decide) (fun c34 => ?_) (fun c34 => ?_)
      · have hw := hw.1 c34
        refine z_aload_n C 0 (by rfl) dX11_distanceWithout_35 ?_
        refine z_get C (Cn := RX11) (T := TX11) (N := 10) (ci := 10) h0.2 8 (tE20 h0.1) in_X11_distanceWithout_X11 rfl (by decide) mw_X11_distanceWithout_1 rfl rfl dX11_distanceWithout_36 ?_
        refine z_aload_n C 0 (by rfl) dX11_distanceWithout_39 ?_
        refine z_get C (Cn := RX11) (T := TX11) (N := 10) (ci := 10) h0.2 7 (tE20 h0.1) in_X11_distanceWithout_X11 rfl (by decide) mw_X11_distanceWithout_2 rfl rfl dX11_distanceWithout_40 ?_
        refine zv_v C (As := [.ref (w.1 239)]) (bytes := cX10_become) (maxL := 3) (F1 := 2) (L1 := 39) (c_X10_become w _ 371 239 _ (tR20_8 h0) (tR20_7 h0) hw) (tR20_8 h0).2 (tE21 (tR20_8 h0).1) rfl 1 gX11_distanceWithout_X10_become rfl (by decide +kernel) ⟨Nat.le_of_ble_eq_true rfl, Nat.le_of_ble_eq_true rfl⟩ rfl (Nat.le_of_ble_eq_true rfl) ⟨Nat.le_of_ble_eq_true rfl, Nat.le_of_ble_eq_true rfl⟩ rfl dX11_distanceWithout_43 (fun τ35 hw => ?_)
        refine z_aload_n C 0 (by rfl) dX11_distanceWithout_46 ?_
        refine z_get C (Cn := RX11) (T := TX11) (N := 10) (ci := 10) h0.2 8 (tE20 h0.1) in_X11_distanceWithout_X11 rfl (by decide) mw_X11_distanceWithout_1 rfl rfl dX11_distanceWithout_47 ?_
        refine z_iload_n C 1 (by rfl) dX11_distanceWithout_50 ?_
        refine zv_v C (As := [.int x1]) (bytes := cX10_routes) (maxL := 6) (F1 := 1) (L1 := 23) (c_X10_routes w _ 371 x1 _ (tR20_8 h0) hw) (tR20_8 h0).2 (tE21 (tR20_8 h0).1) rfl 1 gX11_distanceWithout_X10_routes rfl (by decide +kernel) ⟨Nat.le_of_ble_eq_true rfl, Nat.le_of_ble_eq_true rfl⟩ rfl (Nat.le_of_ble_eq_true rfl) ⟨Nat.le_of_ble_eq_true rfl, Nat.le_of_ble_eq_true rfl⟩ rfl dX11_distanceWithout_51 (fun τ36 hw => ?_)
        refine z_aload_n C 0 (by rfl) dX11_distanceWithout_54 ?_
        refine z_get C (Cn := RX11) (T := TX11) (N := 10) (ci := 10) h0.2 8 (tE20 h0.1) in_X11_distanceWithout_X11 rfl (by decide) mw_X11_distanceWithout_1 rfl rfl dX11_distanceWithout_55 ?_
        refine z_iload_n C 2 (by rfl) dX11_distanceWithout_58 ?_
        refine z_iload_n C 3 (by rfl) dX11_distanceWithout_59 ?_
        exact hw.elim
      · have hw := hw.2 c34
        refine z_aload_n C 0 (by rfl) dX11_distanceWithout_29 ?_
        refine z_iconst C 1 (by decide) dX11_distanceWithout_30 ?_
        refine zv_i C (As := [.int 1]) (bytes := cX11_refuse) (maxL := 2) (F1 := 0) (L1 := 0) (c_X11_refuse w _ i0 1 _ h0 hw) h0.2 (tE20 h0.1) rfl 1 gX11_distanceWithout_X11_refuse rfl (by decide +kernel) ⟨Nat.le_of_ble_eq_true rfl, Nat.le_of_ble_eq_true rfl⟩ rfl (Nat.le_of_ble_eq_true rfl) ⟨Nat.le_of_ble_eq_true rfl, Nat.le_of_ble_eq_true rfl⟩ rfl dX11_distanceWithout_31 (fun x38 τ37 hw => ?_)
        exact hR _ _ _ _ dX11_distanceWithout_34 hw
def wp_X11_add (τ : TS) (i0 : Nat) (x1 : Int32) (K : TS → Prop) : Prop :=
  ∀ τ21 : TS, τ21 = tp_rw τ i0 (upd (upd (τ i0) 9 (tp_hi (((tp_jl (τ i0 9) (τ i0 10)) * 31) + (Int32.toInt64 x1)))) 10 (tp_lo (((tp_jl (τ i0 9) (τ i0 10)) * 31) + (Int32.toInt64 x1)))) → K τ21
theorem mw_X11_add_0 : Cond.fieldLink RX11 162 "TidePostModel" "sum" "J" ∈ wsX11_add := List.mem_of_getElem? (i := 1) rfl
theorem mw_X11_add_1 : Cond.constantLong RX11 166 (31) ∈ wsX11_add := List.mem_of_getElem? (i := 2) rfl
theorem in_X11_add_X11 : ∀ x ∈ wsX110, x ∈ wsX11_add := fun _ h => List.mem_cons_of_mem _ (List.mem_append_right _ h)
set_option maxHeartbeats 4000000 in
set_option maxRecDepth 100000 in
theorem c_X11_add (w : WPar) (τ : TS) (i0 : Nat) (x1 : Int32) (K : TS → Prop) (h0 : tp_is w i0 20) (hw : wp_X11_add τ i0 x1 K) : MV w yX11_add wsX11_add 0 0 [.ref (w.1 i0), .int x1] τ K := by
  refine tp_enterV (cc := cX11_add) (maxL := 2) (own := RX11) (by decide) rfl rfl (Nat.le_of_ble_eq_true rfl) (fun g C hR => ?_)
  show Zt w g τ (0, 0) 0 [(0, .ref (w.1 i0)), (1, .int x1)] []
  unfold wp_X11_add at hw
  refine z_aload_n C 0 (by rfl) dX11_add_0 ?_
  refine z_aload_n C 0 (by rfl) dX11_add_1 ?_
  refine z_get C (Cn := RX11) (T := TX11) (N := 10) (ci := 10) h0.2 9 (tE20 h0.1) in_X11_add_X11 rfl (by decide) mw_X11_add_0 rfl rfl dX11_add_2 ?_
  refine z_ldc2 C 31 mw_X11_add_1 dX11_add_5 ?_
  refine z_lmul C dX11_add_8 ?_
  refine z_iload_n C 1 (by rfl) dX11_add_9 ?_
  refine z_i2l C dX11_add_10 ?_
  refine z_ladd C dX11_add_11 ?_
  refine z_putJ C (Cn := RX11) (T := TX11) (N := 10) (ci := 10) h0.2 9 (tE20 h0.1) (tS20_9 h0.1 _) in_X11_add_X11 tyX11 tyX11_ok nmX11 rfl (by decide) mw_X11_add_0 rfl rfl (tyX11_ok 9 (by decide)) rfl rfl (Nat.le_of_ble_eq_true rfl) dX11_add_12 (fun τ21 eτ21 => ?_)
  have hw := hw τ21 eτ21
  exact hR _ _ _ dX11_add_15 hw
