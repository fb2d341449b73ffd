theorem wk_1 {τ : TS} (h : pF τ) (xs : Nat → Int32) : wl_1 τ xs (fun _ => True) := by
  unfold wl_1
  exact lf_addLink h (mf_addLink h (fun _ _ e => lf_end e))
theorem wk_2 {τ : TS} (h : pF τ) (xs : Nat → Int32) : wl_2 τ xs (fun _ => True) := by
  unfold wl_2
  exact lf_turn h (mf_turn h (fun _ _ e => lf_end e))
theorem wk_3 {τ : TS} (h : pF τ) (xs : Nat → Int32) : wl_3 τ xs (fun _ => True) := by
  unfold wl_3
  exact lf_lose h (mf_lose h (fun _ _ e => lf_end e))
theorem wk_4 {τ : TS} (h : pF τ) (xs : Nat → Int32) : wl_4 τ xs (fun _ => True) := by
  unfold wl_4
  exact lf_call h (mf_call h (fun _ _ e => lf_end e))
theorem wk_5 {τ : TS} (h : pF τ) (xs : Nat → Int32) : wl_5 τ xs (fun _ => True) := by
  unfold wl_5
  exact lf_give h (mf_give h (fun _ _ e => lf_end e))
theorem wk_6 {τ : TS} (h : pF τ) (xs : Nat → Int32) : wl_6 τ xs (fun _ => True) := by
  unfold wl_6
  exact lf_close h (mf_close h (fun _ _ e => lf_end e))
theorem wk_7 {τ : TS} (h : pF τ) (xs : Nat → Int32) : wl_7 τ xs (fun _ => True) := by
  unfold wl_7
  exact lf_read h (mf_read h (fun _ _ e => lf_end e))
theorem wk_12 {τ : TS} (h : pF τ) (xs : Nat → Int32) : wl_12 τ xs (fun _ => True) := by
  unfold wl_12
  exact lf_isUp h (mf_isUp h (fun _ _ e => lf_end e))
theorem wk_13 {τ : TS} (h : pF τ) (xs : Nat → Int32) : wl_13 τ xs (fun _ => True) := by
  unfold wl_13
  exact lf_distance h (mf_distance h (fun _ _ e => lf_end e))
theorem wk_14 {τ : TS} (h : pF τ) (xs : Nat → Int32) : wl_14 τ xs (fun _ => True) := by
  unfold wl_14
  exact lf_nextLink h (mf_nextLink h (fun _ _ e => lf_end e))
theorem wk_15 {τ : TS} (h : pF τ) (xs : Nat → Int32) : wl_15 τ xs (fun _ => True) := by
  unfold wl_15
  exact lf_queued h (mf_queued h (fun _ _ e => lf_end e))
theorem wk_16 {τ : TS} (h : pF τ) (xs : Nat → Int32) : wl_16 τ xs (fun _ => True) := by
  unfold wl_16
  exact lf_flying h (mf_flying h (fun _ _ e => lf_end e))
theorem wk_17 {τ : TS} (h : pF τ) (xs : Nat → Int32) : wl_17 τ xs (fun _ => True) := by
  unfold wl_17
  exact lf_flown h (mf_flown h (fun _ _ e => lf_end e))
theorem wk_21 {τ : TS} (h : pF τ) (xs : Nat → Int32) : wl_21 τ xs (fun _ => True) := by
  unfold wl_21
  exact lf_stateOf h (mf_stateOf h (fun _ _ e => lf_end e))
theorem wk_22 {τ : TS} (h : pF τ) (xs : Nat → Int32) : wl_22 τ xs (fun _ => True) := by
  unfold wl_22
  exact lf_given h (mf_given h (fun _ _ e => lf_end e))
theorem wk_23 {τ : TS} (h : pF τ) (xs : Nat → Int32) : wl_23 τ xs (fun _ => True) := by
  unfold wl_23
  exact lf_base h (mf_base h (fun _ _ e => lf_end e))
theorem wk_24 {τ : TS} (h : pF τ) (xs : Nat → Int32) : wl_24 τ xs (fun _ => True) := by
  unfold wl_24
  exact lf_next h (mf_next h (fun _ _ e => lf_end e))
theorem wk_25 {τ : TS} (h : pF τ) (xs : Nat → Int32) : wl_25 τ xs (fun _ => True) := by
  unfold wl_25
  exact lf_window h (mf_window h (fun _ _ e => lf_end e))
theorem wk_26 {τ : TS} (h : pF τ) (xs : Nat → Int32) : wl_26 τ xs (fun _ => True) := by
  unfold wl_26
  exact lf_threshold h (mf_threshold h (fun _ _ e => lf_end e))
theorem wk_27 {τ : TS} (h : pF τ) (xs : Nat → Int32) : wl_27 τ xs (fun _ => True) := by
  unfold wl_27
  exact lf_room h (mf_room h (fun _ _ e => lf_end e))
theorem wk_28 {τ : TS} (h : pF τ) (xs : Nat → Int32) : wl_28 τ xs (fun _ => True) := by
  unfold wl_28
  exact lf_like h (mf_like h (fun _ _ e => lf_end e))
theorem wk_29 {τ : TS} (h : pF τ) (xs : Nat → Int32) : wl_29 τ xs (fun _ => True) := by
  unfold wl_29
  exact lf_recover h (mf_recover h (fun _ _ e => lf_end e))
theorem wk_30 {τ : TS} (h : pF τ) (xs : Nat → Int32) : wl_30 τ xs (fun _ => True) := by
  unfold wl_30
  exact lf_round h (mf_round h (fun _ _ e => lf_end e))
theorem wk_31 {τ : TS} (h : pF τ) (xs : Nat → Int32) : wl_31 τ xs (fun _ => True) := by
  unfold wl_31
  exact lf_swing h (mf_swing h (fun _ _ e => lf_end e))
theorem wk_32 {τ : TS} (h : pF τ) (xs : Nat → Int32) : wl_32 τ xs (fun _ => True) := by
  unfold wl_32
  exact lf_timeout h (mf_timeout h (fun _ _ e => lf_end e))
theorem wk_33 {τ : TS} (h : pF τ) (xs : Nat → Int32) : wl_33 τ xs (fun _ => True) := by
  unfold wl_33
  exact lf_timer h (mf_timer h (fun _ _ e => lf_end e))
theorem wk_34 {τ : TS} (h : pF τ) (xs : Nat → Int32) : wl_34 τ xs (fun _ => True) := by
  unfold wl_34
  exact lf_measured h (mf_measured h (fun _ _ e => lf_end e))
theorem wk_35 {τ : TS} (h : pF τ) (xs : Nat → Int32) : wl_35 τ xs (fun _ => True) := by
  unfold wl_35
  exact lf_tries h (mf_tries h (fun _ _ e => lf_end e))
theorem wk_36 {τ : TS} (h : pF τ) (xs : Nat → Int32) : wl_36 τ xs (fun _ => True) := by
  unfold wl_36
  exact lf_sentAgain h (mf_sentAgain h (fun _ _ e => lf_end e))
theorem wk_37 {τ : TS} (h : pF τ) (xs : Nat → Int32) : wl_37 τ xs (fun _ => True) := by
  unfold wl_37
  exact lf_wanted h (mf_wanted h (fun _ _ e => lf_end e))
theorem wk_38 {τ : TS} (h : pF τ) (xs : Nat → Int32) : wl_38 τ xs (fun _ => True) := by
  unfold wl_38
  exact lf_holds h (mf_holds h (fun _ _ e => lf_end e))
theorem wk_39 {τ : TS} (h : pF τ) (xs : Nat → Int32) : wl_39 τ xs (fun _ => True) := by
  unfold wl_39
  exact lf_readable h (mf_readable h (fun _ _ e => lf_end e))
theorem wk_40 {τ : TS} (h : pF τ) (xs : Nat → Int32) : wl_40 τ xs (fun _ => True) := by
  unfold wl_40
  exact lf_hasRead h (mf_hasRead h (fun _ _ e => lf_end e))
theorem wk_42 {τ : TS} (h : pF τ) (xs : Nat → Int32) : wl_42 τ xs (fun _ => True) := by
  unfold wl_42
  exact lf_ticksUntil h (mf_ticksUntil h (fun _ _ e => lf_end e))
theorem wk_44 {τ : TS} (h : pF τ) (xs : Nat → Int32) : wl_44 τ xs (fun _ => True) := by
  unfold wl_44
  exact lf_distanceWithout h (mf_distanceWithout h (fun _ _ e => lf_end e))
