theorem wk_1 {τ : TS} (h : pF τ) (xs : Nat → Int32) : wl_1 τ xs (fun _ => True) := by
  unfold wl_1
  refine lf_addLink h ?_
  refine mf_addLink h (fun τ2 r e => ?_)
  exact lf_end e
theorem wk_2 {τ : TS} (h : pF τ) (xs : Nat → Int32) : wl_2 τ xs (fun _ => True) := by
  unfold wl_2
  refine lf_turn h ?_
  refine mf_turn h (fun τ2 r e => ?_)
  exact lf_end e
theorem wk_3 {τ : TS} (h : pF τ) (xs : Nat → Int32) : wl_3 τ xs (fun _ => True) := by
  unfold wl_3
  refine lf_lose h ?_
  refine mf_lose h (fun τ2 r e => ?_)
  exact lf_end e
theorem wk_4 {τ : TS} (h : pF τ) (xs : Nat → Int32) : wl_4 τ xs (fun _ => True) := by
  unfold wl_4
  refine lf_call h ?_
  refine mf_call h (fun τ2 r e => ?_)
  exact lf_end e
theorem wk_5 {τ : TS} (h : pF τ) (xs : Nat → Int32) : wl_5 τ xs (fun _ => True) := by
  unfold wl_5
  refine lf_give h ?_
  refine mf_give h (fun τ2 r e => ?_)
  exact lf_end e
theorem wk_6 {τ : TS} (h : pF τ) (xs : Nat → Int32) : wl_6 τ xs (fun _ => True) := by
  unfold wl_6
  refine lf_close h ?_
  refine mf_close h (fun τ2 r e => ?_)
  exact lf_end e
theorem wk_7 {τ : TS} (h : pF τ) (xs : Nat → Int32) : wl_7 τ xs (fun _ => True) := by
  unfold wl_7
  refine lf_read h ?_
  refine mf_read h (fun τ2 r e => ?_)
  exact lf_end e
theorem wk_12 {τ : TS} (h : pF τ) (xs : Nat → Int32) : wl_12 τ xs (fun _ => True) := by
  unfold wl_12
  refine lf_isUp h ?_
  refine mf_isUp h (fun τ2 r e => ?_)
  exact lf_end e
theorem wk_13 {τ : TS} (h : pF τ) (xs : Nat → Int32) : wl_13 τ xs (fun _ => True) := by
  unfold wl_13
  refine lf_distance h ?_
  refine mf_distance h (fun τ2 r e => ?_)
  exact lf_end e
theorem wk_14 {τ : TS} (h : pF τ) (xs : Nat → Int32) : wl_14 τ xs (fun _ => True) := by
  unfold wl_14
  refine lf_nextLink h ?_
  refine mf_nextLink h (fun τ2 r e => ?_)
  exact lf_end e
theorem wk_15 {τ : TS} (h : pF τ) (xs : Nat → Int32) : wl_15 τ xs (fun _ => True) := by
  unfold wl_15
  refine lf_queued h ?_
  refine mf_queued h (fun τ2 r e => ?_)
  exact lf_end e
theorem wk_16 {τ : TS} (h : pF τ) (xs : Nat → Int32) : wl_16 τ xs (fun _ => True) := by
  unfold wl_16
  refine lf_flying h ?_
  refine mf_flying h (fun τ2 r e => ?_)
  exact lf_end e
theorem wk_17 {τ : TS} (h : pF τ) (xs : Nat → Int32) : wl_17 τ xs (fun _ => True) := by
  unfold wl_17
  refine lf_flown h ?_
  refine mf_flown h (fun τ2 r e => ?_)
  exact lf_end e
theorem wk_21 {τ : TS} (h : pF τ) (xs : Nat → Int32) : wl_21 τ xs (fun _ => True) := by
  unfold wl_21
  refine lf_stateOf h ?_
  refine mf_stateOf h (fun τ2 r e => ?_)
  exact lf_end e
theorem wk_22 {τ : TS} (h : pF τ) (xs : Nat → Int32) : wl_22 τ xs (fun _ => True) := by
  unfold wl_22
  refine lf_given h ?_
  refine mf_given h (fun τ2 r e => ?_)
  exact lf_end e
theorem wk_23 {τ : TS} (h : pF τ) (xs : Nat → Int32) : wl_23 τ xs (fun _ => True) := by
  unfold wl_23
  refine lf_base h ?_
  refine mf_base h (fun τ2 r e => ?_)
  exact lf_end e
theorem wk_24 {τ : TS} (h : pF τ) (xs : Nat → Int32) : wl_24 τ xs (fun _ => True) := by
  unfold wl_24
  refine lf_next h ?_
  refine mf_next h (fun τ2 r e => ?_)
  exact lf_end e
theorem wk_25 {τ : TS} (h : pF τ) (xs : Nat → Int32) : wl_25 τ xs (fun _ => True) := by
  unfold wl_25
  refine lf_window h ?_
  refine mf_window h (fun τ2 r e => ?_)
  exact lf_end e
theorem wk_26 {τ : TS} (h : pF τ) (xs : Nat → Int32) : wl_26 τ xs (fun _ => True) := by
  unfold wl_26
  refine lf_threshold h ?_
  refine mf_threshold h (fun τ2 r e => ?_)
  exact lf_end e
theorem wk_27 {τ : TS} (h : pF τ) (xs : Nat → Int32) : wl_27 τ xs (fun _ => True) := by
  unfold wl_27
  refine lf_room h ?_
  refine mf_room h (fun τ2 r e => ?_)
  exact lf_end e
theorem wk_28 {τ : TS} (h : pF τ) (xs : Nat → Int32) : wl_28 τ xs (fun _ => True) := by
  unfold wl_28
  refine lf_like h ?_
  refine mf_like h (fun τ2 r e => ?_)
  exact lf_end e
theorem wk_29 {τ : TS} (h : pF τ) (xs : Nat → Int32) : wl_29 τ xs (fun _ => True) := by
  unfold wl_29
  refine lf_recover h ?_
  refine mf_recover h (fun τ2 r e => ?_)
  exact lf_end e
theorem wk_30 {τ : TS} (h : pF τ) (xs : Nat → Int32) : wl_30 τ xs (fun _ => True) := by
  unfold wl_30
  refine lf_round h ?_
  refine mf_round h (fun τ2 r e => ?_)
  exact lf_end e
theorem wk_31 {τ : TS} (h : pF τ) (xs : Nat → Int32) : wl_31 τ xs (fun _ => True) := by
  unfold wl_31
  refine lf_swing h ?_
  refine mf_swing h (fun τ2 r e => ?_)
  exact lf_end e
theorem wk_32 {τ : TS} (h : pF τ) (xs : Nat → Int32) : wl_32 τ xs (fun _ => True) := by
  unfold wl_32
  refine lf_timeout h ?_
  refine mf_timeout h (fun τ2 r e => ?_)
  exact lf_end e
theorem wk_33 {τ : TS} (h : pF τ) (xs : Nat → Int32) : wl_33 τ xs (fun _ => True) := by
  unfold wl_33
  refine lf_timer h ?_
  refine mf_timer h (fun τ2 r e => ?_)
  exact lf_end e
theorem wk_34 {τ : TS} (h : pF τ) (xs : Nat → Int32) : wl_34 τ xs (fun _ => True) := by
  unfold wl_34
  refine lf_measured h ?_
  refine mf_measured h (fun τ2 r e => ?_)
  exact lf_end e
theorem wk_35 {τ : TS} (h : pF τ) (xs : Nat → Int32) : wl_35 τ xs (fun _ => True) := by
  unfold wl_35
  refine lf_tries h ?_
  refine mf_tries h (fun τ2 r e => ?_)
  exact lf_end e
theorem wk_36 {τ : TS} (h : pF τ) (xs : Nat → Int32) : wl_36 τ xs (fun _ => True) := by
  unfold wl_36
  refine lf_sentAgain h ?_
  refine mf_sentAgain h (fun τ2 r e => ?_)
  exact lf_end e
theorem wk_37 {τ : TS} (h : pF τ) (xs : Nat → Int32) : wl_37 τ xs (fun _ => True) := by
  unfold wl_37
  refine lf_wanted h ?_
  refine mf_wanted h (fun τ2 r e => ?_)
  exact lf_end e
theorem wk_38 {τ : TS} (h : pF τ) (xs : Nat → Int32) : wl_38 τ xs (fun _ => True) := by
  unfold wl_38
  refine lf_holds h ?_
  refine mf_holds h (fun τ2 r e => ?_)
  exact lf_end e
theorem wk_39 {τ : TS} (h : pF τ) (xs : Nat → Int32) : wl_39 τ xs (fun _ => True) := by
  unfold wl_39
  refine lf_readable h ?_
  refine mf_readable h (fun τ2 r e => ?_)
  exact lf_end e
theorem wk_40 {τ : TS} (h : pF τ) (xs : Nat → Int32) : wl_40 τ xs (fun _ => True) := by
  unfold wl_40
  refine lf_hasRead h ?_
  refine mf_hasRead h (fun τ2 r e => ?_)
  exact lf_end e
theorem wk_42 {τ : TS} (h : pF τ) (xs : Nat → Int32) : wl_42 τ xs (fun _ => True) := by
  unfold wl_42
  refine lf_ticksUntil h ?_
  refine mf_ticksUntil h (fun τ2 r e => ?_)
  exact lf_end e
theorem wk_44 {τ : TS} (h : pF τ) (xs : Nat → Int32) : wl_44 τ xs (fun _ => True) := by
  unfold wl_44
  refine lf_distanceWithout h ?_
  refine mf_distanceWithout h (fun τ2 r e => ?_)
  exact lf_end e
