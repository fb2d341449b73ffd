theorem wk_1 {τ : TS} (h : pF τ) (xs : Nat → Int32) : wl_1 τ xs (fun _ => True) := by
  unfold wl_1
  exact l_addLink h (m_addLink h (fun _ _ e => l_end e))
theorem wk_2 {τ : TS} (h : pF τ) (xs : Nat → Int32) : wl_2 τ xs (fun _ => True) := by
  unfold wl_2
  exact l_turn h (m_turn h (fun _ _ e => l_end e))
theorem wk_3 {τ : TS} (h : pF τ) (xs : Nat → Int32) : wl_3 τ xs (fun _ => True) := by
  unfold wl_3
  exact l_lose h (m_lose h (fun _ _ e => l_end e))
theorem wk_4 {τ : TS} (h : pF τ) (xs : Nat → Int32) : wl_4 τ xs (fun _ => True) := by
  unfold wl_4
  exact l_call h (m_call h (fun _ _ e => l_end e))
theorem wk_5 {τ : TS} (h : pF τ) (xs : Nat → Int32) : wl_5 τ xs (fun _ => True) := by
  unfold wl_5
  exact l_give h (m_give h (fun _ _ e => l_end e))
theorem wk_6 {τ : TS} (h : pF τ) (xs : Nat → Int32) : wl_6 τ xs (fun _ => True) := by
  unfold wl_6
  exact l_close h (m_close h (fun _ _ e => l_end e))
theorem wk_7 {τ : TS} (h : pF τ) (xs : Nat → Int32) : wl_7 τ xs (fun _ => True) := by
  unfold wl_7
  exact l_read h (m_read h (fun _ _ e => l_end e))
theorem wk_12 {τ : TS} (h : pF τ) (xs : Nat → Int32) : wl_12 τ xs (fun _ => True) := by
  unfold wl_12
  exact l_isUp h (m_isUp h (fun _ _ e => l_end e))
theorem wk_13 {τ : TS} (h : pF τ) (xs : Nat → Int32) : wl_13 τ xs (fun _ => True) := by
  unfold wl_13
  exact l_distance h (m_distance h (fun _ _ e => l_end e))
theorem wk_14 {τ : TS} (h : pF τ) (xs : Nat → Int32) : wl_14 τ xs (fun _ => True) := by
  unfold wl_14
  exact l_nextLink h (m_nextLink h (fun _ _ e => l_end e))
theorem wk_15 {τ : TS} (h : pF τ) (xs : Nat → Int32) : wl_15 τ xs (fun _ => True) := by
  unfold wl_15
  exact l_queued h (m_queued h (fun _ _ e => l_end e))
theorem wk_16 {τ : TS} (h : pF τ) (xs : Nat → Int32) : wl_16 τ xs (fun _ => True) := by
  unfold wl_16
  exact l_flying h (m_flying h (fun _ _ e => l_end e))
theorem wk_17 {τ : TS} (h : pF τ) (xs : Nat → Int32) : wl_17 τ xs (fun _ => True) := by
  unfold wl_17
  exact l_flown h (m_flown h (fun _ _ e => l_end e))
theorem wk_21 {τ : TS} (h : pF τ) (xs : Nat → Int32) : wl_21 τ xs (fun _ => True) := by
  unfold wl_21
  exact l_stateOf h (m_stateOf h (fun _ _ e => l_end e))
theorem wk_22 {τ : TS} (h : pF τ) (xs : Nat → Int32) : wl_22 τ xs (fun _ => True) := by
  unfold wl_22
  exact l_given h (m_given h (fun _ _ e => l_end e))
theorem wk_23 {τ : TS} (h : pF τ) (xs : Nat → Int32) : wl_23 τ xs (fun _ => True) := by
  unfold wl_23
  exact l_base h (m_base h (fun _ _ e => l_end e))
theorem wk_24 {τ : TS} (h : pF τ) (xs : Nat → Int32) : wl_24 τ xs (fun _ => True) := by
  unfold wl_24
  exact l_next h (m_next h (fun _ _ e => l_end e))
theorem wk_25 {τ : TS} (h : pF τ) (xs : Nat → Int32) : wl_25 τ xs (fun _ => True) := by
  unfold wl_25
  exact l_window h (m_window h (fun _ _ e => l_end e))
theorem wk_26 {τ : TS} (h : pF τ) (xs : Nat → Int32) : wl_26 τ xs (fun _ => True) := by
  unfold wl_26
  exact l_threshold h (m_threshold h (fun _ _ e => l_end e))
theorem wk_27 {τ : TS} (h : pF τ) (xs : Nat → Int32) : wl_27 τ xs (fun _ => True) := by
  unfold wl_27
  exact l_room h (m_room h (fun _ _ e => l_end e))
theorem wk_28 {τ : TS} (h : pF τ) (xs : Nat → Int32) : wl_28 τ xs (fun _ => True) := by
  unfold wl_28
  exact l_like h (m_like h (fun _ _ e => l_end e))
theorem wk_29 {τ : TS} (h : pF τ) (xs : Nat → Int32) : wl_29 τ xs (fun _ => True) := by
  unfold wl_29
  exact l_recover h (m_recover h (fun _ _ e => l_end e))
theorem wk_30 {τ : TS} (h : pF τ) (xs : Nat → Int32) : wl_30 τ xs (fun _ => True) := by
  unfold wl_30
  exact l_round h (m_round h (fun _ _ e => l_end e))
theorem wk_31 {τ : TS} (h : pF τ) (xs : Nat → Int32) : wl_31 τ xs (fun _ => True) := by
  unfold wl_31
  exact l_swing h (m_swing h (fun _ _ e => l_end e))
theorem wk_32 {τ : TS} (h : pF τ) (xs : Nat → Int32) : wl_32 τ xs (fun _ => True) := by
  unfold wl_32
  exact l_timeout h (m_timeout h (fun _ _ e => l_end e))
theorem wk_33 {τ : TS} (h : pF τ) (xs : Nat → Int32) : wl_33 τ xs (fun _ => True) := by
  unfold wl_33
  exact l_timer h (m_timer h (fun _ _ e => l_end e))
theorem wk_34 {τ : TS} (h : pF τ) (xs : Nat → Int32) : wl_34 τ xs (fun _ => True) := by
  unfold wl_34
  exact l_measured h (m_measured h (fun _ _ e => l_end e))
theorem wk_35 {τ : TS} (h : pF τ) (xs : Nat → Int32) : wl_35 τ xs (fun _ => True) := by
  unfold wl_35
  exact l_tries h (m_tries h (fun _ _ e => l_end e))
theorem wk_36 {τ : TS} (h : pF τ) (xs : Nat → Int32) : wl_36 τ xs (fun _ => True) := by
  unfold wl_36
  exact l_sentAgain h (m_sentAgain h (fun _ _ e => l_end e))
theorem wk_37 {τ : TS} (h : pF τ) (xs : Nat → Int32) : wl_37 τ xs (fun _ => True) := by
  unfold wl_37
  exact l_wanted h (m_wanted h (fun _ _ e => l_end e))
theorem wk_38 {τ : TS} (h : pF τ) (xs : Nat → Int32) : wl_38 τ xs (fun _ => True) := by
  unfold wl_38
  exact l_holds h (m_holds h (fun _ _ e => l_end e))
theorem wk_39 {τ : TS} (h : pF τ) (xs : Nat → Int32) : wl_39 τ xs (fun _ => True) := by
  unfold wl_39
  exact l_readable h (m_readable h (fun _ _ e => l_end e))
theorem wk_40 {τ : TS} (h : pF τ) (xs : Nat → Int32) : wl_40 τ xs (fun _ => True) := by
  unfold wl_40
  exact l_hasRead h (m_hasRead h (fun _ _ e => l_end e))
theorem wk_42 {τ : TS} (h : pF τ) (xs : Nat → Int32) : wl_42 τ xs (fun _ => True) := by
  unfold wl_42
  exact l_ticksUntil h (m_ticksUntil h (fun _ _ e => l_end e))
theorem wk_44 {τ : TS} (h : pF τ) (xs : Nat → Int32) : wl_44 τ xs (fun _ => True) := by
  unfold wl_44
  exact l_distanceWithout h (m_distanceWithout h (fun _ _ e => l_end e))
