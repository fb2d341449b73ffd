set_option maxRecDepth 20000 in
theorem ggX11_stateOf_X11_of : GoodIn wsX11_stateOf wsX11_of := goodIn_r _ [5, 6, 7, 8, 9, 10, 4, 11, 12, 13, 14, 15, 16, 17, 18, 19, 20, 21, 22, 23, 24, 25, 26, 27, 28, 29, 30, 31, 32, 33, 34, 35, 36, 37, 38, 39, 40, 41] (by decide +kernel) (by decide +kernel)
set_option maxRecDepth 20000 in
theorem gX11_stateOf_X11_of : GoodIn wsX11_stateOf (wsV RX11 151 RX11 yX11_of wsX11_of) := goodIn_app (goodIn_of _ (by decide +kernel)) ggX11_stateOf_X11_of
theorem dX11_stateOf_0 : decode cX11_stateOf 0 = .ok (.aload_n 0, 1) := by decide +kernel
theorem dX11_stateOf_1 : decode cX11_stateOf 1 = .ok (.iload_n 1, 1) := by decide +kernel
theorem dX11_stateOf_2 : decode cX11_stateOf 2 = .ok (.iconst 3, 1) := by decide +kernel
theorem dX11_stateOf_3 : decode cX11_stateOf 3 = .ok (.invokevirtual 151, 3) := by decide +kernel
theorem dX11_stateOf_6 : decode cX11_stateOf 6 = .ok (.ireturn, 1) := by decide +kernel
set_option maxRecDepth 20000 in
theorem ggX11_given_X11_of : GoodIn wsX11_given wsX11_of := goodIn_r _ [5, 6, 7, 8, 9, 10, 4, 11, 12, 13, 14, 15, 16, 17, 18, 19, 20, 21, 22, 23, 24, 25, 26, 27, 28, 29, 30, 31, 32, 33, 34, 35, 36, 37, 38, 39, 40, 41] (by decide +kernel) (by decide +kernel)
set_option maxRecDepth 20000 in
theorem gX11_given_X11_of : GoodIn wsX11_given (wsV RX11 151 RX11 yX11_of wsX11_of) := goodIn_app (goodIn_of _ (by decide +kernel)) ggX11_given_X11_of
theorem dX11_given_0 : decode cX11_given 0 = .ok (.aload_n 0, 1) := by decide +kernel
theorem dX11_given_1 : decode cX11_given 1 = .ok (.iload_n 1, 1) := by decide +kernel
theorem dX11_given_2 : decode cX11_given 2 = .ok (.iconst 4, 1) := by decide +kernel
theorem dX11_given_3 : decode cX11_given 3 = .ok (.invokevirtual 151, 3) := by decide +kernel
theorem dX11_given_6 : decode cX11_given 6 = .ok (.ireturn, 1) := by decide +kernel
set_option maxRecDepth 20000 in
theorem ggX11_base_X11_of : GoodIn wsX11_base wsX11_of := goodIn_r _ [5, 6, 7, 8, 9, 10, 4, 11, 12, 13, 14, 15, 16, 17, 18, 19, 20, 21, 22, 23, 24, 25, 26, 27, 28, 29, 30, 31, 32, 33, 34, 35, 36, 37, 38, 39, 40, 41] (by decide +kernel) (by decide +kernel)
set_option maxRecDepth 20000 in
theorem gX11_base_X11_of : GoodIn wsX11_base (wsV RX11 151 RX11 yX11_of wsX11_of) := goodIn_app (goodIn_of _ (by decide +kernel)) ggX11_base_X11_of
theorem dX11_base_0 : decode cX11_base 0 = .ok (.aload_n 0, 1) := by decide +kernel
theorem dX11_base_1 : decode cX11_base 1 = .ok (.iload_n 1, 1) := by decide +kernel
theorem dX11_base_2 : decode cX11_base 2 = .ok (.bipush 6, 2) := by decide +kernel
theorem dX11_base_4 : decode cX11_base 4 = .ok (.invokevirtual 151, 3) := by decide +kernel
theorem dX11_base_7 : decode cX11_base 7 = .ok (.ireturn, 1) := by decide +kernel
set_option maxRecDepth 20000 in
theorem ggX11_next_X11_of : GoodIn wsX11_next wsX11_of := goodIn_r _ [5, 6, 7, 8, 9, 10, 4, 11, 12, 13, 14, 15, 16, 17, 18, 19, 20, 21, 22, 23, 24, 25, 26, 27, 28, 29, 30, 31, 32, 33, 34, 35, 36, 37, 38, 39, 40, 41] (by decide +kernel) (by decide +kernel)
set_option maxRecDepth 20000 in
theorem gX11_next_X11_of : GoodIn wsX11_next (wsV RX11 151 RX11 yX11_of wsX11_of) := goodIn_app (goodIn_of _ (by decide +kernel)) ggX11_next_X11_of
theorem dX11_next_0 : decode cX11_next 0 = .ok (.aload_n 0, 1) := by decide +kernel
theorem dX11_next_1 : decode cX11_next 1 = .ok (.iload_n 1, 1) := by decide +kernel
theorem dX11_next_2 : decode cX11_next 2 = .ok (.bipush 7, 2) := by decide +kernel
theorem dX11_next_4 : decode cX11_next 4 = .ok (.invokevirtual 151, 3) := by decide +kernel
theorem dX11_next_7 : decode cX11_next 7 = .ok (.ireturn, 1) := by decide +kernel
set_option maxRecDepth 20000 in
theorem ggX11_window_X11_of : GoodIn wsX11_window wsX11_of := goodIn_r _ [5, 6, 7, 8, 9, 10, 4, 11, 12, 13, 14, 15, 16, 17, 18, 19, 20, 21, 22, 23, 24, 25, 26, 27, 28, 29, 30, 31, 32, 33, 34, 35, 36, 37, 38, 39, 40, 41] (by decide +kernel) (by decide +kernel)
set_option maxRecDepth 20000 in
theorem gX11_window_X11_of : GoodIn wsX11_window (wsV RX11 151 RX11 yX11_of wsX11_of) := goodIn_app (goodIn_of _ (by decide +kernel)) ggX11_window_X11_of
theorem dX11_window_0 : decode cX11_window 0 = .ok (.aload_n 0, 1) := by decide +kernel
theorem dX11_window_1 : decode cX11_window 1 = .ok (.iload_n 1, 1) := by decide +kernel
theorem dX11_window_2 : decode cX11_window 2 = .ok (.bipush 8, 2) := by decide +kernel
theorem dX11_window_4 : decode cX11_window 4 = .ok (.invokevirtual 151, 3) := by decide +kernel
theorem dX11_window_7 : decode cX11_window 7 = .ok (.ireturn, 1) := by decide +kernel
set_option maxRecDepth 20000 in
theorem ggX11_threshold_X11_of : GoodIn wsX11_threshold wsX11_of := goodIn_r _ [5, 6, 7, 8, 9, 10, 4, 11, 12, 13, 14, 15, 16, 17, 18, 19, 20, 21, 22, 23, 24, 25, 26, 27, 28, 29, 30, 31, 32, 33, 34, 35, 36, 37, 38, 39, 40, 41] (by decide +kernel) (by decide +kernel)
set_option maxRecDepth 20000 in
theorem gX11_threshold_X11_of : GoodIn wsX11_threshold (wsV RX11 151 RX11 yX11_of wsX11_of) := goodIn_app (goodIn_of _ (by decide +kernel)) ggX11_threshold_X11_of
theorem dX11_threshold_0 : decode cX11_threshold 0 = .ok (.aload_n 0, 1) := by decide +kernel
theorem dX11_threshold_1 : decode cX11_threshold 1 = .ok (.iload_n 1, 1) := by decide +kernel
theorem dX11_threshold_2 : decode cX11_threshold 2 = .ok (.bipush 9, 2) := by decide +kernel
theorem dX11_threshold_4 : decode cX11_threshold 4 = .ok (.invokevirtual 151, 3) := by decide +kernel
theorem dX11_threshold_7 : decode cX11_threshold 7 = .ok (.ireturn, 1) := by decide +kernel
set_option maxRecDepth 20000 in
theorem ggX11_room_X11_of : GoodIn wsX11_room wsX11_of := goodIn_r _ [5, 6, 7, 8, 9, 10, 4, 11, 12, 13, 14, 15, 16, 17, 18, 19, 20, 21, 22, 23, 24, 25, 26, 27, 28, 29, 30, 31, 32, 33, 34, 35, 36, 37, 38, 39, 40, 41] (by decide +kernel) (by decide +kernel)
set_option maxRecDepth 20000 in
theorem gX11_room_X11_of : GoodIn wsX11_room (wsV RX11 151 RX11 yX11_of wsX11_of) := goodIn_app (goodIn_of _ (by decide +kernel)) ggX11_room_X11_of
theorem dX11_room_0 : decode cX11_room 0 = .ok (.aload_n 0, 1) := by decide +kernel
theorem dX11_room_1 : decode cX11_room 1 = .ok (.iload_n 1, 1) := by decide +kernel
theorem dX11_room_2 : decode cX11_room 2 = .ok (.bipush 10, 2) := by decide +kernel
theorem dX11_room_4 : decode cX11_room 4 = .ok (.invokevirtual 151, 3) := by decide +kernel
theorem dX11_room_7 : decode cX11_room 7 = .ok (.ireturn, 1) := by decide +kernel
set_option maxRecDepth 20000 in
theorem ggX11_like_X11_of : GoodIn wsX11_like wsX11_of := goodIn_r _ [5, 6, 7, 8, 9, 10, 4, 11, 12, 13, 14, 15, 16, 17, 18, 19, 20, 21, 22, 23, 24, 25, 26, 27, 28, 29, 30, 31, 32, 33, 34, 35, 36, 37, 38, 39, 40, 41] (by decide +kernel) (by decide +kernel)
set_option maxRecDepth 20000 in
theorem gX11_like_X11_of : GoodIn wsX11_like (wsV RX11 151 RX11 yX11_of wsX11_of) := goodIn_app (goodIn_of _ (by decide +kernel)) ggX11_like_X11_of
theorem dX11_like_0 : decode cX11_like 0 = .ok (.aload_n 0, 1) := by decide +kernel
theorem dX11_like_1 : decode cX11_like 1 = .ok (.iload_n 1, 1) := by decide +kernel
theorem dX11_like_2 : decode cX11_like 2 = .ok (.bipush 11, 2) := by decide +kernel
theorem dX11_like_4 : decode cX11_like 4 = .ok (.invokevirtual 151, 3) := by decide +kernel
theorem dX11_like_7 : decode cX11_like 7 = .ok (.ireturn, 1) := by decide +kernel
set_option maxRecDepth 20000 in
theorem ggX11_recover_X11_of : GoodIn wsX11_recover wsX11_of := goodIn_r _ [5, 6, 7, 8, 9, 10, 4, 11, 12, 13, 14, 15, 16, 17, 18, 19, 20, 21, 22, 23, 24, 25, 26, 27, 28, 29, 30, 31, 32, 33, 34, 35, 36, 37, 38, 39, 40, 41] (by decide +kernel) (by decide +kernel)
set_option maxRecDepth 20000 in
theorem gX11_recover_X11_of : GoodIn wsX11_recover (wsV RX11 151 RX11 yX11_of wsX11_of) := goodIn_app (goodIn_of _ (by decide +kernel)) ggX11_recover_X11_of
theorem dX11_recover_0 : decode cX11_recover 0 = .ok (.aload_n 0, 1) := by decide +kernel
theorem dX11_recover_1 : decode cX11_recover 1 = .ok (.iload_n 1, 1) := by decide +kernel
theorem dX11_recover_2 : decode cX11_recover 2 = .ok (.bipush 12, 2) := by decide +kernel
theorem dX11_recover_4 : decode cX11_recover 4 = .ok (.invokevirtual 151, 3) := by decide +kernel
theorem dX11_recover_7 : decode cX11_recover 7 = .ok (.ireturn, 1) := by decide +kernel
set_option maxRecDepth 20000 in
theorem ggX11_round_X11_of : GoodIn wsX11_round wsX11_of := goodIn_r _ [5, 6, 7, 8, 9, 10, 4, 11, 12, 13, 14, 15, 16, 17, 18, 19, 20, 21, 22, 23, 24, 25, 26, 27, 28, 29, 30, 31, 32, 33, 34, 35, 36, 37, 38, 39, 40, 41] (by decide +kernel) (by decide +kernel)
set_option maxRecDepth 20000 in
theorem gX11_round_X11_of : GoodIn wsX11_round (wsV RX11 151 RX11 yX11_of wsX11_of) := goodIn_app (goodIn_of _ (by decide +kernel)) ggX11_round_X11_of
theorem dX11_round_0 : decode cX11_round 0 = .ok (.aload_n 0, 1) := by decide +kernel
theorem dX11_round_1 : decode cX11_round 1 = .ok (.iload_n 1, 1) := by decide +kernel
theorem dX11_round_2 : decode cX11_round 2 = .ok (.bipush 13, 2) := by decide +kernel
theorem dX11_round_4 : decode cX11_round 4 = .ok (.invokevirtual 151, 3) := by decide +kernel
theorem dX11_round_7 : decode cX11_round 7 = .ok (.ireturn, 1) := by decide +kernel
set_option maxRecDepth 20000 in
theorem ggX11_swing_X11_of : GoodIn wsX11_swing wsX11_of := goodIn_r _ [5, 6, 7, 8, 9, 10, 4, 11, 12, 13, 14, 15, 16, 17, 18, 19, 20, 21, 22, 23, 24, 25, 26, 27, 28, 29, 30, 31, 32, 33, 34, 35, 36, 37, 38, 39, 40, 41] (by decide +kernel) (by decide +kernel)
set_option maxRecDepth 20000 in
theorem gX11_swing_X11_of : GoodIn wsX11_swing (wsV RX11 151 RX11 yX11_of wsX11_of) := goodIn_app (goodIn_of _ (by decide +kernel)) ggX11_swing_X11_of
theorem dX11_swing_0 : decode cX11_swing 0 = .ok (.aload_n 0, 1) := by decide +kernel
theorem dX11_swing_1 : decode cX11_swing 1 = .ok (.iload_n 1, 1) := by decide +kernel
theorem dX11_swing_2 : decode cX11_swing 2 = .ok (.bipush 14, 2) := by decide +kernel
theorem dX11_swing_4 : decode cX11_swing 4 = .ok (.invokevirtual 151, 3) := by decide +kernel
theorem dX11_swing_7 : decode cX11_swing 7 = .ok (.ireturn, 1) := by decide +kernel
set_option maxRecDepth 20000 in
theorem ggX11_timeout_X11_of : GoodIn wsX11_timeout wsX11_of := goodIn_r _ [5, 6, 7, 8, 9, 10, 4, 11, 12, 13, 14, 15, 16, 17, 18, 19, 20, 21, 22, 23, 24, 25, 26, 27, 28, 29, 30, 31, 32, 33, 34, 35, 36, 37, 38, 39, 40, 41] (by decide +kernel) (by decide +kernel)
set_option maxRecDepth 20000 in
theorem gX11_timeout_X11_of : GoodIn wsX11_timeout (wsV RX11 151 RX11 yX11_of wsX11_of) := goodIn_app (goodIn_of _ (by decide +kernel)) ggX11_timeout_X11_of
theorem dX11_timeout_0 : decode cX11_timeout 0 = .ok (.aload_n 0, 1) := by decide +kernel
theorem dX11_timeout_1 : decode cX11_timeout 1 = .ok (.iload_n 1, 1) := by decide +kernel
theorem dX11_timeout_2 : decode cX11_timeout 2 = .ok (.bipush 15, 2) := by decide +kernel
theorem dX11_timeout_4 : decode cX11_timeout 4 = .ok (.invokevirtual 151, 3) := by decide +kernel
theorem dX11_timeout_7 : decode cX11_timeout 7 = .ok (.ireturn, 1) := by decide +kernel
set_option maxRecDepth 20000 in
theorem ggX11_timer_X11_of : GoodIn wsX11_timer wsX11_of := goodIn_r _ [5, 6, 7, 8, 9, 10, 4, 11, 12, 13, 14, 15, 16, 17, 18, 19, 20, 21, 22, 23, 24, 25, 26, 27, 28, 29, 30, 31, 32, 33, 34, 35, 36, 37, 38, 39, 40, 41] (by decide +kernel) (by decide +kernel)
set_option maxRecDepth 20000 in
theorem gX11_timer_X11_of : GoodIn wsX11_timer (wsV RX11 151 RX11 yX11_of wsX11_of) := goodIn_app (goodIn_of _ (by decide +kernel)) ggX11_timer_X11_of
theorem dX11_timer_0 : decode cX11_timer 0 = .ok (.aload_n 0, 1) := by decide +kernel
theorem dX11_timer_1 : decode cX11_timer 1 = .ok (.iload_n 1, 1) := by decide +kernel
theorem dX11_timer_2 : decode cX11_timer 2 = .ok (.bipush 16, 2) := by decide +kernel
theorem dX11_timer_4 : decode cX11_timer 4 = .ok (.invokevirtual 151, 3) := by decide +kernel
theorem dX11_timer_7 : decode cX11_timer 7 = .ok (.ireturn, 1) := by decide +kernel
set_option maxRecDepth 20000 in
theorem ggX11_measured_X11_of : GoodIn wsX11_measured wsX11_of := goodIn_r _ [5, 6, 7, 8, 9, 10, 4, 11, 12, 13, 14, 15, 16, 17, 18, 19, 20, 21, 22, 23, 24, 25, 26, 27, 28, 29, 30, 31, 32, 33, 34, 35, 36, 37, 38, 39, 40, 41] (by decide +kernel) (by decide +kernel)
set_option maxRecDepth 20000 in
theorem gX11_measured_X11_of : GoodIn wsX11_measured (wsV RX11 151 RX11 yX11_of wsX11_of) := goodIn_app (goodIn_of _ (by decide +kernel)) ggX11_measured_X11_of
theorem dX11_measured_0 : decode cX11_measured 0 = .ok (.aload_n 0, 1) := by decide +kernel
theorem dX11_measured_1 : decode cX11_measured 1 = .ok (.iload_n 1, 1) := by decide +kernel
theorem dX11_measured_2 : decode cX11_measured 2 = .ok (.bipush 17, 2) := by decide +kernel
theorem dX11_measured_4 : decode cX11_measured 4 = .ok (.invokevirtual 151, 3) := by decide +kernel
theorem dX11_measured_7 : decode cX11_measured 7 = .ok (.ireturn, 1) := by decide +kernel
set_option maxRecDepth 20000 in
theorem ggX11_tries_X11_of : GoodIn wsX11_tries wsX11_of := goodIn_r _ [5, 6, 7, 8, 9, 10, 4, 11, 12, 13, 14, 15, 16, 17, 18, 19, 20, 21, 22, 23, 24, 25, 26, 27, 28, 29, 30, 31, 32, 33, 34, 35, 36, 37, 38, 39, 40, 41] (by decide +kernel) (by decide +kernel)
set_option maxRecDepth 20000 in
theorem gX11_tries_X11_of : GoodIn wsX11_tries (wsV RX11 151 RX11 yX11_of wsX11_of) := goodIn_app (goodIn_of _ (by decide +kernel)) ggX11_tries_X11_of
theorem dX11_tries_0 : decode cX11_tries 0 = .ok (.aload_n 0, 1) := by decide +kernel
theorem dX11_tries_1 : decode cX11_tries 1 = .ok (.iload_n 1, 1) := by decide +kernel
theorem dX11_tries_2 : decode cX11_tries 2 = .ok (.bipush 19, 2) := by decide +kernel
theorem dX11_tries_4 : decode cX11_tries 4 = .ok (.invokevirtual 151, 3) := by decide +kernel
theorem dX11_tries_7 : decode cX11_tries 7 = .ok (.ireturn, 1) := by decide +kernel
set_option maxRecDepth 20000 in
theorem ggX11_sentAgain_X11_of : GoodIn wsX11_sentAgain wsX11_of := goodIn_r _ [5, 6, 7, 8, 9, 10, 4, 11, 12, 13, 14, 15, 16, 17, 18, 19, 20, 21, 22, 23, 24, 25, 26, 27, 28, 29, 30, 31, 32, 33, 34, 35, 36, 37, 38, 39, 40, 41] (by decide +kernel) (by decide +kernel)
set_option maxRecDepth 20000 in
theorem gX11_sentAgain_X11_of : GoodIn wsX11_sentAgain (wsV RX11 151 RX11 yX11_of wsX11_of) := goodIn_app (goodIn_of _ (by decide +kernel)) ggX11_sentAgain_X11_of
theorem dX11_sentAgain_0 : decode cX11_sentAgain 0 = .ok (.aload_n 0, 1) := by decide +kernel
theorem dX11_sentAgain_1 : decode cX11_sentAgain 1 = .ok (.iload_n 1, 1) := by decide +kernel
theorem dX11_sentAgain_2 : decode cX11_sentAgain 2 = .ok (.bipush 20, 2) := by decide +kernel
theorem dX11_sentAgain_4 : decode cX11_sentAgain 4 = .ok (.invokevirtual 151, 3) := by decide +kernel
theorem dX11_sentAgain_7 : decode cX11_sentAgain 7 = .ok (.ireturn, 1) := by decide +kernel
set_option maxRecDepth 20000 in
theorem ggX11_wanted_X11_of : GoodIn wsX11_wanted wsX11_of := goodIn_r _ [5, 6, 7, 8, 9, 10, 4, 11, 12, 13, 14, 15, 16, 17, 18, 19, 20, 21, 22, 23, 24, 25, 26, 27, 28, 29, 30, 31, 32, 33, 34, 35, 36, 37, 38, 39, 40, 41] (by decide +kernel) (by decide +kernel)
set_option maxRecDepth 20000 in
theorem gX11_wanted_X11_of : GoodIn wsX11_wanted (wsV RX11 151 RX11 yX11_of wsX11_of) := goodIn_app (goodIn_of _ (by decide +kernel)) ggX11_wanted_X11_of
theorem dX11_wanted_0 : decode cX11_wanted 0 = .ok (.aload_n 0, 1) := by decide +kernel
theorem dX11_wanted_1 : decode cX11_wanted 1 = .ok (.iload_n 1, 1) := by decide +kernel
theorem dX11_wanted_2 : decode cX11_wanted 2 = .ok (.bipush 21, 2) := by decide +kernel
theorem dX11_wanted_4 : decode cX11_wanted 4 = .ok (.invokevirtual 151, 3) := by decide +kernel
theorem dX11_wanted_7 : decode cX11_wanted 7 = .ok (.ireturn, 1) := by decide +kernel
set_option maxRecDepth 20000 in
theorem ggX11_holds_X11_isCall : GoodIn wsX11_holds wsX11_isCall := goodIn_r _ [7, 2, 8, 9, 6, 10, 11, 12, 13, 14, 15, 16, 17, 18, 19, 20, 21, 22, 23, 24, 25, 26, 27, 28, 29, 30, 31, 32, 33] (by decide +kernel) (by decide +kernel)
set_option maxRecDepth 20000 in
theorem gX11_holds_X11_isCall : GoodIn wsX11_holds (wsV RX11 86 RX11 yX11_isCall wsX11_isCall) := goodIn_app (goodIn_of _ (by decide +kernel)) ggX11_holds_X11_isCall
set_option maxRecDepth 20000 in
theorem ggX11_holds_X11_is : GoodIn wsX11_holds wsX11_is := goodIn_r _ [10] (by decide +kernel) (by decide +kernel)
set_option maxRecDepth 20000 in
theorem gX11_holds_X11_is : GoodIn wsX11_holds (va_wsS RX11 41 yX11_is wsX11_is) := goodIn_app (goodIn_of _ (by decide +kernel)) ggX11_holds_X11_is
theorem dX11_holds_0 : decode cX11_holds 0 = .ok (.aload_n 0, 1) := by decide +kernel
theorem dX11_holds_1 : decode cX11_holds 1 = .ok (.aload_n 0, 1) := by decide +kernel
theorem dX11_holds_2 : decode cX11_holds 2 = .ok (.iload_n 1, 1) := by decide +kernel
theorem dX11_holds_3 : decode cX11_holds 3 = .ok (.invokevirtual 86, 3) := by decide +kernel
theorem dX11_holds_6 : decode cX11_holds 6 = .ok (.ifCond .eq 7, 3) := by decide +kernel
theorem dX11_holds_9 : decode cX11_holds 9 = .ok (.iconst 0, 1) := by decide +kernel
theorem dX11_holds_10 : decode cX11_holds 10 = .ok (.goto 4, 3) := by decide +kernel
theorem dX11_holds_13 : decode cX11_holds 13 = .ok (.iconst 1, 1) := by decide +kernel
theorem dX11_holds_14 : decode cX11_holds 14 = .ok (.putfield 34, 3) := by decide +kernel
theorem dX11_holds_17 : decode cX11_holds 17 = .ok (.aload_n 0, 1) := by decide +kernel
theorem dX11_holds_18 : decode cX11_holds 18 = .ok (.getfield 34, 3) := by decide +kernel
theorem dX11_holds_21 : decode cX11_holds 21 = .ok (.ifCond .ne 32, 3) := by decide +kernel
theorem dX11_holds_24 : decode cX11_holds 24 = .ok (.iload_n 2, 1) := by decide +kernel
theorem dX11_holds_25 : decode cX11_holds 25 = .ok (.iconst 0, 1) := by decide +kernel
theorem dX11_holds_26 : decode cX11_holds 26 = .ok (.sipush 200, 3) := by decide +kernel
theorem dX11_holds_29 : decode cX11_holds 29 = .ok (.invokestatic 41, 3) := by decide +kernel
theorem dX11_holds_32 : decode cX11_holds 32 = .ok (.ifCond .eq 21, 3) := by decide +kernel
theorem dX11_holds_35 : decode cX11_holds 35 = .ok (.aload_n 0, 1) := by decide +kernel
theorem dX11_holds_36 : decode cX11_holds 36 = .ok (.getfield 27, 3) := by decide +kernel
theorem dX11_holds_39 : decode cX11_holds 39 = .ok (.getfield 154, 3) := by decide +kernel
theorem dX11_holds_42 : decode cX11_holds 42 = .ok (.iload_n 1, 1) := by decide +kernel
theorem dX11_holds_43 : decode cX11_holds 43 = .ok (.aaload, 1) := by decide +kernel
theorem dX11_holds_44 : decode cX11_holds 44 = .ok (.iload_n 2, 1) := by decide +kernel
theorem dX11_holds_45 : decode cX11_holds 45 = .ok (.baload, 1) := by decide +kernel
theorem dX11_holds_46 : decode cX11_holds 46 = .ok (.ifCond .eq 7, 3) := by decide +kernel
theorem dX11_holds_49 : decode cX11_holds 49 = .ok (.iconst 1, 1) := by decide +kernel
theorem dX11_holds_50 : decode cX11_holds 50 = .ok (.goto 4, 3) := by decide +kernel
theorem dX11_holds_53 : decode cX11_holds 53 = .ok (.iconst 0, 1) := by decide +kernel
theorem dX11_holds_54 : decode cX11_holds 54 = .ok (.ireturn, 1) := by decide +kernel
set_option maxRecDepth 20000 in
theorem ggX11_readable_X11_isCall : GoodIn wsX11_readable wsX11_isCall := goodIn_r _ [7, 2, 8, 9, 6, 10, 25, 26, 27, 28, 29, 30, 31, 32, 33, 34, 35, 36, 37, 38, 39, 40, 41, 42, 43, 44, 45, 46, 47] (by decide +kernel) (by decide +kernel)
set_option maxRecDepth 20000 in
theorem gX11_readable_X11_isCall : GoodIn wsX11_readable (wsV RX11 86 RX11 yX11_isCall wsX11_isCall) := goodIn_app (goodIn_of _ (by decide +kernel)) ggX11_readable_X11_isCall
set_option maxRecDepth 20000 in
theorem ggX11_readable_X11_refuse : GoodIn wsX11_readable wsX11_refuse := goodIn_r _ [24, 1, 25, 26, 27, 28, 29, 30, 31, 32, 33, 34] (by decide +kernel) (by decide +kernel)
set_option maxRecDepth 20000 in
theorem gX11_readable_X11_refuse : GoodIn wsX11_readable (wsV RX11 51 RX11 yX11_refuse wsX11_refuse) := goodIn_app (goodIn_of _ (by decide +kernel)) ggX11_readable_X11_refuse
theorem dX11_readable_0 : decode cX11_readable 0 = .ok (.aload_n 0, 1) := by decide +kernel
theorem dX11_readable_1 : decode cX11_readable 1 = .ok (.iconst 0, 1) := by decide +kernel
theorem dX11_readable_2 : decode cX11_readable 2 = .ok (.putfield 34, 3) := by decide +kernel
theorem dX11_readable_5 : decode cX11_readable 5 = .ok (.aload_n 0, 1) := by decide +kernel
theorem dX11_readable_6 : decode cX11_readable 6 = .ok (.iload_n 1, 1) := by decide +kernel
theorem dX11_readable_7 : decode cX11_readable 7 = .ok (.invokevirtual 86, 3) := by decide +kernel
theorem dX11_readable_10 : decode cX11_readable 10 = .ok (.ifCond .eq 14, 3) := by decide +kernel
theorem dX11_readable_13 : decode cX11_readable 13 = .ok (.aload_n 0, 1) := by decide +kernel
theorem dX11_readable_14 : decode cX11_readable 14 = .ok (.getfield 27, 3) := by decide +kernel
theorem dX11_readable_17 : decode cX11_readable 17 = .ok (.iload_n 1, 1) := by decide +kernel
theorem dX11_readable_24 : decode cX11_readable 24 = .ok (.aload_n 0, 1) := by decide +kernel
theorem dX11_readable_25 : decode cX11_readable 25 = .ok (.iconst 1, 1) := by decide +kernel
theorem dX11_readable_26 : decode cX11_readable 26 = .ok (.invokevirtual 51, 3) := by decide +kernel
theorem dX11_readable_29 : decode cX11_readable 29 = .ok (.ireturn, 1) := by decide +kernel
set_option maxRecDepth 20000 in
theorem ggX11_hasRead_X11_of : GoodIn wsX11_hasRead wsX11_of := goodIn_r _ [5, 6, 7, 8, 9, 10, 4, 11, 12, 13, 14, 15, 16, 17, 18, 19, 20, 21, 22, 23, 24, 25, 26, 27, 28, 29, 30, 31, 32, 33, 34, 35, 36, 37, 38, 39, 40, 41] (by decide +kernel) (by decide +kernel)
set_option maxRecDepth 20000 in
theorem gX11_hasRead_X11_of : GoodIn wsX11_hasRead (wsV RX11 151 RX11 yX11_of wsX11_of) := goodIn_app (goodIn_of _ (by decide +kernel)) ggX11_hasRead_X11_of
theorem dX11_hasRead_0 : decode cX11_hasRead 0 = .ok (.aload_n 0, 1) := by decide +kernel
theorem dX11_hasRead_1 : decode cX11_hasRead 1 = .ok (.iload_n 1, 1) := by decide +kernel
theorem dX11_hasRead_2 : decode cX11_hasRead 2 = .ok (.bipush 22, 2) := by decide +kernel
theorem dX11_hasRead_4 : decode cX11_hasRead 4 = .ok (.invokevirtual 151, 3) := by decide +kernel
theorem dX11_hasRead_7 : decode cX11_hasRead 7 = .ok (.ireturn, 1) := by decide +kernel
theorem dX11_meanWindow_0 : decode cX11_meanWindow 0 = .ok (.aload_n 0, 1) := by decide +kernel
theorem dX11_meanWindow_1 : decode cX11_meanWindow 1 = .ok (.iconst 0, 1) := by decide +kernel
theorem dX11_meanWindow_2 : decode cX11_meanWindow 2 = .ok (.putfield 34, 3) := by decide +kernel
theorem dX11_meanWindow_5 : decode cX11_meanWindow 5 = .ok (.iconst 0, 1) := by decide +kernel
theorem dX11_meanWindow_6 : decode cX11_meanWindow 6 = .ok (.istore_n 1, 1) := by decide +kernel
theorem dX11_meanWindow_7 : decode cX11_meanWindow 7 = .ok (.iconst 0, 1) := by decide +kernel
theorem dX11_meanWindow_8 : decode cX11_meanWindow 8 = .ok (.istore_n 2, 1) := by decide +kernel
theorem dX11_meanWindow_9 : decode cX11_meanWindow 9 = .ok (.iconst 0, 1) := by decide +kernel
theorem dX11_meanWindow_10 : decode cX11_meanWindow 10 = .ok (.istore_n 3, 1) := by decide +kernel
theorem dX11_meanWindow_11 : decode cX11_meanWindow 11 = .ok (.iload_n 3, 1) := by decide +kernel
theorem dX11_meanWindow_12 : decode cX11_meanWindow 12 = .ok (.aload_n 0, 1) := by decide +kernel
theorem dX11_meanWindow_13 : decode cX11_meanWindow 13 = .ok (.getfield 27, 3) := by decide +kernel
theorem dX11_meanWindow_16 : decode cX11_meanWindow 16 = .ok (.getfield 48, 3) := by decide +kernel
theorem dX11_meanWindow_19 : decode cX11_meanWindow 19 = .ok (.if_icmp .ge 45, 3) := by decide +kernel
theorem dX11_meanWindow_22 : decode cX11_meanWindow 22 = .ok (.aload_n 0, 1) := by decide +kernel
theorem dX11_meanWindow_23 : decode cX11_meanWindow 23 = .ok (.getfield 27, 3) := by decide +kernel
theorem dX11_meanWindow_26 : decode cX11_meanWindow 26 = .ok (.getfield 79, 3) := by decide +kernel
theorem dX11_meanWindow_29 : decode cX11_meanWindow 29 = .ok (.iload_n 3, 1) := by decide +kernel
theorem dX11_meanWindow_30 : decode cX11_meanWindow 30 = .ok (.aaload, 1) := by decide +kernel
theorem dX11_meanWindow_31 : decode cX11_meanWindow 31 = .ok (.iconst 3, 1) := by decide +kernel
theorem dX11_meanWindow_32 : decode cX11_meanWindow 32 = .ok (.iaload, 1) := by decide +kernel
theorem dX11_meanWindow_33 : decode cX11_meanWindow 33 = .ok (.iconst 1, 1) := by decide +kernel
theorem dX11_meanWindow_34 : decode cX11_meanWindow 34 = .ok (.if_icmp .eq 6, 3) := by decide +kernel
theorem dX11_meanWindow_37 : decode cX11_meanWindow 37 = .ok (.goto 21, 3) := by decide +kernel
theorem dX11_meanWindow_40 : decode cX11_meanWindow 40 = .ok (.iload_n 1, 1) := by decide +kernel
theorem dX11_meanWindow_41 : decode cX11_meanWindow 41 = .ok (.aload_n 0, 1) := by decide +kernel
theorem dX11_meanWindow_42 : decode cX11_meanWindow 42 = .ok (.getfield 27, 3) := by decide +kernel
theorem dX11_meanWindow_45 : decode cX11_meanWindow 45 = .ok (.getfield 79, 3) := by decide +kernel
theorem dX11_meanWindow_48 : decode cX11_meanWindow 48 = .ok (.iload_n 3, 1) := by decide +kernel
theorem dX11_meanWindow_49 : decode cX11_meanWindow 49 = .ok (.aaload, 1) := by decide +kernel
theorem dX11_meanWindow_50 : decode cX11_meanWindow 50 = .ok (.bipush 8, 2) := by decide +kernel
theorem dX11_meanWindow_52 : decode cX11_meanWindow 52 = .ok (.iaload, 1) := by decide +kernel
theorem dX11_meanWindow_53 : decode cX11_meanWindow 53 = .ok (.iadd, 1) := by decide +kernel
theorem dX11_meanWindow_54 : decode cX11_meanWindow 54 = .ok (.istore_n 1, 1) := by decide +kernel
theorem dX11_meanWindow_55 : decode cX11_meanWindow 55 = .ok (.iinc 2 1, 3) := by decide +kernel
theorem dX11_meanWindow_58 : decode cX11_meanWindow 58 = .ok (.iinc 3 1, 3) := by decide +kernel
theorem dX11_meanWindow_61 : decode cX11_meanWindow 61 = .ok (.goto (-50), 3) := by decide +kernel
theorem dX11_meanWindow_64 : decode cX11_meanWindow 64 = .ok (.iload_n 2, 1) := by decide +kernel
theorem dX11_meanWindow_65 : decode cX11_meanWindow 65 = .ok (.ifCond .ne 7, 3) := by decide +kernel
theorem dX11_meanWindow_68 : decode cX11_meanWindow 68 = .ok (.dconst 0, 1) := by decide +kernel
theorem dX11_meanWindow_69 : decode cX11_meanWindow 69 = .ok (.goto 8, 3) := by decide +kernel
theorem dX11_meanWindow_72 : decode cX11_meanWindow 72 = .ok (.iload_n 1, 1) := by decide +kernel
theorem dX11_meanWindow_77 : decode cX11_meanWindow 77 = .ok (.dreturn, 1) := by decide +kernel
set_option maxRecDepth 20000 in
theorem ggX11_ticksUntil_X11_isCall : GoodIn wsX11_ticksUntil wsX11_isCall := goodIn_r _ [8, 3, 9, 10, 7, 11, 162, 163, 164, 165, 166, 167, 168, 169, 170, 171, 172, 173, 174, 175, 176, 177, 178, 179, 180, 181, 182, 183, 184] (by decide +kernel) (by decide +kernel)
set_option maxRecDepth 20000 in
theorem gX11_ticksUntil_X11_isCall : GoodIn wsX11_ticksUntil (wsV RX11 86 RX11 yX11_isCall wsX11_isCall) := goodIn_app (goodIn_of _ (by decide +kernel)) ggX11_ticksUntil_X11_isCall
set_option maxRecDepth 20000 in
theorem ggX11_ticksUntil_X11_refuse : GoodIn wsX11_ticksUntil wsX11_refuse := goodIn_r _ [15, 1, 162, 163, 164, 165, 166, 167, 168, 169, 170, 171] (by decide +kernel) (by decide +kernel)
set_option maxRecDepth 20000 in
theorem gX11_ticksUntil_X11_refuse : GoodIn wsX11_ticksUntil (wsV RX11 51 RX11 yX11_refuse wsX11_refuse) := goodIn_app (goodIn_of _ (by decide +kernel)) ggX11_ticksUntil_X11_refuse
set_option maxRecDepth 20000 in
theorem ggX11_ticksUntil_X11_is : GoodIn wsX11_ticksUntil wsX11_is := goodIn_r _ [11] (by decide +kernel) (by decide +kernel)
set_option maxRecDepth 20000 in
theorem gX11_ticksUntil_X11_is : GoodIn wsX11_ticksUntil (va_wsS RX11 41 yX11_is wsX11_is) := goodIn_app (goodIn_of _ (by decide +kernel)) ggX11_ticksUntil_X11_is
set_option maxRecDepth 20000 in
theorem ggX11_ticksUntil_X10_become : GoodIn wsX11_ticksUntil wsX10_become := goodIn_r _ [20, 21, 22, 23, 24, 25, 26, 27, 28, 29, 30, 31, 32, 33, 34, 35, 36, 37, 38, 39, 40, 41, 42, 43, 44, 45, 172, 173, 174, 175, 176, 177, 178, 179, 180, 181, 182, 183, 184, 185, 186] (by decide +kernel) (by decide +kernel)
set_option maxRecDepth 20000 in
theorem gX11_ticksUntil_X10_become : GoodIn wsX11_ticksUntil (wsV RX11 158 RX10 yX10_become wsX10_become) := goodIn_app (goodIn_of _ (by decide +kernel)) ggX11_ticksUntil_X10_become
set_option maxRecDepth 20000 in
theorem ggX11_ticksUntil_X10_tick : GoodIn wsX11_ticksUntil wsX10_tick := goodIn_r _ [49, 21, 50, 23, 34, 51, 52, 53, 19, 54, 33, 55, 56, 57, 40, 58, 42, 43, 45, 26, 27, 28, 59, 60, 61, 62, 63, 64, 65, 66, 67, 68, 44, 69, 70, 71, 72, 73, 74, 75, 76, 77, 32, 22, 78, 79, 80, 81, 31, 82, 24, 83, 84, 85, 86, 87, 88, 89, 90, 91, 92, 93, 94, 95, 96, 97, 98, 99, 100, 101, 102, 103, 104, 105, 106, 107, 108, 109, 110, 111, 112, 113, 35, 114, 115, 116, 117, 118, 119, 120, 121, 122, 123, 124, 125, 126, 127, 128, 129, 130, 131, 132, 133, 36, 134, 135, 136, 137, 138, 139, 140, 141, 142, 143, 144, 145, 146, 147, 148, 149, 150, 151, 152, 153, 154, 155, 156, 157, 158, 159, 160, 161, 30, 29, 172, 173, 174, 175, 176, 177, 178, 179, 180, 181, 182, 183, 184, 162, 163, 164, 165, 166, 167, 168, 169, 170, 171, 185, 186] (by decide +kernel) (by decide +kernel)
set_option maxRecDepth 20000 in
theorem gX11_ticksUntil_X10_tick : GoodIn wsX11_ticksUntil (wsV RX11 113 RX10 yX10_tick wsX10_tick) := goodIn_app (goodIn_of _ (by decide +kernel)) ggX11_ticksUntil_X10_tick
theorem dX11_ticksUntil_0 : decode cX11_ticksUntil 0 = .ok (.aload_n 0, 1) := by decide +kernel
theorem dX11_ticksUntil_1 : decode cX11_ticksUntil 1 = .ok (.iconst 0, 1) := by decide +kernel
theorem dX11_ticksUntil_2 : decode cX11_ticksUntil 2 = .ok (.putfield 34, 3) := by decide +kernel
theorem dX11_ticksUntil_5 : decode cX11_ticksUntil 5 = .ok (.aload_n 0, 1) := by decide +kernel
theorem dX11_ticksUntil_6 : decode cX11_ticksUntil 6 = .ok (.iload_n 1, 1) := by decide +kernel
theorem dX11_ticksUntil_7 : decode cX11_ticksUntil 7 = .ok (.invokevirtual 86, 3) := by decide +kernel
theorem dX11_ticksUntil_10 : decode cX11_ticksUntil 10 = .ok (.ifCond .ne 9, 3) := by decide +kernel
theorem dX11_ticksUntil_13 : decode cX11_ticksUntil 13 = .ok (.aload_n 0, 1) := by decide +kernel
theorem dX11_ticksUntil_14 : decode cX11_ticksUntil 14 = .ok (.iconst 1, 1) := by decide +kernel
theorem dX11_ticksUntil_15 : decode cX11_ticksUntil 15 = .ok (.invokevirtual 51, 3) := by decide +kernel
theorem dX11_ticksUntil_18 : decode cX11_ticksUntil 18 = .ok (.ireturn, 1) := by decide +kernel
theorem dX11_ticksUntil_19 : decode cX11_ticksUntil 19 = .ok (.iload_n 3, 1) := by decide +kernel
theorem dX11_ticksUntil_20 : decode cX11_ticksUntil 20 = .ok (.iconst 1, 1) := by decide +kernel
theorem dX11_ticksUntil_21 : decode cX11_ticksUntil 21 = .ok (.bipush 60, 2) := by decide +kernel
theorem dX11_ticksUntil_23 : decode cX11_ticksUntil 23 = .ok (.invokestatic 41, 3) := by decide +kernel
theorem dX11_ticksUntil_26 : decode cX11_ticksUntil 26 = .ok (.ifCond .ne 9, 3) := by decide +kernel
theorem dX11_ticksUntil_29 : decode cX11_ticksUntil 29 = .ok (.aload_n 0, 1) := by decide +kernel
theorem dX11_ticksUntil_30 : decode cX11_ticksUntil 30 = .ok (.iconst 2, 1) := by decide +kernel
theorem dX11_ticksUntil_31 : decode cX11_ticksUntil 31 = .ok (.invokevirtual 51, 3) := by decide +kernel
theorem dX11_ticksUntil_34 : decode cX11_ticksUntil 34 = .ok (.ireturn, 1) := by decide +kernel
theorem dX11_ticksUntil_35 : decode cX11_ticksUntil 35 = .ok (.aload_n 0, 1) := by decide +kernel
theorem dX11_ticksUntil_36 : decode cX11_ticksUntil 36 = .ok (.getfield 31, 3) := by decide +kernel
theorem dX11_ticksUntil_39 : decode cX11_ticksUntil 39 = .ok (.aload_n 0, 1) := by decide +kernel
theorem dX11_ticksUntil_40 : decode cX11_ticksUntil 40 = .ok (.getfield 27, 3) := by decide +kernel
theorem dX11_ticksUntil_43 : decode cX11_ticksUntil 43 = .ok (.invokevirtual 158, 3) := by decide +kernel
theorem dX11_ticksUntil_46 : decode cX11_ticksUntil 46 = .ok (.iconst 0, 1) := by decide +kernel
theorem dX11_ticksUntil_47 : decode cX11_ticksUntil 47 = .ok (.istore 4, 2) := by decide +kernel
theorem dX11_ticksUntil_49 : decode cX11_ticksUntil 49 = .ok (.iload 4, 2) := by decide +kernel
theorem dX11_ticksUntil_51 : decode cX11_ticksUntil 51 = .ok (.iload_n 3, 1) := by decide +kernel
theorem dX11_ticksUntil_52 : decode cX11_ticksUntil 52 = .ok (.if_icmp .gt 35, 3) := by decide +kernel
theorem dX11_ticksUntil_55 : decode cX11_ticksUntil 55 = .ok (.aload_n 0, 1) := by decide +kernel
theorem dX11_ticksUntil_56 : decode cX11_ticksUntil 56 = .ok (.getfield 31, 3) := by decide +kernel
theorem dX11_ticksUntil_59 : decode cX11_ticksUntil 59 = .ok (.getfield 79, 3) := by decide +kernel
theorem dX11_ticksUntil_62 : decode cX11_ticksUntil 62 = .ok (.iload_n 1, 1) := by decide +kernel
theorem dX11_ticksUntil_63 : decode cX11_ticksUntil 63 = .ok (.aaload, 1) := by decide +kernel
theorem dX11_ticksUntil_64 : decode cX11_ticksUntil 64 = .ok (.bipush 6, 2) := by decide +kernel
theorem dX11_ticksUntil_66 : decode cX11_ticksUntil 66 = .ok (.iaload, 1) := by decide +kernel
theorem dX11_ticksUntil_67 : decode cX11_ticksUntil 67 = .ok (.iload_n 2, 1) := by decide +kernel
theorem dX11_ticksUntil_68 : decode cX11_ticksUntil 68 = .ok (.if_icmp .lt 6, 3) := by decide +kernel
theorem dX11_ticksUntil_71 : decode cX11_ticksUntil 71 = .ok (.iload 4, 2) := by decide +kernel
theorem dX11_ticksUntil_73 : decode cX11_ticksUntil 73 = .ok (.ireturn, 1) := by decide +kernel
theorem dX11_ticksUntil_74 : decode cX11_ticksUntil 74 = .ok (.aload_n 0, 1) := by decide +kernel
theorem dX11_ticksUntil_75 : decode cX11_ticksUntil 75 = .ok (.getfield 31, 3) := by decide +kernel
theorem dX11_ticksUntil_78 : decode cX11_ticksUntil 78 = .ok (.invokevirtual 113, 3) := by decide +kernel
theorem dX11_ticksUntil_81 : decode cX11_ticksUntil 81 = .ok (.iinc 4 1, 3) := by decide +kernel
theorem dX11_ticksUntil_84 : decode cX11_ticksUntil 84 = .ok (.goto (-35), 3) := by decide +kernel
theorem dX11_ticksUntil_87 : decode cX11_ticksUntil 87 = .ok (.iconst (-1), 1) := by decide +kernel
theorem dX11_ticksUntil_88 : decode cX11_ticksUntil 88 = .ok (.ireturn, 1) := by decide +kernel
set_option maxRecDepth 20000 in
theorem ggX11_lostIn_X11_is : GoodIn wsX11_lostIn wsX11_is := goodIn_r _ [7] (by decide +kernel) (by decide +kernel)
set_option maxRecDepth 20000 in
theorem gX11_lostIn_X11_is : GoodIn wsX11_lostIn (va_wsS RX11 41 yX11_is wsX11_is) := goodIn_app (goodIn_of _ (by decide +kernel)) ggX11_lostIn_X11_is
set_option maxRecDepth 20000 in
theorem ggX11_lostIn_X11_refuse : GoodIn wsX11_lostIn wsX11_refuse := goodIn_r _ [11, 1, 158, 159, 160, 161, 162, 163, 164, 165, 166, 167] (by decide +kernel) (by decide +kernel)
set_option maxRecDepth 20000 in
theorem gX11_lostIn_X11_refuse : GoodIn wsX11_lostIn (wsV RX11 51 RX11 yX11_refuse wsX11_refuse) := goodIn_app (goodIn_of _ (by decide +kernel)) ggX11_lostIn_X11_refuse
set_option maxRecDepth 20000 in
theorem ggX11_lostIn_X10_become : GoodIn wsX11_lostIn wsX10_become := goodIn_r _ [16, 17, 18, 19, 20, 21, 22, 23, 24, 25, 26, 27, 28, 29, 30, 31, 32, 33, 34, 35, 36, 37, 38, 39, 40, 41, 168, 169, 170, 171, 172, 173, 174, 175, 176, 177, 178, 179, 180, 181, 182] (by decide +kernel) (by decide +kernel)
set_option maxRecDepth 20000 in
theorem gX11_lostIn_X10_become : GoodIn wsX11_lostIn (wsV RX11 158 RX10 yX10_become wsX10_become) := goodIn_app (goodIn_of _ (by decide +kernel)) ggX11_lostIn_X10_become
set_option maxRecDepth 20000 in
theorem ggX11_lostIn_X10_tick : GoodIn wsX11_lostIn wsX10_tick := goodIn_r _ [45, 17, 46, 19, 30, 47, 48, 49, 15, 50, 29, 51, 52, 53, 36, 54, 38, 39, 41, 22, 23, 24, 55, 56, 57, 58, 59, 60, 61, 62, 63, 64, 40, 65, 66, 67, 68, 69, 70, 71, 72, 73, 28, 18, 74, 75, 76, 77, 27, 78, 20, 79, 80, 81, 82, 83, 84, 85, 86, 87, 88, 89, 90, 91, 92, 93, 94, 95, 96, 97, 98, 99, 100, 101, 102, 103, 104, 105, 106, 107, 108, 109, 31, 110, 111, 112, 113, 114, 115, 116, 117, 118, 119, 120, 121, 122, 123, 124, 125, 126, 127, 128, 129, 32, 130, 131, 132, 133, 134, 135, 136, 137, 138, 139, 140, 141, 142, 143, 144, 145, 146, 147, 148, 149, 150, 151, 152, 153, 154, 155, 156, 157, 26, 25, 168, 169, 170, 171, 172, 173, 174, 175, 176, 177, 178, 179, 180, 158, 159, 160, 161, 162, 163, 164, 165, 166, 167, 181, 182] (by decide +kernel) (by decide +kernel)
set_option maxRecDepth 20000 in
theorem gX11_lostIn_X10_tick : GoodIn wsX11_lostIn (wsV RX11 113 RX10 yX10_tick wsX10_tick) := goodIn_app (goodIn_of _ (by decide +kernel)) ggX11_lostIn_X10_tick
theorem dX11_lostIn_0 : decode cX11_lostIn 0 = .ok (.aload_n 0, 1) := by decide +kernel
theorem dX11_lostIn_1 : decode cX11_lostIn 1 = .ok (.iconst 0, 1) := by decide +kernel
theorem dX11_lostIn_2 : decode cX11_lostIn 2 = .ok (.putfield 34, 3) := by decide +kernel
theorem dX11_lostIn_5 : decode cX11_lostIn 5 = .ok (.iload_n 1, 1) := by decide +kernel
theorem dX11_lostIn_6 : decode cX11_lostIn 6 = .ok (.iconst 1, 1) := by decide +kernel
theorem dX11_lostIn_7 : decode cX11_lostIn 7 = .ok (.bipush 50, 2) := by decide +kernel
theorem dX11_lostIn_9 : decode cX11_lostIn 9 = .ok (.invokestatic 41, 3) := by decide +kernel
theorem dX11_lostIn_12 : decode cX11_lostIn 12 = .ok (.ifCond .ne 9, 3) := by decide +kernel
theorem dX11_lostIn_15 : decode cX11_lostIn 15 = .ok (.aload_n 0, 1) := by decide +kernel
theorem dX11_lostIn_16 : decode cX11_lostIn 16 = .ok (.iconst 1, 1) := by decide +kernel
theorem dX11_lostIn_17 : decode cX11_lostIn 17 = .ok (.invokevirtual 51, 3) := by decide +kernel
theorem dX11_lostIn_20 : decode cX11_lostIn 20 = .ok (.ireturn, 1) := by decide +kernel
theorem dX11_lostIn_21 : decode cX11_lostIn 21 = .ok (.aload_n 0, 1) := by decide +kernel
theorem dX11_lostIn_22 : decode cX11_lostIn 22 = .ok (.getfield 31, 3) := by decide +kernel
theorem dX11_lostIn_25 : decode cX11_lostIn 25 = .ok (.aload_n 0, 1) := by decide +kernel
theorem dX11_lostIn_26 : decode cX11_lostIn 26 = .ok (.getfield 27, 3) := by decide +kernel
theorem dX11_lostIn_29 : decode cX11_lostIn 29 = .ok (.invokevirtual 158, 3) := by decide +kernel
theorem dX11_lostIn_32 : decode cX11_lostIn 32 = .ok (.iconst 0, 1) := by decide +kernel
theorem dX11_lostIn_33 : decode cX11_lostIn 33 = .ok (.istore_n 2, 1) := by decide +kernel
theorem dX11_lostIn_34 : decode cX11_lostIn 34 = .ok (.iload_n 2, 1) := by decide +kernel
theorem dX11_lostIn_35 : decode cX11_lostIn 35 = .ok (.iload_n 1, 1) := by decide +kernel
theorem dX11_lostIn_36 : decode cX11_lostIn 36 = .ok (.if_icmp .ge 16, 3) := by decide +kernel
theorem dX11_lostIn_39 : decode cX11_lostIn 39 = .ok (.aload_n 0, 1) := by decide +kernel
theorem dX11_lostIn_40 : decode cX11_lostIn 40 = .ok (.getfield 31, 3) := by decide +kernel
theorem dX11_lostIn_43 : decode cX11_lostIn 43 = .ok (.invokevirtual 113, 3) := by decide +kernel
theorem dX11_lostIn_46 : decode cX11_lostIn 46 = .ok (.iinc 2 1, 3) := by decide +kernel
theorem dX11_lostIn_49 : decode cX11_lostIn 49 = .ok (.goto (-15), 3) := by decide +kernel
theorem dX11_lostIn_52 : decode cX11_lostIn 52 = .ok (.aload_n 0, 1) := by decide +kernel
theorem dX11_lostIn_53 : decode cX11_lostIn 53 = .ok (.getfield 31, 3) := by decide +kernel
theorem dX11_lostIn_56 : decode cX11_lostIn 56 = .ok (.getfield 144, 3) := by decide +kernel
theorem dX11_lostIn_59 : decode cX11_lostIn 59 = .ok (.aload_n 0, 1) := by decide +kernel
theorem dX11_lostIn_60 : decode cX11_lostIn 60 = .ok (.getfield 27, 3) := by decide +kernel
theorem dX11_lostIn_63 : decode cX11_lostIn 63 = .ok (.getfield 144, 3) := by decide +kernel
theorem dX11_lostIn_66 : decode cX11_lostIn 66 = .ok (.isub, 1) := by decide +kernel
theorem dX11_lostIn_67 : decode cX11_lostIn 67 = .ok (.ireturn, 1) := by decide +kernel
set_option maxRecDepth 20000 in
theorem ggX11_distanceWithout_X11_isLink : GoodIn wsX11_distanceWithout wsX11_isLink := goodIn_r _ [8, 9, 10, 11, 7, 12, 70, 71, 72, 73, 74, 75, 76, 77, 78, 79] (by decide +kernel) (by decide +kernel)
set_option maxRecDepth 20000 in
theorem gX11_distanceWithout_X11_isLink : GoodIn wsX11_distanceWithout (wsV RX11 70 RX11 yX11_isLink wsX11_isLink) := goodIn_app (goodIn_of _ (by decide +kernel)) ggX11_distanceWithout_X11_isLink
set_option maxRecDepth 20000 in
theorem ggX11_distanceWithout_X11_isNode : GoodIn wsX11_distanceWithout wsX11_isNode := goodIn_r _ [16, 17, 10, 11, 7, 12, 70, 71, 72, 73, 74, 75, 76, 77, 78, 79] (by decide +kernel) (by decide +kernel)
set_option maxRecDepth 20000 in
theorem gX11_distanceWithout_X11_isNode : GoodIn wsX11_distanceWithout (wsV RX11 59 RX11 yX11_isNode wsX11_isNode) := goodIn_app (goodIn_of _ (by decide +kernel)) ggX11_distanceWithout_X11_isNode
set_option maxRecDepth 20000 in
theorem ggX11_distanceWithout_X11_refuse : GoodIn wsX11_distanceWithout wsX11_refuse := goodIn_r _ [21, 1, 70, 71, 72, 73, 74, 75, 76, 77, 78, 79] (by decide +kernel) (by decide +kernel)
set_option maxRecDepth 20000 in
theorem gX11_distanceWithout_X11_refuse : GoodIn wsX11_distanceWithout (wsV RX11 51 RX11 yX11_refuse wsX11_refuse) := goodIn_app (goodIn_of _ (by decide +kernel)) ggX11_distanceWithout_X11_refuse
set_option maxRecDepth 20000 in
theorem ggX11_distanceWithout_X10_become : GoodIn wsX11_distanceWithout wsX10_become := goodIn_r _ [26, 27, 28, 29, 30, 31, 32, 33, 34, 35, 36, 37, 38, 39, 40, 41, 42, 43, 44, 45, 46, 47, 48, 49, 50, 51, 80, 81, 82, 83, 84, 85, 86, 87, 88, 89, 90, 91, 92, 93, 94] (by decide +kernel) (by decide +kernel)
set_option maxRecDepth 20000 in
theorem gX11_distanceWithout_X10_become : GoodIn wsX11_distanceWithout (wsV RX11 158 RX10 yX10_become wsX10_become) := goodIn_app (goodIn_of _ (by decide +kernel)) ggX11_distanceWithout_X10_become
set_option maxRecDepth 20000 in
theorem ggX11_distanceWithout_X10_routes : GoodIn wsX11_distanceWithout wsX10_routes := goodIn_r _ [55, 37, 56, 57, 30, 58, 59, 60, 61, 62, 63, 64, 65, 80, 81, 82, 83, 84, 85, 86, 87, 88, 89, 90, 91, 92, 70, 71, 72, 73, 74, 75, 76, 77, 78, 79] (by decide +kernel) (by decide +kernel)
set_option maxRecDepth 20000 in
theorem gX11_distanceWithout_X10_routes : GoodIn wsX11_distanceWithout (wsV RX11 55 RX10 yX10_routes wsX10_routes) := goodIn_app (goodIn_of _ (by decide +kernel)) ggX11_distanceWithout_X10_routes
theorem dX11_distanceWithout_0 : decode cX11_distanceWithout 0 = .ok (.aload_n 0, 1) := by decide +kernel
theorem dX11_distanceWithout_1 : decode cX11_distanceWithout 1 = .ok (.iconst 0, 1) := by decide +kernel
theorem dX11_distanceWithout_2 : decode cX11_distanceWithout 2 = .ok (.putfield 34, 3) := by decide +kernel
theorem dX11_distanceWithout_5 : decode cX11_distanceWithout 5 = .ok (.aload_n 0, 1) := by decide +kernel
theorem dX11_distanceWithout_6 : decode cX11_distanceWithout 6 = .ok (.iload_n 1, 1) := by decide +kernel
theorem dX11_distanceWithout_7 : decode cX11_distanceWithout 7 = .ok (.invokevirtual 70, 3) := by decide +kernel
theorem dX11_distanceWithout_10 : decode cX11_distanceWithout 10 = .ok (.ifCond .eq 19, 3) := by decide +kernel
theorem dX11_distanceWithout_13 : decode cX11_distanceWithout 13 = .ok (.aload_n 0, 1) := by decide +kernel
theorem dX11_distanceWithout_14 : decode cX11_distanceWithout 14 = .ok (.iload_n 2, 1) := by decide +kernel
theorem dX11_distanceWithout_15 : decode cX11_distanceWithout 15 = .ok (.invokevirtual 59, 3) := by decide +kernel
theorem dX11_distanceWithout_18 : decode cX11_distanceWithout 18 = .ok (.ifCond .eq 11, 3) := by decide +kernel
theorem dX11_distanceWithout_21 : decode cX11_distanceWithout 21 = .ok (.aload_n 0, 1) := by decide +kernel
theorem dX11_distanceWithout_22 : decode cX11_distanceWithout 22 = .ok (.iload_n 3, 1) := by decide +kernel
theorem dX11_distanceWithout_23 : decode cX11_distanceWithout 23 = .ok (.invokevirtual 59, 3) := by decide +kernel
theorem dX11_distanceWithout_26 : decode cX11_distanceWithout 26 = .ok (.ifCond .ne 9, 3) := by decide +kernel
theorem dX11_distanceWithout_29 : decode cX11_distanceWithout 29 = .ok (.aload_n 0, 1) := by decide +kernel
theorem dX11_distanceWithout_30 : decode cX11_distanceWithout 30 = .ok (.iconst 1, 1) := by decide +kernel
theorem dX11_distanceWithout_31 : decode cX11_distanceWithout 31 = .ok (.invokevirtual 51, 3) := by decide +kernel
theorem dX11_distanceWithout_34 : decode cX11_distanceWithout 34 = .ok (.ireturn, 1) := by decide +kernel
theorem dX11_distanceWithout_35 : decode cX11_distanceWithout 35 = .ok (.aload_n 0, 1) := by decide +kernel
theorem dX11_distanceWithout_36 : decode cX11_distanceWithout 36 = .ok (.getfield 31, 3) := by decide +kernel
theorem dX11_distanceWithout_39 : decode cX11_distanceWithout 39 = .ok (.aload_n 0, 1) := by decide +kernel
theorem dX11_distanceWithout_40 : decode cX11_distanceWithout 40 = .ok (.getfield 27, 3) := by decide +kernel
theorem dX11_distanceWithout_43 : decode cX11_distanceWithout 43 = .ok (.invokevirtual 158, 3) := by decide +kernel
theorem dX11_distanceWithout_46 : decode cX11_distanceWithout 46 = .ok (.aload_n 0, 1) := by decide +kernel
theorem dX11_distanceWithout_47 : decode cX11_distanceWithout 47 = .ok (.getfield 31, 3) := by decide +kernel
theorem dX11_distanceWithout_50 : decode cX11_distanceWithout 50 = .ok (.iload_n 1, 1) := by decide +kernel
theorem dX11_distanceWithout_51 : decode cX11_distanceWithout 51 = .ok (.invokevirtual 55, 3) := by decide +kernel
theorem dX11_distanceWithout_54 : decode cX11_distanceWithout 54 = .ok (.aload_n 0, 1) := by decide +kernel
theorem dX11_distanceWithout_55 : decode cX11_distanceWithout 55 = .ok (.getfield 31, 3) := by decide +kernel
theorem dX11_distanceWithout_58 : decode cX11_distanceWithout 58 = .ok (.iload_n 2, 1) := by decide +kernel
theorem dX11_distanceWithout_59 : decode cX11_distanceWithout 59 = .ok (.iload_n 3, 1) := by decide +kernel
theorem dX11_add_0 : decode cX11_add 0 = .ok (.aload_n 0, 1) := by decide +kernel
theorem dX11_add_1 : decode cX11_add 1 = .ok (.aload_n 0, 1) := by decide +kernel
theorem dX11_add_2 : decode cX11_add 2 = .ok (.getfield 162, 3) := by decide +kernel
theorem dX11_add_5 : decode cX11_add 5 = .ok (.ldc2_w 166, 3) := by decide +kernel
theorem dX11_add_8 : decode cX11_add 8 = .ok (.lmul, 1) := by decide +kernel
theorem dX11_add_9 : decode cX11_add 9 = .ok (.iload_n 1, 1) := by decide +kernel
theorem dX11_add_10 : decode cX11_add 10 = .ok (.i2l, 1) := by decide +kernel
theorem dX11_add_11 : decode cX11_add 11 = .ok (.ladd, 1) := by decide +kernel
theorem dX11_add_12 : decode cX11_add 12 = .ok (.putfield 162, 3) := by decide +kernel
theorem dX11_add_15 : decode cX11_add 15 = .ok (.return_, 1) := by decide +kernel
