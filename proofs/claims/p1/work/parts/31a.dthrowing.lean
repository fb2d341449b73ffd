set_option maxRecDepth 20000 in
theorem ggX8_base_X8_callerOf : GoodIn wsX8_base wsX8_callerOf := goodIn_ca (goodIn_r _ [6, 7, 8, 9, 10, 5, 11, 12, 13, 14, 15, 16, 31, 32, 33, 34, 35, 36, 37, 38, 39, 40, 41, 42, 43, 44] (by decide +kernel) (by decide +kernel)) (goodIn_sub (fun _ h => List.mem_cons_of_mem _ (List.mem_append_right _ h)) (by decide +kernel))
set_option maxRecDepth 20000 in
theorem gX8_base_X8_callerOf : GoodIn wsX8_base (wsV RX8 108 RX8 yX8_callerOf wsX8_callerOf) := goodIn_app (goodIn_of _ (by decide +kernel)) ggX8_base_X8_callerOf
theorem dX8_base_0 : decode cX8_base 0 = .ok (.aload_n 0, 1) := by decide +kernel
theorem dX8_base_1 : decode cX8_base 1 = .ok (.iload_n 1, 1) := by decide +kernel
theorem dX8_base_2 : decode cX8_base 2 = .ok (.invokevirtual 108, 3) := by decide +kernel
theorem dX8_base_5 : decode cX8_base 5 = .ok (.getfield 130, 3) := by decide +kernel
theorem dX8_base_8 : decode cX8_base 8 = .ok (.ireturn, 1) := by decide +kernel
set_option maxRecDepth 20000 in
theorem ggX8_next_X8_callerOf : GoodIn wsX8_next wsX8_callerOf := goodIn_ca (goodIn_r _ [6, 7, 8, 9, 10, 5, 11, 12, 13, 14, 15, 16, 31, 32, 33, 34, 35, 36, 37, 38, 39, 40, 41, 42, 43, 44] (by decide +kernel) (by decide +kernel)) (goodIn_sub (fun _ h => List.mem_cons_of_mem _ (List.mem_append_right _ h)) (by decide +kernel))
set_option maxRecDepth 20000 in
theorem gX8_next_X8_callerOf : GoodIn wsX8_next (wsV RX8 108 RX8 yX8_callerOf wsX8_callerOf) := goodIn_app (goodIn_of _ (by decide +kernel)) ggX8_next_X8_callerOf
theorem dX8_next_0 : decode cX8_next 0 = .ok (.aload_n 0, 1) := by decide +kernel
theorem dX8_next_1 : decode cX8_next 1 = .ok (.iload_n 1, 1) := by decide +kernel
theorem dX8_next_2 : decode cX8_next 2 = .ok (.invokevirtual 108, 3) := by decide +kernel
theorem dX8_next_5 : decode cX8_next 5 = .ok (.getfield 196, 3) := by decide +kernel
theorem dX8_next_8 : decode cX8_next 8 = .ok (.ireturn, 1) := by decide +kernel
set_option maxRecDepth 20000 in
theorem ggX8_window_X8_callerOf : GoodIn wsX8_window wsX8_callerOf := goodIn_ca (goodIn_r _ [6, 7, 8, 9, 10, 5, 11, 12, 13, 14, 15, 16, 31, 32, 33, 34, 35, 36, 37, 38, 39, 40, 41, 42, 43, 44] (by decide +kernel) (by decide +kernel)) (goodIn_sub (fun _ h => List.mem_cons_of_mem _ (List.mem_append_right _ h)) (by decide +kernel))
set_option maxRecDepth 20000 in
theorem gX8_window_X8_callerOf : GoodIn wsX8_window (wsV RX8 108 RX8 yX8_callerOf wsX8_callerOf) := goodIn_app (goodIn_of _ (by decide +kernel)) ggX8_window_X8_callerOf
theorem dX8_window_0 : decode cX8_window 0 = .ok (.aload_n 0, 1) := by decide +kernel
theorem dX8_window_1 : decode cX8_window 1 = .ok (.iload_n 1, 1) := by decide +kernel
theorem dX8_window_2 : decode cX8_window 2 = .ok (.invokevirtual 108, 3) := by decide +kernel
theorem dX8_window_5 : decode cX8_window 5 = .ok (.getfield 199, 3) := by decide +kernel
theorem dX8_window_8 : decode cX8_window 8 = .ok (.ireturn, 1) := by decide +kernel
set_option maxRecDepth 20000 in
theorem ggX8_threshold_X8_callerOf : GoodIn wsX8_threshold wsX8_callerOf := goodIn_ca (goodIn_r _ [6, 7, 8, 9, 10, 5, 11, 12, 13, 14, 15, 16, 31, 32, 33, 34, 35, 36, 37, 38, 39, 40, 41, 42, 43, 44] (by decide +kernel) (by decide +kernel)) (goodIn_sub (fun _ h => List.mem_cons_of_mem _ (List.mem_append_right _ h)) (by decide +kernel))
set_option maxRecDepth 20000 in
theorem gX8_threshold_X8_callerOf : GoodIn wsX8_threshold (wsV RX8 108 RX8 yX8_callerOf wsX8_callerOf) := goodIn_app (goodIn_of _ (by decide +kernel)) ggX8_threshold_X8_callerOf
theorem dX8_threshold_0 : decode cX8_threshold 0 = .ok (.aload_n 0, 1) := by decide +kernel
theorem dX8_threshold_1 : decode cX8_threshold 1 = .ok (.iload_n 1, 1) := by decide +kernel
theorem dX8_threshold_2 : decode cX8_threshold 2 = .ok (.invokevirtual 108, 3) := by decide +kernel
theorem dX8_threshold_5 : decode cX8_threshold 5 = .ok (.getfield 202, 3) := by decide +kernel
theorem dX8_threshold_8 : decode cX8_threshold 8 = .ok (.ireturn, 1) := by decide +kernel
set_option maxRecDepth 20000 in
theorem ggX8_room_X8_callerOf : GoodIn wsX8_room wsX8_callerOf := goodIn_ca (goodIn_r _ [6, 7, 8, 9, 10, 5, 11, 12, 13, 14, 15, 16, 31, 32, 33, 34, 35, 36, 37, 38, 39, 40, 41, 42, 43, 44] (by decide +kernel) (by decide +kernel)) (goodIn_sub (fun _ h => List.mem_cons_of_mem _ (List.mem_append_right _ h)) (by decide +kernel))
set_option maxRecDepth 20000 in
theorem gX8_room_X8_callerOf : GoodIn wsX8_room (wsV RX8 108 RX8 yX8_callerOf wsX8_callerOf) := goodIn_app (goodIn_of _ (by decide +kernel)) ggX8_room_X8_callerOf
theorem dX8_room_0 : decode cX8_room 0 = .ok (.aload_n 0, 1) := by decide +kernel
theorem dX8_room_1 : decode cX8_room 1 = .ok (.iload_n 1, 1) := by decide +kernel
theorem dX8_room_2 : decode cX8_room 2 = .ok (.invokevirtual 108, 3) := by decide +kernel
theorem dX8_room_5 : decode cX8_room 5 = .ok (.getfield 205, 3) := by decide +kernel
theorem dX8_room_8 : decode cX8_room 8 = .ok (.ireturn, 1) := by decide +kernel
set_option maxRecDepth 20000 in
theorem ggX8_like_X8_callerOf : GoodIn wsX8_like wsX8_callerOf := goodIn_ca (goodIn_r _ [6, 7, 8, 9, 10, 5, 11, 12, 13, 14, 15, 16, 31, 32, 33, 34, 35, 36, 37, 38, 39, 40, 41, 42, 43, 44] (by decide +kernel) (by decide +kernel)) (goodIn_sub (fun _ h => List.mem_cons_of_mem _ (List.mem_append_right _ h)) (by decide +kernel))
set_option maxRecDepth 20000 in
theorem gX8_like_X8_callerOf : GoodIn wsX8_like (wsV RX8 108 RX8 yX8_callerOf wsX8_callerOf) := goodIn_app (goodIn_of _ (by decide +kernel)) ggX8_like_X8_callerOf
theorem dX8_like_0 : decode cX8_like 0 = .ok (.aload_n 0, 1) := by decide +kernel
theorem dX8_like_1 : decode cX8_like 1 = .ok (.iload_n 1, 1) := by decide +kernel
theorem dX8_like_2 : decode cX8_like 2 = .ok (.invokevirtual 108, 3) := by decide +kernel
theorem dX8_like_5 : decode cX8_like 5 = .ok (.getfield 208, 3) := by decide +kernel
theorem dX8_like_8 : decode cX8_like 8 = .ok (.ireturn, 1) := by decide +kernel
set_option maxRecDepth 20000 in
theorem ggX8_recover_X8_callerOf : GoodIn wsX8_recover wsX8_callerOf := goodIn_ca (goodIn_r _ [6, 7, 8, 9, 10, 5, 11, 12, 13, 14, 15, 16, 31, 32, 33, 34, 35, 36, 37, 38, 39, 40, 41, 42, 43, 44] (by decide +kernel) (by decide +kernel)) (goodIn_sub (fun _ h => List.mem_cons_of_mem _ (List.mem_append_right _ h)) (by decide +kernel))
set_option maxRecDepth 20000 in
theorem gX8_recover_X8_callerOf : GoodIn wsX8_recover (wsV RX8 108 RX8 yX8_callerOf wsX8_callerOf) := goodIn_app (goodIn_of _ (by decide +kernel)) ggX8_recover_X8_callerOf
theorem dX8_recover_0 : decode cX8_recover 0 = .ok (.aload_n 0, 1) := by decide +kernel
theorem dX8_recover_1 : decode cX8_recover 1 = .ok (.iload_n 1, 1) := by decide +kernel
theorem dX8_recover_2 : decode cX8_recover 2 = .ok (.invokevirtual 108, 3) := by decide +kernel
theorem dX8_recover_5 : decode cX8_recover 5 = .ok (.getfield 211, 3) := by decide +kernel
theorem dX8_recover_8 : decode cX8_recover 8 = .ok (.ireturn, 1) := by decide +kernel
set_option maxRecDepth 20000 in
theorem ggX8_round_X8_callerOf : GoodIn wsX8_round wsX8_callerOf := goodIn_ca (goodIn_r _ [7, 8, 9, 10, 11, 6, 12, 13, 14, 15, 16, 17, 37, 38, 39, 40, 41, 42, 43, 44, 45, 46, 47, 48, 49, 50] (by decide +kernel) (by decide +kernel)) (goodIn_sub (fun _ h => List.mem_cons_of_mem _ (List.mem_append_right _ h)) (by decide +kernel))
set_option maxRecDepth 20000 in
theorem gX8_round_X8_callerOf : GoodIn wsX8_round (wsV RX8 108 RX8 yX8_callerOf wsX8_callerOf) := goodIn_app (goodIn_of _ (by decide +kernel)) ggX8_round_X8_callerOf
theorem dX8_round_0 : decode cX8_round 0 = .ok (.aload_n 0, 1) := by decide +kernel
theorem dX8_round_1 : decode cX8_round 1 = .ok (.iload_n 1, 1) := by decide +kernel
theorem dX8_round_2 : decode cX8_round 2 = .ok (.invokevirtual 108, 3) := by decide +kernel
theorem dX8_round_5 : decode cX8_round 5 = .ok (.getfield 214, 3) := by decide +kernel
theorem dX8_round_8 : decode cX8_round 8 = .ok (.getfield 218, 3) := by decide +kernel
theorem dX8_round_11 : decode cX8_round 11 = .ok (.ireturn, 1) := by decide +kernel
set_option maxRecDepth 20000 in
theorem ggX8_swing_X8_callerOf : GoodIn wsX8_swing wsX8_callerOf := goodIn_ca (goodIn_r _ [7, 8, 9, 10, 11, 6, 12, 13, 14, 15, 16, 17, 37, 38, 39, 40, 41, 42, 43, 44, 45, 46, 47, 48, 49, 50] (by decide +kernel) (by decide +kernel)) (goodIn_sub (fun _ h => List.mem_cons_of_mem _ (List.mem_append_right _ h)) (by decide +kernel))
set_option maxRecDepth 20000 in
theorem gX8_swing_X8_callerOf : GoodIn wsX8_swing (wsV RX8 108 RX8 yX8_callerOf wsX8_callerOf) := goodIn_app (goodIn_of _ (by decide +kernel)) ggX8_swing_X8_callerOf
theorem dX8_swing_0 : decode cX8_swing 0 = .ok (.aload_n 0, 1) := by decide +kernel
theorem dX8_swing_1 : decode cX8_swing 1 = .ok (.iload_n 1, 1) := by decide +kernel
theorem dX8_swing_2 : decode cX8_swing 2 = .ok (.invokevirtual 108, 3) := by decide +kernel
theorem dX8_swing_5 : decode cX8_swing 5 = .ok (.getfield 214, 3) := by decide +kernel
theorem dX8_swing_8 : decode cX8_swing 8 = .ok (.getfield 223, 3) := by decide +kernel
theorem dX8_swing_11 : decode cX8_swing 11 = .ok (.ireturn, 1) := by decide +kernel
set_option maxRecDepth 20000 in
theorem ggX8_timeout_X8_callerOf : GoodIn wsX8_timeout wsX8_callerOf := goodIn_ca (goodIn_r _ [7, 8, 9, 10, 11, 6, 12, 13, 14, 15, 16, 17, 37, 38, 39, 40, 41, 42, 43, 44, 45, 46, 47, 48, 49, 50] (by decide +kernel) (by decide +kernel)) (goodIn_sub (fun _ h => List.mem_cons_of_mem _ (List.mem_append_right _ h)) (by decide +kernel))
set_option maxRecDepth 20000 in
theorem gX8_timeout_X8_callerOf : GoodIn wsX8_timeout (wsV RX8 108 RX8 yX8_callerOf wsX8_callerOf) := goodIn_app (goodIn_of _ (by decide +kernel)) ggX8_timeout_X8_callerOf
theorem dX8_timeout_0 : decode cX8_timeout 0 = .ok (.aload_n 0, 1) := by decide +kernel
theorem dX8_timeout_1 : decode cX8_timeout 1 = .ok (.iload_n 1, 1) := by decide +kernel
theorem dX8_timeout_2 : decode cX8_timeout 2 = .ok (.invokevirtual 108, 3) := by decide +kernel
theorem dX8_timeout_5 : decode cX8_timeout 5 = .ok (.getfield 214, 3) := by decide +kernel
theorem dX8_timeout_8 : decode cX8_timeout 8 = .ok (.getfield 226, 3) := by decide +kernel
theorem dX8_timeout_11 : decode cX8_timeout 11 = .ok (.ireturn, 1) := by decide +kernel
set_option maxRecDepth 20000 in
theorem ggX8_timer_X8_callerOf : GoodIn wsX8_timer wsX8_callerOf := goodIn_ca (goodIn_r _ [6, 7, 8, 9, 10, 5, 11, 12, 13, 14, 15, 16, 31, 32, 33, 34, 35, 36, 37, 38, 39, 40, 41, 42, 43, 44] (by decide +kernel) (by decide +kernel)) (goodIn_sub (fun _ h => List.mem_cons_of_mem _ (List.mem_append_right _ h)) (by decide +kernel))
set_option maxRecDepth 20000 in
theorem gX8_timer_X8_callerOf : GoodIn wsX8_timer (wsV RX8 108 RX8 yX8_callerOf wsX8_callerOf) := goodIn_app (goodIn_of _ (by decide +kernel)) ggX8_timer_X8_callerOf
theorem dX8_timer_0 : decode cX8_timer 0 = .ok (.aload_n 0, 1) := by decide +kernel
theorem dX8_timer_1 : decode cX8_timer 1 = .ok (.iload_n 1, 1) := by decide +kernel
theorem dX8_timer_2 : decode cX8_timer 2 = .ok (.invokevirtual 108, 3) := by decide +kernel
theorem dX8_timer_5 : decode cX8_timer 5 = .ok (.getfield 229, 3) := by decide +kernel
theorem dX8_timer_8 : decode cX8_timer 8 = .ok (.ireturn, 1) := by decide +kernel
set_option maxRecDepth 20000 in
theorem ggX8_measured_X8_callerOf : GoodIn wsX8_measured wsX8_callerOf := goodIn_ca (goodIn_r _ [7, 8, 9, 10, 11, 6, 12, 13, 14, 15, 16, 17, 37, 38, 39, 40, 41, 42, 43, 44, 45, 46, 47, 48, 49, 50] (by decide +kernel) (by decide +kernel)) (goodIn_sub (fun _ h => List.mem_cons_of_mem _ (List.mem_append_right _ h)) (by decide +kernel))
set_option maxRecDepth 20000 in
theorem gX8_measured_X8_callerOf : GoodIn wsX8_measured (wsV RX8 108 RX8 yX8_callerOf wsX8_callerOf) := goodIn_app (goodIn_of _ (by decide +kernel)) ggX8_measured_X8_callerOf
theorem dX8_measured_0 : decode cX8_measured 0 = .ok (.aload_n 0, 1) := by decide +kernel
theorem dX8_measured_1 : decode cX8_measured 1 = .ok (.iload_n 1, 1) := by decide +kernel
theorem dX8_measured_2 : decode cX8_measured 2 = .ok (.invokevirtual 108, 3) := by decide +kernel
theorem dX8_measured_5 : decode cX8_measured 5 = .ok (.getfield 214, 3) := by decide +kernel
theorem dX8_measured_8 : decode cX8_measured 8 = .ok (.getfield 232, 3) := by decide +kernel
theorem dX8_measured_11 : decode cX8_measured 11 = .ok (.ireturn, 1) := by decide +kernel
set_option maxRecDepth 20000 in
theorem ggX8_tries_X8_callerOf : GoodIn wsX8_tries wsX8_callerOf := goodIn_ca (goodIn_r _ [6, 7, 8, 9, 10, 5, 11, 12, 13, 14, 15, 16, 31, 32, 33, 34, 35, 36, 37, 38, 39, 40, 41, 42, 43, 44] (by decide +kernel) (by decide +kernel)) (goodIn_sub (fun _ h => List.mem_cons_of_mem _ (List.mem_append_right _ h)) (by decide +kernel))
set_option maxRecDepth 20000 in
theorem gX8_tries_X8_callerOf : GoodIn wsX8_tries (wsV RX8 108 RX8 yX8_callerOf wsX8_callerOf) := goodIn_app (goodIn_of _ (by decide +kernel)) ggX8_tries_X8_callerOf
theorem dX8_tries_0 : decode cX8_tries 0 = .ok (.aload_n 0, 1) := by decide +kernel
theorem dX8_tries_1 : decode cX8_tries 1 = .ok (.iload_n 1, 1) := by decide +kernel
theorem dX8_tries_2 : decode cX8_tries 2 = .ok (.invokevirtual 108, 3) := by decide +kernel
theorem dX8_tries_5 : decode cX8_tries 5 = .ok (.getfield 235, 3) := by decide +kernel
theorem dX8_tries_8 : decode cX8_tries 8 = .ok (.ireturn, 1) := by decide +kernel
set_option maxRecDepth 20000 in
theorem ggX8_sentAgain_X8_callerOf : GoodIn wsX8_sentAgain wsX8_callerOf := goodIn_ca (goodIn_r _ [6, 7, 8, 9, 10, 5, 11, 12, 13, 14, 15, 16, 31, 32, 33, 34, 35, 36, 37, 38, 39, 40, 41, 42, 43, 44] (by decide +kernel) (by decide +kernel)) (goodIn_sub (fun _ h => List.mem_cons_of_mem _ (List.mem_append_right _ h)) (by decide +kernel))
set_option maxRecDepth 20000 in
theorem gX8_sentAgain_X8_callerOf : GoodIn wsX8_sentAgain (wsV RX8 108 RX8 yX8_callerOf wsX8_callerOf) := goodIn_app (goodIn_of _ (by decide +kernel)) ggX8_sentAgain_X8_callerOf
theorem dX8_sentAgain_0 : decode cX8_sentAgain 0 = .ok (.aload_n 0, 1) := by decide +kernel
theorem dX8_sentAgain_1 : decode cX8_sentAgain 1 = .ok (.iload_n 1, 1) := by decide +kernel
theorem dX8_sentAgain_2 : decode cX8_sentAgain 2 = .ok (.invokevirtual 108, 3) := by decide +kernel
theorem dX8_sentAgain_5 : decode cX8_sentAgain 5 = .ok (.getfield 238, 3) := by decide +kernel
theorem dX8_sentAgain_8 : decode cX8_sentAgain 8 = .ok (.ireturn, 1) := by decide +kernel
set_option maxRecDepth 20000 in
theorem ggX8_wanted_X8_connectionOf : GoodIn wsX8_wanted wsX8_connectionOf := goodIn_ca (goodIn_r _ [7, 8, 9, 10, 11, 12, 21, 22, 23, 24, 25, 26, 27, 28, 29, 30] (by decide +kernel) (by decide +kernel)) (goodIn_sub (fun _ h => List.mem_cons_of_mem _ (List.mem_append_right _ h)) (by decide +kernel))
set_option maxRecDepth 20000 in
theorem gX8_wanted_X8_connectionOf : GoodIn wsX8_wanted (wsV RX8 133 RX8 yX8_connectionOf wsX8_connectionOf) := goodIn_app (goodIn_of _ (by decide +kernel)) ggX8_wanted_X8_connectionOf
theorem dX8_wanted_0 : decode cX8_wanted 0 = .ok (.aload_n 0, 1) := by decide +kernel
theorem dX8_wanted_1 : decode cX8_wanted 1 = .ok (.iload_n 1, 1) := by decide +kernel
theorem dX8_wanted_2 : decode cX8_wanted 2 = .ok (.invokevirtual 133, 3) := by decide +kernel
theorem dX8_wanted_5 : decode cX8_wanted 5 = .ok (.getfield 150, 3) := by decide +kernel
theorem dX8_wanted_8 : decode cX8_wanted 8 = .ok (.getfield 241, 3) := by decide +kernel
theorem dX8_wanted_11 : decode cX8_wanted 11 = .ok (.ireturn, 1) := by decide +kernel
set_option maxRecDepth 20000 in
theorem ggX8_holds_X8_connectionOf : GoodIn wsX8_holds wsX8_connectionOf := goodIn_ca (goodIn_r _ [7, 8, 9, 10, 11, 12, 21, 22, 23, 24, 25, 26, 27, 28, 29, 30] (by decide +kernel) (by decide +kernel)) (goodIn_sub (fun _ h => List.mem_cons_of_mem _ (List.mem_append_right _ h)) (by decide +kernel))
set_option maxRecDepth 20000 in
theorem gX8_holds_X8_connectionOf : GoodIn wsX8_holds (wsV RX8 133 RX8 yX8_connectionOf wsX8_connectionOf) := goodIn_app (goodIn_of _ (by decide +kernel)) ggX8_holds_X8_connectionOf
theorem dX8_holds_0 : decode cX8_holds 0 = .ok (.aload_n 0, 1) := by decide +kernel
theorem dX8_holds_1 : decode cX8_holds 1 = .ok (.iload_n 1, 1) := by decide +kernel
theorem dX8_holds_2 : decode cX8_holds 2 = .ok (.invokevirtual 133, 3) := by decide +kernel
theorem dX8_holds_5 : decode cX8_holds 5 = .ok (.getfield 150, 3) := by decide +kernel
theorem dX8_holds_8 : decode cX8_holds 8 = .ok (.getfield 244, 3) := by decide +kernel
theorem dX8_holds_11 : decode cX8_holds 11 = .ok (.astore_n 3, 1) := by decide +kernel
theorem dX8_holds_12 : decode cX8_holds 12 = .ok (.iload_n 2, 1) := by decide +kernel
theorem dX8_holds_13 : decode cX8_holds 13 = .ok (.ifCond .lt 19, 3) := by decide +kernel
theorem dX8_holds_16 : decode cX8_holds 16 = .ok (.iload_n 2, 1) := by decide +kernel
theorem dX8_holds_17 : decode cX8_holds 17 = .ok (.aload_n 3, 1) := by decide +kernel
theorem dX8_holds_18 : decode cX8_holds 18 = .ok (.arraylength, 1) := by decide +kernel
theorem dX8_holds_19 : decode cX8_holds 19 = .ok (.if_icmp .ge 13, 3) := by decide +kernel
theorem dX8_holds_22 : decode cX8_holds 22 = .ok (.aload_n 3, 1) := by decide +kernel
theorem dX8_holds_23 : decode cX8_holds 23 = .ok (.iload_n 2, 1) := by decide +kernel
theorem dX8_holds_24 : decode cX8_holds 24 = .ok (.baload, 1) := by decide +kernel
theorem dX8_holds_25 : decode cX8_holds 25 = .ok (.ifCond .eq 7, 3) := by decide +kernel
theorem dX8_holds_28 : decode cX8_holds 28 = .ok (.iconst 1, 1) := by decide +kernel
theorem dX8_holds_29 : decode cX8_holds 29 = .ok (.goto 4, 3) := by decide +kernel
theorem dX8_holds_32 : decode cX8_holds 32 = .ok (.iconst 0, 1) := by decide +kernel
theorem dX8_holds_33 : decode cX8_holds 33 = .ok (.ireturn, 1) := by decide +kernel
set_option maxRecDepth 20000 in
theorem ggX8_readable_X8_connectionOf : GoodIn wsX8_readable wsX8_connectionOf := goodIn_ca (goodIn_r _ [5, 6, 7, 8, 9, 10, 25, 26, 27, 28, 29, 30, 31, 32, 33, 34] (by decide +kernel) (by decide +kernel)) (goodIn_sub (fun _ h => List.mem_cons_of_mem _ (List.mem_append_right _ h)) (by decide +kernel))
set_option maxRecDepth 20000 in
theorem gX8_readable_X8_connectionOf : GoodIn wsX8_readable (wsV RX8 133 RX8 yX8_connectionOf wsX8_connectionOf) := goodIn_app (goodIn_of _ (by decide +kernel)) ggX8_readable_X8_connectionOf
theorem dX8_readable_0 : decode cX8_readable 0 = .ok (.aload_n 0, 1) := by decide +kernel
theorem dX8_readable_1 : decode cX8_readable 1 = .ok (.iload_n 1, 1) := by decide +kernel
theorem dX8_readable_2 : decode cX8_readable 2 = .ok (.invokevirtual 133, 3) := by decide +kernel
set_option maxRecDepth 20000 in
theorem ggX8_hasRead_X8_connectionOf : GoodIn wsX8_hasRead wsX8_connectionOf := goodIn_ca (goodIn_r _ [7, 8, 9, 10, 11, 12, 21, 22, 23, 24, 25, 26, 27, 28, 29, 30] (by decide +kernel) (by decide +kernel)) (goodIn_sub (fun _ h => List.mem_cons_of_mem _ (List.mem_append_right _ h)) (by decide +kernel))
set_option maxRecDepth 20000 in
theorem gX8_hasRead_X8_connectionOf : GoodIn wsX8_hasRead (wsV RX8 133 RX8 yX8_connectionOf wsX8_connectionOf) := goodIn_app (goodIn_of _ (by decide +kernel)) ggX8_hasRead_X8_connectionOf
theorem dX8_hasRead_0 : decode cX8_hasRead 0 = .ok (.aload_n 0, 1) := by decide +kernel
theorem dX8_hasRead_1 : decode cX8_hasRead 1 = .ok (.iload_n 1, 1) := by decide +kernel
theorem dX8_hasRead_2 : decode cX8_hasRead 2 = .ok (.invokevirtual 133, 3) := by decide +kernel
theorem dX8_hasRead_5 : decode cX8_hasRead 5 = .ok (.getfield 150, 3) := by decide +kernel
theorem dX8_hasRead_8 : decode cX8_hasRead 8 = .ok (.getfield 159, 3) := by decide +kernel
theorem dX8_hasRead_11 : decode cX8_hasRead 11 = .ok (.ireturn, 1) := by decide +kernel
set_option maxRecDepth 20000 in
theorem ggX8_ticksUntil_X8_callerOf : GoodIn wsX8_ticksUntil wsX8_callerOf := goodIn_ca (goodIn_r _ [10, 5, 11, 12, 13, 9, 14, 15, 16, 3, 17, 4, 306, 307, 308, 309, 296, 297, 298, 299, 300, 301, 302, 303, 304, 305] (by decide +kernel) (by decide +kernel)) (goodIn_sub (fun _ h => List.mem_cons_of_mem _ (List.mem_append_left _ (List.mem_append_right _ h))) (by decide +kernel))
set_option maxRecDepth 20000 in
theorem gX8_ticksUntil_X8_callerOf : GoodIn wsX8_ticksUntil (wsV RX8 108 RX8 yX8_callerOf wsX8_callerOf) := goodIn_app (goodIn_of _ (by decide +kernel)) ggX8_ticksUntil_X8_callerOf
set_option maxRecDepth 20000 in
theorem ggX8_ticksUntil_X8_checkRange : GoodIn wsX8_ticksUntil wsX8_checkRange := goodIn_ca (goodIn_r _ [20, 21, 22] (by decide +kernel) (by decide +kernel)) (goodIn_sub (fun _ h => List.mem_cons_of_mem _ (List.mem_append_right _ h)) (by decide +kernel))
set_option maxRecDepth 20000 in
theorem gX8_ticksUntil_X8_checkRange : GoodIn wsX8_ticksUntil (va_wsS RX8 57 yX8_checkRange wsX8_checkRange) := goodIn_app (goodIn_of _ (by decide +kernel)) ggX8_ticksUntil_X8_checkRange
set_option maxRecDepth 20000 in
theorem ggX8_ticksUntil_X6_copyFrom : GoodIn wsX8_ticksUntil wsX6_copyFrom := goodIn_r _ [27, 28, 29, 30, 31, 32, 33, 34, 35, 36, 37, 38, 39, 40, 41, 42, 43, 44, 45, 46, 47, 48, 49, 50, 51, 52, 53, 54, 55, 56, 57, 58, 59, 60, 61, 62, 63, 64, 65, 66, 67, 68, 69, 70, 71, 72, 73, 74, 75, 76, 77, 78, 79, 80, 81, 82, 83, 84, 85, 86, 87, 88, 89, 90, 91, 92, 93, 94, 95, 96, 97, 98, 300, 301, 302, 303, 304, 305, 310, 311, 312, 313, 314, 315, 316, 317, 318, 319, 320, 321, 322, 323, 324, 325, 306, 307, 308, 309, 282, 283, 284, 285, 286, 287, 288, 289, 290, 291, 292, 293, 294, 295, 326, 327, 328, 329, 330, 331, 332, 333, 334] (by decide +kernel) (by decide +kernel)
set_option maxRecDepth 20000 in
theorem gX8_ticksUntil_X6_copyFrom : GoodIn wsX8_ticksUntil (wsV RX8 255 RX6 yX6_copyFrom wsX6_copyFrom) := goodIn_app (goodIn_of _ (by decide +kernel)) ggX8_ticksUntil_X6_copyFrom
set_option maxRecDepth 20000 in
theorem ggX8_ticksUntil_X6_tick : GoodIn wsX8_ticksUntil wsX6_tick := goodIn_r _ [102, 33, 103, 104, 105, 26, 106, 28, 29, 30, 107, 108, 109, 110, 111, 38, 112, 47, 48, 113, 114, 115, 116, 117, 118, 119, 120, 31, 32, 121, 122, 123, 34, 124, 125, 126, 127, 128, 129, 130, 131, 132, 133, 134, 135, 136, 137, 138, 139, 140, 141, 142, 143, 144, 145, 146, 147, 148, 149, 150, 151, 152, 153, 154, 155, 156, 157, 158, 46, 40, 45, 159, 160, 161, 162, 163, 164, 165, 166, 167, 63, 168, 65, 76, 75, 68, 69, 72, 169, 170, 171, 172, 78, 73, 74, 173, 66, 174, 175, 176, 82, 177, 87, 88, 84, 85, 178, 179, 180, 181, 182, 183, 184, 185, 186, 187, 86, 188, 189, 190, 191, 70, 71, 192, 193, 194, 195, 196, 197, 198, 199, 200, 201, 202, 203, 204, 205, 77, 206, 207, 208, 209, 210, 211, 212, 213, 214, 215, 216, 217, 218, 219, 220, 92, 221, 95, 97, 96, 94, 222, 223, 224, 225, 226, 227, 228, 229, 230, 231, 232, 233, 234, 235, 236, 237, 238, 239, 240, 241, 242, 243, 244, 245, 246, 247, 248, 249, 250, 251, 252, 253, 254, 255, 256, 257, 258, 259, 260, 261, 262, 67, 263, 264, 265, 266, 267, 268, 269, 270, 271, 272, 273, 274, 275, 276, 277, 278, 279, 280, 50, 281, 49, 300, 301, 302, 303, 304, 305, 310, 311, 312, 313, 314, 315, 316, 317, 318, 319, 320, 321, 322, 323, 324, 325, 306, 307, 308, 309, 282, 283, 284, 285, 286, 287, 288, 289, 290, 291, 292, 293, 294, 295, 326, 327, 328, 329, 330, 331, 332, 333, 334] (by decide +kernel) (by decide +kernel)
set_option maxRecDepth 20000 in
theorem gX8_ticksUntil_X6_tick : GoodIn wsX8_ticksUntil (wsV RX8 165 RX6 yX6_tick wsX6_tick) := goodIn_app (goodIn_of _ (by decide +kernel)) ggX8_ticksUntil_X6_tick
theorem dX8_ticksUntil_0 : decode cX8_ticksUntil 0 = .ok (.aload_n 0, 1) := by decide +kernel
theorem dX8_ticksUntil_1 : decode cX8_ticksUntil 1 = .ok (.iload_n 1, 1) := by decide +kernel
theorem dX8_ticksUntil_2 : decode cX8_ticksUntil 2 = .ok (.invokevirtual 108, 3) := by decide +kernel
theorem dX8_ticksUntil_5 : decode cX8_ticksUntil 5 = .ok (.astore 4, 2) := by decide +kernel
theorem dX8_ticksUntil_7 : decode cX8_ticksUntil 7 = .ok (.iload_n 3, 1) := by decide +kernel
theorem dX8_ticksUntil_8 : decode cX8_ticksUntil 8 = .ok (.iconst 1, 1) := by decide +kernel
theorem dX8_ticksUntil_9 : decode cX8_ticksUntil 9 = .ok (.bipush 60, 2) := by decide +kernel
theorem dX8_ticksUntil_11 : decode cX8_ticksUntil 11 = .ok (.invokestatic 57, 3) := by decide +kernel
theorem dX8_ticksUntil_14 : decode cX8_ticksUntil 14 = .ok (.aload 4, 2) := by decide +kernel
theorem dX8_ticksUntil_16 : decode cX8_ticksUntil 16 = .ok (.getfield 130, 3) := by decide +kernel
theorem dX8_ticksUntil_19 : decode cX8_ticksUntil 19 = .ok (.iload_n 2, 1) := by decide +kernel
theorem dX8_ticksUntil_20 : decode cX8_ticksUntil 20 = .ok (.if_icmp .lt 5, 3) := by decide +kernel
theorem dX8_ticksUntil_23 : decode cX8_ticksUntil 23 = .ok (.iconst 0, 1) := by decide +kernel
theorem dX8_ticksUntil_24 : decode cX8_ticksUntil 24 = .ok (.ireturn, 1) := by decide +kernel
theorem dX8_ticksUntil_25 : decode cX8_ticksUntil 25 = .ok (.aload_n 0, 1) := by decide +kernel
theorem dX8_ticksUntil_26 : decode cX8_ticksUntil 26 = .ok (.getfield 25, 3) := by decide +kernel
theorem dX8_ticksUntil_29 : decode cX8_ticksUntil 29 = .ok (.aload_n 0, 1) := by decide +kernel
theorem dX8_ticksUntil_30 : decode cX8_ticksUntil 30 = .ok (.getfield 21, 3) := by decide +kernel
theorem dX8_ticksUntil_33 : decode cX8_ticksUntil 33 = .ok (.invokevirtual 255, 3) := by decide +kernel
theorem dX8_ticksUntil_36 : decode cX8_ticksUntil 36 = .ok (.iconst 1, 1) := by decide +kernel
theorem dX8_ticksUntil_37 : decode cX8_ticksUntil 37 = .ok (.istore 5, 2) := by decide +kernel
theorem dX8_ticksUntil_39 : decode cX8_ticksUntil 39 = .ok (.iload 5, 2) := by decide +kernel
theorem dX8_ticksUntil_41 : decode cX8_ticksUntil 41 = .ok (.iload_n 3, 1) := by decide +kernel
theorem dX8_ticksUntil_42 : decode cX8_ticksUntil 42 = .ok (.if_icmp .gt 38, 3) := by decide +kernel
theorem dX8_ticksUntil_45 : decode cX8_ticksUntil 45 = .ok (.aload_n 0, 1) := by decide +kernel
theorem dX8_ticksUntil_46 : decode cX8_ticksUntil 46 = .ok (.getfield 25, 3) := by decide +kernel
theorem dX8_ticksUntil_49 : decode cX8_ticksUntil 49 = .ok (.invokevirtual 165, 3) := by decide +kernel
theorem dX8_ticksUntil_52 : decode cX8_ticksUntil 52 = .ok (.aload_n 0, 1) := by decide +kernel
theorem dX8_ticksUntil_53 : decode cX8_ticksUntil 53 = .ok (.getfield 25, 3) := by decide +kernel
theorem dX8_ticksUntil_56 : decode cX8_ticksUntil 56 = .ok (.getfield 247, 3) := by decide +kernel
theorem dX8_ticksUntil_59 : decode cX8_ticksUntil 59 = .ok (.iload_n 1, 1) := by decide +kernel
theorem dX8_ticksUntil_60 : decode cX8_ticksUntil 60 = .ok (.aaload, 1) := by decide +kernel
theorem dX8_ticksUntil_61 : decode cX8_ticksUntil 61 = .ok (.getfield 251, 3) := by decide +kernel
theorem dX8_ticksUntil_64 : decode cX8_ticksUntil 64 = .ok (.getfield 130, 3) := by decide +kernel
theorem dX8_ticksUntil_67 : decode cX8_ticksUntil 67 = .ok (.iload_n 2, 1) := by decide +kernel
theorem dX8_ticksUntil_68 : decode cX8_ticksUntil 68 = .ok (.if_icmp .lt 6, 3) := by decide +kernel
theorem dX8_ticksUntil_71 : decode cX8_ticksUntil 71 = .ok (.iload 5, 2) := by decide +kernel
theorem dX8_ticksUntil_73 : decode cX8_ticksUntil 73 = .ok (.ireturn, 1) := by decide +kernel
theorem dX8_ticksUntil_74 : decode cX8_ticksUntil 74 = .ok (.iinc 5 1, 3) := by decide +kernel
theorem dX8_ticksUntil_77 : decode cX8_ticksUntil 77 = .ok (.goto (-38), 3) := by decide +kernel
theorem dX8_ticksUntil_80 : decode cX8_ticksUntil 80 = .ok (.iconst (-1), 1) := by decide +kernel
theorem dX8_ticksUntil_81 : decode cX8_ticksUntil 81 = .ok (.ireturn, 1) := by decide +kernel
set_option maxRecDepth 20000 in
theorem ggX8_lostIn_X8_checkRange : GoodIn wsX8_lostIn wsX8_checkRange := goodIn_ca (goodIn_r _ [7, 8, 9] (by decide +kernel) (by decide +kernel)) (goodIn_sub (fun _ h => List.mem_cons_of_mem _ (List.mem_append_right _ h)) (by decide +kernel))
set_option maxRecDepth 20000 in
theorem gX8_lostIn_X8_checkRange : GoodIn wsX8_lostIn (va_wsS RX8 57 yX8_checkRange wsX8_checkRange) := goodIn_app (goodIn_of _ (by decide +kernel)) ggX8_lostIn_X8_checkRange
set_option maxRecDepth 20000 in
theorem ggX8_lostIn_X6_copyFrom : GoodIn wsX8_lostIn wsX6_copyFrom := goodIn_r _ [14, 15, 16, 17, 18, 19, 20, 21, 22, 23, 24, 25, 26, 27, 28, 29, 30, 31, 32, 33, 34, 35, 36, 37, 38, 39, 40, 41, 42, 43, 44, 45, 46, 47, 48, 49, 50, 51, 52, 53, 54, 55, 56, 57, 58, 59, 60, 61, 62, 63, 64, 65, 66, 67, 68, 69, 70, 71, 72, 73, 74, 75, 76, 77, 78, 79, 80, 81, 82, 83, 84, 85, 273, 274, 275, 276, 277, 278, 279, 280, 281, 282, 283, 284, 285, 286, 287, 288, 289, 290, 291, 292, 293, 294, 295, 296, 297, 298, 299, 300, 301, 302, 303, 304, 305, 306, 307, 308, 309, 310, 311, 312, 313, 314, 315, 316, 317, 318, 319, 320, 321] (by decide +kernel) (by decide +kernel)
set_option maxRecDepth 20000 in
theorem gX8_lostIn_X6_copyFrom : GoodIn wsX8_lostIn (wsV RX8 255 RX6 yX6_copyFrom wsX6_copyFrom) := goodIn_app (goodIn_of _ (by decide +kernel)) ggX8_lostIn_X6_copyFrom
set_option maxRecDepth 20000 in
theorem ggX8_lostIn_X6_tick : GoodIn wsX8_lostIn wsX6_tick := goodIn_r _ [89, 20, 90, 91, 92, 13, 93, 15, 16, 17, 94, 95, 96, 97, 98, 25, 99, 34, 35, 100, 101, 102, 103, 104, 105, 106, 107, 18, 19, 108, 109, 110, 21, 111, 112, 113, 114, 115, 116, 117, 118, 119, 120, 121, 122, 123, 124, 125, 126, 127, 128, 129, 130, 131, 132, 133, 134, 135, 136, 137, 138, 139, 140, 141, 142, 143, 144, 145, 33, 27, 32, 146, 147, 148, 149, 150, 151, 152, 153, 154, 50, 155, 52, 63, 62, 55, 56, 59, 156, 157, 158, 159, 65, 60, 61, 160, 53, 161, 162, 163, 69, 164, 74, 75, 71, 72, 165, 166, 167, 168, 169, 170, 171, 172, 173, 174, 73, 175, 176, 177, 178, 57, 58, 179, 180, 181, 182, 183, 184, 185, 186, 187, 188, 189, 190, 191, 192, 64, 193, 194, 195, 196, 197, 198, 199, 200, 201, 202, 203, 204, 205, 206, 207, 79, 208, 82, 84, 83, 81, 209, 210, 211, 212, 213, 214, 215, 216, 217, 218, 219, 220, 221, 222, 223, 224, 225, 226, 227, 228, 229, 230, 231, 232, 233, 234, 235, 236, 237, 238, 239, 240, 241, 242, 243, 244, 245, 246, 247, 248, 249, 54, 250, 251, 252, 253, 254, 255, 256, 257, 258, 259, 260, 261, 262, 263, 264, 265, 266, 267, 37, 268, 36, 273, 274, 275, 276, 277, 278, 279, 280, 281, 282, 283, 284, 285, 286, 287, 288, 289, 290, 291, 292, 293, 294, 295, 296, 297, 298, 299, 300, 301, 302, 303, 304, 305, 306, 307, 308, 309, 310, 311, 312, 313, 314, 315, 316, 317, 318, 319, 320, 321] (by decide +kernel) (by decide +kernel)
set_option maxRecDepth 20000 in
theorem gX8_lostIn_X6_tick : GoodIn wsX8_lostIn (wsV RX8 165 RX6 yX6_tick wsX6_tick) := goodIn_app (goodIn_of _ (by decide +kernel)) ggX8_lostIn_X6_tick
theorem dX8_lostIn_0 : decode cX8_lostIn 0 = .ok (.iload_n 1, 1) := by decide +kernel
theorem dX8_lostIn_1 : decode cX8_lostIn 1 = .ok (.iconst 1, 1) := by decide +kernel
theorem dX8_lostIn_2 : decode cX8_lostIn 2 = .ok (.bipush 50, 2) := by decide +kernel
theorem dX8_lostIn_4 : decode cX8_lostIn 4 = .ok (.invokestatic 57, 3) := by decide +kernel
theorem dX8_lostIn_7 : decode cX8_lostIn 7 = .ok (.aload_n 0, 1) := by decide +kernel
theorem dX8_lostIn_8 : decode cX8_lostIn 8 = .ok (.getfield 25, 3) := by decide +kernel
theorem dX8_lostIn_11 : decode cX8_lostIn 11 = .ok (.aload_n 0, 1) := by decide +kernel
theorem dX8_lostIn_12 : decode cX8_lostIn 12 = .ok (.getfield 21, 3) := by decide +kernel
theorem dX8_lostIn_15 : decode cX8_lostIn 15 = .ok (.invokevirtual 255, 3) := by decide +kernel
theorem dX8_lostIn_18 : decode cX8_lostIn 18 = .ok (.iconst 0, 1) := by decide +kernel
theorem dX8_lostIn_19 : decode cX8_lostIn 19 = .ok (.istore_n 2, 1) := by decide +kernel
theorem dX8_lostIn_20 : decode cX8_lostIn 20 = .ok (.iload_n 2, 1) := by decide +kernel
theorem dX8_lostIn_21 : decode cX8_lostIn 21 = .ok (.iload_n 1, 1) := by decide +kernel
theorem dX8_lostIn_22 : decode cX8_lostIn 22 = .ok (.if_icmp .ge 16, 3) := by decide +kernel
theorem dX8_lostIn_25 : decode cX8_lostIn 25 = .ok (.aload_n 0, 1) := by decide +kernel
theorem dX8_lostIn_26 : decode cX8_lostIn 26 = .ok (.getfield 25, 3) := by decide +kernel
theorem dX8_lostIn_29 : decode cX8_lostIn 29 = .ok (.invokevirtual 165, 3) := by decide +kernel
theorem dX8_lostIn_32 : decode cX8_lostIn 32 = .ok (.iinc 2 1, 3) := by decide +kernel
theorem dX8_lostIn_35 : decode cX8_lostIn 35 = .ok (.goto (-15), 3) := by decide +kernel
theorem dX8_lostIn_38 : decode cX8_lostIn 38 = .ok (.aload_n 0, 1) := by decide +kernel
theorem dX8_lostIn_39 : decode cX8_lostIn 39 = .ok (.getfield 25, 3) := by decide +kernel
theorem dX8_lostIn_42 : decode cX8_lostIn 42 = .ok (.getfield 186, 3) := by decide +kernel
theorem dX8_lostIn_45 : decode cX8_lostIn 45 = .ok (.aload_n 0, 1) := by decide +kernel
theorem dX8_lostIn_46 : decode cX8_lostIn 46 = .ok (.getfield 21, 3) := by decide +kernel
theorem dX8_lostIn_49 : decode cX8_lostIn 49 = .ok (.getfield 186, 3) := by decide +kernel
theorem dX8_lostIn_52 : decode cX8_lostIn 52 = .ok (.isub, 1) := by decide +kernel
theorem dX8_lostIn_53 : decode cX8_lostIn 53 = .ok (.ireturn, 1) := by decide +kernel
set_option maxRecDepth 20000 in
theorem ggX8_distanceWithout_X8_checkLink : GoodIn wsX8_distanceWithout wsX8_checkLink := goodIn_ca (goodIn_r _ [7, 8, 9, 1, 10, 30, 31, 32, 33, 34, 35, 36, 37, 38, 39, 40, 41, 42] (by decide +kernel) (by decide +kernel)) (goodIn_sub (fun _ h => List.mem_cons_of_mem _ (List.mem_append_right _ h)) (by decide +kernel))
set_option maxRecDepth 20000 in
theorem gX8_distanceWithout_X8_checkLink : GoodIn wsX8_distanceWithout (wsV RX8 74 RX8 yX8_checkLink wsX8_checkLink) := goodIn_app (goodIn_of _ (by decide +kernel)) ggX8_distanceWithout_X8_checkLink
set_option maxRecDepth 20000 in
theorem ggX8_distanceWithout_X8_checkNode : GoodIn wsX8_distanceWithout wsX8_checkNode := goodIn_ca (goodIn_r _ [14, 8, 9, 1, 15, 30, 31, 32, 33, 34, 35, 36, 37, 38, 39, 40, 41, 42] (by decide +kernel) (by decide +kernel)) (goodIn_sub (fun _ h => List.mem_cons_of_mem _ (List.mem_append_right _ h)) (by decide +kernel))
set_option maxRecDepth 20000 in
theorem gX8_distanceWithout_X8_checkNode : GoodIn wsX8_distanceWithout (wsV RX8 48 RX8 yX8_checkNode wsX8_checkNode) := goodIn_app (goodIn_of _ (by decide +kernel)) ggX8_distanceWithout_X8_checkNode
set_option maxRecDepth 20000 in
theorem ggX8_distanceWithout_X3_spread : GoodIn wsX8_distanceWithout wsX3_spread := goodIn_r _ [20, 21, 22, 23, 24, 25, 26, 27, 28, 19, 29, 34, 35, 36, 37, 38, 39, 40, 41, 42] (by decide +kernel) (by decide +kernel)
set_option maxRecDepth 20000 in
theorem gX8_distanceWithout_X3_spread : GoodIn wsX8_distanceWithout (wsV RX8 263 RX3 yX3_spread wsX3_spread) := goodIn_app (goodIn_of _ (by decide +kernel)) ggX8_distanceWithout_X3_spread
theorem dX8_distanceWithout_0 : decode cX8_distanceWithout 0 = .ok (.aload_n 0, 1) := by decide +kernel
theorem dX8_distanceWithout_1 : decode cX8_distanceWithout 1 = .ok (.iload_n 1, 1) := by decide +kernel
theorem dX8_distanceWithout_2 : decode cX8_distanceWithout 2 = .ok (.invokevirtual 74, 3) := by decide +kernel
theorem dX8_distanceWithout_5 : decode cX8_distanceWithout 5 = .ok (.aload_n 0, 1) := by decide +kernel
theorem dX8_distanceWithout_6 : decode cX8_distanceWithout 6 = .ok (.iload_n 2, 1) := by decide +kernel
theorem dX8_distanceWithout_7 : decode cX8_distanceWithout 7 = .ok (.invokevirtual 48, 3) := by decide +kernel
theorem dX8_distanceWithout_10 : decode cX8_distanceWithout 10 = .ok (.aload_n 0, 1) := by decide +kernel
theorem dX8_distanceWithout_11 : decode cX8_distanceWithout 11 = .ok (.iload_n 3, 1) := by decide +kernel
theorem dX8_distanceWithout_12 : decode cX8_distanceWithout 12 = .ok (.invokevirtual 48, 3) := by decide +kernel
theorem dX8_distanceWithout_15 : decode cX8_distanceWithout 15 = .ok (.aload_n 0, 1) := by decide +kernel
theorem dX8_distanceWithout_16 : decode cX8_distanceWithout 16 = .ok (.getfield 12, 3) := by decide +kernel
theorem dX8_distanceWithout_19 : decode cX8_distanceWithout 19 = .ok (.iload_n 3, 1) := by decide +kernel
theorem dX8_distanceWithout_20 : decode cX8_distanceWithout 20 = .ok (.iload_n 1, 1) := by decide +kernel
theorem dX8_distanceWithout_21 : decode cX8_distanceWithout 21 = .ok (.aload_n 0, 1) := by decide +kernel
theorem dX8_distanceWithout_22 : decode cX8_distanceWithout 22 = .ok (.getfield 12, 3) := by decide +kernel
theorem dX8_distanceWithout_25 : decode cX8_distanceWithout 25 = .ok (.getfield 259, 3) := by decide +kernel
theorem dX8_distanceWithout_28 : decode cX8_distanceWithout 28 = .ok (.invokevirtual 263, 3) := by decide +kernel
theorem dX8_distanceWithout_31 : decode cX8_distanceWithout 31 = .ok (.aload_n 0, 1) := by decide +kernel
theorem dX8_distanceWithout_32 : decode cX8_distanceWithout 32 = .ok (.getfield 12, 3) := by decide +kernel
theorem dX8_distanceWithout_35 : decode cX8_distanceWithout 35 = .ok (.getfield 259, 3) := by decide +kernel
theorem dX8_distanceWithout_38 : decode cX8_distanceWithout 38 = .ok (.iload_n 2, 1) := by decide +kernel
theorem dX8_distanceWithout_39 : decode cX8_distanceWithout 39 = .ok (.iaload, 1) := by decide +kernel
theorem dX8_distanceWithout_40 : decode cX8_distanceWithout 40 = .ok (.ireturn, 1) := by decide +kernel
