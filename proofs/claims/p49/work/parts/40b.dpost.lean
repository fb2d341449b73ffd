theorem dX8_timeout_0 : decode cX8_timeout 0 = .ok (.aload_n 0, 1) := by decide +kernel
theorem dX8_timeout_1 : decode cX8_timeout 1 = .ok (.iload_n 1, 1) := by decide +kernel
theorem dX8_timeout_2 : decode cX8_timeout 2 = .ok (.invokevirtual 108, 3) := by decide +kernel
theorem dX8_timeout_5 : decode cX8_timeout 5 = .ok (.getfield 214, 3) := by decide +kernel
theorem dX8_timeout_8 : decode cX8_timeout 8 = .ok (.getfield 226, 3) := by decide +kernel
theorem dX8_timeout_11 : decode cX8_timeout 11 = .ok (.ireturn, 1) := by decide +kernel
set_option maxRecDepth 20000 in
theorem ggX8_timer_X8_callerOf : GoodIn wsX8_timer wsX8_callerOf := goodIn_ca (goodIn_r _ [6, 7, 8, 9, 10, 5, 11, 12, 13, 14, 15, 16, 31, 32, 33, 34, 35, 36, 37, 38, 39, 40, 41, 42, 43, 44] (by decide +kernel) (by decide +kernel)) (goodIn_sub (fun _ h => List.mem_cons_of_mem _ (List.mem_append_right _ h)) (by decide +kernel))
set_option maxRecDepth 20000 in
theorem gX8_timer_X8_callerOf : GoodIn wsX8_timer (wsV RX8 108 RX8 yX8_callerOf wsX8_callerOf) := goodIn_app (goodIn_of _ (by decide +kernel)) ggX8_timer_X8_callerOf
theorem dX8_timer_0 : decode cX8_timer 0 = .ok (.aload_n 0, 1) := by decide +kernel
theorem dX8_timer_1 : decode cX8_timer 1 = .ok (.iload_n 1, 1) := by decide +kernel
theorem dX8_timer_2 : decode cX8_timer 2 = .ok (.invokevirtual 108, 3) := by decide +kernel
theorem dX8_timer_5 : decode cX8_timer 5 = .ok (.getfield 229, 3) := by decide +kernel
theorem dX8_timer_8 : decode cX8_timer 8 = .ok (.ireturn, 1) := by decide +kernel
set_option maxRecDepth 20000 in
theorem ggX8_measured_X8_callerOf : GoodIn wsX8_measured wsX8_callerOf := goodIn_ca (goodIn_r _ [7, 8, 9, 10, 11, 6, 12, 13, 14, 15, 16, 17, 37, 38, 39, 40, 41, 42, 43, 44, 45, 46, 47, 48, 49, 50] (by decide +kernel) (by decide +kernel)) (goodIn_sub (fun _ h => List.mem_cons_of_mem _ (List.mem_append_right _ h)) (by decide +kernel))
set_option maxRecDepth 20000 in
theorem gX8_measured_X8_callerOf : GoodIn wsX8_measured (wsV RX8 108 RX8 yX8_callerOf wsX8_callerOf) := goodIn_app (goodIn_of _ (by decide +kernel)) ggX8_measured_X8_callerOf
theorem dX8_measured_0 : decode cX8_measured 0 = .ok (.aload_n 0, 1) := by decide +kernel
theorem dX8_measured_1 : decode cX8_measured 1 = .ok (.iload_n 1, 1) := by decide +kernel
theorem dX8_measured_2 : decode cX8_measured 2 = .ok (.invokevirtual 108, 3) := by decide +kernel
theorem dX8_measured_5 : decode cX8_measured 5 = .ok (.getfield 214, 3) := by decide +kernel
theorem dX8_measured_8 : decode cX8_measured 8 = .ok (.getfield 232, 3) := by decide +kernel
theorem dX8_measured_11 : decode cX8_measured 11 = .ok (.ireturn, 1) := by decide +kernel
set_option maxRecDepth 20000 in
theorem ggX8_tries_X8_callerOf : GoodIn wsX8_tries wsX8_callerOf := goodIn_ca (goodIn_r _ [6, 7, 8, 9, 10, 5, 11, 12, 13, 14, 15, 16, 31, 32, 33, 34, 35, 36, 37, 38, 39, 40, 41, 42, 43, 44] (by decide +kernel) (by decide +kernel)) (goodIn_sub (fun _ h => List.mem_cons_of_mem _ (List.mem_append_right _ h)) (by decide +kernel))
set_option maxRecDepth 20000 in
theorem gX8_tries_X8_callerOf : GoodIn wsX8_tries (wsV RX8 108 RX8 yX8_callerOf wsX8_callerOf) := goodIn_app (goodIn_of _ (by decide +kernel)) ggX8_tries_X8_callerOf
theorem dX8_tries_0 : decode cX8_tries 0 = .ok (.aload_n 0, 1) := by decide +kernel
theorem dX8_tries_1 : decode cX8_tries 1 = .ok (.iload_n 1, 1) := by decide +kernel
theorem dX8_tries_2 : decode cX8_tries 2 = .ok (.invokevirtual 108, 3) := by decide +kernel
theorem dX8_tries_5 : decode cX8_tries 5 = .ok (.getfield 235, 3) := by decide +kernel
theorem dX8_tries_8 : decode cX8_tries 8 = .ok (.ireturn, 1) := by decide +kernel
set_option maxRecDepth 20000 in
theorem ggX8_wanted_X8_connectionOf : GoodIn wsX8_wanted wsX8_connectionOf := goodIn_ca (goodIn_r _ [7, 8, 9, 10, 11, 12, 21, 22, 23, 24, 25, 26, 27, 28, 29, 30] (by decide +kernel) (by decide +kernel)) (goodIn_sub (fun _ h => List.mem_cons_of_mem _ (List.mem_append_right _ h)) (by decide +kernel))
set_option maxRecDepth 20000 in
theorem gX8_wanted_X8_connectionOf : GoodIn wsX8_wanted (wsV RX8 133 RX8 yX8_connectionOf wsX8_connectionOf) := goodIn_app (goodIn_of _ (by decide +kernel)) ggX8_wanted_X8_connectionOf
theorem dX8_wanted_0 : decode cX8_wanted 0 = .ok (.aload_n 0, 1) := by decide +kernel
theorem dX8_wanted_1 : decode cX8_wanted 1 = .ok (.iload_n 1, 1) := by decide +kernel
theorem dX8_wanted_2 : decode cX8_wanted 2 = .ok (.invokevirtual 133, 3) := by decide +kernel
theorem dX8_wanted_5 : decode cX8_wanted 5 = .ok (.getfield 150, 3) := by decide +kernel
theorem dX8_wanted_8 : decode cX8_wanted 8 = .ok (.getfield 241, 3) := by decide +kernel
theorem dX8_wanted_11 : decode cX8_wanted 11 = .ok (.ireturn, 1) := by decide +kernel
set_option maxRecDepth 20000 in
theorem ggX8_holds_X8_connectionOf : GoodIn wsX8_holds wsX8_connectionOf := goodIn_ca (goodIn_r _ [7, 8, 9, 10, 11, 12, 21, 22, 23, 24, 25, 26, 27, 28, 29, 30] (by decide +kernel) (by decide +kernel)) (goodIn_sub (fun _ h => List.mem_cons_of_mem _ (List.mem_append_right _ h)) (by decide +kernel))
set_option maxRecDepth 20000 in
theorem gX8_holds_X8_connectionOf : GoodIn wsX8_holds (wsV RX8 133 RX8 yX8_connectionOf wsX8_connectionOf) := goodIn_app (goodIn_of _ (by decide +kernel)) ggX8_holds_X8_connectionOf
theorem dX8_holds_0 : decode cX8_holds 0 = .ok (.aload_n 0, 1) := by decide +kernel
theorem dX8_holds_1 : decode cX8_holds 1 = .ok (.iload_n 1, 1) := by decide +kernel
theorem dX8_holds_2 : decode cX8_holds 2 = .ok (.invokevirtual 133, 3) := by decide +kernel
theorem dX8_holds_5 : decode cX8_holds 5 = .ok (.getfield 150, 3) := by decide +kernel
theorem dX8_holds_8 : decode cX8_holds 8 = .ok (.getfield 244, 3) := by decide +kernel
theorem dX8_holds_11 : decode cX8_holds 11 = .ok (.astore_n 3, 1) := by decide +kernel
theorem dX8_holds_12 : decode cX8_holds 12 = .ok (.iload_n 2, 1) := by decide +kernel
theorem dX8_holds_13 : decode cX8_holds 13 = .ok (.ifCond .lt 19, 3) := by decide +kernel
theorem dX8_holds_16 : decode cX8_holds 16 = .ok (.iload_n 2, 1) := by decide +kernel
theorem dX8_holds_17 : decode cX8_holds 17 = .ok (.aload_n 3, 1) := by decide +kernel
theorem dX8_holds_18 : decode cX8_holds 18 = .ok (.arraylength, 1) := by decide +kernel
theorem dX8_holds_19 : decode cX8_holds 19 = .ok (.if_icmp .ge 13, 3) := by decide +kernel
theorem dX8_holds_22 : decode cX8_holds 22 = .ok (.aload_n 3, 1) := by decide +kernel
theorem dX8_holds_23 : decode cX8_holds 23 = .ok (.iload_n 2, 1) := by decide +kernel
theorem dX8_holds_24 : decode cX8_holds 24 = .ok (.baload, 1) := by decide +kernel
theorem dX8_holds_25 : decode cX8_holds 25 = .ok (.ifCond .eq 7, 3) := by decide +kernel
theorem dX8_holds_28 : decode cX8_holds 28 = .ok (.iconst 1, 1) := by decide +kernel
theorem dX8_holds_29 : decode cX8_holds 29 = .ok (.goto 4, 3) := by decide +kernel
theorem dX8_holds_32 : decode cX8_holds 32 = .ok (.iconst 0, 1) := by decide +kernel
theorem dX8_holds_33 : decode cX8_holds 33 = .ok (.ireturn, 1) := by decide +kernel
set_option maxRecDepth 20000 in
theorem ggX8_readable_X8_connectionOf : GoodIn wsX8_readable wsX8_connectionOf := goodIn_ca (goodIn_r _ [5, 6, 7, 8, 9, 10, 25, 26, 27, 28, 29, 30, 31, 32, 33, 34] (by decide +kernel) (by decide +kernel)) (goodIn_sub (fun _ h => List.mem_cons_of_mem _ (List.mem_append_right _ h)) (by decide +kernel))
set_option maxRecDepth 20000 in
theorem gX8_readable_X8_connectionOf : GoodIn wsX8_readable (wsV RX8 133 RX8 yX8_connectionOf wsX8_connectionOf) := goodIn_app (goodIn_of _ (by decide +kernel)) ggX8_readable_X8_connectionOf
set_option maxRecDepth 20000 in
theorem ggX8_readable_X2_unread : GoodIn wsX8_readable wsX2_unread := goodIn_r _ [15, 16, 17, 18, 19, 20, 21, 22, 23, 24, 35, 36, 37, 38, 39, 40, 41, 42, 43, 44, 45, 46, 47, 48, 49, 50, 51, 52, 53, 54, 55, 56] (by decide +kernel) (by decide +kernel)
set_option maxRecDepth 20000 in
theorem gX8_readable_X2_unread : GoodIn wsX8_readable (wsV RX8 137 RX2 yX2_unread wsX2_unread) := goodIn_app (goodIn_of _ (by decide +kernel)) ggX8_readable_X2_unread
theorem dX8_readable_0 : decode cX8_readable 0 = .ok (.aload_n 0, 1) := by decide +kernel
theorem dX8_readable_1 : decode cX8_readable 1 = .ok (.iload_n 1, 1) := by decide +kernel
theorem dX8_readable_2 : decode cX8_readable 2 = .ok (.invokevirtual 133, 3) := by decide +kernel
theorem dX8_readable_5 : decode cX8_readable 5 = .ok (.invokevirtual 137, 3) := by decide +kernel
theorem dX8_readable_8 : decode cX8_readable 8 = .ok (.ireturn, 1) := by decide +kernel
set_option maxRecDepth 20000 in
theorem ggX8_hasRead_X8_connectionOf : GoodIn wsX8_hasRead wsX8_connectionOf := goodIn_ca (goodIn_r _ [7, 8, 9, 10, 11, 12, 21, 22, 23, 24, 25, 26, 27, 28, 29, 30] (by decide +kernel) (by decide +kernel)) (goodIn_sub (fun _ h => List.mem_cons_of_mem _ (List.mem_append_right _ h)) (by decide +kernel))
set_option maxRecDepth 20000 in
theorem gX8_hasRead_X8_connectionOf : GoodIn wsX8_hasRead (wsV RX8 133 RX8 yX8_connectionOf wsX8_connectionOf) := goodIn_app (goodIn_of _ (by decide +kernel)) ggX8_hasRead_X8_connectionOf
theorem dX8_hasRead_0 : decode cX8_hasRead 0 = .ok (.aload_n 0, 1) := by decide +kernel
theorem dX8_hasRead_1 : decode cX8_hasRead 1 = .ok (.iload_n 1, 1) := by decide +kernel
theorem dX8_hasRead_2 : decode cX8_hasRead 2 = .ok (.invokevirtual 133, 3) := by decide +kernel
theorem dX8_hasRead_5 : decode cX8_hasRead 5 = .ok (.getfield 150, 3) := by decide +kernel
theorem dX8_hasRead_8 : decode cX8_hasRead 8 = .ok (.getfield 159, 3) := by decide +kernel
theorem dX8_hasRead_11 : decode cX8_hasRead 11 = .ok (.ireturn, 1) := by decide +kernel
set_option maxRecDepth 20000 in
theorem ggX8_lostIn_X8_checkRange : GoodIn wsX8_lostIn wsX8_checkRange := goodIn_ca (goodIn_r _ [7, 8, 9] (by decide +kernel) (by decide +kernel)) (goodIn_sub (fun _ h => List.mem_cons_of_mem _ (List.mem_append_right _ h)) (by decide +kernel))
set_option maxRecDepth 20000 in
theorem gX8_lostIn_X8_checkRange : GoodIn wsX8_lostIn (va_wsS RX8 57 yX8_checkRange wsX8_checkRange) := goodIn_app (goodIn_of _ (by decide +kernel)) ggX8_lostIn_X8_checkRange
set_option maxRecDepth 20000 in
theorem ggX8_lostIn_X6_copyFrom : GoodIn wsX8_lostIn wsX6_copyFrom := goodIn_r _ [14, 15, 16, 17, 18, 19, 20, 21, 22, 23, 24, 25, 26, 27, 28, 29, 30, 31, 32, 33, 34, 35, 36, 37, 38, 39, 40, 41, 42, 43, 44, 45, 46, 47, 48, 49, 50, 51, 52, 53, 54, 55, 56, 57, 58, 59, 60, 61, 62, 63, 64, 65, 66, 67, 68, 69, 70, 71, 72, 73, 74, 75, 76, 77, 78, 79, 80, 81, 82, 83, 84, 85, 273, 274, 275, 276, 277, 278, 279, 280, 281, 282, 283, 284, 285, 286, 287, 288, 289, 290, 291, 292, 293, 294, 295, 296, 297, 298, 299, 300, 301, 302, 303, 304, 305, 306, 307, 308, 309, 310, 311, 312, 313, 314, 315, 316, 317, 318, 319, 320, 321] (by decide +kernel) (by decide +kernel)
set_option maxRecDepth 20000 in
theorem gX8_lostIn_X6_copyFrom : GoodIn wsX8_lostIn (wsV RX8 255 RX6 yX6_copyFrom wsX6_copyFrom) := goodIn_app (goodIn_of _ (by decide +kernel)) ggX8_lostIn_X6_copyFrom
set_option maxRecDepth 20000 in
theorem ggX8_lostIn_X6_tick : GoodIn wsX8_lostIn wsX6_tick := goodIn_r _ [89, 20, 90, 91, 92, 13, 93, 15, 16, 17, 94, 95, 96, 97, 98, 25, 99, 34, 35, 100, 101, 102, 103, 104, 105, 106, 107, 18, 19, 108, 109, 110, 21, 111, 112, 113, 114, 115, 116, 117, 118, 119, 120, 121, 122, 123, 124, 125, 126, 127, 128, 129, 130, 131, 132, 133, 134, 135, 136, 137, 138, 139, 140, 141, 142, 143, 144, 145, 33, 27, 32, 146, 147, 148, 149, 150, 151, 152, 153, 154, 50, 155, 52, 63, 62, 55, 56, 59, 156, 157, 158, 159, 65, 60, 61, 160, 53, 161, 162, 163, 69, 164, 74, 75, 71, 72, 165, 166, 167, 168, 169, 170, 171, 172, 173, 174, 73, 175, 176, 177, 178, 57, 58, 179, 180, 181, 182, 183, 184, 185, 186, 187, 188, 189, 190, 191, 192, 64, 193, 194, 195, 196, 197, 198, 199, 200, 201, 202, 203, 204, 205, 206, 207, 79, 208, 82, 84, 83, 81, 209, 210, 211, 212, 213, 214, 215, 216, 217, 218, 219, 220, 221, 222, 223, 224, 225, 226, 227, 228, 229, 230, 231, 232, 233, 234, 235, 236, 237, 238, 239, 240, 241, 242, 243, 244, 245, 246, 247, 248, 249, 54, 250, 251, 252, 253, 254, 255, 256, 257, 258, 259, 260, 261, 262, 263, 264, 265, 266, 267, 37, 268, 36, 273, 274, 275, 276, 277, 278, 279, 280, 281, 282, 283, 284, 285, 286, 287, 288, 289, 290, 291, 292, 293, 294, 295, 296, 297, 298, 299, 300, 301, 302, 303, 304, 305, 306, 307, 308, 309, 310, 311, 312, 313, 314, 315, 316, 317, 318, 319, 320, 321] (by decide +kernel) (by decide +kernel)
set_option maxRecDepth 20000 in
theorem gX8_lostIn_X6_tick : GoodIn wsX8_lostIn (wsV RX8 165 RX6 yX6_tick wsX6_tick) := goodIn_app (goodIn_of _ (by decide +kernel)) ggX8_lostIn_X6_tick
theorem dX8_lostIn_0 : decode cX8_lostIn 0 = .ok (.iload_n 1, 1) := by decide +kernel
theorem dX8_lostIn_1 : decode cX8_lostIn 1 = .ok (.iconst 1, 1) := by decide +kernel
theorem dX8_lostIn_2 : decode cX8_lostIn 2 = .ok (.bipush 50, 2) := by decide +kernel
theorem dX8_lostIn_4 : decode cX8_lostIn 4 = .ok (.invokestatic 57, 3) := by decide +kernel
theorem dX8_lostIn_7 : decode cX8_lostIn 7 = .ok (.aload_n 0, 1) := by decide +kernel
theorem dX8_lostIn_8 : decode cX8_lostIn 8 = .ok (.getfield 25, 3) := by decide +kernel
theorem dX8_lostIn_11 : decode cX8_lostIn 11 = .ok (.aload_n 0, 1) := by decide +kernel
theorem dX8_lostIn_12 : decode cX8_lostIn 12 = .ok (.getfield 21, 3) := by decide +kernel
theorem dX8_lostIn_15 : decode cX8_lostIn 15 = .ok (.invokevirtual 255, 3) := by decide +kernel
theorem dX8_lostIn_18 : decode cX8_lostIn 18 = .ok (.iconst 0, 1) := by decide +kernel
theorem dX8_lostIn_19 : decode cX8_lostIn 19 = .ok (.istore_n 2, 1) := by decide +kernel
theorem dX8_lostIn_20 : decode cX8_lostIn 20 = .ok (.iload_n 2, 1) := by decide +kernel
theorem dX8_lostIn_21 : decode cX8_lostIn 21 = .ok (.iload_n 1, 1) := by decide +kernel
theorem dX8_lostIn_22 : decode cX8_lostIn 22 = .ok (.if_icmp .ge 16, 3) := by decide +kernel
theorem dX8_lostIn_25 : decode cX8_lostIn 25 = .ok (.aload_n 0, 1) := by decide +kernel
theorem dX8_lostIn_26 : decode cX8_lostIn 26 = .ok (.getfield 25, 3) := by decide +kernel
theorem dX8_lostIn_29 : decode cX8_lostIn 29 = .ok (.invokevirtual 165, 3) := by decide +kernel
theorem dX8_lostIn_32 : decode cX8_lostIn 32 = .ok (.iinc 2 1, 3) := by decide +kernel
theorem dX8_lostIn_35 : decode cX8_lostIn 35 = .ok (.goto (-15), 3) := by decide +kernel
theorem dX8_lostIn_38 : decode cX8_lostIn 38 = .ok (.aload_n 0, 1) := by decide +kernel
theorem dX8_lostIn_39 : decode cX8_lostIn 39 = .ok (.getfield 25, 3) := by decide +kernel
theorem dX8_lostIn_42 : decode cX8_lostIn 42 = .ok (.getfield 186, 3) := by decide +kernel
theorem dX8_lostIn_45 : decode cX8_lostIn 45 = .ok (.aload_n 0, 1) := by decide +kernel
theorem dX8_lostIn_46 : decode cX8_lostIn 46 = .ok (.getfield 21, 3) := by decide +kernel
theorem dX8_lostIn_49 : decode cX8_lostIn 49 = .ok (.getfield 186, 3) := by decide +kernel
theorem dX8_lostIn_52 : decode cX8_lostIn 52 = .ok (.isub, 1) := by decide +kernel
theorem dX8_lostIn_53 : decode cX8_lostIn 53 = .ok (.ireturn, 1) := by decide +kernel
set_option maxRecDepth 20000 in
theorem ggX8_digest_X8_clock : GoodIn wsX8_digest wsX8_clock := goodIn_r _ [15, 5, 16, 87, 88, 89, 90, 100, 101, 102, 103, 104, 105] (by decide +kernel) (by decide +kernel)
set_option maxRecDepth 20000 in
theorem gX8_digest_X8_clock : GoodIn wsX8_digest (wsV RX8 271 RX8 yX8_clock wsX8_clock) := goodIn_app (goodIn_of _ (by decide +kernel)) ggX8_digest_X8_clock
set_option maxRecDepth 20000 in
theorem ggX8_digest_X8_nodes : GoodIn wsX8_digest wsX8_nodes := goodIn_r _ [20, 3, 9, 87, 88, 89, 90, 91, 92, 93, 94, 95, 96, 97, 98, 99] (by decide +kernel) (by decide +kernel)
set_option maxRecDepth 20000 in
theorem gX8_digest_X8_nodes : GoodIn wsX8_digest (wsV RX8 273 RX8 yX8_nodes wsX8_nodes) := goodIn_app (goodIn_of _ (by decide +kernel)) ggX8_digest_X8_nodes
set_option maxRecDepth 20000 in
theorem ggX8_digest_X8_links : GoodIn wsX8_digest wsX8_links := goodIn_r _ [24, 3, 4, 87, 88, 89, 90, 91, 92, 93, 94, 95, 96, 97, 98, 99] (by decide +kernel) (by decide +kernel)
set_option maxRecDepth 20000 in
theorem gX8_digest_X8_links : GoodIn wsX8_digest (wsV RX8 275 RX8 yX8_links wsX8_links) := goodIn_app (goodIn_of _ (by decide +kernel)) ggX8_digest_X8_links
set_option maxRecDepth 20000 in
theorem ggX8_digest_X8_lost : GoodIn wsX8_digest wsX8_lost := goodIn_r _ [28, 5, 29, 87, 88, 89, 90, 100, 101, 102, 103, 104, 105] (by decide +kernel) (by decide +kernel)
set_option maxRecDepth 20000 in
theorem gX8_digest_X8_lost : GoodIn wsX8_digest (wsV RX8 277 RX8 yX8_lost wsX8_lost) := goodIn_app (goodIn_of _ (by decide +kernel)) ggX8_digest_X8_lost
set_option maxRecDepth 20000 in
theorem ggX8_digest_X8_underWay : GoodIn wsX8_digest wsX8_underWay := goodIn_r _ [33, 3, 4, 5, 34, 35, 36, 87, 88, 89, 90, 91, 92, 93, 94, 95, 96, 97, 98, 99, 100, 101, 102, 103, 104, 105, 110, 111, 112, 113, 114, 115, 116] (by decide +kernel) (by decide +kernel)
set_option maxRecDepth 20000 in
theorem gX8_digest_X8_underWay : GoodIn wsX8_digest (wsV RX8 279 RX8 yX8_underWay wsX8_underWay) := goodIn_app (goodIn_of _ (by decide +kernel)) ggX8_digest_X8_underWay
set_option maxRecDepth 20000 in
theorem ggX8_digest_X8_connections : GoodIn wsX8_digest wsX8_connections := goodIn_r _ [40, 5, 6, 87, 88, 89, 90, 100, 101, 102, 103, 104, 105] (by decide +kernel) (by decide +kernel)
set_option maxRecDepth 20000 in
theorem gX8_digest_X8_connections : GoodIn wsX8_digest (wsV RX8 282 RX8 yX8_connections wsX8_connections) := goodIn_app (goodIn_of _ (by decide +kernel)) ggX8_digest_X8_connections
set_option maxRecDepth 20000 in
theorem ggX8_digest_X8_digestOfLink : GoodIn wsX8_digest wsX8_digestOfLink := goodIn_r _ [44, 2, 3, 45, 5, 34, 35, 36, 46, 87, 88, 89, 90, 91, 92, 93, 94, 95, 96, 97, 98, 99, 100, 101, 102, 103, 104, 105, 110, 111, 112, 113, 114, 115, 116] (by decide +kernel) (by decide +kernel)
set_option maxRecDepth 20000 in
theorem gX8_digest_X8_digestOfLink : GoodIn wsX8_digest (wsV RX8 285 RX8 yX8_digestOfLink wsX8_digestOfLink) := goodIn_app (goodIn_of _ (by decide +kernel)) ggX8_digest_X8_digestOfLink
set_option maxRecDepth 20000 in
theorem ggX8_digest_X8_digestOfCaller : GoodIn wsX8_digest wsX8_digestOfCaller := goodIn_r _ [49, 2, 50, 51, 52, 53, 54, 55, 56, 57, 58, 59, 60, 61, 62, 63, 64, 65, 66, 117, 118, 119, 120, 121, 122, 123, 124, 125, 126, 127, 128, 129, 130, 131, 132, 133, 134, 135] (by decide +kernel) (by decide +kernel)
set_option maxRecDepth 20000 in
theorem gX8_digest_X8_digestOfCaller : GoodIn wsX8_digest (va_wsS RX8 289 yX8_digestOfCaller wsX8_digestOfCaller) := goodIn_app (goodIn_of _ (by decide +kernel)) ggX8_digest_X8_digestOfCaller
set_option maxRecDepth 20000 in
theorem ggX8_digest_X8_digestOfCallee : GoodIn wsX8_digest wsX8_digestOfCallee := goodIn_r _ [69, 2, 70, 71, 72, 73, 74, 75, 76, 77, 78, 79, 80, 81, 82, 83, 84, 85, 86, 106, 107, 108, 109, 136, 137, 138, 139, 117, 118, 119, 120, 121, 122, 123, 124, 125, 126, 127, 128, 129, 130] (by decide +kernel) (by decide +kernel)
set_option maxRecDepth 20000 in
theorem gX8_digest_X8_digestOfCallee : GoodIn wsX8_digest (va_wsS RX8 293 yX8_digestOfCallee wsX8_digestOfCallee) := goodIn_app (goodIn_of _ (by decide +kernel)) ggX8_digest_X8_digestOfCallee
theorem dX8_digest_0 : decode cX8_digest 0 = .ok (.ldc2_w 267, 3) := by decide +kernel
theorem dX8_digest_3 : decode cX8_digest 3 = .ok (.lstore_n 1, 1) := by decide +kernel
theorem dX8_digest_4 : decode cX8_digest 4 = .ok (.lload_n 1, 1) := by decide +kernel
theorem dX8_digest_5 : decode cX8_digest 5 = .ok (.ldc2_w 269, 3) := by decide +kernel
theorem dX8_digest_8 : decode cX8_digest 8 = .ok (.lmul, 1) := by decide +kernel
theorem dX8_digest_9 : decode cX8_digest 9 = .ok (.aload_n 0, 1) := by decide +kernel
theorem dX8_digest_10 : decode cX8_digest 10 = .ok (.invokevirtual 271, 3) := by decide +kernel
theorem dX8_digest_13 : decode cX8_digest 13 = .ok (.i2l, 1) := by decide +kernel
theorem dX8_digest_14 : decode cX8_digest 14 = .ok (.ladd, 1) := by decide +kernel
theorem dX8_digest_15 : decode cX8_digest 15 = .ok (.lstore_n 1, 1) := by decide +kernel
theorem dX8_digest_16 : decode cX8_digest 16 = .ok (.lload_n 1, 1) := by decide +kernel
theorem dX8_digest_17 : decode cX8_digest 17 = .ok (.ldc2_w 269, 3) := by decide +kernel
theorem dX8_digest_20 : decode cX8_digest 20 = .ok (.lmul, 1) := by decide +kernel
theorem dX8_digest_21 : decode cX8_digest 21 = .ok (.aload_n 0, 1) := by decide +kernel
theorem dX8_digest_22 : decode cX8_digest 22 = .ok (.invokevirtual 273, 3) := by decide +kernel
theorem dX8_digest_25 : decode cX8_digest 25 = .ok (.i2l, 1) := by decide +kernel
theorem dX8_digest_26 : decode cX8_digest 26 = .ok (.ladd, 1) := by decide +kernel
theorem dX8_digest_27 : decode cX8_digest 27 = .ok (.lstore_n 1, 1) := by decide +kernel
theorem dX8_digest_28 : decode cX8_digest 28 = .ok (.lload_n 1, 1) := by decide +kernel
theorem dX8_digest_29 : decode cX8_digest 29 = .ok (.ldc2_w 269, 3) := by decide +kernel
theorem dX8_digest_32 : decode cX8_digest 32 = .ok (.lmul, 1) := by decide +kernel
theorem dX8_digest_33 : decode cX8_digest 33 = .ok (.aload_n 0, 1) := by decide +kernel
theorem dX8_digest_34 : decode cX8_digest 34 = .ok (.invokevirtual 275, 3) := by decide +kernel
theorem dX8_digest_37 : decode cX8_digest 37 = .ok (.i2l, 1) := by decide +kernel
theorem dX8_digest_38 : decode cX8_digest 38 = .ok (.ladd, 1) := by decide +kernel
theorem dX8_digest_39 : decode cX8_digest 39 = .ok (.lstore_n 1, 1) := by decide +kernel
theorem dX8_digest_40 : decode cX8_digest 40 = .ok (.lload_n 1, 1) := by decide +kernel
theorem dX8_digest_41 : decode cX8_digest 41 = .ok (.ldc2_w 269, 3) := by decide +kernel
theorem dX8_digest_44 : decode cX8_digest 44 = .ok (.lmul, 1) := by decide +kernel
theorem dX8_digest_45 : decode cX8_digest 45 = .ok (.aload_n 0, 1) := by decide +kernel
theorem dX8_digest_46 : decode cX8_digest 46 = .ok (.invokevirtual 277, 3) := by decide +kernel
theorem dX8_digest_49 : decode cX8_digest 49 = .ok (.i2l, 1) := by decide +kernel
theorem dX8_digest_50 : decode cX8_digest 50 = .ok (.ladd, 1) := by decide +kernel
theorem dX8_digest_51 : decode cX8_digest 51 = .ok (.lstore_n 1, 1) := by decide +kernel
theorem dX8_digest_52 : decode cX8_digest 52 = .ok (.lload_n 1, 1) := by decide +kernel
theorem dX8_digest_53 : decode cX8_digest 53 = .ok (.ldc2_w 269, 3) := by decide +kernel
theorem dX8_digest_56 : decode cX8_digest 56 = .ok (.lmul, 1) := by decide +kernel
theorem dX8_digest_57 : decode cX8_digest 57 = .ok (.aload_n 0, 1) := by decide +kernel
theorem dX8_digest_58 : decode cX8_digest 58 = .ok (.invokevirtual 279, 3) := by decide +kernel
theorem dX8_digest_61 : decode cX8_digest 61 = .ok (.i2l, 1) := by decide +kernel
theorem dX8_digest_62 : decode cX8_digest 62 = .ok (.ladd, 1) := by decide +kernel
theorem dX8_digest_63 : decode cX8_digest 63 = .ok (.lstore_n 1, 1) := by decide +kernel
theorem dX8_digest_64 : decode cX8_digest 64 = .ok (.lload_n 1, 1) := by decide +kernel
theorem dX8_digest_65 : decode cX8_digest 65 = .ok (.ldc2_w 269, 3) := by decide +kernel
theorem dX8_digest_68 : decode cX8_digest 68 = .ok (.lmul, 1) := by decide +kernel
theorem dX8_digest_69 : decode cX8_digest 69 = .ok (.aload_n 0, 1) := by decide +kernel
theorem dX8_digest_70 : decode cX8_digest 70 = .ok (.invokevirtual 282, 3) := by decide +kernel
theorem dX8_digest_73 : decode cX8_digest 73 = .ok (.i2l, 1) := by decide +kernel
theorem dX8_digest_74 : decode cX8_digest 74 = .ok (.ladd, 1) := by decide +kernel
theorem dX8_digest_75 : decode cX8_digest 75 = .ok (.lstore_n 1, 1) := by decide +kernel
theorem dX8_digest_76 : decode cX8_digest 76 = .ok (.iconst 0, 1) := by decide +kernel
theorem dX8_digest_77 : decode cX8_digest 77 = .ok (.istore_n 3, 1) := by decide +kernel
theorem dX8_digest_78 : decode cX8_digest 78 = .ok (.iload_n 3, 1) := by decide +kernel
theorem dX8_digest_79 : decode cX8_digest 79 = .ok (.aload_n 0, 1) := by decide +kernel
theorem dX8_digest_80 : decode cX8_digest 80 = .ok (.getfield 12, 3) := by decide +kernel
theorem dX8_digest_83 : decode cX8_digest 83 = .ok (.getfield 61, 3) := by decide +kernel
theorem dX8_digest_86 : decode cX8_digest 86 = .ok (.if_icmp .ge 16, 3) := by decide +kernel
theorem dX8_digest_89 : decode cX8_digest 89 = .ok (.aload_n 0, 1) := by decide +kernel
theorem dX8_digest_90 : decode cX8_digest 90 = .ok (.lload_n 1, 1) := by decide +kernel
theorem dX8_digest_91 : decode cX8_digest 91 = .ok (.iload_n 3, 1) := by decide +kernel
theorem dX8_digest_92 : decode cX8_digest 92 = .ok (.invokevirtual 285, 3) := by decide +kernel
theorem dX8_digest_95 : decode cX8_digest 95 = .ok (.lstore_n 1, 1) := by decide +kernel
theorem dX8_digest_96 : decode cX8_digest 96 = .ok (.iinc 3 1, 3) := by decide +kernel
theorem dX8_digest_99 : decode cX8_digest 99 = .ok (.goto (-21), 3) := by decide +kernel
theorem dX8_digest_102 : decode cX8_digest 102 = .ok (.iconst 0, 1) := by decide +kernel
theorem dX8_digest_103 : decode cX8_digest 103 = .ok (.istore_n 3, 1) := by decide +kernel
theorem dX8_digest_104 : decode cX8_digest 104 = .ok (.iload_n 3, 1) := by decide +kernel
theorem dX8_digest_105 : decode cX8_digest 105 = .ok (.aload_n 0, 1) := by decide +kernel
theorem dX8_digest_106 : decode cX8_digest 106 = .ok (.getfield 21, 3) := by decide +kernel
theorem dX8_digest_109 : decode cX8_digest 109 = .ok (.getfield 99, 3) := by decide +kernel
theorem dX8_digest_112 : decode cX8_digest 112 = .ok (.if_icmp .ge 38, 3) := by decide +kernel
theorem dX8_digest_115 : decode cX8_digest 115 = .ok (.lload_n 1, 1) := by decide +kernel
theorem dX8_digest_116 : decode cX8_digest 116 = .ok (.aload_n 0, 1) := by decide +kernel
theorem dX8_digest_117 : decode cX8_digest 117 = .ok (.getfield 21, 3) := by decide +kernel
theorem dX8_digest_120 : decode cX8_digest 120 = .ok (.getfield 247, 3) := by decide +kernel
theorem dX8_digest_123 : decode cX8_digest 123 = .ok (.iload_n 3, 1) := by decide +kernel
theorem dX8_digest_124 : decode cX8_digest 124 = .ok (.aaload, 1) := by decide +kernel
theorem dX8_digest_125 : decode cX8_digest 125 = .ok (.getfield 251, 3) := by decide +kernel
theorem dX8_digest_128 : decode cX8_digest 128 = .ok (.invokestatic 289, 3) := by decide +kernel
theorem dX8_digest_131 : decode cX8_digest 131 = .ok (.aload_n 0, 1) := by decide +kernel
theorem dX8_digest_132 : decode cX8_digest 132 = .ok (.getfield 21, 3) := by decide +kernel
theorem dX8_digest_135 : decode cX8_digest 135 = .ok (.getfield 247, 3) := by decide +kernel
theorem dX8_digest_138 : decode cX8_digest 138 = .ok (.iload_n 3, 1) := by decide +kernel
theorem dX8_digest_139 : decode cX8_digest 139 = .ok (.aaload, 1) := by decide +kernel
theorem dX8_digest_140 : decode cX8_digest 140 = .ok (.invokestatic 293, 3) := by decide +kernel
theorem dX8_digest_143 : decode cX8_digest 143 = .ok (.lstore_n 1, 1) := by decide +kernel
theorem dX8_digest_144 : decode cX8_digest 144 = .ok (.iinc 3 1, 3) := by decide +kernel
theorem dX8_digest_147 : decode cX8_digest 147 = .ok (.goto (-43), 3) := by decide +kernel
theorem dX8_digest_150 : decode cX8_digest 150 = .ok (.iconst 0, 1) := by decide +kernel
theorem dX8_digest_151 : decode cX8_digest 151 = .ok (.istore_n 3, 1) := by decide +kernel
theorem dX8_digest_152 : decode cX8_digest 152 = .ok (.iload_n 3, 1) := by decide +kernel
theorem dX8_digest_153 : decode cX8_digest 153 = .ok (.aload_n 0, 1) := by decide +kernel
theorem dX8_digest_154 : decode cX8_digest 154 = .ok (.getfield 12, 3) := by decide +kernel
theorem dX8_digest_157 : decode cX8_digest 157 = .ok (.getfield 33, 3) := by decide +kernel
theorem dX8_digest_160 : decode cX8_digest 160 = .ok (.if_icmp .ge 28, 3) := by decide +kernel
theorem dX8_digest_163 : decode cX8_digest 163 = .ok (.lload_n 1, 1) := by decide +kernel
theorem dX8_digest_164 : decode cX8_digest 164 = .ok (.ldc2_w 269, 3) := by decide +kernel
theorem dX8_digest_167 : decode cX8_digest 167 = .ok (.lmul, 1) := by decide +kernel
theorem dX8_digest_168 : decode cX8_digest 168 = .ok (.aload_n 0, 1) := by decide +kernel
theorem dX8_digest_169 : decode cX8_digest 169 = .ok (.getfield 12, 3) := by decide +kernel
theorem dX8_digest_172 : decode cX8_digest 172 = .ok (.getfield 171, 3) := by decide +kernel
theorem dX8_digest_175 : decode cX8_digest 175 = .ok (.iload_n 3, 1) := by decide +kernel
theorem dX8_digest_176 : decode cX8_digest 176 = .ok (.aaload, 1) := by decide +kernel
theorem dX8_digest_177 : decode cX8_digest 177 = .ok (.iconst 0, 1) := by decide +kernel
theorem dX8_digest_178 : decode cX8_digest 178 = .ok (.iaload, 1) := by decide +kernel
theorem dX8_digest_179 : decode cX8_digest 179 = .ok (.i2l, 1) := by decide +kernel
theorem dX8_digest_180 : decode cX8_digest 180 = .ok (.ladd, 1) := by decide +kernel
theorem dX8_digest_181 : decode cX8_digest 181 = .ok (.lstore_n 1, 1) := by decide +kernel
theorem dX8_digest_182 : decode cX8_digest 182 = .ok (.iinc 3 1, 3) := by decide +kernel
theorem dX8_digest_185 : decode cX8_digest 185 = .ok (.goto (-33), 3) := by decide +kernel
theorem dX8_digest_188 : decode cX8_digest 188 = .ok (.lload_n 1, 1) := by decide +kernel
theorem dX8_digest_189 : decode cX8_digest 189 = .ok (.lreturn, 1) := by decide +kernel
theorem dX8_digestOfLink_0 : decode cX8_digestOfLink 0 = .ok (.lload_n 1, 1) := by decide +kernel
theorem dX8_digestOfLink_1 : decode cX8_digestOfLink 1 = .ok (.ldc2_w 269, 3) := by decide +kernel
theorem dX8_digestOfLink_4 : decode cX8_digestOfLink 4 = .ok (.lmul, 1) := by decide +kernel
theorem dX8_digestOfLink_5 : decode cX8_digestOfLink 5 = .ok (.aload_n 0, 1) := by decide +kernel
theorem dX8_digestOfLink_6 : decode cX8_digestOfLink 6 = .ok (.getfield 12, 3) := by decide +kernel
theorem dX8_digestOfLink_9 : decode cX8_digestOfLink 9 = .ok (.getfield 80, 3) := by decide +kernel
theorem dX8_digestOfLink_12 : decode cX8_digestOfLink 12 = .ok (.iload_n 3, 1) := by decide +kernel
theorem dX8_digestOfLink_13 : decode cX8_digestOfLink 13 = .ok (.baload, 1) := by decide +kernel
theorem dX8_digestOfLink_14 : decode cX8_digestOfLink 14 = .ok (.ifCond .eq 7, 3) := by decide +kernel
theorem dX8_digestOfLink_17 : decode cX8_digestOfLink 17 = .ok (.iconst 1, 1) := by decide +kernel
theorem dX8_digestOfLink_18 : decode cX8_digestOfLink 18 = .ok (.goto 4, 3) := by decide +kernel
theorem dX8_digestOfLink_21 : decode cX8_digestOfLink 21 = .ok (.iconst 0, 1) := by decide +kernel
theorem dX8_digestOfLink_22 : decode cX8_digestOfLink 22 = .ok (.i2l, 1) := by decide +kernel
theorem dX8_digestOfLink_23 : decode cX8_digestOfLink 23 = .ok (.ladd, 1) := by decide +kernel
theorem dX8_digestOfLink_24 : decode cX8_digestOfLink 24 = .ok (.lstore 4, 2) := by decide +kernel
theorem dX8_digestOfLink_26 : decode cX8_digestOfLink 26 = .ok (.iconst 0, 1) := by decide +kernel
theorem dX8_digestOfLink_27 : decode cX8_digestOfLink 27 = .ok (.istore 6, 2) := by decide +kernel
theorem dX8_digestOfLink_29 : decode cX8_digestOfLink 29 = .ok (.iload 6, 2) := by decide +kernel
theorem dX8_digestOfLink_31 : decode cX8_digestOfLink 31 = .ok (.iconst 2, 1) := by decide +kernel
theorem dX8_digestOfLink_32 : decode cX8_digestOfLink 32 = .ok (.if_icmp .ge 70, 3) := by decide +kernel
theorem dX8_digestOfLink_35 : decode cX8_digestOfLink 35 = .ok (.aload_n 0, 1) := by decide +kernel
theorem dX8_digestOfLink_36 : decode cX8_digestOfLink 36 = .ok (.getfield 21, 3) := by decide +kernel
theorem dX8_digestOfLink_39 : decode cX8_digestOfLink 39 = .ok (.getfield 189, 3) := by decide +kernel
theorem dX8_digestOfLink_42 : decode cX8_digestOfLink 42 = .ok (.iconst 2, 1) := by decide +kernel
theorem dX8_digestOfLink_43 : decode cX8_digestOfLink 43 = .ok (.iload_n 3, 1) := by decide +kernel
theorem dX8_digestOfLink_44 : decode cX8_digestOfLink 44 = .ok (.imul, 1) := by decide +kernel
theorem dX8_digestOfLink_45 : decode cX8_digestOfLink 45 = .ok (.iload 6, 2) := by decide +kernel
theorem dX8_digestOfLink_47 : decode cX8_digestOfLink 47 = .ok (.iadd, 1) := by decide +kernel
theorem dX8_digestOfLink_48 : decode cX8_digestOfLink 48 = .ok (.aaload, 1) := by decide +kernel
theorem dX8_digestOfLink_49 : decode cX8_digestOfLink 49 = .ok (.astore 7, 2) := by decide +kernel
theorem dX8_digestOfLink_51 : decode cX8_digestOfLink 51 = .ok (.lload 4, 2) := by decide +kernel
theorem dX8_digestOfLink_53 : decode cX8_digestOfLink 53 = .ok (.ldc2_w 269, 3) := by decide +kernel
theorem dX8_digestOfLink_56 : decode cX8_digestOfLink 56 = .ok (.lmul, 1) := by decide +kernel
theorem dX8_digestOfLink_57 : decode cX8_digestOfLink 57 = .ok (.aload 7, 2) := by decide +kernel
theorem dX8_digestOfLink_59 : decode cX8_digestOfLink 59 = .ok (.getfield 177, 3) := by decide +kernel
theorem dX8_digestOfLink_62 : decode cX8_digestOfLink 62 = .ok (.i2l, 1) := by decide +kernel
theorem dX8_digestOfLink_63 : decode cX8_digestOfLink 63 = .ok (.ladd, 1) := by decide +kernel
theorem dX8_digestOfLink_64 : decode cX8_digestOfLink 64 = .ok (.lstore 4, 2) := by decide +kernel
theorem dX8_digestOfLink_66 : decode cX8_digestOfLink 66 = .ok (.lload 4, 2) := by decide +kernel
theorem dX8_digestOfLink_68 : decode cX8_digestOfLink 68 = .ok (.ldc2_w 269, 3) := by decide +kernel
theorem dX8_digestOfLink_71 : decode cX8_digestOfLink 71 = .ok (.lmul, 1) := by decide +kernel
theorem dX8_digestOfLink_72 : decode cX8_digestOfLink 72 = .ok (.aload 7, 2) := by decide +kernel
theorem dX8_digestOfLink_74 : decode cX8_digestOfLink 74 = .ok (.getfield 180, 3) := by decide +kernel
theorem dX8_digestOfLink_77 : decode cX8_digestOfLink 77 = .ok (.i2l, 1) := by decide +kernel
theorem dX8_digestOfLink_78 : decode cX8_digestOfLink 78 = .ok (.ladd, 1) := by decide +kernel
theorem dX8_digestOfLink_79 : decode cX8_digestOfLink 79 = .ok (.lstore 4, 2) := by decide +kernel
theorem dX8_digestOfLink_81 : decode cX8_digestOfLink 81 = .ok (.lload 4, 2) := by decide +kernel
theorem dX8_digestOfLink_83 : decode cX8_digestOfLink 83 = .ok (.ldc2_w 269, 3) := by decide +kernel
theorem dX8_digestOfLink_86 : decode cX8_digestOfLink 86 = .ok (.lmul, 1) := by decide +kernel
theorem dX8_digestOfLink_87 : decode cX8_digestOfLink 87 = .ok (.aload 7, 2) := by decide +kernel
theorem dX8_digestOfLink_89 : decode cX8_digestOfLink 89 = .ok (.getfield 183, 3) := by decide +kernel
theorem dX8_digestOfLink_92 : decode cX8_digestOfLink 92 = .ok (.i2l, 1) := by decide +kernel
theorem dX8_digestOfLink_93 : decode cX8_digestOfLink 93 = .ok (.ladd, 1) := by decide +kernel
theorem dX8_digestOfLink_94 : decode cX8_digestOfLink 94 = .ok (.lstore 4, 2) := by decide +kernel
theorem dX8_digestOfLink_96 : decode cX8_digestOfLink 96 = .ok (.iinc 6 1, 3) := by decide +kernel
theorem dX8_digestOfLink_99 : decode cX8_digestOfLink 99 = .ok (.goto (-70), 3) := by decide +kernel
theorem dX8_digestOfLink_102 : decode cX8_digestOfLink 102 = .ok (.lload 4, 2) := by decide +kernel
theorem dX8_digestOfLink_104 : decode cX8_digestOfLink 104 = .ok (.lreturn, 1) := by decide +kernel
theorem dX8_digestOfCaller_0 : decode cX8_digestOfCaller 0 = .ok (.lload_n 0, 1) := by decide +kernel
theorem dX8_digestOfCaller_1 : decode cX8_digestOfCaller 1 = .ok (.ldc2_w 269, 3) := by decide +kernel
theorem dX8_digestOfCaller_4 : decode cX8_digestOfCaller 4 = .ok (.lmul, 1) := by decide +kernel
theorem dX8_digestOfCaller_5 : decode cX8_digestOfCaller 5 = .ok (.aload_n 2, 1) := by decide +kernel
theorem dX8_digestOfCaller_6 : decode cX8_digestOfCaller 6 = .ok (.getfield 193, 3) := by decide +kernel
theorem dX8_digestOfCaller_9 : decode cX8_digestOfCaller 9 = .ok (.i2l, 1) := by decide +kernel
theorem dX8_digestOfCaller_10 : decode cX8_digestOfCaller 10 = .ok (.ladd, 1) := by decide +kernel
theorem dX8_digestOfCaller_11 : decode cX8_digestOfCaller 11 = .ok (.lstore_n 3, 1) := by decide +kernel
theorem dX8_digestOfCaller_12 : decode cX8_digestOfCaller 12 = .ok (.lload_n 3, 1) := by decide +kernel
theorem dX8_digestOfCaller_13 : decode cX8_digestOfCaller 13 = .ok (.ldc2_w 269, 3) := by decide +kernel
theorem dX8_digestOfCaller_16 : decode cX8_digestOfCaller 16 = .ok (.lmul, 1) := by decide +kernel
theorem dX8_digestOfCaller_17 : decode cX8_digestOfCaller 17 = .ok (.aload_n 2, 1) := by decide +kernel
theorem dX8_digestOfCaller_18 : decode cX8_digestOfCaller 18 = .ok (.getfield 116, 3) := by decide +kernel
theorem dX8_digestOfCaller_21 : decode cX8_digestOfCaller 21 = .ok (.i2l, 1) := by decide +kernel
theorem dX8_digestOfCaller_22 : decode cX8_digestOfCaller 22 = .ok (.ladd, 1) := by decide +kernel
theorem dX8_digestOfCaller_23 : decode cX8_digestOfCaller 23 = .ok (.lstore_n 3, 1) := by decide +kernel
theorem dX8_digestOfCaller_24 : decode cX8_digestOfCaller 24 = .ok (.lload_n 3, 1) := by decide +kernel
theorem dX8_digestOfCaller_25 : decode cX8_digestOfCaller 25 = .ok (.ldc2_w 269, 3) := by decide +kernel
theorem dX8_digestOfCaller_28 : decode cX8_digestOfCaller 28 = .ok (.lmul, 1) := by decide +kernel
theorem dX8_digestOfCaller_29 : decode cX8_digestOfCaller 29 = .ok (.aload_n 2, 1) := by decide +kernel
theorem dX8_digestOfCaller_30 : decode cX8_digestOfCaller 30 = .ok (.getfield 130, 3) := by decide +kernel
theorem dX8_digestOfCaller_33 : decode cX8_digestOfCaller 33 = .ok (.i2l, 1) := by decide +kernel
theorem dX8_digestOfCaller_34 : decode cX8_digestOfCaller 34 = .ok (.ladd, 1) := by decide +kernel
theorem dX8_digestOfCaller_35 : decode cX8_digestOfCaller 35 = .ok (.lstore_n 3, 1) := by decide +kernel
theorem dX8_digestOfCaller_36 : decode cX8_digestOfCaller 36 = .ok (.lload_n 3, 1) := by decide +kernel
theorem dX8_digestOfCaller_37 : decode cX8_digestOfCaller 37 = .ok (.ldc2_w 269, 3) := by decide +kernel
theorem dX8_digestOfCaller_40 : decode cX8_digestOfCaller 40 = .ok (.lmul, 1) := by decide +kernel
theorem dX8_digestOfCaller_41 : decode cX8_digestOfCaller 41 = .ok (.aload_n 2, 1) := by decide +kernel
theorem dX8_digestOfCaller_42 : decode cX8_digestOfCaller 42 = .ok (.getfield 196, 3) := by decide +kernel
theorem dX8_digestOfCaller_45 : decode cX8_digestOfCaller 45 = .ok (.i2l, 1) := by decide +kernel
theorem dX8_digestOfCaller_46 : decode cX8_digestOfCaller 46 = .ok (.ladd, 1) := by decide +kernel
theorem dX8_digestOfCaller_47 : decode cX8_digestOfCaller 47 = .ok (.lstore_n 3, 1) := by decide +kernel
theorem dX8_digestOfCaller_48 : decode cX8_digestOfCaller 48 = .ok (.lload_n 3, 1) := by decide +kernel
theorem dX8_digestOfCaller_49 : decode cX8_digestOfCaller 49 = .ok (.ldc2_w 269, 3) := by decide +kernel
theorem dX8_digestOfCaller_52 : decode cX8_digestOfCaller 52 = .ok (.lmul, 1) := by decide +kernel
theorem dX8_digestOfCaller_53 : decode cX8_digestOfCaller 53 = .ok (.aload_n 2, 1) := by decide +kernel
theorem dX8_digestOfCaller_54 : decode cX8_digestOfCaller 54 = .ok (.getfield 199, 3) := by decide +kernel
theorem dX8_digestOfCaller_57 : decode cX8_digestOfCaller 57 = .ok (.i2l, 1) := by decide +kernel
theorem dX8_digestOfCaller_58 : decode cX8_digestOfCaller 58 = .ok (.ladd, 1) := by decide +kernel
theorem dX8_digestOfCaller_59 : decode cX8_digestOfCaller 59 = .ok (.lstore_n 3, 1) := by decide +kernel
theorem dX8_digestOfCaller_60 : decode cX8_digestOfCaller 60 = .ok (.lload_n 3, 1) := by decide +kernel
theorem dX8_digestOfCaller_61 : decode cX8_digestOfCaller 61 = .ok (.ldc2_w 269, 3) := by decide +kernel
theorem dX8_digestOfCaller_64 : decode cX8_digestOfCaller 64 = .ok (.lmul, 1) := by decide +kernel
theorem dX8_digestOfCaller_65 : decode cX8_digestOfCaller 65 = .ok (.aload_n 2, 1) := by decide +kernel
theorem dX8_digestOfCaller_66 : decode cX8_digestOfCaller 66 = .ok (.getfield 202, 3) := by decide +kernel
theorem dX8_digestOfCaller_69 : decode cX8_digestOfCaller 69 = .ok (.i2l, 1) := by decide +kernel
theorem dX8_digestOfCaller_70 : decode cX8_digestOfCaller 70 = .ok (.ladd, 1) := by decide +kernel
theorem dX8_digestOfCaller_71 : decode cX8_digestOfCaller 71 = .ok (.lstore_n 3, 1) := by decide +kernel
theorem dX8_digestOfCaller_72 : decode cX8_digestOfCaller 72 = .ok (.lload_n 3, 1) := by decide +kernel
theorem dX8_digestOfCaller_73 : decode cX8_digestOfCaller 73 = .ok (.ldc2_w 269, 3) := by decide +kernel
theorem dX8_digestOfCaller_76 : decode cX8_digestOfCaller 76 = .ok (.lmul, 1) := by decide +kernel
theorem dX8_digestOfCaller_77 : decode cX8_digestOfCaller 77 = .ok (.aload_n 2, 1) := by decide +kernel
theorem dX8_digestOfCaller_78 : decode cX8_digestOfCaller 78 = .ok (.getfield 205, 3) := by decide +kernel
theorem dX8_digestOfCaller_81 : decode cX8_digestOfCaller 81 = .ok (.i2l, 1) := by decide +kernel
theorem dX8_digestOfCaller_82 : decode cX8_digestOfCaller 82 = .ok (.ladd, 1) := by decide +kernel
theorem dX8_digestOfCaller_83 : decode cX8_digestOfCaller 83 = .ok (.lstore_n 3, 1) := by decide +kernel
theorem dX8_digestOfCaller_84 : decode cX8_digestOfCaller 84 = .ok (.lload_n 3, 1) := by decide +kernel
theorem dX8_digestOfCaller_85 : decode cX8_digestOfCaller 85 = .ok (.ldc2_w 269, 3) := by decide +kernel
theorem dX8_digestOfCaller_88 : decode cX8_digestOfCaller 88 = .ok (.lmul, 1) := by decide +kernel
theorem dX8_digestOfCaller_89 : decode cX8_digestOfCaller 89 = .ok (.aload_n 2, 1) := by decide +kernel
theorem dX8_digestOfCaller_90 : decode cX8_digestOfCaller 90 = .ok (.getfield 208, 3) := by decide +kernel
theorem dX8_digestOfCaller_93 : decode cX8_digestOfCaller 93 = .ok (.i2l, 1) := by decide +kernel
theorem dX8_digestOfCaller_94 : decode cX8_digestOfCaller 94 = .ok (.ladd, 1) := by decide +kernel
theorem dX8_digestOfCaller_95 : decode cX8_digestOfCaller 95 = .ok (.lstore_n 3, 1) := by decide +kernel
theorem dX8_digestOfCaller_96 : decode cX8_digestOfCaller 96 = .ok (.lload_n 3, 1) := by decide +kernel
theorem dX8_digestOfCaller_97 : decode cX8_digestOfCaller 97 = .ok (.ldc2_w 269, 3) := by decide +kernel
theorem dX8_digestOfCaller_100 : decode cX8_digestOfCaller 100 = .ok (.lmul, 1) := by decide +kernel
theorem dX8_digestOfCaller_101 : decode cX8_digestOfCaller 101 = .ok (.aload_n 2, 1) := by decide +kernel
theorem dX8_digestOfCaller_102 : decode cX8_digestOfCaller 102 = .ok (.getfield 211, 3) := by decide +kernel
theorem dX8_digestOfCaller_105 : decode cX8_digestOfCaller 105 = .ok (.i2l, 1) := by decide +kernel
theorem dX8_digestOfCaller_106 : decode cX8_digestOfCaller 106 = .ok (.ladd, 1) := by decide +kernel
theorem dX8_digestOfCaller_107 : decode cX8_digestOfCaller 107 = .ok (.lstore_n 3, 1) := by decide +kernel
theorem dX8_digestOfCaller_108 : decode cX8_digestOfCaller 108 = .ok (.lload_n 3, 1) := by decide +kernel
theorem dX8_digestOfCaller_109 : decode cX8_digestOfCaller 109 = .ok (.ldc2_w 269, 3) := by decide +kernel
theorem dX8_digestOfCaller_112 : decode cX8_digestOfCaller 112 = .ok (.lmul, 1) := by decide +kernel
theorem dX8_digestOfCaller_113 : decode cX8_digestOfCaller 113 = .ok (.aload_n 2, 1) := by decide +kernel
theorem dX8_digestOfCaller_114 : decode cX8_digestOfCaller 114 = .ok (.getfield 214, 3) := by decide +kernel
theorem dX8_digestOfCaller_117 : decode cX8_digestOfCaller 117 = .ok (.getfield 218, 3) := by decide +kernel
theorem dX8_digestOfCaller_120 : decode cX8_digestOfCaller 120 = .ok (.i2l, 1) := by decide +kernel
theorem dX8_digestOfCaller_121 : decode cX8_digestOfCaller 121 = .ok (.ladd, 1) := by decide +kernel
theorem dX8_digestOfCaller_122 : decode cX8_digestOfCaller 122 = .ok (.lstore_n 3, 1) := by decide +kernel
theorem dX8_digestOfCaller_123 : decode cX8_digestOfCaller 123 = .ok (.lload_n 3, 1) := by decide +kernel
theorem dX8_digestOfCaller_124 : decode cX8_digestOfCaller 124 = .ok (.ldc2_w 269, 3) := by decide +kernel
theorem dX8_digestOfCaller_127 : decode cX8_digestOfCaller 127 = .ok (.lmul, 1) := by decide +kernel
theorem dX8_digestOfCaller_128 : decode cX8_digestOfCaller 128 = .ok (.aload_n 2, 1) := by decide +kernel
theorem dX8_digestOfCaller_129 : decode cX8_digestOfCaller 129 = .ok (.getfield 214, 3) := by decide +kernel
theorem dX8_digestOfCaller_132 : decode cX8_digestOfCaller 132 = .ok (.getfield 223, 3) := by decide +kernel
theorem dX8_digestOfCaller_135 : decode cX8_digestOfCaller 135 = .ok (.i2l, 1) := by decide +kernel
theorem dX8_digestOfCaller_136 : decode cX8_digestOfCaller 136 = .ok (.ladd, 1) := by decide +kernel
theorem dX8_digestOfCaller_137 : decode cX8_digestOfCaller 137 = .ok (.lstore_n 3, 1) := by decide +kernel
theorem dX8_digestOfCaller_138 : decode cX8_digestOfCaller 138 = .ok (.lload_n 3, 1) := by decide +kernel
theorem dX8_digestOfCaller_139 : decode cX8_digestOfCaller 139 = .ok (.ldc2_w 269, 3) := by decide +kernel
theorem dX8_digestOfCaller_142 : decode cX8_digestOfCaller 142 = .ok (.lmul, 1) := by decide +kernel
theorem dX8_digestOfCaller_143 : decode cX8_digestOfCaller 143 = .ok (.aload_n 2, 1) := by decide +kernel
theorem dX8_digestOfCaller_144 : decode cX8_digestOfCaller 144 = .ok (.getfield 214, 3) := by decide +kernel
theorem dX8_digestOfCaller_147 : decode cX8_digestOfCaller 147 = .ok (.getfield 226, 3) := by decide +kernel
theorem dX8_digestOfCaller_150 : decode cX8_digestOfCaller 150 = .ok (.i2l, 1) := by decide +kernel
theorem dX8_digestOfCaller_151 : decode cX8_digestOfCaller 151 = .ok (.ladd, 1) := by decide +kernel
theorem dX8_digestOfCaller_152 : decode cX8_digestOfCaller 152 = .ok (.lstore_n 3, 1) := by decide +kernel
theorem dX8_digestOfCaller_153 : decode cX8_digestOfCaller 153 = .ok (.lload_n 3, 1) := by decide +kernel
theorem dX8_digestOfCaller_154 : decode cX8_digestOfCaller 154 = .ok (.ldc2_w 269, 3) := by decide +kernel
theorem dX8_digestOfCaller_157 : decode cX8_digestOfCaller 157 = .ok (.lmul, 1) := by decide +kernel
theorem dX8_digestOfCaller_158 : decode cX8_digestOfCaller 158 = .ok (.aload_n 2, 1) := by decide +kernel
theorem dX8_digestOfCaller_159 : decode cX8_digestOfCaller 159 = .ok (.getfield 229, 3) := by decide +kernel
theorem dX8_digestOfCaller_162 : decode cX8_digestOfCaller 162 = .ok (.i2l, 1) := by decide +kernel
theorem dX8_digestOfCaller_163 : decode cX8_digestOfCaller 163 = .ok (.ladd, 1) := by decide +kernel
theorem dX8_digestOfCaller_164 : decode cX8_digestOfCaller 164 = .ok (.lstore_n 3, 1) := by decide +kernel
theorem dX8_digestOfCaller_165 : decode cX8_digestOfCaller 165 = .ok (.lload_n 3, 1) := by decide +kernel
theorem dX8_digestOfCaller_166 : decode cX8_digestOfCaller 166 = .ok (.ldc2_w 269, 3) := by decide +kernel
theorem dX8_digestOfCaller_169 : decode cX8_digestOfCaller 169 = .ok (.lmul, 1) := by decide +kernel
theorem dX8_digestOfCaller_170 : decode cX8_digestOfCaller 170 = .ok (.aload_n 2, 1) := by decide +kernel
theorem dX8_digestOfCaller_171 : decode cX8_digestOfCaller 171 = .ok (.getfield 214, 3) := by decide +kernel
theorem dX8_digestOfCaller_174 : decode cX8_digestOfCaller 174 = .ok (.getfield 232, 3) := by decide +kernel
theorem dX8_digestOfCaller_177 : decode cX8_digestOfCaller 177 = .ok (.i2l, 1) := by decide +kernel
theorem dX8_digestOfCaller_178 : decode cX8_digestOfCaller 178 = .ok (.ladd, 1) := by decide +kernel
theorem dX8_digestOfCaller_179 : decode cX8_digestOfCaller 179 = .ok (.lstore_n 3, 1) := by decide +kernel
theorem dX8_digestOfCaller_180 : decode cX8_digestOfCaller 180 = .ok (.lload_n 3, 1) := by decide +kernel
theorem dX8_digestOfCaller_181 : decode cX8_digestOfCaller 181 = .ok (.ldc2_w 269, 3) := by decide +kernel
theorem dX8_digestOfCaller_184 : decode cX8_digestOfCaller 184 = .ok (.lmul, 1) := by decide +kernel
theorem dX8_digestOfCaller_185 : decode cX8_digestOfCaller 185 = .ok (.aload_n 2, 1) := by decide +kernel
theorem dX8_digestOfCaller_186 : decode cX8_digestOfCaller 186 = .ok (.getfield 235, 3) := by decide +kernel
theorem dX8_digestOfCaller_189 : decode cX8_digestOfCaller 189 = .ok (.i2l, 1) := by decide +kernel
theorem dX8_digestOfCaller_190 : decode cX8_digestOfCaller 190 = .ok (.ladd, 1) := by decide +kernel
theorem dX8_digestOfCaller_191 : decode cX8_digestOfCaller 191 = .ok (.lstore_n 3, 1) := by decide +kernel
theorem dX8_digestOfCaller_192 : decode cX8_digestOfCaller 192 = .ok (.lload_n 3, 1) := by decide +kernel
theorem dX8_digestOfCaller_193 : decode cX8_digestOfCaller 193 = .ok (.ldc2_w 269, 3) := by decide +kernel
theorem dX8_digestOfCaller_196 : decode cX8_digestOfCaller 196 = .ok (.lmul, 1) := by decide +kernel
theorem dX8_digestOfCaller_197 : decode cX8_digestOfCaller 197 = .ok (.aload_n 2, 1) := by decide +kernel
theorem dX8_digestOfCaller_198 : decode cX8_digestOfCaller 198 = .ok (.getfield 238, 3) := by decide +kernel
theorem dX8_digestOfCaller_201 : decode cX8_digestOfCaller 201 = .ok (.i2l, 1) := by decide +kernel
theorem dX8_digestOfCaller_202 : decode cX8_digestOfCaller 202 = .ok (.ladd, 1) := by decide +kernel
theorem dX8_digestOfCaller_203 : decode cX8_digestOfCaller 203 = .ok (.lreturn, 1) := by decide +kernel
set_option maxRecDepth 20000 in
theorem ggX8_digestOfCallee_X2_unread : GoodIn wsX8_digestOfCallee wsX2_unread := goodIn_r _ [9, 10, 11, 12, 13, 14, 15, 16, 17, 18, 19, 20, 21, 22, 23, 24, 25, 26, 27, 28, 29, 30, 31, 32, 33, 34, 35, 36, 37, 38, 39, 40] (by decide +kernel) (by decide +kernel)
set_option maxRecDepth 20000 in
theorem gX8_digestOfCallee_X2_unread : GoodIn wsX8_digestOfCallee (wsV RX8 137 RX2 yX2_unread wsX2_unread) := goodIn_app (goodIn_of _ (by decide +kernel)) ggX8_digestOfCallee_X2_unread
theorem dX8_digestOfCallee_0 : decode cX8_digestOfCallee 0 = .ok (.lload_n 0, 1) := by decide +kernel
theorem dX8_digestOfCallee_1 : decode cX8_digestOfCallee 1 = .ok (.ldc2_w 269, 3) := by decide +kernel
theorem dX8_digestOfCallee_4 : decode cX8_digestOfCallee 4 = .ok (.lmul, 1) := by decide +kernel
theorem dX8_digestOfCallee_5 : decode cX8_digestOfCallee 5 = .ok (.aload_n 2, 1) := by decide +kernel
theorem dX8_digestOfCallee_6 : decode cX8_digestOfCallee 6 = .ok (.getfield 150, 3) := by decide +kernel
theorem dX8_digestOfCallee_9 : decode cX8_digestOfCallee 9 = .ok (.getfield 241, 3) := by decide +kernel
theorem dX8_digestOfCallee_12 : decode cX8_digestOfCallee 12 = .ok (.i2l, 1) := by decide +kernel
theorem dX8_digestOfCallee_13 : decode cX8_digestOfCallee 13 = .ok (.ladd, 1) := by decide +kernel
theorem dX8_digestOfCallee_14 : decode cX8_digestOfCallee 14 = .ok (.lstore_n 3, 1) := by decide +kernel
theorem dX8_digestOfCallee_15 : decode cX8_digestOfCallee 15 = .ok (.lload_n 3, 1) := by decide +kernel
theorem dX8_digestOfCallee_16 : decode cX8_digestOfCallee 16 = .ok (.ldc2_w 269, 3) := by decide +kernel
theorem dX8_digestOfCallee_19 : decode cX8_digestOfCallee 19 = .ok (.lmul, 1) := by decide +kernel
theorem dX8_digestOfCallee_20 : decode cX8_digestOfCallee 20 = .ok (.aload_n 2, 1) := by decide +kernel
theorem dX8_digestOfCallee_21 : decode cX8_digestOfCallee 21 = .ok (.invokevirtual 137, 3) := by decide +kernel
theorem dX8_digestOfCallee_24 : decode cX8_digestOfCallee 24 = .ok (.i2l, 1) := by decide +kernel
theorem dX8_digestOfCallee_25 : decode cX8_digestOfCallee 25 = .ok (.ladd, 1) := by decide +kernel
theorem dX8_digestOfCallee_26 : decode cX8_digestOfCallee 26 = .ok (.lstore_n 3, 1) := by decide +kernel
theorem dX8_digestOfCallee_27 : decode cX8_digestOfCallee 27 = .ok (.lload_n 3, 1) := by decide +kernel
theorem dX8_digestOfCallee_28 : decode cX8_digestOfCallee 28 = .ok (.ldc2_w 269, 3) := by decide +kernel
theorem dX8_digestOfCallee_31 : decode cX8_digestOfCallee 31 = .ok (.lmul, 1) := by decide +kernel
theorem dX8_digestOfCallee_32 : decode cX8_digestOfCallee 32 = .ok (.aload_n 2, 1) := by decide +kernel
theorem dX8_digestOfCallee_33 : decode cX8_digestOfCallee 33 = .ok (.getfield 150, 3) := by decide +kernel
theorem dX8_digestOfCallee_36 : decode cX8_digestOfCallee 36 = .ok (.getfield 159, 3) := by decide +kernel
theorem dX8_digestOfCallee_39 : decode cX8_digestOfCallee 39 = .ok (.i2l, 1) := by decide +kernel
theorem dX8_digestOfCallee_40 : decode cX8_digestOfCallee 40 = .ok (.ladd, 1) := by decide +kernel
theorem dX8_digestOfCallee_41 : decode cX8_digestOfCallee 41 = .ok (.lreturn, 1) := by decide +kernel
theorem dX8_checkNode_0 : decode cX8_checkNode 0 = .ok (.iload_n 1, 1) := by decide +kernel
theorem dX8_checkNode_1 : decode cX8_checkNode 1 = .ok (.ifCond .lt 14, 3) := by decide +kernel
theorem dX8_checkNode_4 : decode cX8_checkNode 4 = .ok (.iload_n 1, 1) := by decide +kernel
theorem dX8_checkNode_5 : decode cX8_checkNode 5 = .ok (.aload_n 0, 1) := by decide +kernel
theorem dX8_checkNode_6 : decode cX8_checkNode 6 = .ok (.getfield 12, 3) := by decide +kernel
theorem dX8_checkNode_9 : decode cX8_checkNode 9 = .ok (.getfield 33, 3) := by decide +kernel
theorem dX8_checkNode_12 : decode cX8_checkNode 12 = .ok (.if_icmp .lt 14, 3) := by decide +kernel
theorem dX8_checkNode_15 : decode cX8_checkNode 15 = .ok (.new 297, 3) := by decide +kernel
theorem dX8_checkNode_18 : decode cX8_checkNode 18 = .ok (.dup, 1) := by decide +kernel
theorem dX8_checkNode_19 : decode cX8_checkNode 19 = .ok (.ldc_w 299, 3) := by decide +kernel
theorem dX8_checkNode_22 : decode cX8_checkNode 22 = .ok (.invokespecial 301, 3) := by decide +kernel
theorem dX8_checkNode_25 : decode cX8_checkNode 25 = .ok (.athrow, 1) := by decide +kernel
theorem dX8_checkNode_26 : decode cX8_checkNode 26 = .ok (.return_, 1) := by decide +kernel
theorem dX8_checkLink_0 : decode cX8_checkLink 0 = .ok (.iload_n 1, 1) := by decide +kernel
theorem dX8_checkLink_1 : decode cX8_checkLink 1 = .ok (.ifCond .lt 14, 3) := by decide +kernel
theorem dX8_checkLink_4 : decode cX8_checkLink 4 = .ok (.iload_n 1, 1) := by decide +kernel
theorem dX8_checkLink_5 : decode cX8_checkLink 5 = .ok (.aload_n 0, 1) := by decide +kernel
theorem dX8_checkLink_6 : decode cX8_checkLink 6 = .ok (.getfield 12, 3) := by decide +kernel
theorem dX8_checkLink_9 : decode cX8_checkLink 9 = .ok (.getfield 61, 3) := by decide +kernel
theorem dX8_checkLink_12 : decode cX8_checkLink 12 = .ok (.if_icmp .lt 14, 3) := by decide +kernel
theorem dX8_checkLink_15 : decode cX8_checkLink 15 = .ok (.new 297, 3) := by decide +kernel
theorem dX8_checkLink_18 : decode cX8_checkLink 18 = .ok (.dup, 1) := by decide +kernel
theorem dX8_checkLink_19 : decode cX8_checkLink 19 = .ok (.ldc_w 302, 3) := by decide +kernel
theorem dX8_checkLink_22 : decode cX8_checkLink 22 = .ok (.invokespecial 301, 3) := by decide +kernel
theorem dX8_checkLink_25 : decode cX8_checkLink 25 = .ok (.athrow, 1) := by decide +kernel
theorem dX8_checkLink_26 : decode cX8_checkLink 26 = .ok (.return_, 1) := by decide +kernel
theorem dX8_checkRange_0 : decode cX8_checkRange 0 = .ok (.iload_n 0, 1) := by decide +kernel
theorem dX8_checkRange_1 : decode cX8_checkRange 1 = .ok (.iload_n 1, 1) := by decide +kernel
theorem dX8_checkRange_2 : decode cX8_checkRange 2 = .ok (.if_icmp .lt 8, 3) := by decide +kernel
theorem dX8_checkRange_5 : decode cX8_checkRange 5 = .ok (.iload_n 0, 1) := by decide +kernel
theorem dX8_checkRange_6 : decode cX8_checkRange 6 = .ok (.iload_n 2, 1) := by decide +kernel
theorem dX8_checkRange_7 : decode cX8_checkRange 7 = .ok (.if_icmp .le 14, 3) := by decide +kernel
theorem dX8_checkRange_10 : decode cX8_checkRange 10 = .ok (.new 52, 3) := by decide +kernel
theorem dX8_checkRange_13 : decode cX8_checkRange 13 = .ok (.dup, 1) := by decide +kernel
theorem dX8_checkRange_14 : decode cX8_checkRange 14 = .ok (.ldc_w 304, 3) := by decide +kernel
theorem dX8_checkRange_17 : decode cX8_checkRange 17 = .ok (.invokespecial 56, 3) := by decide +kernel
theorem dX8_checkRange_20 : decode cX8_checkRange 20 = .ok (.athrow, 1) := by decide +kernel
theorem dX8_checkRange_21 : decode cX8_checkRange 21 = .ok (.return_, 1) := by decide +kernel
theorem dX8_checkTakesThings_0 : decode cX8_checkTakesThings 0 = .ok (.aload_n 0, 1) := by decide +kernel
theorem dX8_checkTakesThings_1 : decode cX8_checkTakesThings 1 = .ok (.getfield 193, 3) := by decide +kernel
theorem dX8_checkTakesThings_4 : decode cX8_checkTakesThings 4 = .ok (.iconst 2, 1) := by decide +kernel
theorem dX8_checkTakesThings_5 : decode cX8_checkTakesThings 5 = .ok (.if_icmp .eq 18, 3) := by decide +kernel
theorem dX8_checkTakesThings_8 : decode cX8_checkTakesThings 8 = .ok (.aload_n 0, 1) := by decide +kernel
theorem dX8_checkTakesThings_9 : decode cX8_checkTakesThings 9 = .ok (.getfield 193, 3) := by decide +kernel
theorem dX8_checkTakesThings_12 : decode cX8_checkTakesThings 12 = .ok (.iconst 3, 1) := by decide +kernel
theorem dX8_checkTakesThings_13 : decode cX8_checkTakesThings 13 = .ok (.if_icmp .eq 10, 3) := by decide +kernel
theorem dX8_checkTakesThings_16 : decode cX8_checkTakesThings 16 = .ok (.aload_n 0, 1) := by decide +kernel
theorem dX8_checkTakesThings_17 : decode cX8_checkTakesThings 17 = .ok (.getfield 123, 3) := by decide +kernel
theorem dX8_checkTakesThings_20 : decode cX8_checkTakesThings 20 = .ok (.ifCond .eq 14, 3) := by decide +kernel
theorem dX8_checkTakesThings_23 : decode cX8_checkTakesThings 23 = .ok (.new 37, 3) := by decide +kernel
theorem dX8_checkTakesThings_26 : decode cX8_checkTakesThings 26 = .ok (.dup, 1) := by decide +kernel
theorem dX8_checkTakesThings_27 : decode cX8_checkTakesThings 27 = .ok (.ldc_w 306, 3) := by decide +kernel
theorem dX8_checkTakesThings_30 : decode cX8_checkTakesThings 30 = .ok (.invokespecial 41, 3) := by decide +kernel
theorem dX8_checkTakesThings_33 : decode cX8_checkTakesThings 33 = .ok (.athrow, 1) := by decide +kernel
theorem dX8_checkTakesThings_34 : decode cX8_checkTakesThings 34 = .ok (.return_, 1) := by decide +kernel
set_option maxRecDepth 20000 in
theorem ggX8_wayOf_X8_checkLink : GoodIn wsX8_wayOf wsX8_checkLink := goodIn_ca (goodIn_r _ [9, 1, 2, 10, 11, 12, 13, 14, 15, 22, 23, 24, 25, 26, 27, 28, 29, 30] (by decide +kernel) (by decide +kernel)) (goodIn_sub (fun _ h => List.mem_cons_of_mem _ (List.mem_append_right _ h)) (by decide +kernel))
set_option maxRecDepth 20000 in
theorem gX8_wayOf_X8_checkLink : GoodIn wsX8_wayOf (wsV RX8 74 RX8 yX8_checkLink wsX8_checkLink) := goodIn_app (goodIn_of _ (by decide +kernel)) ggX8_wayOf_X8_checkLink
theorem dX8_wayOf_0 : decode cX8_wayOf 0 = .ok (.aload_n 0, 1) := by decide +kernel
theorem dX8_wayOf_1 : decode cX8_wayOf 1 = .ok (.iload_n 1, 1) := by decide +kernel
theorem dX8_wayOf_2 : decode cX8_wayOf 2 = .ok (.invokevirtual 74, 3) := by decide +kernel
theorem dX8_wayOf_5 : decode cX8_wayOf 5 = .ok (.iload_n 2, 1) := by decide +kernel
theorem dX8_wayOf_6 : decode cX8_wayOf 6 = .ok (.ifCond .lt 8, 3) := by decide +kernel
theorem dX8_wayOf_9 : decode cX8_wayOf 9 = .ok (.iload_n 2, 1) := by decide +kernel
theorem dX8_wayOf_10 : decode cX8_wayOf 10 = .ok (.iconst 1, 1) := by decide +kernel
theorem dX8_wayOf_11 : decode cX8_wayOf 11 = .ok (.if_icmp .le 14, 3) := by decide +kernel
theorem dX8_wayOf_14 : decode cX8_wayOf 14 = .ok (.new 297, 3) := by decide +kernel
theorem dX8_wayOf_17 : decode cX8_wayOf 17 = .ok (.dup, 1) := by decide +kernel
theorem dX8_wayOf_18 : decode cX8_wayOf 18 = .ok (.ldc_w 308, 3) := by decide +kernel
theorem dX8_wayOf_21 : decode cX8_wayOf 21 = .ok (.invokespecial 301, 3) := by decide +kernel
theorem dX8_wayOf_24 : decode cX8_wayOf 24 = .ok (.athrow, 1) := by decide +kernel
theorem dX8_wayOf_25 : decode cX8_wayOf 25 = .ok (.aload_n 0, 1) := by decide +kernel
theorem dX8_wayOf_26 : decode cX8_wayOf 26 = .ok (.getfield 21, 3) := by decide +kernel
theorem dX8_wayOf_29 : decode cX8_wayOf 29 = .ok (.getfield 189, 3) := by decide +kernel
theorem dX8_wayOf_32 : decode cX8_wayOf 32 = .ok (.iconst 2, 1) := by decide +kernel
theorem dX8_wayOf_33 : decode cX8_wayOf 33 = .ok (.iload_n 1, 1) := by decide +kernel
theorem dX8_wayOf_34 : decode cX8_wayOf 34 = .ok (.imul, 1) := by decide +kernel
theorem dX8_wayOf_35 : decode cX8_wayOf 35 = .ok (.iload_n 2, 1) := by decide +kernel
theorem dX8_wayOf_36 : decode cX8_wayOf 36 = .ok (.iadd, 1) := by decide +kernel
theorem dX8_wayOf_37 : decode cX8_wayOf 37 = .ok (.aaload, 1) := by decide +kernel
theorem dX8_wayOf_38 : decode cX8_wayOf 38 = .ok (.areturn, 1) := by decide +kernel
theorem dX8_connectionOf_0 : decode cX8_connectionOf 0 = .ok (.iload_n 1, 1) := by decide +kernel
theorem dX8_connectionOf_1 : decode cX8_connectionOf 1 = .ok (.ifCond .lt 14, 3) := by decide +kernel
theorem dX8_connectionOf_4 : decode cX8_connectionOf 4 = .ok (.iload_n 1, 1) := by decide +kernel
theorem dX8_connectionOf_5 : decode cX8_connectionOf 5 = .ok (.aload_n 0, 1) := by decide +kernel
theorem dX8_connectionOf_6 : decode cX8_connectionOf 6 = .ok (.getfield 21, 3) := by decide +kernel
theorem dX8_connectionOf_9 : decode cX8_connectionOf 9 = .ok (.getfield 99, 3) := by decide +kernel
theorem dX8_connectionOf_12 : decode cX8_connectionOf 12 = .ok (.if_icmp .lt 14, 3) := by decide +kernel
theorem dX8_connectionOf_15 : decode cX8_connectionOf 15 = .ok (.new 297, 3) := by decide +kernel
theorem dX8_connectionOf_18 : decode cX8_connectionOf 18 = .ok (.dup, 1) := by decide +kernel
theorem dX8_connectionOf_19 : decode cX8_connectionOf 19 = .ok (.ldc_w 310, 3) := by decide +kernel
theorem dX8_connectionOf_22 : decode cX8_connectionOf 22 = .ok (.invokespecial 301, 3) := by decide +kernel
theorem dX8_connectionOf_25 : decode cX8_connectionOf 25 = .ok (.athrow, 1) := by decide +kernel
theorem dX8_connectionOf_26 : decode cX8_connectionOf 26 = .ok (.aload_n 0, 1) := by decide +kernel
theorem dX8_connectionOf_27 : decode cX8_connectionOf 27 = .ok (.getfield 21, 3) := by decide +kernel
theorem dX8_connectionOf_30 : decode cX8_connectionOf 30 = .ok (.getfield 247, 3) := by decide +kernel
theorem dX8_connectionOf_33 : decode cX8_connectionOf 33 = .ok (.iload_n 1, 1) := by decide +kernel
theorem dX8_connectionOf_34 : decode cX8_connectionOf 34 = .ok (.aaload, 1) := by decide +kernel
theorem dX8_connectionOf_35 : decode cX8_connectionOf 35 = .ok (.areturn, 1) := by decide +kernel
set_option maxRecDepth 20000 in
theorem ggX8_callerOf_X8_connectionOf : GoodIn wsX8_callerOf wsX8_connectionOf := goodIn_ca (goodIn_r _ [6, 7, 8, 9, 10, 11, 16, 17, 18, 19, 20, 21, 22, 23, 24, 25] (by decide +kernel) (by decide +kernel)) (goodIn_sub (fun _ h => List.mem_cons_of_mem _ (List.mem_append_right _ h)) (by decide +kernel))
set_option maxRecDepth 20000 in
theorem gX8_callerOf_X8_connectionOf : GoodIn wsX8_callerOf (wsV RX8 133 RX8 yX8_connectionOf wsX8_connectionOf) := goodIn_app (goodIn_of _ (by decide +kernel)) ggX8_callerOf_X8_connectionOf
theorem dX8_callerOf_0 : decode cX8_callerOf 0 = .ok (.aload_n 0, 1) := by decide +kernel
theorem dX8_callerOf_1 : decode cX8_callerOf 1 = .ok (.iload_n 1, 1) := by decide +kernel
theorem dX8_callerOf_2 : decode cX8_callerOf 2 = .ok (.invokevirtual 133, 3) := by decide +kernel
theorem dX8_callerOf_5 : decode cX8_callerOf 5 = .ok (.getfield 251, 3) := by decide +kernel
theorem dX8_callerOf_8 : decode cX8_callerOf 8 = .ok (.areturn, 1) := by decide +kernel
