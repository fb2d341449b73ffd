set_option maxRecDepth 20000 in
theorem ggX8_addLink_X8_checkNode : GoodIn wsX8_addLink wsX8_checkNode := goodIn_ca (goodIn_r _ [11, 12, 13, 5, 14, 50, 51, 52, 53, 54, 55, 56, 57, 58, 59, 60, 61, 62] (by decide +kernel) (by decide +kernel)) (goodIn_sub (fun _ h => List.mem_cons_of_mem _ (List.mem_append_right _ h)) (by decide +kernel))
set_option maxRecDepth 20000 in
theorem gX8_addLink_X8_checkNode : GoodIn wsX8_addLink (wsV RX8 48 RX8 yX8_checkNode wsX8_checkNode) := goodIn_app (goodIn_of _ (by decide +kernel)) ggX8_addLink_X8_checkNode
set_option maxRecDepth 20000 in
theorem ggX8_addLink_X8_checkRange : GoodIn wsX8_addLink wsX8_checkRange := goodIn_ca (goodIn_r _ [17, 1, 2] (by decide +kernel) (by decide +kernel)) (goodIn_sub (fun _ h => List.mem_cons_of_mem _ (List.mem_append_left _ (List.mem_append_left _ (List.mem_append_right _ h)))) (by decide +kernel))
set_option maxRecDepth 20000 in
theorem gX8_addLink_X8_checkRange : GoodIn wsX8_addLink (va_wsS RX8 57 yX8_checkRange wsX8_checkRange) := goodIn_app (goodIn_of _ (by decide +kernel)) ggX8_addLink_X8_checkRange
theorem dX8_addLink_0 : decode cX8_addLink 0 = .ok (.aload_n 0, 1) := by decide +kernel
theorem dX8_addLink_1 : decode cX8_addLink 1 = .ok (.iload_n 1, 1) := by decide +kernel
theorem dX8_addLink_2 : decode cX8_addLink 2 = .ok (.invokevirtual 48, 3) := by decide +kernel
theorem dX8_addLink_5 : decode cX8_addLink 5 = .ok (.aload_n 0, 1) := by decide +kernel
theorem dX8_addLink_6 : decode cX8_addLink 6 = .ok (.iload_n 2, 1) := by decide +kernel
theorem dX8_addLink_7 : decode cX8_addLink 7 = .ok (.invokevirtual 48, 3) := by decide +kernel
theorem dX8_addLink_10 : decode cX8_addLink 10 = .ok (.iload_n 1, 1) := by decide +kernel
theorem dX8_addLink_11 : decode cX8_addLink 11 = .ok (.iload_n 2, 1) := by decide +kernel
theorem dX8_addLink_12 : decode cX8_addLink 12 = .ok (.if_icmp .ne 13, 3) := by decide +kernel
theorem dX8_addLink_15 : decode cX8_addLink 15 = .ok (.new 52, 3) := by decide +kernel
theorem dX8_addLink_18 : decode cX8_addLink 18 = .ok (.dup, 1) := by decide +kernel
theorem dX8_addLink_19 : decode cX8_addLink 19 = .ok (.ldc 54, 2) := by decide +kernel
theorem dX8_addLink_21 : decode cX8_addLink 21 = .ok (.invokespecial 56, 3) := by decide +kernel
theorem dX8_addLink_24 : decode cX8_addLink 24 = .ok (.athrow, 1) := by decide +kernel
theorem dX8_addLink_25 : decode cX8_addLink 25 = .ok (.iload_n 3, 1) := by decide +kernel
theorem dX8_addLink_26 : decode cX8_addLink 26 = .ok (.iconst 1, 1) := by decide +kernel
theorem dX8_addLink_27 : decode cX8_addLink 27 = .ok (.bipush 9, 2) := by decide +kernel
theorem dX8_addLink_29 : decode cX8_addLink 29 = .ok (.invokestatic 57, 3) := by decide +kernel
theorem dX8_addLink_32 : decode cX8_addLink 32 = .ok (.iload 4, 2) := by decide +kernel
theorem dX8_addLink_34 : decode cX8_addLink 34 = .ok (.iconst 1, 1) := by decide +kernel
theorem dX8_addLink_35 : decode cX8_addLink 35 = .ok (.bipush 20, 2) := by decide +kernel
theorem dX8_addLink_37 : decode cX8_addLink 37 = .ok (.invokestatic 57, 3) := by decide +kernel
theorem dX8_addLink_40 : decode cX8_addLink 40 = .ok (.aload_n 0, 1) := by decide +kernel
theorem dX8_addLink_41 : decode cX8_addLink 41 = .ok (.getfield 12, 3) := by decide +kernel
theorem dX8_addLink_44 : decode cX8_addLink 44 = .ok (.getfield 61, 3) := by decide +kernel
theorem dX8_addLink_47 : decode cX8_addLink 47 = .ok (.bipush 12, 2) := by decide +kernel
theorem dX8_addLink_49 : decode cX8_addLink 49 = .ok (.if_icmp .ge 15, 3) := by decide +kernel
theorem dX8_addLink_52 : decode cX8_addLink 52 = .ok (.aload_n 0, 1) := by decide +kernel
theorem dX8_addLink_53 : decode cX8_addLink 53 = .ok (.getfield 12, 3) := by decide +kernel
theorem dX8_addLink_56 : decode cX8_addLink 56 = .ok (.iload_n 1, 1) := by decide +kernel
theorem dX8_addLink_57 : decode cX8_addLink 57 = .ok (.iload_n 2, 1) := by decide +kernel
theorem dX8_addLink_64 : decode cX8_addLink 64 = .ok (.new 37, 3) := by decide +kernel
theorem dX8_addLink_67 : decode cX8_addLink 67 = .ok (.dup, 1) := by decide +kernel
theorem dX8_addLink_68 : decode cX8_addLink 68 = .ok (.ldc 68, 2) := by decide +kernel
theorem dX8_addLink_70 : decode cX8_addLink 70 = .ok (.invokespecial 41, 3) := by decide +kernel
theorem dX8_addLink_73 : decode cX8_addLink 73 = .ok (.athrow, 1) := by decide +kernel
set_option maxRecDepth 20000 in
theorem ggX8_turn_X8_checkLink : GoodIn wsX8_turn wsX8_checkLink := goodIn_ca (goodIn_r _ [8, 9, 10, 1, 11, 50, 51, 52, 53, 54, 55, 56, 57, 58, 59, 60, 61, 62] (by decide +kernel) (by decide +kernel)) (goodIn_sub (fun _ h => List.mem_cons_of_mem _ (List.mem_append_right _ h)) (by decide +kernel))
set_option maxRecDepth 20000 in
theorem gX8_turn_X8_checkLink : GoodIn wsX8_turn (wsV RX8 74 RX8 yX8_checkLink wsX8_checkLink) := goodIn_app (goodIn_of _ (by decide +kernel)) ggX8_turn_X8_checkLink
theorem dX8_turn_0 : decode cX8_turn 0 = .ok (.aload_n 0, 1) := by decide +kernel
theorem dX8_turn_1 : decode cX8_turn 1 = .ok (.iload_n 1, 1) := by decide +kernel
theorem dX8_turn_2 : decode cX8_turn 2 = .ok (.invokevirtual 74, 3) := by decide +kernel
theorem dX8_turn_5 : decode cX8_turn 5 = .ok (.aload_n 0, 1) := by decide +kernel
theorem dX8_turn_6 : decode cX8_turn 6 = .ok (.getfield 12, 3) := by decide +kernel
theorem dX8_turn_9 : decode cX8_turn 9 = .ok (.iload_n 1, 1) := by decide +kernel
set_option maxRecDepth 20000 in
theorem ggX8_lose_X8_wayOf : GoodIn wsX8_lose wsX8_wayOf := goodIn_ca (goodIn_r _ [6, 7, 8, 9, 10, 11, 12, 13, 5, 14, 15, 16, 29, 30, 31, 32, 33, 34, 35, 36, 37, 38, 39, 40, 41, 42, 43, 44, 45, 46, 47] (by decide +kernel) (by decide +kernel)) (goodIn_sub (fun _ h => List.mem_cons_of_mem _ (List.mem_append_left _ (List.mem_append_right _ h))) (by decide +kernel))
set_option maxRecDepth 20000 in
theorem gX8_lose_X8_wayOf : GoodIn wsX8_lose (wsV RX8 88 RX8 yX8_wayOf wsX8_wayOf) := goodIn_app (goodIn_of _ (by decide +kernel)) ggX8_lose_X8_wayOf
set_option maxRecDepth 20000 in
theorem ggX8_lose_X8_checkRange : GoodIn wsX8_lose wsX8_checkRange := goodIn_ca (goodIn_r _ [19, 20, 21] (by decide +kernel) (by decide +kernel)) (goodIn_sub (fun _ h => List.mem_cons_of_mem _ (List.mem_append_right _ h)) (by decide +kernel))
set_option maxRecDepth 20000 in
theorem gX8_lose_X8_checkRange : GoodIn wsX8_lose (va_wsS RX8 57 yX8_checkRange wsX8_checkRange) := goodIn_app (goodIn_of _ (by decide +kernel)) ggX8_lose_X8_checkRange
theorem dX8_lose_0 : decode cX8_lose 0 = .ok (.aload_n 0, 1) := by decide +kernel
theorem dX8_lose_1 : decode cX8_lose 1 = .ok (.iload_n 1, 1) := by decide +kernel
theorem dX8_lose_2 : decode cX8_lose 2 = .ok (.iload_n 2, 1) := by decide +kernel
theorem dX8_lose_3 : decode cX8_lose 3 = .ok (.invokevirtual 88, 3) := by decide +kernel
theorem dX8_lose_6 : decode cX8_lose 6 = .ok (.astore 4, 2) := by decide +kernel
theorem dX8_lose_8 : decode cX8_lose 8 = .ok (.iload_n 3, 1) := by decide +kernel
theorem dX8_lose_9 : decode cX8_lose 9 = .ok (.iconst 0, 1) := by decide +kernel
theorem dX8_lose_10 : decode cX8_lose 10 = .ok (.bipush 9, 2) := by decide +kernel
theorem dX8_lose_12 : decode cX8_lose 12 = .ok (.invokestatic 57, 3) := by decide +kernel
theorem dX8_lose_15 : decode cX8_lose 15 = .ok (.aload 4, 2) := by decide +kernel
theorem dX8_lose_17 : decode cX8_lose 17 = .ok (.getfield 92, 3) := by decide +kernel
theorem dX8_lose_20 : decode cX8_lose 20 = .ok (.istore 5, 2) := by decide +kernel
theorem dX8_lose_22 : decode cX8_lose 22 = .ok (.aload 4, 2) := by decide +kernel
theorem dX8_lose_24 : decode cX8_lose 24 = .ok (.iload_n 3, 1) := by decide +kernel
theorem dX8_lose_25 : decode cX8_lose 25 = .ok (.putfield 92, 3) := by decide +kernel
theorem dX8_lose_28 : decode cX8_lose 28 = .ok (.iload 5, 2) := by decide +kernel
theorem dX8_lose_30 : decode cX8_lose 30 = .ok (.ireturn, 1) := by decide +kernel
set_option maxRecDepth 20000 in
theorem ggX8_call_X8_checkNode : GoodIn wsX8_call wsX8_checkNode := goodIn_ca (goodIn_r _ [11, 12, 13, 14, 15, 98, 99, 100, 101, 108, 109, 110, 111, 112, 113, 114, 115, 116] (by decide +kernel) (by decide +kernel)) (goodIn_sub (fun _ h => List.mem_cons_of_mem _ (List.mem_append_right _ h)) (by decide +kernel))
set_option maxRecDepth 20000 in
theorem gX8_call_X8_checkNode : GoodIn wsX8_call (wsV RX8 48 RX8 yX8_checkNode wsX8_checkNode) := goodIn_app (goodIn_of _ (by decide +kernel)) ggX8_call_X8_checkNode
set_option maxRecDepth 20000 in
theorem ggX8_call_X8_checkRange : GoodIn wsX8_call wsX8_checkRange := goodIn_ca (goodIn_r _ [18, 1, 2] (by decide +kernel) (by decide +kernel)) (goodIn_sub (fun _ h => List.mem_cons_of_mem _ (List.mem_append_left _ (List.mem_append_left _ (List.mem_append_right _ h)))) (by decide +kernel))
set_option maxRecDepth 20000 in
theorem gX8_call_X8_checkRange : GoodIn wsX8_call (va_wsS RX8 57 yX8_checkRange wsX8_checkRange) := goodIn_app (goodIn_of _ (by decide +kernel)) ggX8_call_X8_checkRange
theorem dX8_call_0 : decode cX8_call 0 = .ok (.aload_n 0, 1) := by decide +kernel
theorem dX8_call_1 : decode cX8_call 1 = .ok (.iload_n 1, 1) := by decide +kernel
theorem dX8_call_2 : decode cX8_call 2 = .ok (.invokevirtual 48, 3) := by decide +kernel
theorem dX8_call_5 : decode cX8_call 5 = .ok (.aload_n 0, 1) := by decide +kernel
theorem dX8_call_6 : decode cX8_call 6 = .ok (.iload_n 2, 1) := by decide +kernel
theorem dX8_call_7 : decode cX8_call 7 = .ok (.invokevirtual 48, 3) := by decide +kernel
theorem dX8_call_10 : decode cX8_call 10 = .ok (.iload_n 1, 1) := by decide +kernel
theorem dX8_call_11 : decode cX8_call 11 = .ok (.iload_n 2, 1) := by decide +kernel
theorem dX8_call_12 : decode cX8_call 12 = .ok (.if_icmp .ne 13, 3) := by decide +kernel
theorem dX8_call_15 : decode cX8_call 15 = .ok (.new 52, 3) := by decide +kernel
theorem dX8_call_18 : decode cX8_call 18 = .ok (.dup, 1) := by decide +kernel
theorem dX8_call_19 : decode cX8_call 19 = .ok (.ldc 97, 2) := by decide +kernel
theorem dX8_call_21 : decode cX8_call 21 = .ok (.invokespecial 56, 3) := by decide +kernel
theorem dX8_call_24 : decode cX8_call 24 = .ok (.athrow, 1) := by decide +kernel
theorem dX8_call_25 : decode cX8_call 25 = .ok (.iload_n 3, 1) := by decide +kernel
theorem dX8_call_26 : decode cX8_call 26 = .ok (.iconst 1, 1) := by decide +kernel
theorem dX8_call_27 : decode cX8_call 27 = .ok (.bipush 16, 2) := by decide +kernel
theorem dX8_call_29 : decode cX8_call 29 = .ok (.invokestatic 57, 3) := by decide +kernel
theorem dX8_call_32 : decode cX8_call 32 = .ok (.aload_n 0, 1) := by decide +kernel
theorem dX8_call_33 : decode cX8_call 33 = .ok (.getfield 21, 3) := by decide +kernel
theorem dX8_call_36 : decode cX8_call 36 = .ok (.getfield 99, 3) := by decide +kernel
theorem dX8_call_39 : decode cX8_call 39 = .ok (.bipush 6, 2) := by decide +kernel
theorem dX8_call_41 : decode cX8_call 41 = .ok (.if_icmp .lt 13, 3) := by decide +kernel
theorem dX8_call_44 : decode cX8_call 44 = .ok (.new 37, 3) := by decide +kernel
theorem dX8_call_47 : decode cX8_call 47 = .ok (.dup, 1) := by decide +kernel
theorem dX8_call_48 : decode cX8_call 48 = .ok (.ldc 102, 2) := by decide +kernel
theorem dX8_call_50 : decode cX8_call 50 = .ok (.invokespecial 41, 3) := by decide +kernel
theorem dX8_call_53 : decode cX8_call 53 = .ok (.athrow, 1) := by decide +kernel
theorem dX8_call_54 : decode cX8_call 54 = .ok (.aload_n 0, 1) := by decide +kernel
theorem dX8_call_55 : decode cX8_call 55 = .ok (.getfield 21, 3) := by decide +kernel
theorem dX8_call_58 : decode cX8_call 58 = .ok (.iload_n 1, 1) := by decide +kernel
theorem dX8_call_59 : decode cX8_call 59 = .ok (.iload_n 2, 1) := by decide +kernel
theorem dX8_call_60 : decode cX8_call 60 = .ok (.iload_n 3, 1) := by decide +kernel
set_option maxRecDepth 20000 in
theorem ggX8_give_X8_callerOf : GoodIn wsX8_give wsX8_callerOf := goodIn_ca (goodIn_r _ [9, 10, 11, 12, 13, 8, 14, 15, 16, 17, 18, 19, 48, 49, 50, 51, 44, 45, 46, 47, 52, 53, 54, 55, 56, 57] (by decide +kernel) (by decide +kernel)) (goodIn_sub (fun _ h => List.mem_cons_of_mem _ (List.mem_append_left _ (List.mem_append_right _ h))) (by decide +kernel))
set_option maxRecDepth 20000 in
theorem gX8_give_X8_callerOf : GoodIn wsX8_give (wsV RX8 108 RX8 yX8_callerOf wsX8_callerOf) := goodIn_app (goodIn_of _ (by decide +kernel)) ggX8_give_X8_callerOf
set_option maxRecDepth 20000 in
theorem ggX8_give_X8_checkRange : GoodIn wsX8_give wsX8_checkRange := goodIn_ca (goodIn_r _ [22, 23, 24] (by decide +kernel) (by decide +kernel)) (goodIn_sub (fun _ h => List.mem_cons_of_mem _ (List.mem_append_right _ h)) (by decide +kernel))
set_option maxRecDepth 20000 in
theorem gX8_give_X8_checkRange : GoodIn wsX8_give (va_wsS RX8 57 yX8_checkRange wsX8_checkRange) := goodIn_app (goodIn_of _ (by decide +kernel)) ggX8_give_X8_checkRange
theorem dX8_give_0 : decode cX8_give 0 = .ok (.aload_n 0, 1) := by decide +kernel
theorem dX8_give_1 : decode cX8_give 1 = .ok (.iload_n 1, 1) := by decide +kernel
theorem dX8_give_2 : decode cX8_give 2 = .ok (.invokevirtual 108, 3) := by decide +kernel
theorem dX8_give_5 : decode cX8_give 5 = .ok (.astore 4, 2) := by decide +kernel
theorem dX8_give_7 : decode cX8_give 7 = .ok (.iload_n 3, 1) := by decide +kernel
theorem dX8_give_8 : decode cX8_give 8 = .ok (.iconst 1, 1) := by decide +kernel
theorem dX8_give_9 : decode cX8_give 9 = .ok (.bipush 50, 2) := by decide +kernel
theorem dX8_give_11 : decode cX8_give 11 = .ok (.invokestatic 57, 3) := by decide +kernel
theorem dX8_give_14 : decode cX8_give 14 = .ok (.aload 4, 2) := by decide +kernel
set_option maxRecDepth 20000 in
theorem ggX8_close_X8_callerOf : GoodIn wsX8_close wsX8_callerOf := goodIn_ca (goodIn_r _ [7, 8, 9, 10, 11, 6, 12, 13, 14, 15, 16, 17, 45, 46, 47, 48, 49, 50, 51, 52, 53, 54, 55, 56, 57, 58] (by decide +kernel) (by decide +kernel)) (goodIn_sub (fun _ h => List.mem_cons_of_mem _ (List.mem_append_left _ (List.mem_append_right _ h))) (by decide +kernel))
set_option maxRecDepth 20000 in
theorem gX8_close_X8_callerOf : GoodIn wsX8_close (wsV RX8 108 RX8 yX8_callerOf wsX8_callerOf) := goodIn_app (goodIn_of _ (by decide +kernel)) ggX8_close_X8_callerOf
theorem dX8_close_0 : decode cX8_close 0 = .ok (.aload_n 0, 1) := by decide +kernel
theorem dX8_close_1 : decode cX8_close 1 = .ok (.iload_n 1, 1) := by decide +kernel
theorem dX8_close_2 : decode cX8_close 2 = .ok (.invokevirtual 108, 3) := by decide +kernel
theorem dX8_close_5 : decode cX8_close 5 = .ok (.astore_n 2, 1) := by decide +kernel
theorem dX8_close_6 : decode cX8_close 6 = .ok (.aload_n 2, 1) := by decide +kernel
set_option maxRecDepth 20000 in
theorem ggX8_read_X8_connectionOf : GoodIn wsX8_read wsX8_connectionOf := goodIn_ca (goodIn_r _ [15, 16, 17, 10, 18, 19, 105, 106, 107, 108, 109, 110, 111, 112, 113, 114] (by decide +kernel) (by decide +kernel)) (goodIn_sub (fun _ h => List.mem_cons_of_mem _ (List.mem_append_left _ (List.mem_append_right _ h))) (by decide +kernel))
set_option maxRecDepth 20000 in
theorem gX8_read_X8_connectionOf : GoodIn wsX8_read (wsV RX8 133 RX8 yX8_connectionOf wsX8_connectionOf) := goodIn_app (goodIn_of _ (by decide +kernel)) ggX8_read_X8_connectionOf
set_option maxRecDepth 20000 in
theorem ggX8_read_X8_checkRange : GoodIn wsX8_read wsX8_checkRange := goodIn_ca (goodIn_r _ [22, 23, 24] (by decide +kernel) (by decide +kernel)) (goodIn_sub (fun _ h => List.mem_cons_of_mem _ (List.mem_append_right _ h)) (by decide +kernel))
set_option maxRecDepth 20000 in
theorem gX8_read_X8_checkRange : GoodIn wsX8_read (va_wsS RX8 57 yX8_checkRange wsX8_checkRange) := goodIn_app (goodIn_of _ (by decide +kernel)) ggX8_read_X8_checkRange
theorem dX8_read_0 : decode cX8_read 0 = .ok (.aload_n 0, 1) := by decide +kernel
theorem dX8_read_1 : decode cX8_read 1 = .ok (.iload_n 1, 1) := by decide +kernel
theorem dX8_read_2 : decode cX8_read 2 = .ok (.invokevirtual 133, 3) := by decide +kernel
theorem dX8_read_5 : decode cX8_read 5 = .ok (.astore_n 3, 1) := by decide +kernel
theorem dX8_read_6 : decode cX8_read 6 = .ok (.iload_n 2, 1) := by decide +kernel
theorem dX8_read_7 : decode cX8_read 7 = .ok (.iconst 1, 1) := by decide +kernel
theorem dX8_read_8 : decode cX8_read 8 = .ok (.bipush 50, 2) := by decide +kernel
theorem dX8_read_10 : decode cX8_read 10 = .ok (.invokestatic 57, 3) := by decide +kernel
theorem dX8_read_13 : decode cX8_read 13 = .ok (.iload_n 2, 1) := by decide +kernel
theorem dX8_read_14 : decode cX8_read 14 = .ok (.aload_n 3, 1) := by decide +kernel
set_option maxRecDepth 20000 in
theorem ggX8_pass_X8_checkRange : GoodIn wsX8_pass wsX8_checkRange := goodIn_ca (goodIn_r _ [6, 7, 8] (by decide +kernel) (by decide +kernel)) (goodIn_sub (fun _ h => List.mem_cons_of_mem _ (List.mem_append_right _ h)) (by decide +kernel))
set_option maxRecDepth 20000 in
theorem gX8_pass_X8_checkRange : GoodIn wsX8_pass (va_wsS RX8 57 yX8_checkRange wsX8_checkRange) := goodIn_app (goodIn_of _ (by decide +kernel)) ggX8_pass_X8_checkRange
set_option maxRecDepth 20000 in
theorem ggX8_pass_X6_tick : GoodIn wsX8_pass wsX6_tick := goodIn_r _ [13, 14, 15, 16, 17, 12, 18, 19, 20, 21, 22, 23, 24, 25, 26, 27, 28, 29, 30, 31, 32, 33, 34, 35, 36, 37, 38, 39, 40, 41, 42, 43, 44, 45, 46, 47, 48, 49, 50, 51, 52, 53, 54, 55, 56, 57, 58, 59, 60, 61, 62, 63, 64, 65, 66, 67, 68, 69, 70, 71, 72, 73, 74, 75, 76, 77, 78, 79, 80, 81, 82, 83, 84, 85, 86, 87, 88, 89, 90, 91, 92, 93, 94, 95, 96, 97, 98, 99, 100, 101, 102, 103, 104, 105, 106, 107, 108, 109, 110, 111, 112, 113, 114, 115, 116, 117, 118, 119, 120, 121, 122, 123, 124, 125, 126, 127, 128, 129, 130, 131, 132, 133, 134, 135, 136, 137, 138, 139, 140, 141, 142, 143, 144, 145, 146, 147, 148, 149, 150, 151, 152, 153, 154, 155, 156, 157, 158, 159, 160, 161, 162, 163, 164, 165, 166, 167, 168, 169, 170, 171, 172, 173, 174, 175, 176, 177, 178, 179, 180, 181, 182, 183, 184, 185, 186, 187, 188, 189, 190, 191, 192, 193, 194, 195, 196, 197, 198, 199, 200, 201, 202, 203, 204, 205, 206, 207, 208, 209, 210, 211, 212, 213, 214, 215, 216, 217, 218, 219, 220, 221, 222, 223, 224, 225, 226, 227, 228, 229, 230, 231, 232, 233, 238, 239, 240, 241, 242, 243, 244, 245, 246, 247, 248, 249, 250, 251, 252, 253, 254, 255, 256, 257, 258, 259, 260, 261, 262, 263, 264, 265, 266, 267, 268, 269, 270, 271, 272, 273, 274, 275, 276, 277, 278, 279, 280, 281, 282, 283, 284, 285, 286] (by decide +kernel) (by decide +kernel)
set_option maxRecDepth 20000 in
theorem gX8_pass_X6_tick : GoodIn wsX8_pass (wsV RX8 165 RX6 yX6_tick wsX6_tick) := goodIn_app (goodIn_of _ (by decide +kernel)) ggX8_pass_X6_tick
theorem dX8_pass_0 : decode cX8_pass 0 = .ok (.iload_n 1, 1) := by decide +kernel
theorem dX8_pass_1 : decode cX8_pass 1 = .ok (.iconst 1, 1) := by decide +kernel
theorem dX8_pass_2 : decode cX8_pass 2 = .ok (.bipush 50, 2) := by decide +kernel
theorem dX8_pass_4 : decode cX8_pass 4 = .ok (.invokestatic 57, 3) := by decide +kernel
theorem dX8_pass_7 : decode cX8_pass 7 = .ok (.iconst 0, 1) := by decide +kernel
theorem dX8_pass_8 : decode cX8_pass 8 = .ok (.istore_n 2, 1) := by decide +kernel
theorem dX8_pass_9 : decode cX8_pass 9 = .ok (.iload_n 2, 1) := by decide +kernel
theorem dX8_pass_10 : decode cX8_pass 10 = .ok (.iload_n 1, 1) := by decide +kernel
theorem dX8_pass_11 : decode cX8_pass 11 = .ok (.if_icmp .ge 16, 3) := by decide +kernel
theorem dX8_pass_14 : decode cX8_pass 14 = .ok (.aload_n 0, 1) := by decide +kernel
theorem dX8_pass_15 : decode cX8_pass 15 = .ok (.getfield 21, 3) := by decide +kernel
theorem dX8_pass_18 : decode cX8_pass 18 = .ok (.invokevirtual 165, 3) := by decide +kernel
theorem dX8_pass_21 : decode cX8_pass 21 = .ok (.iinc 2 1, 3) := by decide +kernel
theorem dX8_pass_24 : decode cX8_pass 24 = .ok (.goto (-15), 3) := by decide +kernel
theorem dX8_pass_27 : decode cX8_pass 27 = .ok (.aload_n 0, 1) := by decide +kernel
theorem dX8_pass_28 : decode cX8_pass 28 = .ok (.getfield 21, 3) := by decide +kernel
theorem dX8_pass_31 : decode cX8_pass 31 = .ok (.getfield 168, 3) := by decide +kernel
theorem dX8_pass_34 : decode cX8_pass 34 = .ok (.ireturn, 1) := by decide +kernel
set_option maxRecDepth 20000 in
theorem ggX8_isUp_X8_checkLink : GoodIn wsX8_isUp wsX8_checkLink := goodIn_ca (goodIn_r _ [7, 8, 9, 1, 10, 11, 12, 13, 14, 15, 16, 17, 18, 19, 20, 21, 22, 23] (by decide +kernel) (by decide +kernel)) (goodIn_sub (fun _ h => List.mem_cons_of_mem _ (List.mem_append_right _ h)) (by decide +kernel))
set_option maxRecDepth 20000 in
theorem gX8_isUp_X8_checkLink : GoodIn wsX8_isUp (wsV RX8 74 RX8 yX8_checkLink wsX8_checkLink) := goodIn_app (goodIn_of _ (by decide +kernel)) ggX8_isUp_X8_checkLink
theorem dX8_isUp_0 : decode cX8_isUp 0 = .ok (.aload_n 0, 1) := by decide +kernel
theorem dX8_isUp_1 : decode cX8_isUp 1 = .ok (.iload_n 1, 1) := by decide +kernel
theorem dX8_isUp_2 : decode cX8_isUp 2 = .ok (.invokevirtual 74, 3) := by decide +kernel
theorem dX8_isUp_5 : decode cX8_isUp 5 = .ok (.aload_n 0, 1) := by decide +kernel
theorem dX8_isUp_6 : decode cX8_isUp 6 = .ok (.getfield 12, 3) := by decide +kernel
theorem dX8_isUp_9 : decode cX8_isUp 9 = .ok (.getfield 80, 3) := by decide +kernel
theorem dX8_isUp_12 : decode cX8_isUp 12 = .ok (.iload_n 1, 1) := by decide +kernel
theorem dX8_isUp_13 : decode cX8_isUp 13 = .ok (.baload, 1) := by decide +kernel
theorem dX8_isUp_14 : decode cX8_isUp 14 = .ok (.ireturn, 1) := by decide +kernel
set_option maxRecDepth 20000 in
theorem ggX8_distance_X8_checkNode : GoodIn wsX8_distance wsX8_checkNode := goodIn_ca (goodIn_r _ [7, 8, 9, 1, 10, 11, 12, 13, 14, 15, 16, 17, 18, 19, 20, 21, 22, 23] (by decide +kernel) (by decide +kernel)) (goodIn_sub (fun _ h => List.mem_cons_of_mem _ (List.mem_append_right _ h)) (by decide +kernel))
set_option maxRecDepth 20000 in
theorem gX8_distance_X8_checkNode : GoodIn wsX8_distance (wsV RX8 48 RX8 yX8_checkNode wsX8_checkNode) := goodIn_app (goodIn_of _ (by decide +kernel)) ggX8_distance_X8_checkNode
theorem dX8_distance_0 : decode cX8_distance 0 = .ok (.aload_n 0, 1) := by decide +kernel
theorem dX8_distance_1 : decode cX8_distance 1 = .ok (.iload_n 1, 1) := by decide +kernel
theorem dX8_distance_2 : decode cX8_distance 2 = .ok (.invokevirtual 48, 3) := by decide +kernel
theorem dX8_distance_5 : decode cX8_distance 5 = .ok (.aload_n 0, 1) := by decide +kernel
theorem dX8_distance_6 : decode cX8_distance 6 = .ok (.iload_n 2, 1) := by decide +kernel
theorem dX8_distance_7 : decode cX8_distance 7 = .ok (.invokevirtual 48, 3) := by decide +kernel
theorem dX8_distance_10 : decode cX8_distance 10 = .ok (.aload_n 0, 1) := by decide +kernel
theorem dX8_distance_11 : decode cX8_distance 11 = .ok (.getfield 12, 3) := by decide +kernel
theorem dX8_distance_14 : decode cX8_distance 14 = .ok (.getfield 171, 3) := by decide +kernel
theorem dX8_distance_17 : decode cX8_distance 17 = .ok (.iload_n 2, 1) := by decide +kernel
theorem dX8_distance_18 : decode cX8_distance 18 = .ok (.aaload, 1) := by decide +kernel
theorem dX8_distance_19 : decode cX8_distance 19 = .ok (.iload_n 1, 1) := by decide +kernel
theorem dX8_distance_20 : decode cX8_distance 20 = .ok (.iaload, 1) := by decide +kernel
theorem dX8_distance_21 : decode cX8_distance 21 = .ok (.ireturn, 1) := by decide +kernel
set_option maxRecDepth 20000 in
theorem ggX8_nextLink_X8_checkNode : GoodIn wsX8_nextLink wsX8_checkNode := goodIn_ca (goodIn_r _ [6, 7, 8, 1, 9, 25, 26, 27, 28, 29, 30, 31, 32, 33, 34, 35, 36, 37] (by decide +kernel) (by decide +kernel)) (goodIn_sub (fun _ h => List.mem_cons_of_mem _ (List.mem_append_right _ h)) (by decide +kernel))
set_option maxRecDepth 20000 in
theorem gX8_nextLink_X8_checkNode : GoodIn wsX8_nextLink (wsV RX8 48 RX8 yX8_checkNode wsX8_checkNode) := goodIn_app (goodIn_of _ (by decide +kernel)) ggX8_nextLink_X8_checkNode
theorem dX8_nextLink_0 : decode cX8_nextLink 0 = .ok (.aload_n 0, 1) := by decide +kernel
theorem dX8_nextLink_1 : decode cX8_nextLink 1 = .ok (.iload_n 1, 1) := by decide +kernel
theorem dX8_nextLink_2 : decode cX8_nextLink 2 = .ok (.invokevirtual 48, 3) := by decide +kernel
theorem dX8_nextLink_5 : decode cX8_nextLink 5 = .ok (.aload_n 0, 1) := by decide +kernel
theorem dX8_nextLink_6 : decode cX8_nextLink 6 = .ok (.iload_n 2, 1) := by decide +kernel
theorem dX8_nextLink_7 : decode cX8_nextLink 7 = .ok (.invokevirtual 48, 3) := by decide +kernel
theorem dX8_nextLink_10 : decode cX8_nextLink 10 = .ok (.aload_n 0, 1) := by decide +kernel
theorem dX8_nextLink_11 : decode cX8_nextLink 11 = .ok (.getfield 12, 3) := by decide +kernel
theorem dX8_nextLink_14 : decode cX8_nextLink 14 = .ok (.iload_n 1, 1) := by decide +kernel
theorem dX8_nextLink_15 : decode cX8_nextLink 15 = .ok (.iload_n 2, 1) := by decide +kernel
set_option maxRecDepth 20000 in
theorem ggX8_queued_X8_wayOf : GoodIn wsX8_queued wsX8_wayOf := goodIn_ca (goodIn_r _ [6, 7, 8, 9, 10, 11, 12, 13, 5, 14, 15, 16, 24, 25, 26, 27, 28, 29, 30, 31, 32, 33, 34, 35, 36, 37, 38, 39, 40, 41, 42] (by decide +kernel) (by decide +kernel)) (goodIn_sub (fun _ h => List.mem_cons_of_mem _ (List.mem_append_right _ h)) (by decide +kernel))
set_option maxRecDepth 20000 in
theorem gX8_queued_X8_wayOf : GoodIn wsX8_queued (wsV RX8 88 RX8 yX8_wayOf wsX8_wayOf) := goodIn_app (goodIn_of _ (by decide +kernel)) ggX8_queued_X8_wayOf
theorem dX8_queued_0 : decode cX8_queued 0 = .ok (.aload_n 0, 1) := by decide +kernel
theorem dX8_queued_1 : decode cX8_queued 1 = .ok (.iload_n 1, 1) := by decide +kernel
theorem dX8_queued_2 : decode cX8_queued 2 = .ok (.iload_n 2, 1) := by decide +kernel
theorem dX8_queued_3 : decode cX8_queued 3 = .ok (.invokevirtual 88, 3) := by decide +kernel
theorem dX8_queued_6 : decode cX8_queued 6 = .ok (.getfield 177, 3) := by decide +kernel
theorem dX8_queued_9 : decode cX8_queued 9 = .ok (.ireturn, 1) := by decide +kernel
set_option maxRecDepth 20000 in
theorem ggX8_flying_X8_wayOf : GoodIn wsX8_flying wsX8_wayOf := goodIn_ca (goodIn_r _ [6, 7, 8, 9, 10, 11, 12, 13, 5, 14, 15, 16, 24, 25, 26, 27, 28, 29, 30, 31, 32, 33, 34, 35, 36, 37, 38, 39, 40, 41, 42] (by decide +kernel) (by decide +kernel)) (goodIn_sub (fun _ h => List.mem_cons_of_mem _ (List.mem_append_right _ h)) (by decide +kernel))
set_option maxRecDepth 20000 in
theorem gX8_flying_X8_wayOf : GoodIn wsX8_flying (wsV RX8 88 RX8 yX8_wayOf wsX8_wayOf) := goodIn_app (goodIn_of _ (by decide +kernel)) ggX8_flying_X8_wayOf
theorem dX8_flying_0 : decode cX8_flying 0 = .ok (.aload_n 0, 1) := by decide +kernel
theorem dX8_flying_1 : decode cX8_flying 1 = .ok (.iload_n 1, 1) := by decide +kernel
theorem dX8_flying_2 : decode cX8_flying 2 = .ok (.iload_n 2, 1) := by decide +kernel
theorem dX8_flying_3 : decode cX8_flying 3 = .ok (.invokevirtual 88, 3) := by decide +kernel
theorem dX8_flying_6 : decode cX8_flying 6 = .ok (.getfield 180, 3) := by decide +kernel
theorem dX8_flying_9 : decode cX8_flying 9 = .ok (.ireturn, 1) := by decide +kernel
set_option maxRecDepth 20000 in
theorem ggX8_flown_X8_wayOf : GoodIn wsX8_flown wsX8_wayOf := goodIn_ca (goodIn_r _ [6, 7, 8, 9, 10, 11, 12, 13, 5, 14, 15, 16, 24, 25, 26, 27, 28, 29, 30, 31, 32, 33, 34, 35, 36, 37, 38, 39, 40, 41, 42] (by decide +kernel) (by decide +kernel)) (goodIn_sub (fun _ h => List.mem_cons_of_mem _ (List.mem_append_right _ h)) (by decide +kernel))
set_option maxRecDepth 20000 in
theorem gX8_flown_X8_wayOf : GoodIn wsX8_flown (wsV RX8 88 RX8 yX8_wayOf wsX8_wayOf) := goodIn_app (goodIn_of _ (by decide +kernel)) ggX8_flown_X8_wayOf
theorem dX8_flown_0 : decode cX8_flown 0 = .ok (.aload_n 0, 1) := by decide +kernel
theorem dX8_flown_1 : decode cX8_flown 1 = .ok (.iload_n 1, 1) := by decide +kernel
theorem dX8_flown_2 : decode cX8_flown 2 = .ok (.iload_n 2, 1) := by decide +kernel
theorem dX8_flown_3 : decode cX8_flown 3 = .ok (.invokevirtual 88, 3) := by decide +kernel
theorem dX8_flown_6 : decode cX8_flown 6 = .ok (.getfield 183, 3) := by decide +kernel
theorem dX8_flown_9 : decode cX8_flown 9 = .ok (.ireturn, 1) := by decide +kernel
set_option maxRecDepth 20000 in
theorem ggX8_stateOf_X8_callerOf : GoodIn wsX8_stateOf wsX8_callerOf := goodIn_ca (goodIn_r _ [6, 7, 8, 9, 10, 5, 11, 12, 13, 14, 15, 16, 31, 32, 33, 34, 35, 36, 37, 38, 39, 40, 41, 42, 43, 44] (by decide +kernel) (by decide +kernel)) (goodIn_sub (fun _ h => List.mem_cons_of_mem _ (List.mem_append_right _ h)) (by decide +kernel))
set_option maxRecDepth 20000 in
theorem gX8_stateOf_X8_callerOf : GoodIn wsX8_stateOf (wsV RX8 108 RX8 yX8_callerOf wsX8_callerOf) := goodIn_app (goodIn_of _ (by decide +kernel)) ggX8_stateOf_X8_callerOf
theorem dX8_stateOf_0 : decode cX8_stateOf 0 = .ok (.aload_n 0, 1) := by decide +kernel
theorem dX8_stateOf_1 : decode cX8_stateOf 1 = .ok (.iload_n 1, 1) := by decide +kernel
theorem dX8_stateOf_2 : decode cX8_stateOf 2 = .ok (.invokevirtual 108, 3) := by decide +kernel
theorem dX8_stateOf_5 : decode cX8_stateOf 5 = .ok (.getfield 193, 3) := by decide +kernel
theorem dX8_stateOf_8 : decode cX8_stateOf 8 = .ok (.ireturn, 1) := by decide +kernel
set_option maxRecDepth 20000 in
theorem ggX8_given_X8_callerOf : GoodIn wsX8_given wsX8_callerOf := goodIn_ca (goodIn_r _ [6, 7, 8, 9, 10, 5, 11, 12, 13, 14, 15, 16, 31, 32, 33, 34, 35, 36, 37, 38, 39, 40, 41, 42, 43, 44] (by decide +kernel) (by decide +kernel)) (goodIn_sub (fun _ h => List.mem_cons_of_mem _ (List.mem_append_right _ h)) (by decide +kernel))
set_option maxRecDepth 20000 in
theorem gX8_given_X8_callerOf : GoodIn wsX8_given (wsV RX8 108 RX8 yX8_callerOf wsX8_callerOf) := goodIn_app (goodIn_of _ (by decide +kernel)) ggX8_given_X8_callerOf
theorem dX8_given_0 : decode cX8_given 0 = .ok (.aload_n 0, 1) := by decide +kernel
theorem dX8_given_1 : decode cX8_given 1 = .ok (.iload_n 1, 1) := by decide +kernel
theorem dX8_given_2 : decode cX8_given 2 = .ok (.invokevirtual 108, 3) := by decide +kernel
theorem dX8_given_5 : decode cX8_given 5 = .ok (.getfield 116, 3) := by decide +kernel
theorem dX8_given_8 : decode cX8_given 8 = .ok (.ireturn, 1) := by decide +kernel
theorem dX8_checkNode_0 : decode cX8_checkNode 0 = .ok (.iload_n 1, 1) := by decide +kernel
theorem dX8_checkNode_1 : decode cX8_checkNode 1 = .ok (.ifCond .lt 14, 3) := by decide +kernel
theorem dX8_checkNode_4 : decode cX8_checkNode 4 = .ok (.iload_n 1, 1) := by decide +kernel
theorem dX8_checkNode_5 : decode cX8_checkNode 5 = .ok (.aload_n 0, 1) := by decide +kernel
theorem dX8_checkNode_6 : decode cX8_checkNode 6 = .ok (.getfield 12, 3) := by decide +kernel
theorem dX8_checkNode_9 : decode cX8_checkNode 9 = .ok (.getfield 33, 3) := by decide +kernel
theorem dX8_checkNode_12 : decode cX8_checkNode 12 = .ok (.if_icmp .lt 14, 3) := by decide +kernel
theorem dX8_checkNode_15 : decode cX8_checkNode 15 = .ok (.new 297, 3) := by decide +kernel
theorem dX8_checkNode_18 : decode cX8_checkNode 18 = .ok (.dup, 1) := by decide +kernel
theorem dX8_checkNode_19 : decode cX8_checkNode 19 = .ok (.ldc_w 299, 3) := by decide +kernel
theorem dX8_checkNode_22 : decode cX8_checkNode 22 = .ok (.invokespecial 301, 3) := by decide +kernel
theorem dX8_checkNode_25 : decode cX8_checkNode 25 = .ok (.athrow, 1) := by decide +kernel
theorem dX8_checkNode_26 : decode cX8_checkNode 26 = .ok (.return_, 1) := by decide +kernel
theorem dX8_checkLink_0 : decode cX8_checkLink 0 = .ok (.iload_n 1, 1) := by decide +kernel
theorem dX8_checkLink_1 : decode cX8_checkLink 1 = .ok (.ifCond .lt 14, 3) := by decide +kernel
theorem dX8_checkLink_4 : decode cX8_checkLink 4 = .ok (.iload_n 1, 1) := by decide +kernel
theorem dX8_checkLink_5 : decode cX8_checkLink 5 = .ok (.aload_n 0, 1) := by decide +kernel
theorem dX8_checkLink_6 : decode cX8_checkLink 6 = .ok (.getfield 12, 3) := by decide +kernel
theorem dX8_checkLink_9 : decode cX8_checkLink 9 = .ok (.getfield 61, 3) := by decide +kernel
theorem dX8_checkLink_12 : decode cX8_checkLink 12 = .ok (.if_icmp .lt 14, 3) := by decide +kernel
theorem dX8_checkLink_15 : decode cX8_checkLink 15 = .ok (.new 297, 3) := by decide +kernel
theorem dX8_checkLink_18 : decode cX8_checkLink 18 = .ok (.dup, 1) := by decide +kernel
theorem dX8_checkLink_19 : decode cX8_checkLink 19 = .ok (.ldc_w 302, 3) := by decide +kernel
theorem dX8_checkLink_22 : decode cX8_checkLink 22 = .ok (.invokespecial 301, 3) := by decide +kernel
theorem dX8_checkLink_25 : decode cX8_checkLink 25 = .ok (.athrow, 1) := by decide +kernel
theorem dX8_checkLink_26 : decode cX8_checkLink 26 = .ok (.return_, 1) := by decide +kernel
theorem dX8_checkRange_0 : decode cX8_checkRange 0 = .ok (.iload_n 0, 1) := by decide +kernel
theorem dX8_checkRange_1 : decode cX8_checkRange 1 = .ok (.iload_n 1, 1) := by decide +kernel
theorem dX8_checkRange_2 : decode cX8_checkRange 2 = .ok (.if_icmp .lt 8, 3) := by decide +kernel
theorem dX8_checkRange_5 : decode cX8_checkRange 5 = .ok (.iload_n 0, 1) := by decide +kernel
theorem dX8_checkRange_6 : decode cX8_checkRange 6 = .ok (.iload_n 2, 1) := by decide +kernel
theorem dX8_checkRange_7 : decode cX8_checkRange 7 = .ok (.if_icmp .le 14, 3) := by decide +kernel
theorem dX8_checkRange_10 : decode cX8_checkRange 10 = .ok (.new 52, 3) := by decide +kernel
theorem dX8_checkRange_13 : decode cX8_checkRange 13 = .ok (.dup, 1) := by decide +kernel
theorem dX8_checkRange_14 : decode cX8_checkRange 14 = .ok (.ldc_w 304, 3) := by decide +kernel
theorem dX8_checkRange_17 : decode cX8_checkRange 17 = .ok (.invokespecial 56, 3) := by decide +kernel
theorem dX8_checkRange_20 : decode cX8_checkRange 20 = .ok (.athrow, 1) := by decide +kernel
theorem dX8_checkRange_21 : decode cX8_checkRange 21 = .ok (.return_, 1) := by decide +kernel
set_option maxRecDepth 20000 in
theorem ggX8_wayOf_X8_checkLink : GoodIn wsX8_wayOf wsX8_checkLink := goodIn_ca (goodIn_r _ [9, 1, 2, 10, 11, 12, 13, 14, 15, 22, 23, 24, 25, 26, 27, 28, 29, 30] (by decide +kernel) (by decide +kernel)) (goodIn_sub (fun _ h => List.mem_cons_of_mem _ (List.mem_append_right _ h)) (by decide +kernel))
set_option maxRecDepth 20000 in
theorem gX8_wayOf_X8_checkLink : GoodIn wsX8_wayOf (wsV RX8 74 RX8 yX8_checkLink wsX8_checkLink) := goodIn_app (goodIn_of _ (by decide +kernel)) ggX8_wayOf_X8_checkLink
theorem dX8_wayOf_0 : decode cX8_wayOf 0 = .ok (.aload_n 0, 1) := by decide +kernel
theorem dX8_wayOf_1 : decode cX8_wayOf 1 = .ok (.iload_n 1, 1) := by decide +kernel
theorem dX8_wayOf_2 : decode cX8_wayOf 2 = .ok (.invokevirtual 74, 3) := by decide +kernel
theorem dX8_wayOf_5 : decode cX8_wayOf 5 = .ok (.iload_n 2, 1) := by decide +kernel
theorem dX8_wayOf_6 : decode cX8_wayOf 6 = .ok (.ifCond .lt 8, 3) := by decide +kernel
theorem dX8_wayOf_9 : decode cX8_wayOf 9 = .ok (.iload_n 2, 1) := by decide +kernel
theorem dX8_wayOf_10 : decode cX8_wayOf 10 = .ok (.iconst 1, 1) := by decide +kernel
theorem dX8_wayOf_11 : decode cX8_wayOf 11 = .ok (.if_icmp .le 14, 3) := by decide +kernel
theorem dX8_wayOf_14 : decode cX8_wayOf 14 = .ok (.new 297, 3) := by decide +kernel
theorem dX8_wayOf_17 : decode cX8_wayOf 17 = .ok (.dup, 1) := by decide +kernel
theorem dX8_wayOf_18 : decode cX8_wayOf 18 = .ok (.ldc_w 308, 3) := by decide +kernel
theorem dX8_wayOf_21 : decode cX8_wayOf 21 = .ok (.invokespecial 301, 3) := by decide +kernel
theorem dX8_wayOf_24 : decode cX8_wayOf 24 = .ok (.athrow, 1) := by decide +kernel
theorem dX8_wayOf_25 : decode cX8_wayOf 25 = .ok (.aload_n 0, 1) := by decide +kernel
theorem dX8_wayOf_26 : decode cX8_wayOf 26 = .ok (.getfield 21, 3) := by decide +kernel
theorem dX8_wayOf_29 : decode cX8_wayOf 29 = .ok (.getfield 189, 3) := by decide +kernel
theorem dX8_wayOf_32 : decode cX8_wayOf 32 = .ok (.iconst 2, 1) := by decide +kernel
theorem dX8_wayOf_33 : decode cX8_wayOf 33 = .ok (.iload_n 1, 1) := by decide +kernel
theorem dX8_wayOf_34 : decode cX8_wayOf 34 = .ok (.imul, 1) := by decide +kernel
theorem dX8_wayOf_35 : decode cX8_wayOf 35 = .ok (.iload_n 2, 1) := by decide +kernel
theorem dX8_wayOf_36 : decode cX8_wayOf 36 = .ok (.iadd, 1) := by decide +kernel
theorem dX8_wayOf_37 : decode cX8_wayOf 37 = .ok (.aaload, 1) := by decide +kernel
theorem dX8_wayOf_38 : decode cX8_wayOf 38 = .ok (.areturn, 1) := by decide +kernel
theorem dX8_connectionOf_0 : decode cX8_connectionOf 0 = .ok (.iload_n 1, 1) := by decide +kernel
theorem dX8_connectionOf_1 : decode cX8_connectionOf 1 = .ok (.ifCond .lt 14, 3) := by decide +kernel
theorem dX8_connectionOf_4 : decode cX8_connectionOf 4 = .ok (.iload_n 1, 1) := by decide +kernel
theorem dX8_connectionOf_5 : decode cX8_connectionOf 5 = .ok (.aload_n 0, 1) := by decide +kernel
theorem dX8_connectionOf_6 : decode cX8_connectionOf 6 = .ok (.getfield 21, 3) := by decide +kernel
theorem dX8_connectionOf_9 : decode cX8_connectionOf 9 = .ok (.getfield 99, 3) := by decide +kernel
theorem dX8_connectionOf_12 : decode cX8_connectionOf 12 = .ok (.if_icmp .lt 14, 3) := by decide +kernel
theorem dX8_connectionOf_15 : decode cX8_connectionOf 15 = .ok (.new 297, 3) := by decide +kernel
theorem dX8_connectionOf_18 : decode cX8_connectionOf 18 = .ok (.dup, 1) := by decide +kernel
theorem dX8_connectionOf_19 : decode cX8_connectionOf 19 = .ok (.ldc_w 310, 3) := by decide +kernel
theorem dX8_connectionOf_22 : decode cX8_connectionOf 22 = .ok (.invokespecial 301, 3) := by decide +kernel
theorem dX8_connectionOf_25 : decode cX8_connectionOf 25 = .ok (.athrow, 1) := by decide +kernel
theorem dX8_connectionOf_26 : decode cX8_connectionOf 26 = .ok (.aload_n 0, 1) := by decide +kernel
theorem dX8_connectionOf_27 : decode cX8_connectionOf 27 = .ok (.getfield 21, 3) := by decide +kernel
theorem dX8_connectionOf_30 : decode cX8_connectionOf 30 = .ok (.getfield 247, 3) := by decide +kernel
theorem dX8_connectionOf_33 : decode cX8_connectionOf 33 = .ok (.iload_n 1, 1) := by decide +kernel
theorem dX8_connectionOf_34 : decode cX8_connectionOf 34 = .ok (.aaload, 1) := by decide +kernel
theorem dX8_connectionOf_35 : decode cX8_connectionOf 35 = .ok (.areturn, 1) := by decide +kernel
set_option maxRecDepth 20000 in
theorem ggX8_callerOf_X8_connectionOf : GoodIn wsX8_callerOf wsX8_connectionOf := goodIn_ca (goodIn_r _ [6, 7, 8, 9, 10, 11, 16, 17, 18, 19, 20, 21, 22, 23, 24, 25] (by decide +kernel) (by decide +kernel)) (goodIn_sub (fun _ h => List.mem_cons_of_mem _ (List.mem_append_right _ h)) (by decide +kernel))
set_option maxRecDepth 20000 in
theorem gX8_callerOf_X8_connectionOf : GoodIn wsX8_callerOf (wsV RX8 133 RX8 yX8_connectionOf wsX8_connectionOf) := goodIn_app (goodIn_of _ (by decide +kernel)) ggX8_callerOf_X8_connectionOf
theorem dX8_callerOf_0 : decode cX8_callerOf 0 = .ok (.aload_n 0, 1) := by decide +kernel
theorem dX8_callerOf_1 : decode cX8_callerOf 1 = .ok (.iload_n 1, 1) := by decide +kernel
theorem dX8_callerOf_2 : decode cX8_callerOf 2 = .ok (.invokevirtual 133, 3) := by decide +kernel
theorem dX8_callerOf_5 : decode cX8_callerOf 5 = .ok (.getfield 251, 3) := by decide +kernel
theorem dX8_callerOf_8 : decode cX8_callerOf 8 = .ok (.areturn, 1) := by decide +kernel
