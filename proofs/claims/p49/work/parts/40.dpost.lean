set_option maxRecDepth 20000 in
theorem ggX8_init_X3_init : GoodIn wsX8_init wsX3_init := goodIn_r _ [17, 18, 2, 3, 14, 19, 20, 21, 22, 23, 24, 25, 26, 27, 72, 73, 74, 75, 76, 77, 78, 79, 80] (by decide +kernel) (by decide +kernel)
set_option maxRecDepth 20000 in
theorem gX8_init_X3_init_n11 : GoodIn wsX8_init (wsX3_init) := ggX8_init_X3_init
set_option maxRecDepth 20000 in
theorem ggX8_init_X6_init : GoodIn wsX8_init wsX6_init := goodIn_r _ [30, 31, 2, 3, 32, 33, 34, 35, 36, 37, 38, 39, 40, 41, 42, 43, 44, 14, 45, 46, 47, 48, 49, 50, 51, 52, 53, 54, 55, 56, 57, 58, 59, 60, 61, 62, 63, 64, 65, 66, 67, 68, 69, 70, 23, 71, 85, 86, 87, 88, 89, 90, 91, 92, 93, 94, 95, 96, 97, 98, 99, 100, 101, 102, 103, 104, 105, 106, 107, 108, 109, 110, 111, 112, 113, 114, 115, 116, 117, 118, 119, 120, 121, 122, 123, 124] (by decide +kernel) (by decide +kernel)
set_option maxRecDepth 20000 in
theorem gX8_init_X6_init : GoodIn wsX8_init (wsX6_init) := ggX8_init_X6_init
theorem dX8_init_0 : decode cX8_init 0 = .ok (.aload_n 0, 1) := by decide +kernel
theorem dX8_init_1 : decode cX8_init 1 = .ok (.invokespecial 3, 3) := by decide +kernel
theorem dX8_init_4 : decode cX8_init 4 = .ok (.aload_n 0, 1) := by decide +kernel
theorem dX8_init_5 : decode cX8_init 5 = .ok (.new 9, 3) := by decide +kernel
theorem dX8_init_8 : decode cX8_init 8 = .ok (.dup, 1) := by decide +kernel
theorem dX8_init_9 : decode cX8_init 9 = .ok (.invokespecial 11, 3) := by decide +kernel
theorem dX8_init_12 : decode cX8_init 12 = .ok (.putfield 12, 3) := by decide +kernel
theorem dX8_init_15 : decode cX8_init 15 = .ok (.aload_n 0, 1) := by decide +kernel
theorem dX8_init_16 : decode cX8_init 16 = .ok (.new 16, 3) := by decide +kernel
theorem dX8_init_19 : decode cX8_init 19 = .ok (.dup, 1) := by decide +kernel
theorem dX8_init_20 : decode cX8_init 20 = .ok (.aload_n 0, 1) := by decide +kernel
theorem dX8_init_21 : decode cX8_init 21 = .ok (.getfield 12, 3) := by decide +kernel
theorem dX8_init_24 : decode cX8_init 24 = .ok (.invokespecial 18, 3) := by decide +kernel
theorem dX8_init_27 : decode cX8_init 27 = .ok (.putfield 21, 3) := by decide +kernel
theorem dX8_init_30 : decode cX8_init 30 = .ok (.aload_n 0, 1) := by decide +kernel
theorem dX8_init_31 : decode cX8_init 31 = .ok (.new 16, 3) := by decide +kernel
theorem dX8_init_34 : decode cX8_init 34 = .ok (.dup, 1) := by decide +kernel
theorem dX8_init_35 : decode cX8_init 35 = .ok (.aload_n 0, 1) := by decide +kernel
theorem dX8_init_36 : decode cX8_init 36 = .ok (.getfield 12, 3) := by decide +kernel
theorem dX8_init_39 : decode cX8_init 39 = .ok (.invokespecial 18, 3) := by decide +kernel
theorem dX8_init_42 : decode cX8_init 42 = .ok (.putfield 25, 3) := by decide +kernel
theorem dX8_init_45 : decode cX8_init 45 = .ok (.aload_n 0, 1) := by decide +kernel
theorem dX8_init_46 : decode cX8_init 46 = .ok (.bipush 6, 2) := by decide +kernel
theorem dX8_init_48 : decode cX8_init 48 = .ok (.sipush 200, 3) := by decide +kernel
theorem dX8_init_51 : decode cX8_init 51 = .ok (.multianewarray 28 2, 4) := by decide +kernel
theorem dX8_init_55 : decode cX8_init 55 = .ok (.putfield 30, 3) := by decide +kernel
theorem dX8_init_58 : decode cX8_init 58 = .ok (.return_, 1) := by decide +kernel
set_option maxRecDepth 20000 in
theorem ggX8_addNode_X3_layNode : GoodIn wsX8_addNode wsX3_layNode := goodIn_r _ [9, 10, 11, 12, 13, 8, 14, 15, 16, 17, 18, 19, 20, 21, 22, 23, 24, 25, 26, 27, 32, 33, 34, 35, 36, 37, 38, 39, 40] (by decide +kernel) (by decide +kernel)
set_option maxRecDepth 20000 in
theorem gX8_addNode_X3_layNode : GoodIn wsX8_addNode (wsV RX8 44 RX3 yX3_layNode wsX3_layNode) := goodIn_app (goodIn_of _ (by decide +kernel)) ggX8_addNode_X3_layNode
theorem dX8_addNode_0 : decode cX8_addNode 0 = .ok (.aload_n 0, 1) := by decide +kernel
theorem dX8_addNode_1 : decode cX8_addNode 1 = .ok (.getfield 12, 3) := by decide +kernel
theorem dX8_addNode_4 : decode cX8_addNode 4 = .ok (.getfield 33, 3) := by decide +kernel
theorem dX8_addNode_7 : decode cX8_addNode 7 = .ok (.bipush 8, 2) := by decide +kernel
theorem dX8_addNode_9 : decode cX8_addNode 9 = .ok (.if_icmp .lt 13, 3) := by decide +kernel
theorem dX8_addNode_12 : decode cX8_addNode 12 = .ok (.new 37, 3) := by decide +kernel
theorem dX8_addNode_15 : decode cX8_addNode 15 = .ok (.dup, 1) := by decide +kernel
theorem dX8_addNode_16 : decode cX8_addNode 16 = .ok (.ldc 39, 2) := by decide +kernel
theorem dX8_addNode_18 : decode cX8_addNode 18 = .ok (.invokespecial 41, 3) := by decide +kernel
theorem dX8_addNode_21 : decode cX8_addNode 21 = .ok (.athrow, 1) := by decide +kernel
theorem dX8_addNode_22 : decode cX8_addNode 22 = .ok (.aload_n 0, 1) := by decide +kernel
theorem dX8_addNode_23 : decode cX8_addNode 23 = .ok (.getfield 12, 3) := by decide +kernel
theorem dX8_addNode_26 : decode cX8_addNode 26 = .ok (.invokevirtual 44, 3) := by decide +kernel
theorem dX8_addNode_29 : decode cX8_addNode 29 = .ok (.ireturn, 1) := by decide +kernel
set_option maxRecDepth 20000 in
theorem ggX8_addLink_X8_checkNode : GoodIn wsX8_addLink wsX8_checkNode := goodIn_ca (goodIn_r _ [11, 12, 13, 5, 14, 50, 51, 52, 53, 54, 55, 56, 57, 58, 59, 60, 61, 62] (by decide +kernel) (by decide +kernel)) (goodIn_sub (fun _ h => List.mem_cons_of_mem _ (List.mem_append_right _ h)) (by decide +kernel))
set_option maxRecDepth 20000 in
theorem gX8_addLink_X8_checkNode : GoodIn wsX8_addLink (wsV RX8 48 RX8 yX8_checkNode wsX8_checkNode) := goodIn_app (goodIn_of _ (by decide +kernel)) ggX8_addLink_X8_checkNode
set_option maxRecDepth 20000 in
theorem ggX8_addLink_X8_checkRange : GoodIn wsX8_addLink wsX8_checkRange := goodIn_ca (goodIn_r _ [17, 1, 2] (by decide +kernel) (by decide +kernel)) (goodIn_sub (fun _ h => List.mem_cons_of_mem _ (List.mem_append_left _ (List.mem_append_left _ (List.mem_append_right _ h)))) (by decide +kernel))
set_option maxRecDepth 20000 in
theorem gX8_addLink_X8_checkRange : GoodIn wsX8_addLink (va_wsS RX8 57 yX8_checkRange wsX8_checkRange) := goodIn_app (goodIn_of _ (by decide +kernel)) ggX8_addLink_X8_checkRange
set_option maxRecDepth 20000 in
theorem ggX8_addLink_X3_joins : GoodIn wsX8_addLink wsX3_joins := goodIn_r _ [22, 23, 24, 25, 26, 21, 27, 28, 29, 54, 55, 56, 57, 58, 59, 60, 61, 62] (by decide +kernel) (by decide +kernel)
set_option maxRecDepth 20000 in
theorem gX8_addLink_X3_joins : GoodIn wsX8_addLink (wsV RX8 64 RX3 yX3_joins wsX3_joins) := goodIn_app (goodIn_of _ (by decide +kernel)) ggX8_addLink_X3_joins
set_option maxRecDepth 20000 in
theorem ggX8_addLink_X3_layLink : GoodIn wsX8_addLink wsX3_layLink := goodIn_r _ [33, 23, 28, 29, 34, 35, 36, 37, 38, 39, 21, 40, 41, 42, 43, 44, 45, 46, 47, 48, 49, 54, 55, 56, 57, 58, 59, 60, 61, 62] (by decide +kernel) (by decide +kernel)
set_option maxRecDepth 20000 in
theorem gX8_addLink_X3_layLink : GoodIn wsX8_addLink (wsV RX8 70 RX3 yX3_layLink wsX3_layLink) := goodIn_app (goodIn_of _ (by decide +kernel)) ggX8_addLink_X3_layLink
theorem dX8_addLink_0 : decode cX8_addLink 0 = .ok (.aload_n 0, 1) := by decide +kernel
theorem dX8_addLink_1 : decode cX8_addLink 1 = .ok (.iload_n 1, 1) := by decide +kernel
theorem dX8_addLink_2 : decode cX8_addLink 2 = .ok (.invokevirtual 48, 3) := by decide +kernel
theorem dX8_addLink_5 : decode cX8_addLink 5 = .ok (.aload_n 0, 1) := by decide +kernel
theorem dX8_addLink_6 : decode cX8_addLink 6 = .ok (.iload_n 2, 1) := by decide +kernel
theorem dX8_addLink_7 : decode cX8_addLink 7 = .ok (.invokevirtual 48, 3) := by decide +kernel
theorem dX8_addLink_10 : decode cX8_addLink 10 = .ok (.iload_n 1, 1) := by decide +kernel
theorem dX8_addLink_11 : decode cX8_addLink 11 = .ok (.iload_n 2, 1) := by decide +kernel
theorem dX8_addLink_12 : decode cX8_addLink 12 = .ok (.if_icmp .ne 13, 3) := by decide +kernel
theorem dX8_addLink_15 : decode cX8_addLink 15 = .ok (.new 52, 3) := by decide +kernel
theorem dX8_addLink_18 : decode cX8_addLink 18 = .ok (.dup, 1) := by decide +kernel
theorem dX8_addLink_19 : decode cX8_addLink 19 = .ok (.ldc 54, 2) := by decide +kernel
theorem dX8_addLink_21 : decode cX8_addLink 21 = .ok (.invokespecial 56, 3) := by decide +kernel
theorem dX8_addLink_24 : decode cX8_addLink 24 = .ok (.athrow, 1) := by decide +kernel
theorem dX8_addLink_25 : decode cX8_addLink 25 = .ok (.iload_n 3, 1) := by decide +kernel
theorem dX8_addLink_26 : decode cX8_addLink 26 = .ok (.iconst 1, 1) := by decide +kernel
theorem dX8_addLink_27 : decode cX8_addLink 27 = .ok (.bipush 9, 2) := by decide +kernel
theorem dX8_addLink_29 : decode cX8_addLink 29 = .ok (.invokestatic 57, 3) := by decide +kernel
theorem dX8_addLink_32 : decode cX8_addLink 32 = .ok (.iload 4, 2) := by decide +kernel
theorem dX8_addLink_34 : decode cX8_addLink 34 = .ok (.iconst 1, 1) := by decide +kernel
theorem dX8_addLink_35 : decode cX8_addLink 35 = .ok (.bipush 20, 2) := by decide +kernel
theorem dX8_addLink_37 : decode cX8_addLink 37 = .ok (.invokestatic 57, 3) := by decide +kernel
theorem dX8_addLink_40 : decode cX8_addLink 40 = .ok (.aload_n 0, 1) := by decide +kernel
theorem dX8_addLink_41 : decode cX8_addLink 41 = .ok (.getfield 12, 3) := by decide +kernel
theorem dX8_addLink_44 : decode cX8_addLink 44 = .ok (.getfield 61, 3) := by decide +kernel
theorem dX8_addLink_47 : decode cX8_addLink 47 = .ok (.bipush 12, 2) := by decide +kernel
theorem dX8_addLink_49 : decode cX8_addLink 49 = .ok (.if_icmp .ge 15, 3) := by decide +kernel
theorem dX8_addLink_52 : decode cX8_addLink 52 = .ok (.aload_n 0, 1) := by decide +kernel
theorem dX8_addLink_53 : decode cX8_addLink 53 = .ok (.getfield 12, 3) := by decide +kernel
theorem dX8_addLink_56 : decode cX8_addLink 56 = .ok (.iload_n 1, 1) := by decide +kernel
theorem dX8_addLink_57 : decode cX8_addLink 57 = .ok (.iload_n 2, 1) := by decide +kernel
theorem dX8_addLink_58 : decode cX8_addLink 58 = .ok (.invokevirtual 64, 3) := by decide +kernel
theorem dX8_addLink_61 : decode cX8_addLink 61 = .ok (.ifCond .eq 13, 3) := by decide +kernel
theorem dX8_addLink_64 : decode cX8_addLink 64 = .ok (.new 37, 3) := by decide +kernel
theorem dX8_addLink_67 : decode cX8_addLink 67 = .ok (.dup, 1) := by decide +kernel
theorem dX8_addLink_68 : decode cX8_addLink 68 = .ok (.ldc 68, 2) := by decide +kernel
theorem dX8_addLink_70 : decode cX8_addLink 70 = .ok (.invokespecial 41, 3) := by decide +kernel
theorem dX8_addLink_73 : decode cX8_addLink 73 = .ok (.athrow, 1) := by decide +kernel
theorem dX8_addLink_74 : decode cX8_addLink 74 = .ok (.aload_n 0, 1) := by decide +kernel
theorem dX8_addLink_75 : decode cX8_addLink 75 = .ok (.getfield 12, 3) := by decide +kernel
theorem dX8_addLink_78 : decode cX8_addLink 78 = .ok (.iload_n 1, 1) := by decide +kernel
theorem dX8_addLink_79 : decode cX8_addLink 79 = .ok (.iload_n 2, 1) := by decide +kernel
theorem dX8_addLink_80 : decode cX8_addLink 80 = .ok (.iload_n 3, 1) := by decide +kernel
theorem dX8_addLink_81 : decode cX8_addLink 81 = .ok (.iload 4, 2) := by decide +kernel
theorem dX8_addLink_83 : decode cX8_addLink 83 = .ok (.invokevirtual 70, 3) := by decide +kernel
theorem dX8_addLink_86 : decode cX8_addLink 86 = .ok (.ireturn, 1) := by decide +kernel
set_option maxRecDepth 20000 in
theorem ggX8_turn_X8_checkLink : GoodIn wsX8_turn wsX8_checkLink := goodIn_ca (goodIn_r _ [8, 9, 10, 1, 11, 50, 51, 52, 53, 54, 55, 56, 57, 58, 59, 60, 61, 62] (by decide +kernel) (by decide +kernel)) (goodIn_sub (fun _ h => List.mem_cons_of_mem _ (List.mem_append_right _ h)) (by decide +kernel))
set_option maxRecDepth 20000 in
theorem gX8_turn_X8_checkLink : GoodIn wsX8_turn (wsV RX8 74 RX8 yX8_checkLink wsX8_checkLink) := goodIn_app (goodIn_of _ (by decide +kernel)) ggX8_turn_X8_checkLink
set_option maxRecDepth 20000 in
theorem ggX8_turn_X3_flip : GoodIn wsX8_turn wsX3_flip := goodIn_r _ [16, 17, 18, 19, 20, 15, 21, 22, 23, 24, 25, 26, 27, 28, 29, 30, 31, 32, 33, 34, 54, 55, 56, 57, 58, 59, 60, 61, 62] (by decide +kernel) (by decide +kernel)
set_option maxRecDepth 20000 in
theorem gX8_turn_X3_flip : GoodIn wsX8_turn (wsV RX8 77 RX3 yX3_flip wsX3_flip) := goodIn_app (goodIn_of _ (by decide +kernel)) ggX8_turn_X3_flip
set_option maxRecDepth 20000 in
theorem ggX8_turn_X6_dropAll : GoodIn wsX8_turn wsX6_dropAll := goodIn_r _ [39, 40, 41, 42, 43, 44, 45, 46, 47, 48, 49, 63, 64, 65, 66, 67, 68, 69, 70, 71, 72, 73, 74, 75] (by decide +kernel) (by decide +kernel)
set_option maxRecDepth 20000 in
theorem gX8_turn_X6_dropAll : GoodIn wsX8_turn (wsV RX8 84 RX6 yX6_dropAll wsX6_dropAll) := goodIn_app (goodIn_of _ (by decide +kernel)) ggX8_turn_X6_dropAll
theorem dX8_turn_0 : decode cX8_turn 0 = .ok (.aload_n 0, 1) := by decide +kernel
theorem dX8_turn_1 : decode cX8_turn 1 = .ok (.iload_n 1, 1) := by decide +kernel
theorem dX8_turn_2 : decode cX8_turn 2 = .ok (.invokevirtual 74, 3) := by decide +kernel
theorem dX8_turn_5 : decode cX8_turn 5 = .ok (.aload_n 0, 1) := by decide +kernel
theorem dX8_turn_6 : decode cX8_turn 6 = .ok (.getfield 12, 3) := by decide +kernel
theorem dX8_turn_9 : decode cX8_turn 9 = .ok (.iload_n 1, 1) := by decide +kernel
theorem dX8_turn_10 : decode cX8_turn 10 = .ok (.invokevirtual 77, 3) := by decide +kernel
theorem dX8_turn_13 : decode cX8_turn 13 = .ok (.aload_n 0, 1) := by decide +kernel
theorem dX8_turn_14 : decode cX8_turn 14 = .ok (.getfield 12, 3) := by decide +kernel
theorem dX8_turn_17 : decode cX8_turn 17 = .ok (.getfield 80, 3) := by decide +kernel
theorem dX8_turn_20 : decode cX8_turn 20 = .ok (.iload_n 1, 1) := by decide +kernel
theorem dX8_turn_21 : decode cX8_turn 21 = .ok (.baload, 1) := by decide +kernel
theorem dX8_turn_22 : decode cX8_turn 22 = .ok (.ifCond .eq 7, 3) := by decide +kernel
theorem dX8_turn_25 : decode cX8_turn 25 = .ok (.iconst 0, 1) := by decide +kernel
theorem dX8_turn_26 : decode cX8_turn 26 = .ok (.goto 11, 3) := by decide +kernel
theorem dX8_turn_29 : decode cX8_turn 29 = .ok (.aload_n 0, 1) := by decide +kernel
theorem dX8_turn_30 : decode cX8_turn 30 = .ok (.getfield 21, 3) := by decide +kernel
theorem dX8_turn_33 : decode cX8_turn 33 = .ok (.iload_n 1, 1) := by decide +kernel
theorem dX8_turn_34 : decode cX8_turn 34 = .ok (.invokevirtual 84, 3) := by decide +kernel
theorem dX8_turn_37 : decode cX8_turn 37 = .ok (.ireturn, 1) := by decide +kernel
set_option maxRecDepth 20000 in
theorem ggX8_lose_X8_wayOf : GoodIn wsX8_lose wsX8_wayOf := goodIn_ca (goodIn_r _ [6, 7, 8, 9, 10, 11, 12, 13, 5, 14, 15, 16, 29, 30, 31, 32, 33, 34, 35, 36, 37, 38, 39, 40, 41, 42, 43, 44, 45, 46, 47] (by decide +kernel) (by decide +kernel)) (goodIn_sub (fun _ h => List.mem_cons_of_mem _ (List.mem_append_left _ (List.mem_append_right _ h))) (by decide +kernel))
set_option maxRecDepth 20000 in
theorem gX8_lose_X8_wayOf : GoodIn wsX8_lose (wsV RX8 88 RX8 yX8_wayOf wsX8_wayOf) := goodIn_app (goodIn_of _ (by decide +kernel)) ggX8_lose_X8_wayOf
set_option maxRecDepth 20000 in
theorem ggX8_lose_X8_checkRange : GoodIn wsX8_lose wsX8_checkRange := goodIn_ca (goodIn_r _ [19, 20, 21] (by decide +kernel) (by decide +kernel)) (goodIn_sub (fun _ h => List.mem_cons_of_mem _ (List.mem_append_right _ h)) (by decide +kernel))
set_option maxRecDepth 20000 in
theorem gX8_lose_X8_checkRange : GoodIn wsX8_lose (va_wsS RX8 57 yX8_checkRange wsX8_checkRange) := goodIn_app (goodIn_of _ (by decide +kernel)) ggX8_lose_X8_checkRange
theorem dX8_lose_0 : decode cX8_lose 0 = .ok (.aload_n 0, 1) := by decide +kernel
theorem dX8_lose_1 : decode cX8_lose 1 = .ok (.iload_n 1, 1) := by decide +kernel
theorem dX8_lose_2 : decode cX8_lose 2 = .ok (.iload_n 2, 1) := by decide +kernel
theorem dX8_lose_3 : decode cX8_lose 3 = .ok (.invokevirtual 88, 3) := by decide +kernel
theorem dX8_lose_6 : decode cX8_lose 6 = .ok (.astore 4, 2) := by decide +kernel
theorem dX8_lose_8 : decode cX8_lose 8 = .ok (.iload_n 3, 1) := by decide +kernel
theorem dX8_lose_9 : decode cX8_lose 9 = .ok (.iconst 0, 1) := by decide +kernel
theorem dX8_lose_10 : decode cX8_lose 10 = .ok (.bipush 9, 2) := by decide +kernel
theorem dX8_lose_12 : decode cX8_lose 12 = .ok (.invokestatic 57, 3) := by decide +kernel
theorem dX8_lose_15 : decode cX8_lose 15 = .ok (.aload 4, 2) := by decide +kernel
theorem dX8_lose_17 : decode cX8_lose 17 = .ok (.getfield 92, 3) := by decide +kernel
theorem dX8_lose_20 : decode cX8_lose 20 = .ok (.istore 5, 2) := by decide +kernel
theorem dX8_lose_22 : decode cX8_lose 22 = .ok (.aload 4, 2) := by decide +kernel
theorem dX8_lose_24 : decode cX8_lose 24 = .ok (.iload_n 3, 1) := by decide +kernel
theorem dX8_lose_25 : decode cX8_lose 25 = .ok (.putfield 92, 3) := by decide +kernel
theorem dX8_lose_28 : decode cX8_lose 28 = .ok (.iload 5, 2) := by decide +kernel
theorem dX8_lose_30 : decode cX8_lose 30 = .ok (.ireturn, 1) := by decide +kernel
set_option maxRecDepth 20000 in
theorem ggX8_call_X8_checkNode : GoodIn wsX8_call wsX8_checkNode := goodIn_ca (goodIn_r _ [11, 12, 13, 14, 15, 98, 99, 100, 101, 108, 109, 110, 111, 112, 113, 114, 115, 116] (by decide +kernel) (by decide +kernel)) (goodIn_sub (fun _ h => List.mem_cons_of_mem _ (List.mem_append_right _ h)) (by decide +kernel))
set_option maxRecDepth 20000 in
theorem gX8_call_X8_checkNode : GoodIn wsX8_call (wsV RX8 48 RX8 yX8_checkNode wsX8_checkNode) := goodIn_app (goodIn_of _ (by decide +kernel)) ggX8_call_X8_checkNode
set_option maxRecDepth 20000 in
theorem ggX8_call_X8_checkRange : GoodIn wsX8_call wsX8_checkRange := goodIn_ca (goodIn_r _ [18, 1, 2] (by decide +kernel) (by decide +kernel)) (goodIn_sub (fun _ h => List.mem_cons_of_mem _ (List.mem_append_left _ (List.mem_append_left _ (List.mem_append_right _ h)))) (by decide +kernel))
set_option maxRecDepth 20000 in
theorem gX8_call_X8_checkRange : GoodIn wsX8_call (va_wsS RX8 57 yX8_checkRange wsX8_checkRange) := goodIn_app (goodIn_of _ (by decide +kernel)) ggX8_call_X8_checkRange
set_option maxRecDepth 20000 in
theorem ggX8_call_X6_connect : GoodIn wsX8_call wsX6_connect := goodIn_r _ [23, 24, 25, 26, 27, 28, 29, 30, 31, 32, 33, 34, 35, 36, 37, 38, 39, 40, 41, 42, 43, 44, 45, 46, 47, 48, 49, 50, 51, 52, 53, 54, 55, 56, 57, 22, 58, 59, 60, 61, 62, 63, 64, 65, 66, 67, 68, 69, 70, 71, 72, 73, 74, 75, 76, 77, 78, 79, 80, 81, 82, 83, 84, 85, 86, 87, 88, 89, 90, 91, 92, 93, 94, 95, 96, 97, 102, 103, 104, 105, 106, 107, 117, 118, 119, 120, 121, 122, 123, 124, 125, 126, 127, 128, 129, 130, 131, 132, 133, 134, 135, 136, 137, 138, 139, 140, 141, 142, 143, 108, 109, 110, 111, 112, 113, 114, 115, 116, 144, 145, 146, 147, 148, 149, 150] (by decide +kernel) (by decide +kernel)
set_option maxRecDepth 20000 in
theorem gX8_call_X6_connect : GoodIn wsX8_call (wsV RX8 104 RX6 yX6_connect wsX6_connect) := goodIn_app (goodIn_of _ (by decide +kernel)) ggX8_call_X6_connect
theorem dX8_call_0 : decode cX8_call 0 = .ok (.aload_n 0, 1) := by decide +kernel
theorem dX8_call_1 : decode cX8_call 1 = .ok (.iload_n 1, 1) := by decide +kernel
theorem dX8_call_2 : decode cX8_call 2 = .ok (.invokevirtual 48, 3) := by decide +kernel
theorem dX8_call_5 : decode cX8_call 5 = .ok (.aload_n 0, 1) := by decide +kernel
theorem dX8_call_6 : decode cX8_call 6 = .ok (.iload_n 2, 1) := by decide +kernel
theorem dX8_call_7 : decode cX8_call 7 = .ok (.invokevirtual 48, 3) := by decide +kernel
theorem dX8_call_10 : decode cX8_call 10 = .ok (.iload_n 1, 1) := by decide +kernel
theorem dX8_call_11 : decode cX8_call 11 = .ok (.iload_n 2, 1) := by decide +kernel
theorem dX8_call_12 : decode cX8_call 12 = .ok (.if_icmp .ne 13, 3) := by decide +kernel
theorem dX8_call_15 : decode cX8_call 15 = .ok (.new 52, 3) := by decide +kernel
theorem dX8_call_18 : decode cX8_call 18 = .ok (.dup, 1) := by decide +kernel
theorem dX8_call_19 : decode cX8_call 19 = .ok (.ldc 97, 2) := by decide +kernel
theorem dX8_call_21 : decode cX8_call 21 = .ok (.invokespecial 56, 3) := by decide +kernel
theorem dX8_call_24 : decode cX8_call 24 = .ok (.athrow, 1) := by decide +kernel
theorem dX8_call_25 : decode cX8_call 25 = .ok (.iload_n 3, 1) := by decide +kernel
theorem dX8_call_26 : decode cX8_call 26 = .ok (.iconst 1, 1) := by decide +kernel
theorem dX8_call_27 : decode cX8_call 27 = .ok (.bipush 16, 2) := by decide +kernel
theorem dX8_call_29 : decode cX8_call 29 = .ok (.invokestatic 57, 3) := by decide +kernel
theorem dX8_call_32 : decode cX8_call 32 = .ok (.aload_n 0, 1) := by decide +kernel
theorem dX8_call_33 : decode cX8_call 33 = .ok (.getfield 21, 3) := by decide +kernel
theorem dX8_call_36 : decode cX8_call 36 = .ok (.getfield 99, 3) := by decide +kernel
theorem dX8_call_39 : decode cX8_call 39 = .ok (.bipush 6, 2) := by decide +kernel
theorem dX8_call_41 : decode cX8_call 41 = .ok (.if_icmp .lt 13, 3) := by decide +kernel
theorem dX8_call_44 : decode cX8_call 44 = .ok (.new 37, 3) := by decide +kernel
theorem dX8_call_47 : decode cX8_call 47 = .ok (.dup, 1) := by decide +kernel
theorem dX8_call_48 : decode cX8_call 48 = .ok (.ldc 102, 2) := by decide +kernel
theorem dX8_call_50 : decode cX8_call 50 = .ok (.invokespecial 41, 3) := by decide +kernel
theorem dX8_call_53 : decode cX8_call 53 = .ok (.athrow, 1) := by decide +kernel
theorem dX8_call_54 : decode cX8_call 54 = .ok (.aload_n 0, 1) := by decide +kernel
theorem dX8_call_55 : decode cX8_call 55 = .ok (.getfield 21, 3) := by decide +kernel
theorem dX8_call_58 : decode cX8_call 58 = .ok (.iload_n 1, 1) := by decide +kernel
theorem dX8_call_59 : decode cX8_call 59 = .ok (.iload_n 2, 1) := by decide +kernel
theorem dX8_call_60 : decode cX8_call 60 = .ok (.iload_n 3, 1) := by decide +kernel
theorem dX8_call_61 : decode cX8_call 61 = .ok (.invokevirtual 104, 3) := by decide +kernel
theorem dX8_call_64 : decode cX8_call 64 = .ok (.ireturn, 1) := by decide +kernel
set_option maxRecDepth 20000 in
theorem ggX8_give_X8_callerOf : GoodIn wsX8_give wsX8_callerOf := goodIn_ca (goodIn_r _ [9, 10, 11, 12, 13, 8, 14, 15, 16, 17, 18, 19, 48, 49, 50, 51, 44, 45, 46, 47, 52, 53, 54, 55, 56, 57] (by decide +kernel) (by decide +kernel)) (goodIn_sub (fun _ h => List.mem_cons_of_mem _ (List.mem_append_left _ (List.mem_append_right _ h))) (by decide +kernel))
set_option maxRecDepth 20000 in
theorem gX8_give_X8_callerOf : GoodIn wsX8_give (wsV RX8 108 RX8 yX8_callerOf wsX8_callerOf) := goodIn_app (goodIn_of _ (by decide +kernel)) ggX8_give_X8_callerOf
set_option maxRecDepth 20000 in
theorem ggX8_give_X8_checkRange : GoodIn wsX8_give wsX8_checkRange := goodIn_ca (goodIn_r _ [22, 23, 24] (by decide +kernel) (by decide +kernel)) (goodIn_sub (fun _ h => List.mem_cons_of_mem _ (List.mem_append_right _ h)) (by decide +kernel))
set_option maxRecDepth 20000 in
theorem gX8_give_X8_checkRange : GoodIn wsX8_give (va_wsS RX8 57 yX8_checkRange wsX8_checkRange) := goodIn_app (goodIn_of _ (by decide +kernel)) ggX8_give_X8_checkRange
set_option maxRecDepth 20000 in
theorem ggX8_give_X8_checkTakesThings : GoodIn wsX8_give wsX8_checkTakesThings := goodIn_ca (goodIn_r _ [27, 1, 2, 28, 29, 30, 31, 32, 33, 34, 35, 36, 37, 38, 39, 40, 41, 42, 43] (by decide +kernel) (by decide +kernel)) (goodIn_sub (fun _ h => List.mem_cons_of_mem _ (List.mem_append_left _ (List.mem_append_left _ (List.mem_append_right _ h)))) (by decide +kernel))
set_option maxRecDepth 20000 in
theorem gX8_give_X8_checkTakesThings : GoodIn wsX8_give (va_wsS RX8 112 yX8_checkTakesThings wsX8_checkTakesThings) := goodIn_app (goodIn_of _ (by decide +kernel)) ggX8_give_X8_checkTakesThings
theorem dX8_give_0 : decode cX8_give 0 = .ok (.aload_n 0, 1) := by decide +kernel
theorem dX8_give_1 : decode cX8_give 1 = .ok (.iload_n 1, 1) := by decide +kernel
theorem dX8_give_2 : decode cX8_give 2 = .ok (.invokevirtual 108, 3) := by decide +kernel
theorem dX8_give_5 : decode cX8_give 5 = .ok (.astore 4, 2) := by decide +kernel
theorem dX8_give_7 : decode cX8_give 7 = .ok (.iload_n 3, 1) := by decide +kernel
theorem dX8_give_8 : decode cX8_give 8 = .ok (.iconst 1, 1) := by decide +kernel
theorem dX8_give_9 : decode cX8_give 9 = .ok (.bipush 50, 2) := by decide +kernel
theorem dX8_give_11 : decode cX8_give 11 = .ok (.invokestatic 57, 3) := by decide +kernel
theorem dX8_give_14 : decode cX8_give 14 = .ok (.aload 4, 2) := by decide +kernel
theorem dX8_give_16 : decode cX8_give 16 = .ok (.invokestatic 112, 3) := by decide +kernel
theorem dX8_give_19 : decode cX8_give 19 = .ok (.aload 4, 2) := by decide +kernel
theorem dX8_give_21 : decode cX8_give 21 = .ok (.getfield 116, 3) := by decide +kernel
theorem dX8_give_24 : decode cX8_give 24 = .ok (.iload_n 3, 1) := by decide +kernel
theorem dX8_give_25 : decode cX8_give 25 = .ok (.iadd, 1) := by decide +kernel
theorem dX8_give_26 : decode cX8_give 26 = .ok (.sipush 200, 3) := by decide +kernel
theorem dX8_give_29 : decode cX8_give 29 = .ok (.if_icmp .le 13, 3) := by decide +kernel
theorem dX8_give_32 : decode cX8_give 32 = .ok (.new 37, 3) := by decide +kernel
theorem dX8_give_35 : decode cX8_give 35 = .ok (.dup, 1) := by decide +kernel
theorem dX8_give_36 : decode cX8_give 36 = .ok (.ldc 121, 2) := by decide +kernel
theorem dX8_give_38 : decode cX8_give 38 = .ok (.invokespecial 41, 3) := by decide +kernel
theorem dX8_give_41 : decode cX8_give 41 = .ok (.athrow, 1) := by decide +kernel
theorem dX8_give_42 : decode cX8_give 42 = .ok (.iconst 0, 1) := by decide +kernel
theorem dX8_give_43 : decode cX8_give 43 = .ok (.istore 5, 2) := by decide +kernel
theorem dX8_give_45 : decode cX8_give 45 = .ok (.iload 5, 2) := by decide +kernel
theorem dX8_give_47 : decode cX8_give 47 = .ok (.iload_n 3, 1) := by decide +kernel
theorem dX8_give_48 : decode cX8_give 48 = .ok (.if_icmp .ge 36, 3) := by decide +kernel
theorem dX8_give_51 : decode cX8_give 51 = .ok (.aload_n 0, 1) := by decide +kernel
theorem dX8_give_52 : decode cX8_give 52 = .ok (.getfield 30, 3) := by decide +kernel
theorem dX8_give_55 : decode cX8_give 55 = .ok (.iload_n 1, 1) := by decide +kernel
theorem dX8_give_56 : decode cX8_give 56 = .ok (.aaload, 1) := by decide +kernel
theorem dX8_give_57 : decode cX8_give 57 = .ok (.aload 4, 2) := by decide +kernel
theorem dX8_give_59 : decode cX8_give 59 = .ok (.getfield 116, 3) := by decide +kernel
theorem dX8_give_62 : decode cX8_give 62 = .ok (.iload_n 2, 1) := by decide +kernel
theorem dX8_give_63 : decode cX8_give 63 = .ok (.iload 5, 2) := by decide +kernel
theorem dX8_give_65 : decode cX8_give 65 = .ok (.iadd, 1) := by decide +kernel
theorem dX8_give_66 : decode cX8_give 66 = .ok (.iastore, 1) := by decide +kernel
theorem dX8_give_67 : decode cX8_give 67 = .ok (.aload 4, 2) := by decide +kernel
theorem dX8_give_69 : decode cX8_give 69 = .ok (.dup, 1) := by decide +kernel
theorem dX8_give_70 : decode cX8_give 70 = .ok (.getfield 116, 3) := by decide +kernel
theorem dX8_give_73 : decode cX8_give 73 = .ok (.iconst 1, 1) := by decide +kernel
theorem dX8_give_74 : decode cX8_give 74 = .ok (.iadd, 1) := by decide +kernel
theorem dX8_give_75 : decode cX8_give 75 = .ok (.putfield 116, 3) := by decide +kernel
theorem dX8_give_78 : decode cX8_give 78 = .ok (.iinc 5 1, 3) := by decide +kernel
theorem dX8_give_81 : decode cX8_give 81 = .ok (.goto (-36), 3) := by decide +kernel
theorem dX8_give_84 : decode cX8_give 84 = .ok (.aload 4, 2) := by decide +kernel
theorem dX8_give_86 : decode cX8_give 86 = .ok (.getfield 116, 3) := by decide +kernel
theorem dX8_give_89 : decode cX8_give 89 = .ok (.ireturn, 1) := by decide +kernel
set_option maxRecDepth 20000 in
theorem ggX8_close_X8_callerOf : GoodIn wsX8_close wsX8_callerOf := goodIn_ca (goodIn_r _ [7, 8, 9, 10, 11, 6, 12, 13, 14, 15, 16, 17, 45, 46, 47, 48, 49, 50, 51, 52, 53, 54, 55, 56, 57, 58] (by decide +kernel) (by decide +kernel)) (goodIn_sub (fun _ h => List.mem_cons_of_mem _ (List.mem_append_left _ (List.mem_append_right _ h))) (by decide +kernel))
set_option maxRecDepth 20000 in
theorem gX8_close_X8_callerOf : GoodIn wsX8_close (wsV RX8 108 RX8 yX8_callerOf wsX8_callerOf) := goodIn_app (goodIn_of _ (by decide +kernel)) ggX8_close_X8_callerOf
set_option maxRecDepth 20000 in
theorem ggX8_close_X8_checkTakesThings : GoodIn wsX8_close wsX8_checkTakesThings := goodIn_ca (goodIn_r _ [20, 21, 22, 23, 1, 31, 32, 33, 34, 35, 36, 37, 38, 39, 40, 41, 42, 43, 44] (by decide +kernel) (by decide +kernel)) (goodIn_sub (fun _ h => List.mem_cons_of_mem _ (List.mem_append_right _ h)) (by decide +kernel))
set_option maxRecDepth 20000 in
theorem gX8_close_X8_checkTakesThings : GoodIn wsX8_close (va_wsS RX8 112 yX8_checkTakesThings wsX8_checkTakesThings) := goodIn_app (goodIn_of _ (by decide +kernel)) ggX8_close_X8_checkTakesThings
set_option maxRecDepth 20000 in
theorem ggX8_close_X1_things : GoodIn wsX8_close wsX1_things := goodIn_r _ [28, 29, 30, 31, 32, 33, 34, 35, 36, 37, 38, 39, 40, 41, 42, 43, 44] (by decide +kernel) (by decide +kernel)
set_option maxRecDepth 20000 in
theorem gX8_close_X1_things : GoodIn wsX8_close (wsV RX8 127 RX1 yX1_things wsX1_things) := goodIn_app (goodIn_of _ (by decide +kernel)) ggX8_close_X1_things
theorem dX8_close_0 : decode cX8_close 0 = .ok (.aload_n 0, 1) := by decide +kernel
theorem dX8_close_1 : decode cX8_close 1 = .ok (.iload_n 1, 1) := by decide +kernel
theorem dX8_close_2 : decode cX8_close 2 = .ok (.invokevirtual 108, 3) := by decide +kernel
theorem dX8_close_5 : decode cX8_close 5 = .ok (.astore_n 2, 1) := by decide +kernel
theorem dX8_close_6 : decode cX8_close 6 = .ok (.aload_n 2, 1) := by decide +kernel
theorem dX8_close_7 : decode cX8_close 7 = .ok (.invokestatic 112, 3) := by decide +kernel
theorem dX8_close_10 : decode cX8_close 10 = .ok (.aload_n 2, 1) := by decide +kernel
theorem dX8_close_11 : decode cX8_close 11 = .ok (.iconst 1, 1) := by decide +kernel
theorem dX8_close_12 : decode cX8_close 12 = .ok (.putfield 123, 3) := by decide +kernel
theorem dX8_close_15 : decode cX8_close 15 = .ok (.aload_n 2, 1) := by decide +kernel
theorem dX8_close_16 : decode cX8_close 16 = .ok (.invokevirtual 127, 3) := by decide +kernel
theorem dX8_close_19 : decode cX8_close 19 = .ok (.aload_n 2, 1) := by decide +kernel
theorem dX8_close_20 : decode cX8_close 20 = .ok (.getfield 130, 3) := by decide +kernel
theorem dX8_close_23 : decode cX8_close 23 = .ok (.isub, 1) := by decide +kernel
theorem dX8_close_24 : decode cX8_close 24 = .ok (.ireturn, 1) := by decide +kernel
set_option maxRecDepth 20000 in
theorem ggX8_read_X8_connectionOf : GoodIn wsX8_read wsX8_connectionOf := goodIn_ca (goodIn_r _ [15, 16, 17, 10, 18, 19, 105, 106, 107, 108, 109, 110, 111, 112, 113, 114] (by decide +kernel) (by decide +kernel)) (goodIn_sub (fun _ h => List.mem_cons_of_mem _ (List.mem_append_left _ (List.mem_append_right _ h))) (by decide +kernel))
set_option maxRecDepth 20000 in
theorem gX8_read_X8_connectionOf : GoodIn wsX8_read (wsV RX8 133 RX8 yX8_connectionOf wsX8_connectionOf) := goodIn_app (goodIn_of _ (by decide +kernel)) ggX8_read_X8_connectionOf
set_option maxRecDepth 20000 in
theorem ggX8_read_X8_checkRange : GoodIn wsX8_read wsX8_checkRange := goodIn_ca (goodIn_r _ [22, 23, 24] (by decide +kernel) (by decide +kernel)) (goodIn_sub (fun _ h => List.mem_cons_of_mem _ (List.mem_append_right _ h)) (by decide +kernel))
set_option maxRecDepth 20000 in
theorem gX8_read_X8_checkRange : GoodIn wsX8_read (va_wsS RX8 57 yX8_checkRange wsX8_checkRange) := goodIn_app (goodIn_of _ (by decide +kernel)) ggX8_read_X8_checkRange
set_option maxRecDepth 20000 in
theorem ggX8_read_X2_unread : GoodIn wsX8_read wsX2_unread := goodIn_r _ [29, 30, 31, 32, 33, 34, 4, 5, 6, 35, 97, 98, 99, 100, 101, 102, 103, 104, 115, 116, 117, 118, 119, 120, 121, 122, 123, 124, 125, 126, 127, 128] (by decide +kernel) (by decide +kernel)
set_option maxRecDepth 20000 in
theorem gX8_read_X2_unread : GoodIn wsX8_read (wsV RX8 137 RX2 yX2_unread wsX2_unread) := goodIn_app (goodIn_of _ (by decide +kernel)) ggX8_read_X2_unread
set_option maxRecDepth 20000 in
theorem ggX8_read_X0_spare : GoodIn wsX8_read wsX0_spare := goodIn_r _ [40, 41, 42, 43, 44, 45, 5, 46, 101, 102, 103, 104] (by decide +kernel) (by decide +kernel)
set_option maxRecDepth 20000 in
theorem gX8_read_X0_spare : GoodIn wsX8_read (wsV RX8 154 RX0 yX0_spare wsX0_spare) := goodIn_app (goodIn_of _ (by decide +kernel)) ggX8_read_X0_spare
set_option maxRecDepth 20000 in
theorem ggX8_read_X6_sendAnswer : GoodIn wsX8_read wsX6_sendAnswer := goodIn_r _ [51, 52, 53, 54, 55, 56, 57, 37, 38, 39, 40, 41, 42, 43, 44, 45, 5, 46, 58, 59, 60, 61, 62, 63, 64, 50, 65, 66, 67, 68, 69, 70, 71, 72, 73, 74, 75, 76, 77, 78, 79, 80, 81, 82, 83, 84, 85, 86, 87, 88, 89, 90, 91, 92, 93, 94, 95, 96, 109, 110, 111, 112, 113, 114, 97, 98, 99, 100, 101, 102, 103, 104, 129, 130, 131, 132, 133, 134, 135, 136, 137, 138, 139, 140, 141, 142, 143, 144] (by decide +kernel) (by decide +kernel)
set_option maxRecDepth 20000 in
theorem gX8_read_X6_sendAnswer : GoodIn wsX8_read (wsV RX8 162 RX6 yX6_sendAnswer wsX6_sendAnswer) := goodIn_app (goodIn_of _ (by decide +kernel)) ggX8_read_X6_sendAnswer
theorem dX8_read_0 : decode cX8_read 0 = .ok (.aload_n 0, 1) := by decide +kernel
theorem dX8_read_1 : decode cX8_read 1 = .ok (.iload_n 1, 1) := by decide +kernel
theorem dX8_read_2 : decode cX8_read 2 = .ok (.invokevirtual 133, 3) := by decide +kernel
theorem dX8_read_5 : decode cX8_read 5 = .ok (.astore_n 3, 1) := by decide +kernel
theorem dX8_read_6 : decode cX8_read 6 = .ok (.iload_n 2, 1) := by decide +kernel
theorem dX8_read_7 : decode cX8_read 7 = .ok (.iconst 1, 1) := by decide +kernel
theorem dX8_read_8 : decode cX8_read 8 = .ok (.bipush 50, 2) := by decide +kernel
theorem dX8_read_10 : decode cX8_read 10 = .ok (.invokestatic 57, 3) := by decide +kernel
theorem dX8_read_13 : decode cX8_read 13 = .ok (.iload_n 2, 1) := by decide +kernel
theorem dX8_read_14 : decode cX8_read 14 = .ok (.aload_n 3, 1) := by decide +kernel
theorem dX8_read_15 : decode cX8_read 15 = .ok (.invokevirtual 137, 3) := by decide +kernel
theorem dX8_read_18 : decode cX8_read 18 = .ok (.invokestatic 142, 3) := by decide +kernel
theorem dX8_read_21 : decode cX8_read 21 = .ok (.istore 4, 2) := by decide +kernel
theorem dX8_read_23 : decode cX8_read 23 = .ok (.iload 4, 2) := by decide +kernel
theorem dX8_read_25 : decode cX8_read 25 = .ok (.ifCond .gt 13, 3) := by decide +kernel
theorem dX8_read_28 : decode cX8_read 28 = .ok (.new 37, 3) := by decide +kernel
theorem dX8_read_31 : decode cX8_read 31 = .ok (.dup, 1) := by decide +kernel
theorem dX8_read_32 : decode cX8_read 32 = .ok (.ldc 148, 2) := by decide +kernel
theorem dX8_read_34 : decode cX8_read 34 = .ok (.invokespecial 41, 3) := by decide +kernel
theorem dX8_read_37 : decode cX8_read 37 = .ok (.athrow, 1) := by decide +kernel
theorem dX8_read_38 : decode cX8_read 38 = .ok (.aload_n 3, 1) := by decide +kernel
theorem dX8_read_39 : decode cX8_read 39 = .ok (.getfield 150, 3) := by decide +kernel
theorem dX8_read_42 : decode cX8_read 42 = .ok (.astore 5, 2) := by decide +kernel
theorem dX8_read_44 : decode cX8_read 44 = .ok (.aload 5, 2) := by decide +kernel
theorem dX8_read_46 : decode cX8_read 46 = .ok (.invokevirtual 154, 3) := by decide +kernel
theorem dX8_read_49 : decode cX8_read 49 = .ok (.ifCond .ne 7, 3) := by decide +kernel
theorem dX8_read_52 : decode cX8_read 52 = .ok (.iconst 1, 1) := by decide +kernel
theorem dX8_read_53 : decode cX8_read 53 = .ok (.goto 4, 3) := by decide +kernel
theorem dX8_read_56 : decode cX8_read 56 = .ok (.iconst 0, 1) := by decide +kernel
theorem dX8_read_57 : decode cX8_read 57 = .ok (.istore 6, 2) := by decide +kernel
theorem dX8_read_59 : decode cX8_read 59 = .ok (.iconst 0, 1) := by decide +kernel
theorem dX8_read_60 : decode cX8_read 60 = .ok (.istore 7, 2) := by decide +kernel
theorem dX8_read_62 : decode cX8_read 62 = .ok (.iconst 0, 1) := by decide +kernel
theorem dX8_read_63 : decode cX8_read 63 = .ok (.istore 8, 2) := by decide +kernel
theorem dX8_read_65 : decode cX8_read 65 = .ok (.iload 8, 2) := by decide +kernel
theorem dX8_read_67 : decode cX8_read 67 = .ok (.iload 4, 2) := by decide +kernel
theorem dX8_read_69 : decode cX8_read 69 = .ok (.if_icmp .ge 48, 3) := by decide +kernel
theorem dX8_read_72 : decode cX8_read 72 = .ok (.aload 5, 2) := by decide +kernel
theorem dX8_read_74 : decode cX8_read 74 = .ok (.getfield 159, 3) := by decide +kernel
theorem dX8_read_77 : decode cX8_read 77 = .ok (.sipush 200, 3) := by decide +kernel
theorem dX8_read_80 : decode cX8_read 80 = .ok (.if_icmp .ge 37, 3) := by decide +kernel
theorem dX8_read_83 : decode cX8_read 83 = .ok (.iload 7, 2) := by decide +kernel
theorem dX8_read_85 : decode cX8_read 85 = .ok (.aload_n 0, 1) := by decide +kernel
theorem dX8_read_86 : decode cX8_read 86 = .ok (.getfield 30, 3) := by decide +kernel
theorem dX8_read_89 : decode cX8_read 89 = .ok (.iload_n 1, 1) := by decide +kernel
theorem dX8_read_90 : decode cX8_read 90 = .ok (.aaload, 1) := by decide +kernel
theorem dX8_read_91 : decode cX8_read 91 = .ok (.aload 5, 2) := by decide +kernel
theorem dX8_read_93 : decode cX8_read 93 = .ok (.getfield 159, 3) := by decide +kernel
theorem dX8_read_96 : decode cX8_read 96 = .ok (.iaload, 1) := by decide +kernel
theorem dX8_read_97 : decode cX8_read 97 = .ok (.iadd, 1) := by decide +kernel
theorem dX8_read_98 : decode cX8_read 98 = .ok (.istore 7, 2) := by decide +kernel
theorem dX8_read_100 : decode cX8_read 100 = .ok (.aload 5, 2) := by decide +kernel
theorem dX8_read_102 : decode cX8_read 102 = .ok (.dup, 1) := by decide +kernel
theorem dX8_read_103 : decode cX8_read 103 = .ok (.getfield 159, 3) := by decide +kernel
theorem dX8_read_106 : decode cX8_read 106 = .ok (.iconst 1, 1) := by decide +kernel
theorem dX8_read_107 : decode cX8_read 107 = .ok (.iadd, 1) := by decide +kernel
theorem dX8_read_108 : decode cX8_read 108 = .ok (.putfield 159, 3) := by decide +kernel
theorem dX8_read_111 : decode cX8_read 111 = .ok (.iinc 8 1, 3) := by decide +kernel
theorem dX8_read_114 : decode cX8_read 114 = .ok (.goto (-49), 3) := by decide +kernel
theorem dX8_read_117 : decode cX8_read 117 = .ok (.iload 6, 2) := by decide +kernel
theorem dX8_read_119 : decode cX8_read 119 = .ok (.ifCond .eq 19, 3) := by decide +kernel
theorem dX8_read_122 : decode cX8_read 122 = .ok (.aload 5, 2) := by decide +kernel
theorem dX8_read_124 : decode cX8_read 124 = .ok (.invokevirtual 154, 3) := by decide +kernel
theorem dX8_read_127 : decode cX8_read 127 = .ok (.ifCond .eq 11, 3) := by decide +kernel
theorem dX8_read_130 : decode cX8_read 130 = .ok (.aload_n 0, 1) := by decide +kernel
theorem dX8_read_131 : decode cX8_read 131 = .ok (.getfield 21, 3) := by decide +kernel
theorem dX8_read_134 : decode cX8_read 134 = .ok (.iload_n 1, 1) := by decide +kernel
theorem dX8_read_135 : decode cX8_read 135 = .ok (.invokevirtual 162, 3) := by decide +kernel
theorem dX8_read_138 : decode cX8_read 138 = .ok (.iload 7, 2) := by decide +kernel
theorem dX8_read_140 : decode cX8_read 140 = .ok (.ireturn, 1) := by decide +kernel
set_option maxRecDepth 20000 in
theorem ggX8_pass_X8_checkRange : GoodIn wsX8_pass wsX8_checkRange := goodIn_ca (goodIn_r _ [6, 7, 8] (by decide +kernel) (by decide +kernel)) (goodIn_sub (fun _ h => List.mem_cons_of_mem _ (List.mem_append_right _ h)) (by decide +kernel))
set_option maxRecDepth 20000 in
theorem gX8_pass_X8_checkRange : GoodIn wsX8_pass (va_wsS RX8 57 yX8_checkRange wsX8_checkRange) := goodIn_app (goodIn_of _ (by decide +kernel)) ggX8_pass_X8_checkRange
set_option maxRecDepth 20000 in
theorem ggX8_pass_X6_tick : GoodIn wsX8_pass wsX6_tick := goodIn_r _ [13, 14, 15, 16, 17, 12, 18, 19, 20, 21, 22, 23, 24, 25, 26, 27, 28, 29, 30, 31, 32, 33, 34, 35, 36, 37, 38, 39, 40, 41, 42, 43, 44, 45, 46, 47, 48, 49, 50, 51, 52, 53, 54, 55, 56, 57, 58, 59, 60, 61, 62, 63, 64, 65, 66, 67, 68, 69, 70, 71, 72, 73, 74, 75, 76, 77, 78, 79, 80, 81, 82, 83, 84, 85, 86, 87, 88, 89, 90, 91, 92, 93, 94, 95, 96, 97, 98, 99, 100, 101, 102, 103, 104, 105, 106, 107, 108, 109, 110, 111, 112, 113, 114, 115, 116, 117, 118, 119, 120, 121, 122, 123, 124, 125, 126, 127, 128, 129, 130, 131, 132, 133, 134, 135, 136, 137, 138, 139, 140, 141, 142, 143, 144, 145, 146, 147, 148, 149, 150, 151, 152, 153, 154, 155, 156, 157, 158, 159, 160, 161, 162, 163, 164, 165, 166, 167, 168, 169, 170, 171, 172, 173, 174, 175, 176, 177, 178, 179, 180, 181, 182, 183, 184, 185, 186, 187, 188, 189, 190, 191, 192, 193, 194, 195, 196, 197, 198, 199, 200, 201, 202, 203, 204, 205, 206, 207, 208, 209, 210, 211, 212, 213, 214, 215, 216, 217, 218, 219, 220, 221, 222, 223, 224, 225, 226, 227, 228, 229, 230, 231, 232, 233, 238, 239, 240, 241, 242, 243, 244, 245, 246, 247, 248, 249, 250, 251, 252, 253, 254, 255, 256, 257, 258, 259, 260, 261, 262, 263, 264, 265, 266, 267, 268, 269, 270, 271, 272, 273, 274, 275, 276, 277, 278, 279, 280, 281, 282, 283, 284, 285, 286] (by decide +kernel) (by decide +kernel)
set_option maxRecDepth 20000 in
theorem gX8_pass_X6_tick : GoodIn wsX8_pass (wsV RX8 165 RX6 yX6_tick wsX6_tick) := goodIn_app (goodIn_of _ (by decide +kernel)) ggX8_pass_X6_tick
theorem dX8_pass_0 : decode cX8_pass 0 = .ok (.iload_n 1, 1) := by decide +kernel
theorem dX8_pass_1 : decode cX8_pass 1 = .ok (.iconst 1, 1) := by decide +kernel
theorem dX8_pass_2 : decode cX8_pass 2 = .ok (.bipush 50, 2) := by decide +kernel
theorem dX8_pass_4 : decode cX8_pass 4 = .ok (.invokestatic 57, 3) := by decide +kernel
theorem dX8_pass_7 : decode cX8_pass 7 = .ok (.iconst 0, 1) := by decide +kernel
theorem dX8_pass_8 : decode cX8_pass 8 = .ok (.istore_n 2, 1) := by decide +kernel
theorem dX8_pass_9 : decode cX8_pass 9 = .ok (.iload_n 2, 1) := by decide +kernel
theorem dX8_pass_10 : decode cX8_pass 10 = .ok (.iload_n 1, 1) := by decide +kernel
theorem dX8_pass_11 : decode cX8_pass 11 = .ok (.if_icmp .ge 16, 3) := by decide +kernel
theorem dX8_pass_14 : decode cX8_pass 14 = .ok (.aload_n 0, 1) := by decide +kernel
theorem dX8_pass_15 : decode cX8_pass 15 = .ok (.getfield 21, 3) := by decide +kernel
theorem dX8_pass_18 : decode cX8_pass 18 = .ok (.invokevirtual 165, 3) := by decide +kernel
theorem dX8_pass_21 : decode cX8_pass 21 = .ok (.iinc 2 1, 3) := by decide +kernel
theorem dX8_pass_24 : decode cX8_pass 24 = .ok (.goto (-15), 3) := by decide +kernel
theorem dX8_pass_27 : decode cX8_pass 27 = .ok (.aload_n 0, 1) := by decide +kernel
theorem dX8_pass_28 : decode cX8_pass 28 = .ok (.getfield 21, 3) := by decide +kernel
theorem dX8_pass_31 : decode cX8_pass 31 = .ok (.getfield 168, 3) := by decide +kernel
theorem dX8_pass_34 : decode cX8_pass 34 = .ok (.ireturn, 1) := by decide +kernel
theorem dX8_clock_0 : decode cX8_clock 0 = .ok (.aload_n 0, 1) := by decide +kernel
theorem dX8_clock_1 : decode cX8_clock 1 = .ok (.getfield 21, 3) := by decide +kernel
theorem dX8_clock_4 : decode cX8_clock 4 = .ok (.getfield 168, 3) := by decide +kernel
theorem dX8_clock_7 : decode cX8_clock 7 = .ok (.ireturn, 1) := by decide +kernel
theorem dX8_nodes_0 : decode cX8_nodes 0 = .ok (.aload_n 0, 1) := by decide +kernel
theorem dX8_nodes_1 : decode cX8_nodes 1 = .ok (.getfield 12, 3) := by decide +kernel
theorem dX8_nodes_4 : decode cX8_nodes 4 = .ok (.getfield 33, 3) := by decide +kernel
theorem dX8_nodes_7 : decode cX8_nodes 7 = .ok (.ireturn, 1) := by decide +kernel
theorem dX8_links_0 : decode cX8_links 0 = .ok (.aload_n 0, 1) := by decide +kernel
theorem dX8_links_1 : decode cX8_links 1 = .ok (.getfield 12, 3) := by decide +kernel
theorem dX8_links_4 : decode cX8_links 4 = .ok (.getfield 61, 3) := by decide +kernel
theorem dX8_links_7 : decode cX8_links 7 = .ok (.ireturn, 1) := by decide +kernel
set_option maxRecDepth 20000 in
theorem ggX8_isUp_X8_checkLink : GoodIn wsX8_isUp wsX8_checkLink := goodIn_ca (goodIn_r _ [7, 8, 9, 1, 10, 11, 12, 13, 14, 15, 16, 17, 18, 19, 20, 21, 22, 23] (by decide +kernel) (by decide +kernel)) (goodIn_sub (fun _ h => List.mem_cons_of_mem _ (List.mem_append_right _ h)) (by decide +kernel))
set_option maxRecDepth 20000 in
theorem gX8_isUp_X8_checkLink : GoodIn wsX8_isUp (wsV RX8 74 RX8 yX8_checkLink wsX8_checkLink) := goodIn_app (goodIn_of _ (by decide +kernel)) ggX8_isUp_X8_checkLink
theorem dX8_isUp_0 : decode cX8_isUp 0 = .ok (.aload_n 0, 1) := by decide +kernel
theorem dX8_isUp_1 : decode cX8_isUp 1 = .ok (.iload_n 1, 1) := by decide +kernel
theorem dX8_isUp_2 : decode cX8_isUp 2 = .ok (.invokevirtual 74, 3) := by decide +kernel
theorem dX8_isUp_5 : decode cX8_isUp 5 = .ok (.aload_n 0, 1) := by decide +kernel
theorem dX8_isUp_6 : decode cX8_isUp 6 = .ok (.getfield 12, 3) := by decide +kernel
theorem dX8_isUp_9 : decode cX8_isUp 9 = .ok (.getfield 80, 3) := by decide +kernel
theorem dX8_isUp_12 : decode cX8_isUp 12 = .ok (.iload_n 1, 1) := by decide +kernel
theorem dX8_isUp_13 : decode cX8_isUp 13 = .ok (.baload, 1) := by decide +kernel
theorem dX8_isUp_14 : decode cX8_isUp 14 = .ok (.ireturn, 1) := by decide +kernel
set_option maxRecDepth 20000 in
theorem ggX8_distance_X8_checkNode : GoodIn wsX8_distance wsX8_checkNode := goodIn_ca (goodIn_r _ [7, 8, 9, 1, 10, 11, 12, 13, 14, 15, 16, 17, 18, 19, 20, 21, 22, 23] (by decide +kernel) (by decide +kernel)) (goodIn_sub (fun _ h => List.mem_cons_of_mem _ (List.mem_append_right _ h)) (by decide +kernel))
set_option maxRecDepth 20000 in
theorem gX8_distance_X8_checkNode : GoodIn wsX8_distance (wsV RX8 48 RX8 yX8_checkNode wsX8_checkNode) := goodIn_app (goodIn_of _ (by decide +kernel)) ggX8_distance_X8_checkNode
theorem dX8_distance_0 : decode cX8_distance 0 = .ok (.aload_n 0, 1) := by decide +kernel
theorem dX8_distance_1 : decode cX8_distance 1 = .ok (.iload_n 1, 1) := by decide +kernel
theorem dX8_distance_2 : decode cX8_distance 2 = .ok (.invokevirtual 48, 3) := by decide +kernel
theorem dX8_distance_5 : decode cX8_distance 5 = .ok (.aload_n 0, 1) := by decide +kernel
theorem dX8_distance_6 : decode cX8_distance 6 = .ok (.iload_n 2, 1) := by decide +kernel
theorem dX8_distance_7 : decode cX8_distance 7 = .ok (.invokevirtual 48, 3) := by decide +kernel
theorem dX8_distance_10 : decode cX8_distance 10 = .ok (.aload_n 0, 1) := by decide +kernel
theorem dX8_distance_11 : decode cX8_distance 11 = .ok (.getfield 12, 3) := by decide +kernel
theorem dX8_distance_14 : decode cX8_distance 14 = .ok (.getfield 171, 3) := by decide +kernel
theorem dX8_distance_17 : decode cX8_distance 17 = .ok (.iload_n 2, 1) := by decide +kernel
theorem dX8_distance_18 : decode cX8_distance 18 = .ok (.aaload, 1) := by decide +kernel
theorem dX8_distance_19 : decode cX8_distance 19 = .ok (.iload_n 1, 1) := by decide +kernel
theorem dX8_distance_20 : decode cX8_distance 20 = .ok (.iaload, 1) := by decide +kernel
theorem dX8_distance_21 : decode cX8_distance 21 = .ok (.ireturn, 1) := by decide +kernel
set_option maxRecDepth 20000 in
theorem ggX8_nextLink_X8_checkNode : GoodIn wsX8_nextLink wsX8_checkNode := goodIn_ca (goodIn_r _ [6, 7, 8, 1, 9, 25, 26, 27, 28, 29, 30, 31, 32, 33, 34, 35, 36, 37] (by decide +kernel) (by decide +kernel)) (goodIn_sub (fun _ h => List.mem_cons_of_mem _ (List.mem_append_right _ h)) (by decide +kernel))
set_option maxRecDepth 20000 in
theorem gX8_nextLink_X8_checkNode : GoodIn wsX8_nextLink (wsV RX8 48 RX8 yX8_checkNode wsX8_checkNode) := goodIn_app (goodIn_of _ (by decide +kernel)) ggX8_nextLink_X8_checkNode
set_option maxRecDepth 20000 in
theorem ggX8_nextLink_X3_linkTowards : GoodIn wsX8_nextLink wsX3_linkTowards := goodIn_r _ [14, 15, 16, 17, 18, 19, 20, 21, 13, 22, 23, 24, 29, 30, 31, 32, 33, 34, 35, 36, 37] (by decide +kernel) (by decide +kernel)
set_option maxRecDepth 20000 in
theorem gX8_nextLink_X3_linkTowards : GoodIn wsX8_nextLink (wsV RX8 174 RX3 yX3_linkTowards wsX3_linkTowards) := goodIn_app (goodIn_of _ (by decide +kernel)) ggX8_nextLink_X3_linkTowards
theorem dX8_nextLink_0 : decode cX8_nextLink 0 = .ok (.aload_n 0, 1) := by decide +kernel
theorem dX8_nextLink_1 : decode cX8_nextLink 1 = .ok (.iload_n 1, 1) := by decide +kernel
theorem dX8_nextLink_2 : decode cX8_nextLink 2 = .ok (.invokevirtual 48, 3) := by decide +kernel
theorem dX8_nextLink_5 : decode cX8_nextLink 5 = .ok (.aload_n 0, 1) := by decide +kernel
theorem dX8_nextLink_6 : decode cX8_nextLink 6 = .ok (.iload_n 2, 1) := by decide +kernel
theorem dX8_nextLink_7 : decode cX8_nextLink 7 = .ok (.invokevirtual 48, 3) := by decide +kernel
theorem dX8_nextLink_10 : decode cX8_nextLink 10 = .ok (.aload_n 0, 1) := by decide +kernel
theorem dX8_nextLink_11 : decode cX8_nextLink 11 = .ok (.getfield 12, 3) := by decide +kernel
theorem dX8_nextLink_14 : decode cX8_nextLink 14 = .ok (.iload_n 1, 1) := by decide +kernel
theorem dX8_nextLink_15 : decode cX8_nextLink 15 = .ok (.iload_n 2, 1) := by decide +kernel
theorem dX8_nextLink_16 : decode cX8_nextLink 16 = .ok (.invokevirtual 174, 3) := by decide +kernel
theorem dX8_nextLink_19 : decode cX8_nextLink 19 = .ok (.ireturn, 1) := by decide +kernel
set_option maxRecDepth 20000 in
theorem ggX8_queued_X8_wayOf : GoodIn wsX8_queued wsX8_wayOf := goodIn_ca (goodIn_r _ [6, 7, 8, 9, 10, 11, 12, 13, 5, 14, 15, 16, 24, 25, 26, 27, 28, 29, 30, 31, 32, 33, 34, 35, 36, 37, 38, 39, 40, 41, 42] (by decide +kernel) (by decide +kernel)) (goodIn_sub (fun _ h => List.mem_cons_of_mem _ (List.mem_append_right _ h)) (by decide +kernel))
set_option maxRecDepth 20000 in
theorem gX8_queued_X8_wayOf : GoodIn wsX8_queued (wsV RX8 88 RX8 yX8_wayOf wsX8_wayOf) := goodIn_app (goodIn_of _ (by decide +kernel)) ggX8_queued_X8_wayOf
theorem dX8_queued_0 : decode cX8_queued 0 = .ok (.aload_n 0, 1) := by decide +kernel
theorem dX8_queued_1 : decode cX8_queued 1 = .ok (.iload_n 1, 1) := by decide +kernel
theorem dX8_queued_2 : decode cX8_queued 2 = .ok (.iload_n 2, 1) := by decide +kernel
theorem dX8_queued_3 : decode cX8_queued 3 = .ok (.invokevirtual 88, 3) := by decide +kernel
theorem dX8_queued_6 : decode cX8_queued 6 = .ok (.getfield 177, 3) := by decide +kernel
theorem dX8_queued_9 : decode cX8_queued 9 = .ok (.ireturn, 1) := by decide +kernel
set_option maxRecDepth 20000 in
theorem ggX8_flying_X8_wayOf : GoodIn wsX8_flying wsX8_wayOf := goodIn_ca (goodIn_r _ [6, 7, 8, 9, 10, 11, 12, 13, 5, 14, 15, 16, 24, 25, 26, 27, 28, 29, 30, 31, 32, 33, 34, 35, 36, 37, 38, 39, 40, 41, 42] (by decide +kernel) (by decide +kernel)) (goodIn_sub (fun _ h => List.mem_cons_of_mem _ (List.mem_append_right _ h)) (by decide +kernel))
set_option maxRecDepth 20000 in
theorem gX8_flying_X8_wayOf : GoodIn wsX8_flying (wsV RX8 88 RX8 yX8_wayOf wsX8_wayOf) := goodIn_app (goodIn_of _ (by decide +kernel)) ggX8_flying_X8_wayOf
theorem dX8_flying_0 : decode cX8_flying 0 = .ok (.aload_n 0, 1) := by decide +kernel
theorem dX8_flying_1 : decode cX8_flying 1 = .ok (.iload_n 1, 1) := by decide +kernel
theorem dX8_flying_2 : decode cX8_flying 2 = .ok (.iload_n 2, 1) := by decide +kernel
theorem dX8_flying_3 : decode cX8_flying 3 = .ok (.invokevirtual 88, 3) := by decide +kernel
theorem dX8_flying_6 : decode cX8_flying 6 = .ok (.getfield 180, 3) := by decide +kernel
theorem dX8_flying_9 : decode cX8_flying 9 = .ok (.ireturn, 1) := by decide +kernel
theorem dX8_lost_0 : decode cX8_lost 0 = .ok (.aload_n 0, 1) := by decide +kernel
theorem dX8_lost_1 : decode cX8_lost 1 = .ok (.getfield 21, 3) := by decide +kernel
theorem dX8_lost_4 : decode cX8_lost 4 = .ok (.getfield 186, 3) := by decide +kernel
theorem dX8_lost_7 : decode cX8_lost 7 = .ok (.ireturn, 1) := by decide +kernel
theorem dX8_underWay_0 : decode cX8_underWay 0 = .ok (.iconst 0, 1) := by decide +kernel
theorem dX8_underWay_1 : decode cX8_underWay 1 = .ok (.istore_n 1, 1) := by decide +kernel
theorem dX8_underWay_2 : decode cX8_underWay 2 = .ok (.iconst 0, 1) := by decide +kernel
theorem dX8_underWay_3 : decode cX8_underWay 3 = .ok (.istore_n 2, 1) := by decide +kernel
theorem dX8_underWay_4 : decode cX8_underWay 4 = .ok (.iload_n 2, 1) := by decide +kernel
theorem dX8_underWay_5 : decode cX8_underWay 5 = .ok (.iconst 2, 1) := by decide +kernel
theorem dX8_underWay_6 : decode cX8_underWay 6 = .ok (.aload_n 0, 1) := by decide +kernel
theorem dX8_underWay_7 : decode cX8_underWay 7 = .ok (.getfield 12, 3) := by decide +kernel
theorem dX8_underWay_10 : decode cX8_underWay 10 = .ok (.getfield 61, 3) := by decide +kernel
theorem dX8_underWay_13 : decode cX8_underWay 13 = .ok (.imul, 1) := by decide +kernel
theorem dX8_underWay_14 : decode cX8_underWay 14 = .ok (.if_icmp .ge 37, 3) := by decide +kernel
theorem dX8_underWay_17 : decode cX8_underWay 17 = .ok (.iload_n 1, 1) := by decide +kernel
theorem dX8_underWay_18 : decode cX8_underWay 18 = .ok (.aload_n 0, 1) := by decide +kernel
theorem dX8_underWay_19 : decode cX8_underWay 19 = .ok (.getfield 21, 3) := by decide +kernel
theorem dX8_underWay_22 : decode cX8_underWay 22 = .ok (.getfield 189, 3) := by decide +kernel
theorem dX8_underWay_25 : decode cX8_underWay 25 = .ok (.iload_n 2, 1) := by decide +kernel
theorem dX8_underWay_26 : decode cX8_underWay 26 = .ok (.aaload, 1) := by decide +kernel
theorem dX8_underWay_27 : decode cX8_underWay 27 = .ok (.getfield 177, 3) := by decide +kernel
theorem dX8_underWay_30 : decode cX8_underWay 30 = .ok (.aload_n 0, 1) := by decide +kernel
theorem dX8_underWay_31 : decode cX8_underWay 31 = .ok (.getfield 21, 3) := by decide +kernel
theorem dX8_underWay_34 : decode cX8_underWay 34 = .ok (.getfield 189, 3) := by decide +kernel
theorem dX8_underWay_37 : decode cX8_underWay 37 = .ok (.iload_n 2, 1) := by decide +kernel
theorem dX8_underWay_38 : decode cX8_underWay 38 = .ok (.aaload, 1) := by decide +kernel
theorem dX8_underWay_39 : decode cX8_underWay 39 = .ok (.getfield 180, 3) := by decide +kernel
theorem dX8_underWay_42 : decode cX8_underWay 42 = .ok (.iadd, 1) := by decide +kernel
theorem dX8_underWay_43 : decode cX8_underWay 43 = .ok (.iadd, 1) := by decide +kernel
theorem dX8_underWay_44 : decode cX8_underWay 44 = .ok (.istore_n 1, 1) := by decide +kernel
theorem dX8_underWay_45 : decode cX8_underWay 45 = .ok (.iinc 2 1, 3) := by decide +kernel
theorem dX8_underWay_48 : decode cX8_underWay 48 = .ok (.goto (-44), 3) := by decide +kernel
theorem dX8_underWay_51 : decode cX8_underWay 51 = .ok (.iload_n 1, 1) := by decide +kernel
theorem dX8_underWay_52 : decode cX8_underWay 52 = .ok (.ireturn, 1) := by decide +kernel
theorem dX8_connections_0 : decode cX8_connections 0 = .ok (.aload_n 0, 1) := by decide +kernel
theorem dX8_connections_1 : decode cX8_connections 1 = .ok (.getfield 21, 3) := by decide +kernel
theorem dX8_connections_4 : decode cX8_connections 4 = .ok (.getfield 99, 3) := by decide +kernel
theorem dX8_connections_7 : decode cX8_connections 7 = .ok (.ireturn, 1) := by decide +kernel
set_option maxRecDepth 20000 in
theorem ggX8_stateOf_X8_callerOf : GoodIn wsX8_stateOf wsX8_callerOf := goodIn_ca (goodIn_r _ [6, 7, 8, 9, 10, 5, 11, 12, 13, 14, 15, 16, 31, 32, 33, 34, 35, 36, 37, 38, 39, 40, 41, 42, 43, 44] (by decide +kernel) (by decide +kernel)) (goodIn_sub (fun _ h => List.mem_cons_of_mem _ (List.mem_append_right _ h)) (by decide +kernel))
set_option maxRecDepth 20000 in
theorem gX8_stateOf_X8_callerOf : GoodIn wsX8_stateOf (wsV RX8 108 RX8 yX8_callerOf wsX8_callerOf) := goodIn_app (goodIn_of _ (by decide +kernel)) ggX8_stateOf_X8_callerOf
theorem dX8_stateOf_0 : decode cX8_stateOf 0 = .ok (.aload_n 0, 1) := by decide +kernel
theorem dX8_stateOf_1 : decode cX8_stateOf 1 = .ok (.iload_n 1, 1) := by decide +kernel
theorem dX8_stateOf_2 : decode cX8_stateOf 2 = .ok (.invokevirtual 108, 3) := by decide +kernel
theorem dX8_stateOf_5 : decode cX8_stateOf 5 = .ok (.getfield 193, 3) := by decide +kernel
theorem dX8_stateOf_8 : decode cX8_stateOf 8 = .ok (.ireturn, 1) := by decide +kernel
set_option maxRecDepth 20000 in
theorem ggX8_given_X8_callerOf : GoodIn wsX8_given wsX8_callerOf := goodIn_ca (goodIn_r _ [6, 7, 8, 9, 10, 5, 11, 12, 13, 14, 15, 16, 31, 32, 33, 34, 35, 36, 37, 38, 39, 40, 41, 42, 43, 44] (by decide +kernel) (by decide +kernel)) (goodIn_sub (fun _ h => List.mem_cons_of_mem _ (List.mem_append_right _ h)) (by decide +kernel))
set_option maxRecDepth 20000 in
theorem gX8_given_X8_callerOf : GoodIn wsX8_given (wsV RX8 108 RX8 yX8_callerOf wsX8_callerOf) := goodIn_app (goodIn_of _ (by decide +kernel)) ggX8_given_X8_callerOf
theorem dX8_given_0 : decode cX8_given 0 = .ok (.aload_n 0, 1) := by decide +kernel
theorem dX8_given_1 : decode cX8_given 1 = .ok (.iload_n 1, 1) := by decide +kernel
theorem dX8_given_2 : decode cX8_given 2 = .ok (.invokevirtual 108, 3) := by decide +kernel
theorem dX8_given_5 : decode cX8_given 5 = .ok (.getfield 116, 3) := by decide +kernel
theorem dX8_given_8 : decode cX8_given 8 = .ok (.ireturn, 1) := by decide +kernel
set_option maxRecDepth 20000 in
theorem ggX8_base_X8_callerOf : GoodIn wsX8_base wsX8_callerOf := goodIn_ca (goodIn_r _ [6, 7, 8, 9, 10, 5, 11, 12, 13, 14, 15, 16, 31, 32, 33, 34, 35, 36, 37, 38, 39, 40, 41, 42, 43, 44] (by decide +kernel) (by decide +kernel)) (goodIn_sub (fun _ h => List.mem_cons_of_mem _ (List.mem_append_right _ h)) (by decide +kernel))
set_option maxRecDepth 20000 in
theorem gX8_base_X8_callerOf : GoodIn wsX8_base (wsV RX8 108 RX8 yX8_callerOf wsX8_callerOf) := goodIn_app (goodIn_of _ (by decide +kernel)) ggX8_base_X8_callerOf
theorem dX8_base_0 : decode cX8_base 0 = .ok (.aload_n 0, 1) := by decide +kernel
theorem dX8_base_1 : decode cX8_base 1 = .ok (.iload_n 1, 1) := by decide +kernel
theorem dX8_base_2 : decode cX8_base 2 = .ok (.invokevirtual 108, 3) := by decide +kernel
theorem dX8_base_5 : decode cX8_base 5 = .ok (.getfield 130, 3) := by decide +kernel
theorem dX8_base_8 : decode cX8_base 8 = .ok (.ireturn, 1) := by decide +kernel
set_option maxRecDepth 20000 in
theorem ggX8_next_X8_callerOf : GoodIn wsX8_next wsX8_callerOf := goodIn_ca (goodIn_r _ [6, 7, 8, 9, 10, 5, 11, 12, 13, 14, 15, 16, 31, 32, 33, 34, 35, 36, 37, 38, 39, 40, 41, 42, 43, 44] (by decide +kernel) (by decide +kernel)) (goodIn_sub (fun _ h => List.mem_cons_of_mem _ (List.mem_append_right _ h)) (by decide +kernel))
set_option maxRecDepth 20000 in
theorem gX8_next_X8_callerOf : GoodIn wsX8_next (wsV RX8 108 RX8 yX8_callerOf wsX8_callerOf) := goodIn_app (goodIn_of _ (by decide +kernel)) ggX8_next_X8_callerOf
theorem dX8_next_0 : decode cX8_next 0 = .ok (.aload_n 0, 1) := by decide +kernel
theorem dX8_next_1 : decode cX8_next 1 = .ok (.iload_n 1, 1) := by decide +kernel
theorem dX8_next_2 : decode cX8_next 2 = .ok (.invokevirtual 108, 3) := by decide +kernel
theorem dX8_next_5 : decode cX8_next 5 = .ok (.getfield 196, 3) := by decide +kernel
theorem dX8_next_8 : decode cX8_next 8 = .ok (.ireturn, 1) := by decide +kernel
set_option maxRecDepth 20000 in
theorem ggX8_window_X8_callerOf : GoodIn wsX8_window wsX8_callerOf := goodIn_ca (goodIn_r _ [6, 7, 8, 9, 10, 5, 11, 12, 13, 14, 15, 16, 31, 32, 33, 34, 35, 36, 37, 38, 39, 40, 41, 42, 43, 44] (by decide +kernel) (by decide +kernel)) (goodIn_sub (fun _ h => List.mem_cons_of_mem _ (List.mem_append_right _ h)) (by decide +kernel))
set_option maxRecDepth 20000 in
theorem gX8_window_X8_callerOf : GoodIn wsX8_window (wsV RX8 108 RX8 yX8_callerOf wsX8_callerOf) := goodIn_app (goodIn_of _ (by decide +kernel)) ggX8_window_X8_callerOf
theorem dX8_window_0 : decode cX8_window 0 = .ok (.aload_n 0, 1) := by decide +kernel
theorem dX8_window_1 : decode cX8_window 1 = .ok (.iload_n 1, 1) := by decide +kernel
theorem dX8_window_2 : decode cX8_window 2 = .ok (.invokevirtual 108, 3) := by decide +kernel
theorem dX8_window_5 : decode cX8_window 5 = .ok (.getfield 199, 3) := by decide +kernel
theorem dX8_window_8 : decode cX8_window 8 = .ok (.ireturn, 1) := by decide +kernel
set_option maxRecDepth 20000 in
theorem ggX8_recover_X8_callerOf : GoodIn wsX8_recover wsX8_callerOf := goodIn_ca (goodIn_r _ [6, 7, 8, 9, 10, 5, 11, 12, 13, 14, 15, 16, 31, 32, 33, 34, 35, 36, 37, 38, 39, 40, 41, 42, 43, 44] (by decide +kernel) (by decide +kernel)) (goodIn_sub (fun _ h => List.mem_cons_of_mem _ (List.mem_append_right _ h)) (by decide +kernel))
set_option maxRecDepth 20000 in
theorem gX8_recover_X8_callerOf : GoodIn wsX8_recover (wsV RX8 108 RX8 yX8_callerOf wsX8_callerOf) := goodIn_app (goodIn_of _ (by decide +kernel)) ggX8_recover_X8_callerOf
theorem dX8_recover_0 : decode cX8_recover 0 = .ok (.aload_n 0, 1) := by decide +kernel
theorem dX8_recover_1 : decode cX8_recover 1 = .ok (.iload_n 1, 1) := by decide +kernel
theorem dX8_recover_2 : decode cX8_recover 2 = .ok (.invokevirtual 108, 3) := by decide +kernel
theorem dX8_recover_5 : decode cX8_recover 5 = .ok (.getfield 211, 3) := by decide +kernel
theorem dX8_recover_8 : decode cX8_recover 8 = .ok (.ireturn, 1) := by decide +kernel
set_option maxRecDepth 20000 in
theorem ggX8_timeout_X8_callerOf : GoodIn wsX8_timeout wsX8_callerOf := goodIn_ca (goodIn_r _ [7, 8, 9, 10, 11, 6, 12, 13, 14, 15, 16, 17, 37, 38, 39, 40, 41, 42, 43, 44, 45, 46, 47, 48, 49, 50] (by decide +kernel) (by decide +kernel)) (goodIn_sub (fun _ h => List.mem_cons_of_mem _ (List.mem_append_right _ h)) (by decide +kernel))
set_option maxRecDepth 20000 in
theorem gX8_timeout_X8_callerOf : GoodIn wsX8_timeout (wsV RX8 108 RX8 yX8_callerOf wsX8_callerOf) := goodIn_app (goodIn_of _ (by decide +kernel)) ggX8_timeout_X8_callerOf
