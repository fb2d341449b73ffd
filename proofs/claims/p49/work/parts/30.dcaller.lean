set_option maxRecDepth 20000 in
theorem ggX1_init_X5_init : GoodIn wsX1_init wsX5_init := goodIn_r _ [9, 10, 2, 3] (by decide +kernel) (by decide +kernel)
set_option maxRecDepth 20000 in
theorem gX1_init_X5_init_n11 : GoodIn wsX1_init (wsX5_init) := ggX1_init_X5_init
theorem dX1_init_0 : decode cX1_init 0 = .ok (.aload_n 0, 1) := by decide +kernel
theorem dX1_init_1 : decode cX1_init 1 = .ok (.invokespecial 3, 3) := by decide +kernel
theorem dX1_init_4 : decode cX1_init 4 = .ok (.aload_n 0, 1) := by decide +kernel
theorem dX1_init_5 : decode cX1_init 5 = .ok (.new 9, 3) := by decide +kernel
theorem dX1_init_8 : decode cX1_init 8 = .ok (.dup, 1) := by decide +kernel
theorem dX1_init_9 : decode cX1_init 9 = .ok (.invokespecial 11, 3) := by decide +kernel
theorem dX1_init_12 : decode cX1_init 12 = .ok (.putfield 12, 3) := by decide +kernel
theorem dX1_init_15 : decode cX1_init 15 = .ok (.return_, 1) := by decide +kernel
set_option maxRecDepth 20000 in
theorem ggX1_begin_X5_begin : GoodIn wsX1_begin wsX5_begin := goodIn_r _ [13, 14, 15, 16, 17, 18, 33, 34, 35, 36, 37] (by decide +kernel) (by decide +kernel)
set_option maxRecDepth 20000 in
theorem gX1_begin_X5_begin : GoodIn wsX1_begin (wsV RX1 34 RX5 yX5_begin wsX5_begin) := goodIn_app (goodIn_of _ (by decide +kernel)) ggX1_begin_X5_begin
theorem dX1_begin_0 : decode cX1_begin 0 = .ok (.aload_n 0, 1) := by decide +kernel
theorem dX1_begin_1 : decode cX1_begin 1 = .ok (.iconst 0, 1) := by decide +kernel
theorem dX1_begin_2 : decode cX1_begin 2 = .ok (.putfield 18, 3) := by decide +kernel
theorem dX1_begin_5 : decode cX1_begin 5 = .ok (.aload_n 0, 1) := by decide +kernel
theorem dX1_begin_6 : decode cX1_begin 6 = .ok (.bipush 8, 2) := by decide +kernel
theorem dX1_begin_8 : decode cX1_begin 8 = .ok (.putfield 22, 3) := by decide +kernel
theorem dX1_begin_11 : decode cX1_begin 11 = .ok (.aload_n 0, 1) := by decide +kernel
theorem dX1_begin_12 : decode cX1_begin 12 = .ok (.sipush 128, 3) := by decide +kernel
theorem dX1_begin_15 : decode cX1_begin 15 = .ok (.putfield 25, 3) := by decide +kernel
theorem dX1_begin_18 : decode cX1_begin 18 = .ok (.aload_n 0, 1) := by decide +kernel
theorem dX1_begin_19 : decode cX1_begin 19 = .ok (.iload_n 1, 1) := by decide +kernel
theorem dX1_begin_20 : decode cX1_begin 20 = .ok (.putfield 28, 3) := by decide +kernel
theorem dX1_begin_23 : decode cX1_begin 23 = .ok (.aload_n 0, 1) := by decide +kernel
theorem dX1_begin_24 : decode cX1_begin 24 = .ok (.iconst (-1), 1) := by decide +kernel
theorem dX1_begin_25 : decode cX1_begin 25 = .ok (.putfield 31, 3) := by decide +kernel
theorem dX1_begin_28 : decode cX1_begin 28 = .ok (.aload_n 0, 1) := by decide +kernel
theorem dX1_begin_29 : decode cX1_begin 29 = .ok (.getfield 12, 3) := by decide +kernel
theorem dX1_begin_32 : decode cX1_begin 32 = .ok (.invokevirtual 34, 3) := by decide +kernel
theorem dX1_begin_35 : decode cX1_begin 35 = .ok (.aload_n 0, 1) := by decide +kernel
theorem dX1_begin_36 : decode cX1_begin 36 = .ok (.iload_n 2, 1) := by decide +kernel
theorem dX1_begin_37 : decode cX1_begin 37 = .ok (.aload_n 0, 1) := by decide +kernel
theorem dX1_begin_38 : decode cX1_begin 38 = .ok (.getfield 12, 3) := by decide +kernel
theorem dX1_begin_41 : decode cX1_begin 41 = .ok (.getfield 37, 3) := by decide +kernel
theorem dX1_begin_44 : decode cX1_begin 44 = .ok (.iadd, 1) := by decide +kernel
theorem dX1_begin_45 : decode cX1_begin 45 = .ok (.putfield 40, 3) := by decide +kernel
theorem dX1_begin_48 : decode cX1_begin 48 = .ok (.return_, 1) := by decide +kernel
theorem dX1_things_0 : decode cX1_things 0 = .ok (.aload_n 0, 1) := by decide +kernel
theorem dX1_things_1 : decode cX1_things 1 = .ok (.getfield 43, 3) := by decide +kernel
theorem dX1_things_4 : decode cX1_things 4 = .ok (.ifCond .eq 12, 3) := by decide +kernel
theorem dX1_things_7 : decode cX1_things 7 = .ok (.aload_n 0, 1) := by decide +kernel
theorem dX1_things_8 : decode cX1_things 8 = .ok (.getfield 47, 3) := by decide +kernel
theorem dX1_things_11 : decode cX1_things 11 = .ok (.iconst 1, 1) := by decide +kernel
theorem dX1_things_12 : decode cX1_things 12 = .ok (.iadd, 1) := by decide +kernel
theorem dX1_things_13 : decode cX1_things 13 = .ok (.goto 7, 3) := by decide +kernel
theorem dX1_things_16 : decode cX1_things 16 = .ok (.aload_n 0, 1) := by decide +kernel
theorem dX1_things_17 : decode cX1_things 17 = .ok (.getfield 47, 3) := by decide +kernel
theorem dX1_things_20 : decode cX1_things 20 = .ok (.ireturn, 1) := by decide +kernel
set_option maxRecDepth 20000 in
theorem ggX1_maySend_X1_things : GoodIn wsX1_maySend wsX1_things := goodIn_r _ [11, 12, 5, 13, 14, 15, 16, 17, 18, 19, 20, 21, 22, 23, 24, 25, 26] (by decide +kernel) (by decide +kernel)
set_option maxRecDepth 20000 in
theorem gX1_maySend_X1_things : GoodIn wsX1_maySend (wsV RX1 56 RX1 yX1_things wsX1_things) := goodIn_app (goodIn_of _ (by decide +kernel)) ggX1_maySend_X1_things
theorem dX1_maySend_0 : decode cX1_maySend 0 = .ok (.aload_n 0, 1) := by decide +kernel
theorem dX1_maySend_1 : decode cX1_maySend 1 = .ok (.getfield 50, 3) := by decide +kernel
theorem dX1_maySend_4 : decode cX1_maySend 4 = .ok (.aload_n 0, 1) := by decide +kernel
theorem dX1_maySend_5 : decode cX1_maySend 5 = .ok (.getfield 53, 3) := by decide +kernel
theorem dX1_maySend_8 : decode cX1_maySend 8 = .ok (.isub, 1) := by decide +kernel
theorem dX1_maySend_9 : decode cX1_maySend 9 = .ok (.istore_n 1, 1) := by decide +kernel
theorem dX1_maySend_10 : decode cX1_maySend 10 = .ok (.aload_n 0, 1) := by decide +kernel
theorem dX1_maySend_11 : decode cX1_maySend 11 = .ok (.getfield 18, 3) := by decide +kernel
theorem dX1_maySend_14 : decode cX1_maySend 14 = .ok (.iconst 1, 1) := by decide +kernel
theorem dX1_maySend_15 : decode cX1_maySend 15 = .ok (.if_icmp .ne 25, 3) := by decide +kernel
theorem dX1_maySend_18 : decode cX1_maySend 18 = .ok (.aload_n 0, 1) := by decide +kernel
theorem dX1_maySend_19 : decode cX1_maySend 19 = .ok (.getfield 50, 3) := by decide +kernel
theorem dX1_maySend_22 : decode cX1_maySend 22 = .ok (.aload_n 0, 1) := by decide +kernel
theorem dX1_maySend_23 : decode cX1_maySend 23 = .ok (.invokevirtual 56, 3) := by decide +kernel
theorem dX1_maySend_26 : decode cX1_maySend 26 = .ok (.if_icmp .ge 14, 3) := by decide +kernel
theorem dX1_maySend_29 : decode cX1_maySend 29 = .ok (.iload_n 1, 1) := by decide +kernel
theorem dX1_maySend_30 : decode cX1_maySend 30 = .ok (.bipush 8, 2) := by decide +kernel
theorem dX1_maySend_32 : decode cX1_maySend 32 = .ok (.imul, 1) := by decide +kernel
theorem dX1_maySend_33 : decode cX1_maySend 33 = .ok (.aload_n 0, 1) := by decide +kernel
theorem dX1_maySend_34 : decode cX1_maySend 34 = .ok (.getfield 22, 3) := by decide +kernel
theorem dX1_maySend_37 : decode cX1_maySend 37 = .ok (.if_icmp .lt 5, 3) := by decide +kernel
theorem dX1_maySend_40 : decode cX1_maySend 40 = .ok (.iconst 0, 1) := by decide +kernel
theorem dX1_maySend_41 : decode cX1_maySend 41 = .ok (.ireturn, 1) := by decide +kernel
theorem dX1_maySend_42 : decode cX1_maySend 42 = .ok (.aload_n 0, 1) := by decide +kernel
theorem dX1_maySend_43 : decode cX1_maySend 43 = .ok (.getfield 50, 3) := by decide +kernel
theorem dX1_maySend_46 : decode cX1_maySend 46 = .ok (.aload_n 0, 1) := by decide +kernel
theorem dX1_maySend_47 : decode cX1_maySend 47 = .ok (.getfield 47, 3) := by decide +kernel
theorem dX1_maySend_50 : decode cX1_maySend 50 = .ok (.if_icmp .lt 7, 3) := by decide +kernel
theorem dX1_maySend_53 : decode cX1_maySend 53 = .ok (.iconst 1, 1) := by decide +kernel
theorem dX1_maySend_54 : decode cX1_maySend 54 = .ok (.goto 4, 3) := by decide +kernel
theorem dX1_maySend_57 : decode cX1_maySend 57 = .ok (.iconst 0, 1) := by decide +kernel
theorem dX1_maySend_58 : decode cX1_maySend 58 = .ok (.istore_n 2, 1) := by decide +kernel
theorem dX1_maySend_59 : decode cX1_maySend 59 = .ok (.iload_n 2, 1) := by decide +kernel
theorem dX1_maySend_60 : decode cX1_maySend 60 = .ok (.ifCond .ne 15, 3) := by decide +kernel
theorem dX1_maySend_63 : decode cX1_maySend 63 = .ok (.iload_n 1, 1) := by decide +kernel
theorem dX1_maySend_64 : decode cX1_maySend 64 = .ok (.aload_n 0, 1) := by decide +kernel
theorem dX1_maySend_65 : decode cX1_maySend 65 = .ok (.getfield 28, 3) := by decide +kernel
theorem dX1_maySend_68 : decode cX1_maySend 68 = .ok (.if_icmp .lt 7, 3) := by decide +kernel
theorem dX1_maySend_71 : decode cX1_maySend 71 = .ok (.iload_n 1, 1) := by decide +kernel
theorem dX1_maySend_72 : decode cX1_maySend 72 = .ok (.ifCond .ne 7, 3) := by decide +kernel
theorem dX1_maySend_75 : decode cX1_maySend 75 = .ok (.iconst 1, 1) := by decide +kernel
theorem dX1_maySend_76 : decode cX1_maySend 76 = .ok (.goto 4, 3) := by decide +kernel
theorem dX1_maySend_79 : decode cX1_maySend 79 = .ok (.iconst 0, 1) := by decide +kernel
theorem dX1_maySend_80 : decode cX1_maySend 80 = .ok (.ireturn, 1) := by decide +kernel
set_option maxRecDepth 20000 in
theorem ggX1_sent_X5_sent : GoodIn wsX1_sent wsX5_sent := goodIn_r _ [9, 10, 11, 26, 27, 28, 29, 30] (by decide +kernel) (by decide +kernel)
set_option maxRecDepth 20000 in
theorem gX1_sent_X5_sent : GoodIn wsX1_sent (wsV RX1 60 RX5 yX5_sent wsX5_sent) := goodIn_app (goodIn_of _ (by decide +kernel)) ggX1_sent_X5_sent
theorem dX1_sent_0 : decode cX1_sent 0 = .ok (.aload_n 0, 1) := by decide +kernel
theorem dX1_sent_1 : decode cX1_sent 1 = .ok (.getfield 12, 3) := by decide +kernel
theorem dX1_sent_4 : decode cX1_sent 4 = .ok (.aload_n 0, 1) := by decide +kernel
theorem dX1_sent_5 : decode cX1_sent 5 = .ok (.getfield 50, 3) := by decide +kernel
theorem dX1_sent_8 : decode cX1_sent 8 = .ok (.iload_n 1, 1) := by decide +kernel
theorem dX1_sent_9 : decode cX1_sent 9 = .ok (.invokevirtual 60, 3) := by decide +kernel
theorem dX1_sent_12 : decode cX1_sent 12 = .ok (.aload_n 0, 1) := by decide +kernel
theorem dX1_sent_13 : decode cX1_sent 13 = .ok (.dup, 1) := by decide +kernel
theorem dX1_sent_14 : decode cX1_sent 14 = .ok (.getfield 50, 3) := by decide +kernel
theorem dX1_sent_17 : decode cX1_sent 17 = .ok (.iconst 1, 1) := by decide +kernel
theorem dX1_sent_18 : decode cX1_sent 18 = .ok (.iadd, 1) := by decide +kernel
theorem dX1_sent_19 : decode cX1_sent 19 = .ok (.putfield 50, 3) := by decide +kernel
theorem dX1_sent_22 : decode cX1_sent 22 = .ok (.aload_n 0, 1) := by decide +kernel
theorem dX1_sent_23 : decode cX1_sent 23 = .ok (.getfield 40, 3) := by decide +kernel
theorem dX1_sent_26 : decode cX1_sent 26 = .ok (.iconst (-1), 1) := by decide +kernel
theorem dX1_sent_27 : decode cX1_sent 27 = .ok (.if_icmp .ne 16, 3) := by decide +kernel
theorem dX1_sent_30 : decode cX1_sent 30 = .ok (.aload_n 0, 1) := by decide +kernel
theorem dX1_sent_31 : decode cX1_sent 31 = .ok (.iload_n 1, 1) := by decide +kernel
theorem dX1_sent_32 : decode cX1_sent 32 = .ok (.aload_n 0, 1) := by decide +kernel
theorem dX1_sent_33 : decode cX1_sent 33 = .ok (.getfield 12, 3) := by decide +kernel
theorem dX1_sent_36 : decode cX1_sent 36 = .ok (.getfield 37, 3) := by decide +kernel
theorem dX1_sent_39 : decode cX1_sent 39 = .ok (.iadd, 1) := by decide +kernel
theorem dX1_sent_40 : decode cX1_sent 40 = .ok (.putfield 40, 3) := by decide +kernel
theorem dX1_sent_43 : decode cX1_sent 43 = .ok (.return_, 1) := by decide +kernel
set_option maxRecDepth 20000 in
theorem ggX1_takeAnswer_X1_advance : GoodIn wsX1_takeAnswer wsX1_advance := goodIn_r _ [11, 12, 4, 6, 13, 14, 5, 15, 3, 16, 1, 17, 18, 19, 20, 21, 22, 23, 24, 25, 26, 27, 28, 29, 30, 31, 32, 33, 34, 35, 36, 37, 38, 39, 10, 40, 41, 42, 43, 44, 53, 54, 55, 56, 57, 58, 59, 60, 61, 62, 63, 64, 65, 66, 67, 68, 69, 70, 71] (by decide +kernel) (by decide +kernel)
set_option maxRecDepth 20000 in
theorem gX1_takeAnswer_X1_advance : GoodIn wsX1_takeAnswer (wsV RX1 67 RX1 yX1_advance wsX1_advance) := goodIn_app (goodIn_of _ (by decide +kernel)) ggX1_takeAnswer_X1_advance
set_option maxRecDepth 20000 in
theorem ggX1_takeAnswer_X1_repeated : GoodIn wsX1_takeAnswer wsX1_repeated := goodIn_r _ [48, 6, 13, 14, 42, 41, 49, 50, 51, 10, 52, 5, 4, 43, 31, 28, 32, 53, 54, 55, 56, 57, 58, 59, 60, 61, 62, 63, 64, 65, 66] (by decide +kernel) (by decide +kernel)
set_option maxRecDepth 20000 in
theorem gX1_takeAnswer_X1_repeated : GoodIn wsX1_takeAnswer (wsV RX1 71 RX1 yX1_repeated wsX1_repeated) := goodIn_app (goodIn_of _ (by decide +kernel)) ggX1_takeAnswer_X1_repeated
theorem dX1_takeAnswer_0 : decode cX1_takeAnswer 0 = .ok (.aload_n 0, 1) := by decide +kernel
theorem dX1_takeAnswer_1 : decode cX1_takeAnswer 1 = .ok (.getfield 18, 3) := by decide +kernel
theorem dX1_takeAnswer_4 : decode cX1_takeAnswer 4 = .ok (.ifCond .ne 20, 3) := by decide +kernel
theorem dX1_takeAnswer_7 : decode cX1_takeAnswer 7 = .ok (.aload_n 0, 1) := by decide +kernel
theorem dX1_takeAnswer_8 : decode cX1_takeAnswer 8 = .ok (.iconst 1, 1) := by decide +kernel
theorem dX1_takeAnswer_9 : decode cX1_takeAnswer 9 = .ok (.putfield 18, 3) := by decide +kernel
theorem dX1_takeAnswer_12 : decode cX1_takeAnswer 12 = .ok (.aload_n 0, 1) := by decide +kernel
theorem dX1_takeAnswer_13 : decode cX1_takeAnswer 13 = .ok (.iconst 0, 1) := by decide +kernel
theorem dX1_takeAnswer_14 : decode cX1_takeAnswer 14 = .ok (.putfield 64, 3) := by decide +kernel
theorem dX1_takeAnswer_17 : decode cX1_takeAnswer 17 = .ok (.aload_n 0, 1) := by decide +kernel
theorem dX1_takeAnswer_18 : decode cX1_takeAnswer 18 = .ok (.iconst (-1), 1) := by decide +kernel
theorem dX1_takeAnswer_19 : decode cX1_takeAnswer 19 = .ok (.putfield 40, 3) := by decide +kernel
theorem dX1_takeAnswer_22 : decode cX1_takeAnswer 22 = .ok (.iconst 0, 1) := by decide +kernel
theorem dX1_takeAnswer_23 : decode cX1_takeAnswer 23 = .ok (.ireturn, 1) := by decide +kernel
theorem dX1_takeAnswer_24 : decode cX1_takeAnswer 24 = .ok (.aload_n 0, 1) := by decide +kernel
theorem dX1_takeAnswer_25 : decode cX1_takeAnswer 25 = .ok (.getfield 18, 3) := by decide +kernel
theorem dX1_takeAnswer_28 : decode cX1_takeAnswer 28 = .ok (.iconst 1, 1) := by decide +kernel
theorem dX1_takeAnswer_29 : decode cX1_takeAnswer 29 = .ok (.if_icmp .ne 11, 3) := by decide +kernel
theorem dX1_takeAnswer_32 : decode cX1_takeAnswer 32 = .ok (.iload_n 1, 1) := by decide +kernel
theorem dX1_takeAnswer_33 : decode cX1_takeAnswer 33 = .ok (.aload_n 0, 1) := by decide +kernel
theorem dX1_takeAnswer_34 : decode cX1_takeAnswer 34 = .ok (.getfield 53, 3) := by decide +kernel
theorem dX1_takeAnswer_37 : decode cX1_takeAnswer 37 = .ok (.if_icmp .ge 5, 3) := by decide +kernel
theorem dX1_takeAnswer_40 : decode cX1_takeAnswer 40 = .ok (.iconst 0, 1) := by decide +kernel
theorem dX1_takeAnswer_41 : decode cX1_takeAnswer 41 = .ok (.ireturn, 1) := by decide +kernel
theorem dX1_takeAnswer_42 : decode cX1_takeAnswer 42 = .ok (.aload_n 0, 1) := by decide +kernel
theorem dX1_takeAnswer_43 : decode cX1_takeAnswer 43 = .ok (.iconst 0, 1) := by decide +kernel
theorem dX1_takeAnswer_44 : decode cX1_takeAnswer 44 = .ok (.putfield 64, 3) := by decide +kernel
theorem dX1_takeAnswer_47 : decode cX1_takeAnswer 47 = .ok (.iload_n 1, 1) := by decide +kernel
theorem dX1_takeAnswer_48 : decode cX1_takeAnswer 48 = .ok (.aload_n 0, 1) := by decide +kernel
theorem dX1_takeAnswer_49 : decode cX1_takeAnswer 49 = .ok (.getfield 53, 3) := by decide +kernel
theorem dX1_takeAnswer_52 : decode cX1_takeAnswer 52 = .ok (.if_icmp .le 11, 3) := by decide +kernel
theorem dX1_takeAnswer_55 : decode cX1_takeAnswer 55 = .ok (.aload_n 0, 1) := by decide +kernel
theorem dX1_takeAnswer_56 : decode cX1_takeAnswer 56 = .ok (.iload_n 1, 1) := by decide +kernel
theorem dX1_takeAnswer_57 : decode cX1_takeAnswer 57 = .ok (.iload_n 2, 1) := by decide +kernel
theorem dX1_takeAnswer_58 : decode cX1_takeAnswer 58 = .ok (.iload_n 3, 1) := by decide +kernel
theorem dX1_takeAnswer_59 : decode cX1_takeAnswer 59 = .ok (.invokevirtual 67, 3) := by decide +kernel
theorem dX1_takeAnswer_62 : decode cX1_takeAnswer 62 = .ok (.ireturn, 1) := by decide +kernel
theorem dX1_takeAnswer_63 : decode cX1_takeAnswer 63 = .ok (.aload_n 0, 1) := by decide +kernel
theorem dX1_takeAnswer_64 : decode cX1_takeAnswer 64 = .ok (.getfield 50, 3) := by decide +kernel
theorem dX1_takeAnswer_67 : decode cX1_takeAnswer 67 = .ok (.aload_n 0, 1) := by decide +kernel
theorem dX1_takeAnswer_68 : decode cX1_takeAnswer 68 = .ok (.getfield 53, 3) := by decide +kernel
theorem dX1_takeAnswer_71 : decode cX1_takeAnswer 71 = .ok (.if_icmp .le 9, 3) := by decide +kernel
theorem dX1_takeAnswer_74 : decode cX1_takeAnswer 74 = .ok (.aload_n 0, 1) := by decide +kernel
theorem dX1_takeAnswer_75 : decode cX1_takeAnswer 75 = .ok (.iload_n 2, 1) := by decide +kernel
theorem dX1_takeAnswer_76 : decode cX1_takeAnswer 76 = .ok (.invokevirtual 71, 3) := by decide +kernel
theorem dX1_takeAnswer_79 : decode cX1_takeAnswer 79 = .ok (.ireturn, 1) := by decide +kernel
theorem dX1_takeAnswer_80 : decode cX1_takeAnswer 80 = .ok (.aload_n 0, 1) := by decide +kernel
theorem dX1_takeAnswer_81 : decode cX1_takeAnswer 81 = .ok (.iload_n 2, 1) := by decide +kernel
theorem dX1_takeAnswer_82 : decode cX1_takeAnswer 82 = .ok (.putfield 28, 3) := by decide +kernel
theorem dX1_takeAnswer_85 : decode cX1_takeAnswer 85 = .ok (.iconst 0, 1) := by decide +kernel
theorem dX1_takeAnswer_86 : decode cX1_takeAnswer 86 = .ok (.ireturn, 1) := by decide +kernel
set_option maxRecDepth 20000 in
theorem ggX1_advance_X5_answered : GoodIn wsX1_advance wsX5_answered := goodIn_r _ [15, 16, 17, 18, 19, 20, 21, 22, 23, 24, 25, 26, 27, 28, 29, 30, 54, 55, 56, 57, 58] (by decide +kernel) (by decide +kernel)
set_option maxRecDepth 20000 in
theorem gX1_advance_X5_answered : GoodIn wsX1_advance (wsV RX1 75 RX5 yX5_answered wsX5_answered) := goodIn_app (goodIn_of _ (by decide +kernel)) ggX1_advance_X5_answered
set_option maxRecDepth 20000 in
theorem ggX1_advance_X1_growWindow : GoodIn wsX1_advance wsX1_growWindow := goodIn_r _ [35, 36, 37, 38, 25, 22, 26, 39, 28, 29, 40, 41, 42, 43, 44, 45, 46, 47, 48, 49, 50, 51, 52, 53] (by decide +kernel) (by decide +kernel)
set_option maxRecDepth 20000 in
theorem gX1_advance_X1_growWindow : GoodIn wsX1_advance (wsV RX1 81 RX1 yX1_growWindow wsX1_growWindow) := goodIn_app (goodIn_of _ (by decide +kernel)) ggX1_advance_X1_growWindow
theorem dX1_advance_0 : decode cX1_advance 0 = .ok (.aload_n 0, 1) := by decide +kernel
theorem dX1_advance_1 : decode cX1_advance 1 = .ok (.getfield 12, 3) := by decide +kernel
theorem dX1_advance_4 : decode cX1_advance 4 = .ok (.iload_n 1, 1) := by decide +kernel
theorem dX1_advance_5 : decode cX1_advance 5 = .ok (.iload_n 3, 1) := by decide +kernel
theorem dX1_advance_6 : decode cX1_advance 6 = .ok (.invokevirtual 75, 3) := by decide +kernel
theorem dX1_advance_9 : decode cX1_advance 9 = .ok (.aload_n 0, 1) := by decide +kernel
theorem dX1_advance_10 : decode cX1_advance 10 = .ok (.iload_n 1, 1) := by decide +kernel
theorem dX1_advance_11 : decode cX1_advance 11 = .ok (.putfield 53, 3) := by decide +kernel
theorem dX1_advance_14 : decode cX1_advance 14 = .ok (.aload_n 0, 1) := by decide +kernel
theorem dX1_advance_15 : decode cX1_advance 15 = .ok (.iload_n 2, 1) := by decide +kernel
theorem dX1_advance_16 : decode cX1_advance 16 = .ok (.putfield 28, 3) := by decide +kernel
theorem dX1_advance_19 : decode cX1_advance 19 = .ok (.aload_n 0, 1) := by decide +kernel
theorem dX1_advance_20 : decode cX1_advance 20 = .ok (.iconst 0, 1) := by decide +kernel
theorem dX1_advance_21 : decode cX1_advance 21 = .ok (.putfield 78, 3) := by decide +kernel
theorem dX1_advance_24 : decode cX1_advance 24 = .ok (.iload_n 1, 1) := by decide +kernel
theorem dX1_advance_25 : decode cX1_advance 25 = .ok (.aload_n 0, 1) := by decide +kernel
theorem dX1_advance_26 : decode cX1_advance 26 = .ok (.getfield 31, 3) := by decide +kernel
theorem dX1_advance_29 : decode cX1_advance 29 = .ok (.if_icmp .gt 7, 3) := by decide +kernel
theorem dX1_advance_32 : decode cX1_advance 32 = .ok (.iconst 1, 1) := by decide +kernel
theorem dX1_advance_33 : decode cX1_advance 33 = .ok (.goto 4, 3) := by decide +kernel
theorem dX1_advance_36 : decode cX1_advance 36 = .ok (.iconst 0, 1) := by decide +kernel
theorem dX1_advance_37 : decode cX1_advance 37 = .ok (.istore 4, 2) := by decide +kernel
theorem dX1_advance_39 : decode cX1_advance 39 = .ok (.iload 4, 2) := by decide +kernel
theorem dX1_advance_41 : decode cX1_advance 41 = .ok (.ifCond .ne 12, 3) := by decide +kernel
theorem dX1_advance_44 : decode cX1_advance 44 = .ok (.aload_n 0, 1) := by decide +kernel
theorem dX1_advance_45 : decode cX1_advance 45 = .ok (.iconst (-1), 1) := by decide +kernel
theorem dX1_advance_46 : decode cX1_advance 46 = .ok (.putfield 31, 3) := by decide +kernel
theorem dX1_advance_49 : decode cX1_advance 49 = .ok (.aload_n 0, 1) := by decide +kernel
theorem dX1_advance_50 : decode cX1_advance 50 = .ok (.invokevirtual 81, 3) := by decide +kernel
theorem dX1_advance_53 : decode cX1_advance 53 = .ok (.aload_n 0, 1) := by decide +kernel
theorem dX1_advance_54 : decode cX1_advance 54 = .ok (.aload_n 0, 1) := by decide +kernel
theorem dX1_advance_55 : decode cX1_advance 55 = .ok (.getfield 53, 3) := by decide +kernel
theorem dX1_advance_58 : decode cX1_advance 58 = .ok (.aload_n 0, 1) := by decide +kernel
theorem dX1_advance_59 : decode cX1_advance 59 = .ok (.getfield 50, 3) := by decide +kernel
theorem dX1_advance_62 : decode cX1_advance 62 = .ok (.if_icmp .ne 7, 3) := by decide +kernel
theorem dX1_advance_65 : decode cX1_advance 65 = .ok (.iconst (-1), 1) := by decide +kernel
theorem dX1_advance_66 : decode cX1_advance 66 = .ok (.goto 12, 3) := by decide +kernel
theorem dX1_advance_69 : decode cX1_advance 69 = .ok (.iload_n 3, 1) := by decide +kernel
theorem dX1_advance_70 : decode cX1_advance 70 = .ok (.aload_n 0, 1) := by decide +kernel
theorem dX1_advance_71 : decode cX1_advance 71 = .ok (.getfield 12, 3) := by decide +kernel
theorem dX1_advance_74 : decode cX1_advance 74 = .ok (.getfield 37, 3) := by decide +kernel
theorem dX1_advance_77 : decode cX1_advance 77 = .ok (.iadd, 1) := by decide +kernel
theorem dX1_advance_78 : decode cX1_advance 78 = .ok (.putfield 40, 3) := by decide +kernel
theorem dX1_advance_81 : decode cX1_advance 81 = .ok (.aload_n 0, 1) := by decide +kernel
theorem dX1_advance_82 : decode cX1_advance 82 = .ok (.getfield 53, 3) := by decide +kernel
theorem dX1_advance_85 : decode cX1_advance 85 = .ok (.aload_n 0, 1) := by decide +kernel
theorem dX1_advance_86 : decode cX1_advance 86 = .ok (.getfield 47, 3) := by decide +kernel
theorem dX1_advance_89 : decode cX1_advance 89 = .ok (.if_icmp .le 8, 3) := by decide +kernel
theorem dX1_advance_92 : decode cX1_advance 92 = .ok (.aload_n 0, 1) := by decide +kernel
theorem dX1_advance_93 : decode cX1_advance 93 = .ok (.iconst 2, 1) := by decide +kernel
theorem dX1_advance_94 : decode cX1_advance 94 = .ok (.putfield 18, 3) := by decide +kernel
theorem dX1_advance_97 : decode cX1_advance 97 = .ok (.iload 4, 2) := by decide +kernel
theorem dX1_advance_99 : decode cX1_advance 99 = .ok (.ireturn, 1) := by decide +kernel
theorem dX1_growWindow_0 : decode cX1_growWindow 0 = .ok (.bipush 8, 2) := by decide +kernel
theorem dX1_growWindow_2 : decode cX1_growWindow 2 = .ok (.istore_n 1, 1) := by decide +kernel
theorem dX1_growWindow_3 : decode cX1_growWindow 3 = .ok (.aload_n 0, 1) := by decide +kernel
theorem dX1_growWindow_4 : decode cX1_growWindow 4 = .ok (.getfield 22, 3) := by decide +kernel
theorem dX1_growWindow_7 : decode cX1_growWindow 7 = .ok (.aload_n 0, 1) := by decide +kernel
theorem dX1_growWindow_8 : decode cX1_growWindow 8 = .ok (.getfield 25, 3) := by decide +kernel
theorem dX1_growWindow_11 : decode cX1_growWindow 11 = .ok (.if_icmp .lt 22, 3) := by decide +kernel
theorem dX1_growWindow_14 : decode cX1_growWindow 14 = .ok (.aload_n 0, 1) := by decide +kernel
theorem dX1_growWindow_15 : decode cX1_growWindow 15 = .ok (.getfield 22, 3) := by decide +kernel
theorem dX1_growWindow_18 : decode cX1_growWindow 18 = .ok (.ifCond .le 15, 3) := by decide +kernel
theorem dX1_growWindow_21 : decode cX1_growWindow 21 = .ok (.iconst 1, 1) := by decide +kernel
theorem dX1_growWindow_22 : decode cX1_growWindow 22 = .ok (.bipush 64, 2) := by decide +kernel
theorem dX1_growWindow_24 : decode cX1_growWindow 24 = .ok (.aload_n 0, 1) := by decide +kernel
theorem dX1_growWindow_25 : decode cX1_growWindow 25 = .ok (.getfield 22, 3) := by decide +kernel
theorem dX1_growWindow_28 : decode cX1_growWindow 28 = .ok (.idiv, 1) := by decide +kernel
theorem dX1_growWindow_29 : decode cX1_growWindow 29 = .ok (.invokestatic 84, 3) := by decide +kernel
theorem dX1_growWindow_32 : decode cX1_growWindow 32 = .ok (.istore_n 1, 1) := by decide +kernel
theorem dX1_growWindow_33 : decode cX1_growWindow 33 = .ok (.aload_n 0, 1) := by decide +kernel
theorem dX1_growWindow_34 : decode cX1_growWindow 34 = .ok (.sipush 256, 3) := by decide +kernel
theorem dX1_growWindow_37 : decode cX1_growWindow 37 = .ok (.aload_n 0, 1) := by decide +kernel
theorem dX1_growWindow_38 : decode cX1_growWindow 38 = .ok (.getfield 22, 3) := by decide +kernel
theorem dX1_growWindow_41 : decode cX1_growWindow 41 = .ok (.iload_n 1, 1) := by decide +kernel
theorem dX1_growWindow_42 : decode cX1_growWindow 42 = .ok (.iadd, 1) := by decide +kernel
theorem dX1_growWindow_43 : decode cX1_growWindow 43 = .ok (.invokestatic 90, 3) := by decide +kernel
theorem dX1_growWindow_46 : decode cX1_growWindow 46 = .ok (.putfield 22, 3) := by decide +kernel
theorem dX1_growWindow_49 : decode cX1_growWindow 49 = .ok (.return_, 1) := by decide +kernel
set_option maxRecDepth 20000 in
theorem ggX1_repeated_X1_startRecovery : GoodIn wsX1_repeated wsX1_startRecovery := goodIn_r _ [10, 11, 3, 12, 13, 14, 15, 16, 4, 17, 18, 19, 20, 21, 22, 23, 24, 25, 26, 27, 28, 29, 30] (by decide +kernel) (by decide +kernel)
set_option maxRecDepth 20000 in
theorem gX1_repeated_X1_startRecovery : GoodIn wsX1_repeated (wsV RX1 93 RX1 yX1_startRecovery wsX1_startRecovery) := goodIn_app (goodIn_of _ (by decide +kernel)) ggX1_repeated_X1_startRecovery
theorem dX1_repeated_0 : decode cX1_repeated 0 = .ok (.iload_n 1, 1) := by decide +kernel
theorem dX1_repeated_1 : decode cX1_repeated 1 = .ok (.aload_n 0, 1) := by decide +kernel
theorem dX1_repeated_2 : decode cX1_repeated 2 = .ok (.getfield 28, 3) := by decide +kernel
theorem dX1_repeated_5 : decode cX1_repeated 5 = .ok (.if_icmp .ne 20, 3) := by decide +kernel
theorem dX1_repeated_8 : decode cX1_repeated 8 = .ok (.iload_n 1, 1) := by decide +kernel
theorem dX1_repeated_9 : decode cX1_repeated 9 = .ok (.ifCond .le 16, 3) := by decide +kernel
theorem dX1_repeated_12 : decode cX1_repeated 12 = .ok (.aload_n 0, 1) := by decide +kernel
theorem dX1_repeated_13 : decode cX1_repeated 13 = .ok (.dup, 1) := by decide +kernel
theorem dX1_repeated_14 : decode cX1_repeated 14 = .ok (.getfield 78, 3) := by decide +kernel
theorem dX1_repeated_17 : decode cX1_repeated 17 = .ok (.iconst 1, 1) := by decide +kernel
theorem dX1_repeated_18 : decode cX1_repeated 18 = .ok (.iadd, 1) := by decide +kernel
theorem dX1_repeated_19 : decode cX1_repeated 19 = .ok (.putfield 78, 3) := by decide +kernel
theorem dX1_repeated_22 : decode cX1_repeated 22 = .ok (.goto 13, 3) := by decide +kernel
theorem dX1_repeated_25 : decode cX1_repeated 25 = .ok (.aload_n 0, 1) := by decide +kernel
theorem dX1_repeated_26 : decode cX1_repeated 26 = .ok (.iload_n 1, 1) := by decide +kernel
theorem dX1_repeated_27 : decode cX1_repeated 27 = .ok (.putfield 28, 3) := by decide +kernel
theorem dX1_repeated_30 : decode cX1_repeated 30 = .ok (.aload_n 0, 1) := by decide +kernel
theorem dX1_repeated_31 : decode cX1_repeated 31 = .ok (.iconst 0, 1) := by decide +kernel
theorem dX1_repeated_32 : decode cX1_repeated 32 = .ok (.putfield 78, 3) := by decide +kernel
theorem dX1_repeated_35 : decode cX1_repeated 35 = .ok (.aload_n 0, 1) := by decide +kernel
theorem dX1_repeated_36 : decode cX1_repeated 36 = .ok (.getfield 78, 3) := by decide +kernel
theorem dX1_repeated_39 : decode cX1_repeated 39 = .ok (.iconst 3, 1) := by decide +kernel
theorem dX1_repeated_40 : decode cX1_repeated 40 = .ok (.if_icmp .ne 11, 3) := by decide +kernel
theorem dX1_repeated_43 : decode cX1_repeated 43 = .ok (.aload_n 0, 1) := by decide +kernel
theorem dX1_repeated_44 : decode cX1_repeated 44 = .ok (.getfield 31, 3) := by decide +kernel
theorem dX1_repeated_47 : decode cX1_repeated 47 = .ok (.iconst (-1), 1) := by decide +kernel
theorem dX1_repeated_48 : decode cX1_repeated 48 = .ok (.if_icmp .eq 5, 3) := by decide +kernel
theorem dX1_repeated_51 : decode cX1_repeated 51 = .ok (.iconst 0, 1) := by decide +kernel
theorem dX1_repeated_52 : decode cX1_repeated 52 = .ok (.ireturn, 1) := by decide +kernel
theorem dX1_repeated_53 : decode cX1_repeated 53 = .ok (.aload_n 0, 1) := by decide +kernel
theorem dX1_repeated_54 : decode cX1_repeated 54 = .ok (.invokevirtual 93, 3) := by decide +kernel
theorem dX1_repeated_57 : decode cX1_repeated 57 = .ok (.aload_n 0, 1) := by decide +kernel
theorem dX1_repeated_58 : decode cX1_repeated 58 = .ok (.aload_n 0, 1) := by decide +kernel
theorem dX1_repeated_59 : decode cX1_repeated 59 = .ok (.getfield 25, 3) := by decide +kernel
theorem dX1_repeated_62 : decode cX1_repeated 62 = .ok (.putfield 22, 3) := by decide +kernel
theorem dX1_repeated_65 : decode cX1_repeated 65 = .ok (.iconst 1, 1) := by decide +kernel
theorem dX1_repeated_66 : decode cX1_repeated 66 = .ok (.ireturn, 1) := by decide +kernel
set_option maxRecDepth 20000 in
theorem ggX1_runOut_X5_backOff : GoodIn wsX1_runOut wsX5_backOff := goodIn_r _ [12, 13, 14, 15, 16, 17, 18, 45, 46, 47, 48, 49] (by decide +kernel) (by decide +kernel)
set_option maxRecDepth 20000 in
theorem gX1_runOut_X5_backOff : GoodIn wsX1_runOut (wsV RX1 96 RX5 yX5_backOff wsX5_backOff) := goodIn_app (goodIn_of _ (by decide +kernel)) ggX1_runOut_X5_backOff
set_option maxRecDepth 20000 in
theorem ggX1_runOut_X1_startRecovery : GoodIn wsX1_runOut wsX1_startRecovery := goodIn_r _ [23, 24, 25, 26, 27, 28, 16, 29, 30, 31, 32, 33, 34, 35, 36, 37, 38, 39, 40, 41, 42, 43, 44] (by decide +kernel) (by decide +kernel)
set_option maxRecDepth 20000 in
theorem gX1_runOut_X1_startRecovery : GoodIn wsX1_runOut (wsV RX1 93 RX1 yX1_startRecovery wsX1_startRecovery) := goodIn_app (goodIn_of _ (by decide +kernel)) ggX1_runOut_X1_startRecovery
theorem dX1_runOut_0 : decode cX1_runOut 0 = .ok (.aload_n 0, 1) := by decide +kernel
theorem dX1_runOut_1 : decode cX1_runOut 1 = .ok (.iconst (-1), 1) := by decide +kernel
theorem dX1_runOut_2 : decode cX1_runOut 2 = .ok (.putfield 40, 3) := by decide +kernel
theorem dX1_runOut_5 : decode cX1_runOut 5 = .ok (.aload_n 0, 1) := by decide +kernel
theorem dX1_runOut_6 : decode cX1_runOut 6 = .ok (.dup, 1) := by decide +kernel
theorem dX1_runOut_7 : decode cX1_runOut 7 = .ok (.getfield 64, 3) := by decide +kernel
theorem dX1_runOut_10 : decode cX1_runOut 10 = .ok (.iconst 1, 1) := by decide +kernel
theorem dX1_runOut_11 : decode cX1_runOut 11 = .ok (.iadd, 1) := by decide +kernel
theorem dX1_runOut_12 : decode cX1_runOut 12 = .ok (.putfield 64, 3) := by decide +kernel
theorem dX1_runOut_15 : decode cX1_runOut 15 = .ok (.aload_n 0, 1) := by decide +kernel
theorem dX1_runOut_16 : decode cX1_runOut 16 = .ok (.getfield 64, 3) := by decide +kernel
theorem dX1_runOut_19 : decode cX1_runOut 19 = .ok (.bipush 6, 2) := by decide +kernel
theorem dX1_runOut_21 : decode cX1_runOut 21 = .ok (.if_icmp .lt 10, 3) := by decide +kernel
theorem dX1_runOut_24 : decode cX1_runOut 24 = .ok (.aload_n 0, 1) := by decide +kernel
theorem dX1_runOut_25 : decode cX1_runOut 25 = .ok (.iconst 3, 1) := by decide +kernel
theorem dX1_runOut_26 : decode cX1_runOut 26 = .ok (.putfield 18, 3) := by decide +kernel
theorem dX1_runOut_29 : decode cX1_runOut 29 = .ok (.iconst 0, 1) := by decide +kernel
theorem dX1_runOut_30 : decode cX1_runOut 30 = .ok (.ireturn, 1) := by decide +kernel
theorem dX1_runOut_31 : decode cX1_runOut 31 = .ok (.aload_n 0, 1) := by decide +kernel
theorem dX1_runOut_32 : decode cX1_runOut 32 = .ok (.getfield 12, 3) := by decide +kernel
theorem dX1_runOut_35 : decode cX1_runOut 35 = .ok (.invokevirtual 96, 3) := by decide +kernel
theorem dX1_runOut_38 : decode cX1_runOut 38 = .ok (.aload_n 0, 1) := by decide +kernel
theorem dX1_runOut_39 : decode cX1_runOut 39 = .ok (.getfield 18, 3) := by decide +kernel
theorem dX1_runOut_42 : decode cX1_runOut 42 = .ok (.iconst 1, 1) := by decide +kernel
theorem dX1_runOut_43 : decode cX1_runOut 43 = .ok (.if_icmp .ne 18, 3) := by decide +kernel
theorem dX1_runOut_46 : decode cX1_runOut 46 = .ok (.aload_n 0, 1) := by decide +kernel
theorem dX1_runOut_47 : decode cX1_runOut 47 = .ok (.invokevirtual 93, 3) := by decide +kernel
theorem dX1_runOut_50 : decode cX1_runOut 50 = .ok (.aload_n 0, 1) := by decide +kernel
theorem dX1_runOut_51 : decode cX1_runOut 51 = .ok (.bipush 8, 2) := by decide +kernel
theorem dX1_runOut_53 : decode cX1_runOut 53 = .ok (.putfield 22, 3) := by decide +kernel
theorem dX1_runOut_56 : decode cX1_runOut 56 = .ok (.aload_n 0, 1) := by decide +kernel
theorem dX1_runOut_57 : decode cX1_runOut 57 = .ok (.iconst 0, 1) := by decide +kernel
theorem dX1_runOut_58 : decode cX1_runOut 58 = .ok (.putfield 78, 3) := by decide +kernel
theorem dX1_runOut_61 : decode cX1_runOut 61 = .ok (.aload_n 0, 1) := by decide +kernel
theorem dX1_runOut_62 : decode cX1_runOut 62 = .ok (.iload_n 1, 1) := by decide +kernel
theorem dX1_runOut_63 : decode cX1_runOut 63 = .ok (.aload_n 0, 1) := by decide +kernel
theorem dX1_runOut_64 : decode cX1_runOut 64 = .ok (.getfield 12, 3) := by decide +kernel
theorem dX1_runOut_67 : decode cX1_runOut 67 = .ok (.getfield 37, 3) := by decide +kernel
theorem dX1_runOut_70 : decode cX1_runOut 70 = .ok (.iadd, 1) := by decide +kernel
theorem dX1_runOut_71 : decode cX1_runOut 71 = .ok (.putfield 40, 3) := by decide +kernel
theorem dX1_runOut_74 : decode cX1_runOut 74 = .ok (.iconst 1, 1) := by decide +kernel
theorem dX1_runOut_75 : decode cX1_runOut 75 = .ok (.ireturn, 1) := by decide +kernel
theorem dX1_startRecovery_0 : decode cX1_startRecovery 0 = .ok (.aload_n 0, 1) := by decide +kernel
theorem dX1_startRecovery_1 : decode cX1_startRecovery 1 = .ok (.aload_n 0, 1) := by decide +kernel
theorem dX1_startRecovery_2 : decode cX1_startRecovery 2 = .ok (.getfield 50, 3) := by decide +kernel
theorem dX1_startRecovery_5 : decode cX1_startRecovery 5 = .ok (.iconst 1, 1) := by decide +kernel
theorem dX1_startRecovery_6 : decode cX1_startRecovery 6 = .ok (.isub, 1) := by decide +kernel
theorem dX1_startRecovery_7 : decode cX1_startRecovery 7 = .ok (.putfield 31, 3) := by decide +kernel
theorem dX1_startRecovery_10 : decode cX1_startRecovery 10 = .ok (.aload_n 0, 1) := by decide +kernel
theorem dX1_startRecovery_11 : decode cX1_startRecovery 11 = .ok (.bipush 16, 2) := by decide +kernel
theorem dX1_startRecovery_13 : decode cX1_startRecovery 13 = .ok (.aload_n 0, 1) := by decide +kernel
theorem dX1_startRecovery_14 : decode cX1_startRecovery 14 = .ok (.getfield 50, 3) := by decide +kernel
theorem dX1_startRecovery_17 : decode cX1_startRecovery 17 = .ok (.aload_n 0, 1) := by decide +kernel
theorem dX1_startRecovery_18 : decode cX1_startRecovery 18 = .ok (.getfield 53, 3) := by decide +kernel
theorem dX1_startRecovery_21 : decode cX1_startRecovery 21 = .ok (.isub, 1) := by decide +kernel
theorem dX1_startRecovery_22 : decode cX1_startRecovery 22 = .ok (.iconst 4, 1) := by decide +kernel
theorem dX1_startRecovery_23 : decode cX1_startRecovery 23 = .ok (.imul, 1) := by decide +kernel
theorem dX1_startRecovery_24 : decode cX1_startRecovery 24 = .ok (.invokestatic 84, 3) := by decide +kernel
theorem dX1_startRecovery_27 : decode cX1_startRecovery 27 = .ok (.putfield 25, 3) := by decide +kernel
theorem dX1_startRecovery_30 : decode cX1_startRecovery 30 = .ok (.return_, 1) := by decide +kernel
set_option maxRecDepth 20000 in
theorem ggX1_baseAgain_X5_sentTwice : GoodIn wsX1_baseAgain wsX5_sentTwice := goodIn_r _ [8, 9, 24, 25, 26, 27, 28] (by decide +kernel) (by decide +kernel)
set_option maxRecDepth 20000 in
theorem gX1_baseAgain_X5_sentTwice : GoodIn wsX1_baseAgain (wsV RX1 102 RX5 yX5_sentTwice wsX5_sentTwice) := goodIn_app (goodIn_of _ (by decide +kernel)) ggX1_baseAgain_X5_sentTwice
theorem dX1_baseAgain_0 : decode cX1_baseAgain 0 = .ok (.aload_n 0, 1) := by decide +kernel
theorem dX1_baseAgain_1 : decode cX1_baseAgain 1 = .ok (.dup, 1) := by decide +kernel
theorem dX1_baseAgain_2 : decode cX1_baseAgain 2 = .ok (.getfield 99, 3) := by decide +kernel
theorem dX1_baseAgain_5 : decode cX1_baseAgain 5 = .ok (.iconst 1, 1) := by decide +kernel
theorem dX1_baseAgain_6 : decode cX1_baseAgain 6 = .ok (.iadd, 1) := by decide +kernel
theorem dX1_baseAgain_7 : decode cX1_baseAgain 7 = .ok (.putfield 99, 3) := by decide +kernel
theorem dX1_baseAgain_10 : decode cX1_baseAgain 10 = .ok (.aload_n 0, 1) := by decide +kernel
theorem dX1_baseAgain_11 : decode cX1_baseAgain 11 = .ok (.getfield 12, 3) := by decide +kernel
theorem dX1_baseAgain_14 : decode cX1_baseAgain 14 = .ok (.aload_n 0, 1) := by decide +kernel
theorem dX1_baseAgain_15 : decode cX1_baseAgain 15 = .ok (.getfield 53, 3) := by decide +kernel
theorem dX1_baseAgain_18 : decode cX1_baseAgain 18 = .ok (.invokevirtual 102, 3) := by decide +kernel
theorem dX1_baseAgain_21 : decode cX1_baseAgain 21 = .ok (.aload_n 0, 1) := by decide +kernel
theorem dX1_baseAgain_22 : decode cX1_baseAgain 22 = .ok (.getfield 53, 3) := by decide +kernel
theorem dX1_baseAgain_25 : decode cX1_baseAgain 25 = .ok (.ireturn, 1) := by decide +kernel
set_option maxRecDepth 20000 in
theorem ggX1_copyFrom_X5_copyFrom : GoodIn wsX1_copyFrom wsX5_copyFrom := goodIn_r _ [19, 20, 21, 22, 23, 24, 39, 40, 41, 42, 43] (by decide +kernel) (by decide +kernel)
set_option maxRecDepth 20000 in
theorem gX1_copyFrom_X5_copyFrom : GoodIn wsX1_copyFrom (wsV RX1 106 RX5 yX5_copyFrom wsX5_copyFrom) := goodIn_app (goodIn_of _ (by decide +kernel)) ggX1_copyFrom_X5_copyFrom
theorem dX1_copyFrom_0 : decode cX1_copyFrom 0 = .ok (.aload_n 0, 1) := by decide +kernel
theorem dX1_copyFrom_1 : decode cX1_copyFrom 1 = .ok (.aload_n 1, 1) := by decide +kernel
theorem dX1_copyFrom_2 : decode cX1_copyFrom 2 = .ok (.getfield 18, 3) := by decide +kernel
theorem dX1_copyFrom_5 : decode cX1_copyFrom 5 = .ok (.putfield 18, 3) := by decide +kernel
theorem dX1_copyFrom_8 : decode cX1_copyFrom 8 = .ok (.aload_n 0, 1) := by decide +kernel
theorem dX1_copyFrom_9 : decode cX1_copyFrom 9 = .ok (.aload_n 1, 1) := by decide +kernel
theorem dX1_copyFrom_10 : decode cX1_copyFrom 10 = .ok (.getfield 47, 3) := by decide +kernel
theorem dX1_copyFrom_13 : decode cX1_copyFrom 13 = .ok (.putfield 47, 3) := by decide +kernel
theorem dX1_copyFrom_16 : decode cX1_copyFrom 16 = .ok (.aload_n 0, 1) := by decide +kernel
theorem dX1_copyFrom_17 : decode cX1_copyFrom 17 = .ok (.aload_n 1, 1) := by decide +kernel
theorem dX1_copyFrom_18 : decode cX1_copyFrom 18 = .ok (.getfield 43, 3) := by decide +kernel
theorem dX1_copyFrom_21 : decode cX1_copyFrom 21 = .ok (.putfield 43, 3) := by decide +kernel
theorem dX1_copyFrom_24 : decode cX1_copyFrom 24 = .ok (.aload_n 0, 1) := by decide +kernel
theorem dX1_copyFrom_25 : decode cX1_copyFrom 25 = .ok (.aload_n 1, 1) := by decide +kernel
theorem dX1_copyFrom_26 : decode cX1_copyFrom 26 = .ok (.getfield 53, 3) := by decide +kernel
theorem dX1_copyFrom_29 : decode cX1_copyFrom 29 = .ok (.putfield 53, 3) := by decide +kernel
theorem dX1_copyFrom_32 : decode cX1_copyFrom 32 = .ok (.aload_n 0, 1) := by decide +kernel
theorem dX1_copyFrom_33 : decode cX1_copyFrom 33 = .ok (.aload_n 1, 1) := by decide +kernel
theorem dX1_copyFrom_34 : decode cX1_copyFrom 34 = .ok (.getfield 50, 3) := by decide +kernel
theorem dX1_copyFrom_37 : decode cX1_copyFrom 37 = .ok (.putfield 50, 3) := by decide +kernel
theorem dX1_copyFrom_40 : decode cX1_copyFrom 40 = .ok (.aload_n 0, 1) := by decide +kernel
theorem dX1_copyFrom_41 : decode cX1_copyFrom 41 = .ok (.aload_n 1, 1) := by decide +kernel
theorem dX1_copyFrom_42 : decode cX1_copyFrom 42 = .ok (.getfield 22, 3) := by decide +kernel
theorem dX1_copyFrom_45 : decode cX1_copyFrom 45 = .ok (.putfield 22, 3) := by decide +kernel
theorem dX1_copyFrom_48 : decode cX1_copyFrom 48 = .ok (.aload_n 0, 1) := by decide +kernel
theorem dX1_copyFrom_49 : decode cX1_copyFrom 49 = .ok (.aload_n 1, 1) := by decide +kernel
theorem dX1_copyFrom_50 : decode cX1_copyFrom 50 = .ok (.getfield 25, 3) := by decide +kernel
theorem dX1_copyFrom_53 : decode cX1_copyFrom 53 = .ok (.putfield 25, 3) := by decide +kernel
theorem dX1_copyFrom_56 : decode cX1_copyFrom 56 = .ok (.aload_n 0, 1) := by decide +kernel
theorem dX1_copyFrom_57 : decode cX1_copyFrom 57 = .ok (.aload_n 1, 1) := by decide +kernel
theorem dX1_copyFrom_58 : decode cX1_copyFrom 58 = .ok (.getfield 28, 3) := by decide +kernel
theorem dX1_copyFrom_61 : decode cX1_copyFrom 61 = .ok (.putfield 28, 3) := by decide +kernel
theorem dX1_copyFrom_64 : decode cX1_copyFrom 64 = .ok (.aload_n 0, 1) := by decide +kernel
theorem dX1_copyFrom_65 : decode cX1_copyFrom 65 = .ok (.aload_n 1, 1) := by decide +kernel
theorem dX1_copyFrom_66 : decode cX1_copyFrom 66 = .ok (.getfield 78, 3) := by decide +kernel
theorem dX1_copyFrom_69 : decode cX1_copyFrom 69 = .ok (.putfield 78, 3) := by decide +kernel
theorem dX1_copyFrom_72 : decode cX1_copyFrom 72 = .ok (.aload_n 0, 1) := by decide +kernel
theorem dX1_copyFrom_73 : decode cX1_copyFrom 73 = .ok (.aload_n 1, 1) := by decide +kernel
theorem dX1_copyFrom_74 : decode cX1_copyFrom 74 = .ok (.getfield 31, 3) := by decide +kernel
theorem dX1_copyFrom_77 : decode cX1_copyFrom 77 = .ok (.putfield 31, 3) := by decide +kernel
theorem dX1_copyFrom_80 : decode cX1_copyFrom 80 = .ok (.aload_n 0, 1) := by decide +kernel
theorem dX1_copyFrom_81 : decode cX1_copyFrom 81 = .ok (.aload_n 1, 1) := by decide +kernel
theorem dX1_copyFrom_82 : decode cX1_copyFrom 82 = .ok (.getfield 40, 3) := by decide +kernel
theorem dX1_copyFrom_85 : decode cX1_copyFrom 85 = .ok (.putfield 40, 3) := by decide +kernel
theorem dX1_copyFrom_88 : decode cX1_copyFrom 88 = .ok (.aload_n 0, 1) := by decide +kernel
theorem dX1_copyFrom_89 : decode cX1_copyFrom 89 = .ok (.aload_n 1, 1) := by decide +kernel
theorem dX1_copyFrom_90 : decode cX1_copyFrom 90 = .ok (.getfield 64, 3) := by decide +kernel
theorem dX1_copyFrom_93 : decode cX1_copyFrom 93 = .ok (.putfield 64, 3) := by decide +kernel
theorem dX1_copyFrom_96 : decode cX1_copyFrom 96 = .ok (.aload_n 0, 1) := by decide +kernel
theorem dX1_copyFrom_97 : decode cX1_copyFrom 97 = .ok (.aload_n 1, 1) := by decide +kernel
theorem dX1_copyFrom_98 : decode cX1_copyFrom 98 = .ok (.getfield 99, 3) := by decide +kernel
theorem dX1_copyFrom_101 : decode cX1_copyFrom 101 = .ok (.putfield 99, 3) := by decide +kernel
theorem dX1_copyFrom_104 : decode cX1_copyFrom 104 = .ok (.aload_n 0, 1) := by decide +kernel
theorem dX1_copyFrom_105 : decode cX1_copyFrom 105 = .ok (.getfield 12, 3) := by decide +kernel
theorem dX1_copyFrom_108 : decode cX1_copyFrom 108 = .ok (.aload_n 1, 1) := by decide +kernel
theorem dX1_copyFrom_109 : decode cX1_copyFrom 109 = .ok (.getfield 12, 3) := by decide +kernel
theorem dX1_copyFrom_112 : decode cX1_copyFrom 112 = .ok (.invokevirtual 106, 3) := by decide +kernel
theorem dX1_copyFrom_115 : decode cX1_copyFrom 115 = .ok (.return_, 1) := by decide +kernel
