theorem dX0_init_0 : decode cX0_init 0 = .ok (.aload_n 0, 1) := by decide +kernel
theorem dX0_init_1 : decode cX0_init 1 = .ok (.invokespecial 3, 3) := by decide +kernel
theorem dX0_init_4 : decode cX0_init 4 = .ok (.aload_n 0, 1) := by decide +kernel
theorem dX0_init_5 : decode cX0_init 5 = .ok (.sipush 201, 3) := by decide +kernel
theorem dX0_init_8 : decode cX0_init 8 = .ok (.newarray .boolean, 2) := by decide +kernel
theorem dX0_init_10 : decode cX0_init 10 = .ok (.putfield 9, 3) := by decide +kernel
theorem dX0_init_13 : decode cX0_init 13 = .ok (.return_, 1) := by decide +kernel
theorem dX0_spare_0 : decode cX0_spare 0 = .ok (.iconst 0, 1) := by decide +kernel
theorem dX0_spare_1 : decode cX0_spare 1 = .ok (.aload_n 0, 1) := by decide +kernel
theorem dX0_spare_2 : decode cX0_spare 2 = .ok (.getfield 15, 3) := by decide +kernel
theorem dX0_spare_5 : decode cX0_spare 5 = .ok (.aload_n 0, 1) := by decide +kernel
theorem dX0_spare_6 : decode cX0_spare 6 = .ok (.getfield 19, 3) := by decide +kernel
theorem dX0_spare_9 : decode cX0_spare 9 = .ok (.iadd, 1) := by decide +kernel
theorem dX0_spare_10 : decode cX0_spare 10 = .ok (.aload_n 0, 1) := by decide +kernel
theorem dX0_spare_11 : decode cX0_spare 11 = .ok (.getfield 22, 3) := by decide +kernel
theorem dX0_spare_14 : decode cX0_spare 14 = .ok (.isub, 1) := by decide +kernel
theorem dX0_spare_15 : decode cX0_spare 15 = .ok (.invokestatic 25, 3) := by decide +kernel
theorem dX0_spare_18 : decode cX0_spare 18 = .ok (.ireturn, 1) := by decide +kernel
theorem dX0_take_0 : decode cX0_take 0 = .ok (.iload_n 1, 1) := by decide +kernel
theorem dX0_take_1 : decode cX0_take 1 = .ok (.aload_n 0, 1) := by decide +kernel
theorem dX0_take_2 : decode cX0_take 2 = .ok (.getfield 22, 3) := by decide +kernel
theorem dX0_take_5 : decode cX0_take 5 = .ok (.if_icmp .lt 21, 3) := by decide +kernel
theorem dX0_take_8 : decode cX0_take 8 = .ok (.iload_n 1, 1) := by decide +kernel
theorem dX0_take_9 : decode cX0_take 9 = .ok (.aload_n 0, 1) := by decide +kernel
theorem dX0_take_10 : decode cX0_take 10 = .ok (.getfield 9, 3) := by decide +kernel
theorem dX0_take_13 : decode cX0_take 13 = .ok (.arraylength, 1) := by decide +kernel
theorem dX0_take_14 : decode cX0_take 14 = .ok (.if_icmp .ge 12, 3) := by decide +kernel
theorem dX0_take_17 : decode cX0_take 17 = .ok (.aload_n 0, 1) := by decide +kernel
theorem dX0_take_18 : decode cX0_take 18 = .ok (.getfield 9, 3) := by decide +kernel
theorem dX0_take_21 : decode cX0_take 21 = .ok (.iload_n 1, 1) := by decide +kernel
theorem dX0_take_22 : decode cX0_take 22 = .ok (.baload, 1) := by decide +kernel
theorem dX0_take_23 : decode cX0_take 23 = .ok (.ifCond .eq 5, 3) := by decide +kernel
theorem dX0_take_26 : decode cX0_take 26 = .ok (.iconst 1, 1) := by decide +kernel
theorem dX0_take_27 : decode cX0_take 27 = .ok (.ireturn, 1) := by decide +kernel
theorem dX0_take_28 : decode cX0_take 28 = .ok (.iload_n 2, 1) := by decide +kernel
theorem dX0_take_29 : decode cX0_take 29 = .ok (.ifCond .eq 18, 3) := by decide +kernel
theorem dX0_take_32 : decode cX0_take 32 = .ok (.iload_n 1, 1) := by decide +kernel
theorem dX0_take_33 : decode cX0_take 33 = .ok (.aload_n 0, 1) := by decide +kernel
theorem dX0_take_34 : decode cX0_take 34 = .ok (.getfield 15, 3) := by decide +kernel
theorem dX0_take_37 : decode cX0_take 37 = .ok (.aload_n 0, 1) := by decide +kernel
theorem dX0_take_38 : decode cX0_take 38 = .ok (.getfield 19, 3) := by decide +kernel
theorem dX0_take_41 : decode cX0_take 41 = .ok (.iadd, 1) := by decide +kernel
theorem dX0_take_42 : decode cX0_take 42 = .ok (.if_icmp .lt 5, 3) := by decide +kernel
theorem dX0_take_45 : decode cX0_take 45 = .ok (.iconst 0, 1) := by decide +kernel
theorem dX0_take_46 : decode cX0_take 46 = .ok (.ireturn, 1) := by decide +kernel
theorem dX0_take_47 : decode cX0_take 47 = .ok (.aload_n 0, 1) := by decide +kernel
theorem dX0_take_48 : decode cX0_take 48 = .ok (.getfield 9, 3) := by decide +kernel
theorem dX0_take_51 : decode cX0_take 51 = .ok (.iload_n 1, 1) := by decide +kernel
theorem dX0_take_52 : decode cX0_take 52 = .ok (.iconst 1, 1) := by decide +kernel
theorem dX0_take_53 : decode cX0_take 53 = .ok (.bastore, 1) := by decide +kernel
theorem dX0_take_54 : decode cX0_take 54 = .ok (.aload_n 0, 1) := by decide +kernel
theorem dX0_take_55 : decode cX0_take 55 = .ok (.getfield 22, 3) := by decide +kernel
theorem dX0_take_58 : decode cX0_take 58 = .ok (.aload_n 0, 1) := by decide +kernel
theorem dX0_take_59 : decode cX0_take 59 = .ok (.getfield 9, 3) := by decide +kernel
theorem dX0_take_62 : decode cX0_take 62 = .ok (.arraylength, 1) := by decide +kernel
theorem dX0_take_63 : decode cX0_take 63 = .ok (.if_icmp .ge 38, 3) := by decide +kernel
theorem dX0_take_66 : decode cX0_take 66 = .ok (.aload_n 0, 1) := by decide +kernel
theorem dX0_take_67 : decode cX0_take 67 = .ok (.getfield 9, 3) := by decide +kernel
theorem dX0_take_70 : decode cX0_take 70 = .ok (.aload_n 0, 1) := by decide +kernel
theorem dX0_take_71 : decode cX0_take 71 = .ok (.getfield 22, 3) := by decide +kernel
theorem dX0_take_74 : decode cX0_take 74 = .ok (.baload, 1) := by decide +kernel
theorem dX0_take_75 : decode cX0_take 75 = .ok (.ifCond .eq 26, 3) := by decide +kernel
theorem dX0_take_78 : decode cX0_take 78 = .ok (.aload_n 0, 1) := by decide +kernel
theorem dX0_take_79 : decode cX0_take 79 = .ok (.getfield 9, 3) := by decide +kernel
theorem dX0_take_82 : decode cX0_take 82 = .ok (.aload_n 0, 1) := by decide +kernel
theorem dX0_take_83 : decode cX0_take 83 = .ok (.getfield 22, 3) := by decide +kernel
theorem dX0_take_86 : decode cX0_take 86 = .ok (.iconst 0, 1) := by decide +kernel
theorem dX0_take_87 : decode cX0_take 87 = .ok (.bastore, 1) := by decide +kernel
theorem dX0_take_88 : decode cX0_take 88 = .ok (.aload_n 0, 1) := by decide +kernel
theorem dX0_take_89 : decode cX0_take 89 = .ok (.dup, 1) := by decide +kernel
theorem dX0_take_90 : decode cX0_take 90 = .ok (.getfield 22, 3) := by decide +kernel
theorem dX0_take_93 : decode cX0_take 93 = .ok (.iconst 1, 1) := by decide +kernel
theorem dX0_take_94 : decode cX0_take 94 = .ok (.iadd, 1) := by decide +kernel
theorem dX0_take_95 : decode cX0_take 95 = .ok (.putfield 22, 3) := by decide +kernel
theorem dX0_take_98 : decode cX0_take 98 = .ok (.goto (-44), 3) := by decide +kernel
theorem dX0_take_101 : decode cX0_take 101 = .ok (.iconst 1, 1) := by decide +kernel
theorem dX0_take_102 : decode cX0_take 102 = .ok (.ireturn, 1) := by decide +kernel
theorem dX0_copyFrom_0 : decode cX0_copyFrom 0 = .ok (.aload_n 0, 1) := by decide +kernel
theorem dX0_copyFrom_1 : decode cX0_copyFrom 1 = .ok (.aload_n 1, 1) := by decide +kernel
theorem dX0_copyFrom_2 : decode cX0_copyFrom 2 = .ok (.getfield 19, 3) := by decide +kernel
theorem dX0_copyFrom_5 : decode cX0_copyFrom 5 = .ok (.putfield 19, 3) := by decide +kernel
theorem dX0_copyFrom_8 : decode cX0_copyFrom 8 = .ok (.aload_n 0, 1) := by decide +kernel
theorem dX0_copyFrom_9 : decode cX0_copyFrom 9 = .ok (.aload_n 1, 1) := by decide +kernel
theorem dX0_copyFrom_10 : decode cX0_copyFrom 10 = .ok (.getfield 22, 3) := by decide +kernel
theorem dX0_copyFrom_13 : decode cX0_copyFrom 13 = .ok (.putfield 22, 3) := by decide +kernel
theorem dX0_copyFrom_16 : decode cX0_copyFrom 16 = .ok (.aload_n 0, 1) := by decide +kernel
theorem dX0_copyFrom_17 : decode cX0_copyFrom 17 = .ok (.aload_n 1, 1) := by decide +kernel
theorem dX0_copyFrom_18 : decode cX0_copyFrom 18 = .ok (.getfield 15, 3) := by decide +kernel
theorem dX0_copyFrom_21 : decode cX0_copyFrom 21 = .ok (.putfield 15, 3) := by decide +kernel
theorem dX0_copyFrom_24 : decode cX0_copyFrom 24 = .ok (.aload_n 1, 1) := by decide +kernel
theorem dX0_copyFrom_25 : decode cX0_copyFrom 25 = .ok (.getfield 9, 3) := by decide +kernel
theorem dX0_copyFrom_28 : decode cX0_copyFrom 28 = .ok (.iconst 0, 1) := by decide +kernel
theorem dX0_copyFrom_29 : decode cX0_copyFrom 29 = .ok (.aload_n 0, 1) := by decide +kernel
theorem dX0_copyFrom_30 : decode cX0_copyFrom 30 = .ok (.getfield 9, 3) := by decide +kernel
theorem dX0_copyFrom_33 : decode cX0_copyFrom 33 = .ok (.iconst 0, 1) := by decide +kernel
theorem dX0_copyFrom_34 : decode cX0_copyFrom 34 = .ok (.aload_n 0, 1) := by decide +kernel
theorem dX0_copyFrom_35 : decode cX0_copyFrom 35 = .ok (.getfield 9, 3) := by decide +kernel
theorem dX0_copyFrom_38 : decode cX0_copyFrom 38 = .ok (.arraylength, 1) := by decide +kernel
theorem dX0_copyFrom_39 : decode cX0_copyFrom 39 = .ok (.invokestatic 31, 3) := by decide +kernel
theorem dX0_copyFrom_42 : decode cX0_copyFrom 42 = .ok (.return_, 1) := by decide +kernel
set_option maxRecDepth 20000 in
theorem ggX2_init_X1_init : GoodIn wsX2_init wsX1_init := goodIn_r _ [13, 14, 2, 3, 15, 16, 17, 18, 19, 20, 21, 49, 50, 51, 52, 53, 27, 28, 29, 30, 31, 32, 33, 34, 35, 36, 37, 38, 39, 40] (by decide +kernel) (by decide +kernel)
set_option maxRecDepth 20000 in
theorem gX2_init_X1_init_n9 : GoodIn wsX2_init (wsX1_init) := ggX2_init_X1_init
set_option maxRecDepth 20000 in
theorem ggX2_init_X0_init : GoodIn wsX2_init wsX0_init := goodIn_r _ [23, 24, 2, 3, 25, 26, 45, 46, 47, 48] (by decide +kernel) (by decide +kernel)
set_option maxRecDepth 20000 in
theorem gX2_init_X0_init_n18 : GoodIn wsX2_init (wsX0_init) := ggX2_init_X0_init
theorem dX2_init_0 : decode cX2_init 0 = .ok (.aload_n 0, 1) := by decide +kernel
theorem dX2_init_1 : decode cX2_init 1 = .ok (.invokespecial 1, 3) := by decide +kernel
theorem dX2_init_4 : decode cX2_init 4 = .ok (.aload_n 0, 1) := by decide +kernel
theorem dX2_init_5 : decode cX2_init 5 = .ok (.new 7, 3) := by decide +kernel
theorem dX2_init_8 : decode cX2_init 8 = .ok (.dup, 1) := by decide +kernel
theorem dX2_init_9 : decode cX2_init 9 = .ok (.invokespecial 9, 3) := by decide +kernel
theorem dX2_init_12 : decode cX2_init 12 = .ok (.putfield 10, 3) := by decide +kernel
theorem dX2_init_15 : decode cX2_init 15 = .ok (.aload_n 0, 1) := by decide +kernel
theorem dX2_init_16 : decode cX2_init 16 = .ok (.new 16, 3) := by decide +kernel
theorem dX2_init_19 : decode cX2_init 19 = .ok (.dup, 1) := by decide +kernel
theorem dX2_init_20 : decode cX2_init 20 = .ok (.invokespecial 18, 3) := by decide +kernel
theorem dX2_init_23 : decode cX2_init 23 = .ok (.putfield 19, 3) := by decide +kernel
theorem dX2_init_26 : decode cX2_init 26 = .ok (.return_, 1) := by decide +kernel
theorem dX2_unread_0 : decode cX2_unread 0 = .ok (.aload_n 0, 1) := by decide +kernel
theorem dX2_unread_1 : decode cX2_unread 1 = .ok (.getfield 19, 3) := by decide +kernel
theorem dX2_unread_4 : decode cX2_unread 4 = .ok (.getfield 23, 3) := by decide +kernel
theorem dX2_unread_7 : decode cX2_unread 7 = .ok (.aload_n 0, 1) := by decide +kernel
theorem dX2_unread_8 : decode cX2_unread 8 = .ok (.getfield 10, 3) := by decide +kernel
theorem dX2_unread_11 : decode cX2_unread 11 = .ok (.getfield 27, 3) := by decide +kernel
theorem dX2_unread_14 : decode cX2_unread 14 = .ok (.invokestatic 30, 3) := by decide +kernel
theorem dX2_unread_17 : decode cX2_unread 17 = .ok (.aload_n 0, 1) := by decide +kernel
theorem dX2_unread_18 : decode cX2_unread 18 = .ok (.getfield 19, 3) := by decide +kernel
theorem dX2_unread_21 : decode cX2_unread 21 = .ok (.getfield 36, 3) := by decide +kernel
theorem dX2_unread_24 : decode cX2_unread 24 = .ok (.isub, 1) := by decide +kernel
theorem dX2_unread_25 : decode cX2_unread 25 = .ok (.ireturn, 1) := by decide +kernel
set_option maxRecDepth 20000 in
theorem ggX2_copyFrom_X1_copyFrom : GoodIn wsX2_copyFrom wsX1_copyFrom := goodIn_r _ [9, 10, 11, 12, 13, 14, 15, 16, 17, 18, 19, 20, 21, 22, 23, 24, 25, 26, 27, 28, 29, 30, 31, 32, 33, 51, 52, 53, 54, 55, 56, 57, 58, 59, 60, 61, 62, 63, 64, 65, 66, 67, 68, 69] (by decide +kernel) (by decide +kernel)
set_option maxRecDepth 20000 in
theorem gX2_copyFrom_X1_copyFrom : GoodIn wsX2_copyFrom (wsV RX2 45 RX1 yX1_copyFrom wsX1_copyFrom) := goodIn_app (goodIn_of _ (by decide +kernel)) ggX2_copyFrom_X1_copyFrom
set_option maxRecDepth 20000 in
theorem ggX2_copyFrom_X0_copyFrom : GoodIn wsX2_copyFrom wsX0_copyFrom := goodIn_r _ [38, 39, 40, 41, 42, 43, 44, 45, 46, 70, 71, 72, 73] (by decide +kernel) (by decide +kernel)
set_option maxRecDepth 20000 in
theorem gX2_copyFrom_X0_copyFrom : GoodIn wsX2_copyFrom (wsV RX2 49 RX0 yX0_copyFrom wsX0_copyFrom) := goodIn_app (goodIn_of _ (by decide +kernel)) ggX2_copyFrom_X0_copyFrom
theorem dX2_copyFrom_0 : decode cX2_copyFrom 0 = .ok (.aload_n 0, 1) := by decide +kernel
theorem dX2_copyFrom_1 : decode cX2_copyFrom 1 = .ok (.aload_n 1, 1) := by decide +kernel
theorem dX2_copyFrom_2 : decode cX2_copyFrom 2 = .ok (.getfield 39, 3) := by decide +kernel
theorem dX2_copyFrom_5 : decode cX2_copyFrom 5 = .ok (.putfield 39, 3) := by decide +kernel
theorem dX2_copyFrom_8 : decode cX2_copyFrom 8 = .ok (.aload_n 0, 1) := by decide +kernel
theorem dX2_copyFrom_9 : decode cX2_copyFrom 9 = .ok (.aload_n 1, 1) := by decide +kernel
theorem dX2_copyFrom_10 : decode cX2_copyFrom 10 = .ok (.getfield 42, 3) := by decide +kernel
theorem dX2_copyFrom_13 : decode cX2_copyFrom 13 = .ok (.putfield 42, 3) := by decide +kernel
theorem dX2_copyFrom_16 : decode cX2_copyFrom 16 = .ok (.aload_n 0, 1) := by decide +kernel
theorem dX2_copyFrom_17 : decode cX2_copyFrom 17 = .ok (.getfield 10, 3) := by decide +kernel
theorem dX2_copyFrom_20 : decode cX2_copyFrom 20 = .ok (.aload_n 1, 1) := by decide +kernel
theorem dX2_copyFrom_21 : decode cX2_copyFrom 21 = .ok (.getfield 10, 3) := by decide +kernel
theorem dX2_copyFrom_24 : decode cX2_copyFrom 24 = .ok (.invokevirtual 45, 3) := by decide +kernel
theorem dX2_copyFrom_27 : decode cX2_copyFrom 27 = .ok (.aload_n 0, 1) := by decide +kernel
theorem dX2_copyFrom_28 : decode cX2_copyFrom 28 = .ok (.getfield 19, 3) := by decide +kernel
theorem dX2_copyFrom_31 : decode cX2_copyFrom 31 = .ok (.aload_n 1, 1) := by decide +kernel
theorem dX2_copyFrom_32 : decode cX2_copyFrom 32 = .ok (.getfield 19, 3) := by decide +kernel
theorem dX2_copyFrom_35 : decode cX2_copyFrom 35 = .ok (.invokevirtual 49, 3) := by decide +kernel
theorem dX2_copyFrom_38 : decode cX2_copyFrom 38 = .ok (.return_, 1) := by decide +kernel
theorem dX4_of_0 : decode cX4_of 0 = .ok (.iload_n 0, 1) := by decide +kernel
theorem dX4_of_1 : decode cX4_of 1 = .ok (.bipush 15, 2) := by decide +kernel
theorem dX4_of_3 : decode cX4_of 3 = .ok (.ishl, 1) := by decide +kernel
theorem dX4_of_4 : decode cX4_of 4 = .ok (.iload_n 1, 1) := by decide +kernel
theorem dX4_of_5 : decode cX4_of 5 = .ok (.bipush 13, 2) := by decide +kernel
theorem dX4_of_7 : decode cX4_of 7 = .ok (.ishl, 1) := by decide +kernel
theorem dX4_of_8 : decode cX4_of 8 = .ok (.ior, 1) := by decide +kernel
theorem dX4_of_9 : decode cX4_of 9 = .ok (.iload_n 2, 1) := by decide +kernel
theorem dX4_of_10 : decode cX4_of 10 = .ok (.iconst 5, 1) := by decide +kernel
theorem dX4_of_11 : decode cX4_of 11 = .ok (.ishl, 1) := by decide +kernel
theorem dX4_of_12 : decode cX4_of 12 = .ok (.ior, 1) := by decide +kernel
theorem dX4_of_13 : decode cX4_of 13 = .ok (.iload_n 3, 1) := by decide +kernel
theorem dX4_of_14 : decode cX4_of 14 = .ok (.ior, 1) := by decide +kernel
theorem dX4_of_15 : decode cX4_of 15 = .ok (.ireturn, 1) := by decide +kernel
theorem dX4_hopsOf_0 : decode cX4_hopsOf 0 = .ok (.iload_n 0, 1) := by decide +kernel
theorem dX4_hopsOf_1 : decode cX4_hopsOf 1 = .ok (.bipush 18, 2) := by decide +kernel
theorem dX4_hopsOf_3 : decode cX4_hopsOf 3 = .ok (.ishr, 1) := by decide +kernel
theorem dX4_hopsOf_4 : decode cX4_hopsOf 4 = .ok (.ireturn, 1) := by decide +kernel
theorem dX4_connectionOf_0 : decode cX4_connectionOf 0 = .ok (.iload_n 0, 1) := by decide +kernel
theorem dX4_connectionOf_1 : decode cX4_connectionOf 1 = .ok (.bipush 15, 2) := by decide +kernel
theorem dX4_connectionOf_3 : decode cX4_connectionOf 3 = .ok (.ishr, 1) := by decide +kernel
theorem dX4_connectionOf_4 : decode cX4_connectionOf 4 = .ok (.bipush 7, 2) := by decide +kernel
theorem dX4_connectionOf_6 : decode cX4_connectionOf 6 = .ok (.iand, 1) := by decide +kernel
theorem dX4_connectionOf_7 : decode cX4_connectionOf 7 = .ok (.ireturn, 1) := by decide +kernel
theorem dX4_kindOf_0 : decode cX4_kindOf 0 = .ok (.iload_n 0, 1) := by decide +kernel
theorem dX4_kindOf_1 : decode cX4_kindOf 1 = .ok (.bipush 13, 2) := by decide +kernel
theorem dX4_kindOf_3 : decode cX4_kindOf 3 = .ok (.ishr, 1) := by decide +kernel
theorem dX4_kindOf_4 : decode cX4_kindOf 4 = .ok (.iconst 3, 1) := by decide +kernel
theorem dX4_kindOf_5 : decode cX4_kindOf 5 = .ok (.iand, 1) := by decide +kernel
theorem dX4_kindOf_6 : decode cX4_kindOf 6 = .ok (.ireturn, 1) := by decide +kernel
theorem dX4_numberOf_0 : decode cX4_numberOf 0 = .ok (.iload_n 0, 1) := by decide +kernel
theorem dX4_numberOf_1 : decode cX4_numberOf 1 = .ok (.iconst 5, 1) := by decide +kernel
theorem dX4_numberOf_2 : decode cX4_numberOf 2 = .ok (.ishr, 1) := by decide +kernel
theorem dX4_numberOf_3 : decode cX4_numberOf 3 = .ok (.sipush 255, 3) := by decide +kernel
theorem dX4_numberOf_6 : decode cX4_numberOf 6 = .ok (.iand, 1) := by decide +kernel
theorem dX4_numberOf_7 : decode cX4_numberOf 7 = .ok (.ireturn, 1) := by decide +kernel
theorem dX4_roomOf_0 : decode cX4_roomOf 0 = .ok (.iload_n 0, 1) := by decide +kernel
theorem dX4_roomOf_1 : decode cX4_roomOf 1 = .ok (.bipush 31, 2) := by decide +kernel
theorem dX4_roomOf_3 : decode cX4_roomOf 3 = .ok (.iand, 1) := by decide +kernel
theorem dX4_roomOf_4 : decode cX4_roomOf 4 = .ok (.ireturn, 1) := by decide +kernel
theorem dX5_init_0 : decode cX5_init 0 = .ok (.aload_n 0, 1) := by decide +kernel
theorem dX5_init_1 : decode cX5_init 1 = .ok (.invokespecial 3, 3) := by decide +kernel
theorem dX5_init_4 : decode cX5_init 4 = .ok (.return_, 1) := by decide +kernel
theorem dX5_begin_0 : decode cX5_begin 0 = .ok (.aload_n 0, 1) := by decide +kernel
theorem dX5_begin_1 : decode cX5_begin 1 = .ok (.iconst 0, 1) := by decide +kernel
theorem dX5_begin_2 : decode cX5_begin 2 = .ok (.putfield 9, 3) := by decide +kernel
theorem dX5_begin_5 : decode cX5_begin 5 = .ok (.aload_n 0, 1) := by decide +kernel
theorem dX5_begin_6 : decode cX5_begin 6 = .ok (.iconst 0, 1) := by decide +kernel
theorem dX5_begin_7 : decode cX5_begin 7 = .ok (.putfield 15, 3) := by decide +kernel
theorem dX5_begin_10 : decode cX5_begin 10 = .ok (.aload_n 0, 1) := by decide +kernel
theorem dX5_begin_11 : decode cX5_begin 11 = .ok (.bipush 12, 2) := by decide +kernel
theorem dX5_begin_13 : decode cX5_begin 13 = .ok (.putfield 18, 3) := by decide +kernel
theorem dX5_begin_16 : decode cX5_begin 16 = .ok (.aload_n 0, 1) := by decide +kernel
theorem dX5_begin_17 : decode cX5_begin 17 = .ok (.iconst (-1), 1) := by decide +kernel
theorem dX5_begin_18 : decode cX5_begin 18 = .ok (.putfield 21, 3) := by decide +kernel
theorem dX5_begin_21 : decode cX5_begin 21 = .ok (.aload_n 0, 1) := by decide +kernel
theorem dX5_begin_22 : decode cX5_begin 22 = .ok (.iconst 0, 1) := by decide +kernel
theorem dX5_begin_23 : decode cX5_begin 23 = .ok (.putfield 24, 3) := by decide +kernel
theorem dX5_begin_26 : decode cX5_begin 26 = .ok (.return_, 1) := by decide +kernel
theorem dX5_sent_0 : decode cX5_sent 0 = .ok (.aload_n 0, 1) := by decide +kernel
theorem dX5_sent_1 : decode cX5_sent 1 = .ok (.getfield 21, 3) := by decide +kernel
theorem dX5_sent_4 : decode cX5_sent 4 = .ok (.iconst (-1), 1) := by decide +kernel
theorem dX5_sent_5 : decode cX5_sent 5 = .ok (.if_icmp .ne 13, 3) := by decide +kernel
theorem dX5_sent_8 : decode cX5_sent 8 = .ok (.aload_n 0, 1) := by decide +kernel
theorem dX5_sent_9 : decode cX5_sent 9 = .ok (.iload_n 1, 1) := by decide +kernel
theorem dX5_sent_10 : decode cX5_sent 10 = .ok (.putfield 21, 3) := by decide +kernel
theorem dX5_sent_13 : decode cX5_sent 13 = .ok (.aload_n 0, 1) := by decide +kernel
theorem dX5_sent_14 : decode cX5_sent 14 = .ok (.iload_n 2, 1) := by decide +kernel
theorem dX5_sent_15 : decode cX5_sent 15 = .ok (.putfield 24, 3) := by decide +kernel
theorem dX5_sent_18 : decode cX5_sent 18 = .ok (.return_, 1) := by decide +kernel
theorem dX5_sentTwice_0 : decode cX5_sentTwice 0 = .ok (.aload_n 0, 1) := by decide +kernel
theorem dX5_sentTwice_1 : decode cX5_sentTwice 1 = .ok (.getfield 21, 3) := by decide +kernel
theorem dX5_sentTwice_4 : decode cX5_sentTwice 4 = .ok (.iload_n 1, 1) := by decide +kernel
theorem dX5_sentTwice_5 : decode cX5_sentTwice 5 = .ok (.if_icmp .ne 8, 3) := by decide +kernel
theorem dX5_sentTwice_8 : decode cX5_sentTwice 8 = .ok (.aload_n 0, 1) := by decide +kernel
theorem dX5_sentTwice_9 : decode cX5_sentTwice 9 = .ok (.iconst (-1), 1) := by decide +kernel
theorem dX5_sentTwice_10 : decode cX5_sentTwice 10 = .ok (.putfield 21, 3) := by decide +kernel
theorem dX5_sentTwice_13 : decode cX5_sentTwice 13 = .ok (.return_, 1) := by decide +kernel
theorem dX5_answered_0 : decode cX5_answered 0 = .ok (.aload_n 0, 1) := by decide +kernel
theorem dX5_answered_1 : decode cX5_answered 1 = .ok (.getfield 21, 3) := by decide +kernel
theorem dX5_answered_4 : decode cX5_answered 4 = .ok (.iconst (-1), 1) := by decide +kernel
theorem dX5_answered_5 : decode cX5_answered 5 = .ok (.if_icmp .eq 11, 3) := by decide +kernel
theorem dX5_answered_8 : decode cX5_answered 8 = .ok (.aload_n 0, 1) := by decide +kernel
theorem dX5_answered_9 : decode cX5_answered 9 = .ok (.getfield 21, 3) := by decide +kernel
theorem dX5_answered_12 : decode cX5_answered 12 = .ok (.iload_n 1, 1) := by decide +kernel
theorem dX5_answered_13 : decode cX5_answered 13 = .ok (.if_icmp .lt 4, 3) := by decide +kernel
theorem dX5_answered_16 : decode cX5_answered 16 = .ok (.return_, 1) := by decide +kernel
theorem dX5_answered_17 : decode cX5_answered 17 = .ok (.iload_n 2, 1) := by decide +kernel
theorem dX5_answered_18 : decode cX5_answered 18 = .ok (.aload_n 0, 1) := by decide +kernel
theorem dX5_answered_19 : decode cX5_answered 19 = .ok (.getfield 24, 3) := by decide +kernel
theorem dX5_answered_22 : decode cX5_answered 22 = .ok (.isub, 1) := by decide +kernel
theorem dX5_answered_23 : decode cX5_answered 23 = .ok (.istore_n 3, 1) := by decide +kernel
theorem dX5_answered_24 : decode cX5_answered 24 = .ok (.aload_n 0, 1) := by decide +kernel
theorem dX5_answered_25 : decode cX5_answered 25 = .ok (.getfield 9, 3) := by decide +kernel
theorem dX5_answered_28 : decode cX5_answered 28 = .ok (.ifCond .ne 21, 3) := by decide +kernel
theorem dX5_answered_31 : decode cX5_answered 31 = .ok (.aload_n 0, 1) := by decide +kernel
theorem dX5_answered_32 : decode cX5_answered 32 = .ok (.bipush 8, 2) := by decide +kernel
theorem dX5_answered_34 : decode cX5_answered 34 = .ok (.iload_n 3, 1) := by decide +kernel
theorem dX5_answered_35 : decode cX5_answered 35 = .ok (.imul, 1) := by decide +kernel
theorem dX5_answered_36 : decode cX5_answered 36 = .ok (.putfield 9, 3) := by decide +kernel
theorem dX5_answered_39 : decode cX5_answered 39 = .ok (.aload_n 0, 1) := by decide +kernel
theorem dX5_answered_40 : decode cX5_answered 40 = .ok (.iconst 2, 1) := by decide +kernel
theorem dX5_answered_41 : decode cX5_answered 41 = .ok (.iload_n 3, 1) := by decide +kernel
theorem dX5_answered_42 : decode cX5_answered 42 = .ok (.imul, 1) := by decide +kernel
theorem dX5_answered_43 : decode cX5_answered 43 = .ok (.putfield 15, 3) := by decide +kernel
theorem dX5_answered_46 : decode cX5_answered 46 = .ok (.goto 46, 3) := by decide +kernel
theorem dX5_answered_49 : decode cX5_answered 49 = .ok (.iload_n 3, 1) := by decide +kernel
theorem dX5_answered_50 : decode cX5_answered 50 = .ok (.aload_n 0, 1) := by decide +kernel
theorem dX5_answered_51 : decode cX5_answered 51 = .ok (.getfield 9, 3) := by decide +kernel
theorem dX5_answered_54 : decode cX5_answered 54 = .ok (.bipush 8, 2) := by decide +kernel
theorem dX5_answered_56 : decode cX5_answered 56 = .ok (.idiv, 1) := by decide +kernel
theorem dX5_answered_57 : decode cX5_answered 57 = .ok (.isub, 1) := by decide +kernel
theorem dX5_answered_58 : decode cX5_answered 58 = .ok (.istore 4, 2) := by decide +kernel
theorem dX5_answered_60 : decode cX5_answered 60 = .ok (.aload_n 0, 1) := by decide +kernel
theorem dX5_answered_61 : decode cX5_answered 61 = .ok (.aload_n 0, 1) := by decide +kernel
theorem dX5_answered_62 : decode cX5_answered 62 = .ok (.getfield 15, 3) := by decide +kernel
theorem dX5_answered_65 : decode cX5_answered 65 = .ok (.iload 4, 2) := by decide +kernel
theorem dX5_answered_67 : decode cX5_answered 67 = .ok (.invokestatic 27, 3) := by decide +kernel
theorem dX5_answered_70 : decode cX5_answered 70 = .ok (.iadd, 1) := by decide +kernel
theorem dX5_answered_71 : decode cX5_answered 71 = .ok (.aload_n 0, 1) := by decide +kernel
theorem dX5_answered_72 : decode cX5_answered 72 = .ok (.getfield 15, 3) := by decide +kernel
theorem dX5_answered_75 : decode cX5_answered 75 = .ok (.iconst 4, 1) := by decide +kernel
theorem dX5_answered_76 : decode cX5_answered 76 = .ok (.idiv, 1) := by decide +kernel
theorem dX5_answered_77 : decode cX5_answered 77 = .ok (.isub, 1) := by decide +kernel
theorem dX5_answered_78 : decode cX5_answered 78 = .ok (.putfield 15, 3) := by decide +kernel
theorem dX5_answered_81 : decode cX5_answered 81 = .ok (.aload_n 0, 1) := by decide +kernel
theorem dX5_answered_82 : decode cX5_answered 82 = .ok (.aload_n 0, 1) := by decide +kernel
theorem dX5_answered_83 : decode cX5_answered 83 = .ok (.getfield 9, 3) := by decide +kernel
theorem dX5_answered_86 : decode cX5_answered 86 = .ok (.iload 4, 2) := by decide +kernel
theorem dX5_answered_88 : decode cX5_answered 88 = .ok (.iadd, 1) := by decide +kernel
theorem dX5_answered_89 : decode cX5_answered 89 = .ok (.putfield 9, 3) := by decide +kernel
theorem dX5_answered_92 : decode cX5_answered 92 = .ok (.aload_n 0, 1) := by decide +kernel
theorem dX5_answered_93 : decode cX5_answered 93 = .ok (.bipush 60, 2) := by decide +kernel
theorem dX5_answered_95 : decode cX5_answered 95 = .ok (.iconst 3, 1) := by decide +kernel
theorem dX5_answered_96 : decode cX5_answered 96 = .ok (.aload_n 0, 1) := by decide +kernel
theorem dX5_answered_97 : decode cX5_answered 97 = .ok (.getfield 9, 3) := by decide +kernel
theorem dX5_answered_100 : decode cX5_answered 100 = .ok (.bipush 8, 2) := by decide +kernel
theorem dX5_answered_102 : decode cX5_answered 102 = .ok (.idiv, 1) := by decide +kernel
theorem dX5_answered_103 : decode cX5_answered 103 = .ok (.aload_n 0, 1) := by decide +kernel
theorem dX5_answered_104 : decode cX5_answered 104 = .ok (.getfield 15, 3) := by decide +kernel
theorem dX5_answered_107 : decode cX5_answered 107 = .ok (.iadd, 1) := by decide +kernel
theorem dX5_answered_108 : decode cX5_answered 108 = .ok (.invokestatic 33, 3) := by decide +kernel
theorem dX5_answered_111 : decode cX5_answered 111 = .ok (.invokestatic 37, 3) := by decide +kernel
theorem dX5_answered_114 : decode cX5_answered 114 = .ok (.putfield 18, 3) := by decide +kernel
theorem dX5_answered_117 : decode cX5_answered 117 = .ok (.aload_n 0, 1) := by decide +kernel
theorem dX5_answered_118 : decode cX5_answered 118 = .ok (.iconst (-1), 1) := by decide +kernel
theorem dX5_answered_119 : decode cX5_answered 119 = .ok (.putfield 21, 3) := by decide +kernel
theorem dX5_answered_122 : decode cX5_answered 122 = .ok (.return_, 1) := by decide +kernel
theorem dX5_backOff_0 : decode cX5_backOff 0 = .ok (.aload_n 0, 1) := by decide +kernel
theorem dX5_backOff_1 : decode cX5_backOff 1 = .ok (.bipush 60, 2) := by decide +kernel
theorem dX5_backOff_3 : decode cX5_backOff 3 = .ok (.iconst 2, 1) := by decide +kernel
theorem dX5_backOff_4 : decode cX5_backOff 4 = .ok (.aload_n 0, 1) := by decide +kernel
theorem dX5_backOff_5 : decode cX5_backOff 5 = .ok (.getfield 18, 3) := by decide +kernel
theorem dX5_backOff_8 : decode cX5_backOff 8 = .ok (.imul, 1) := by decide +kernel
theorem dX5_backOff_9 : decode cX5_backOff 9 = .ok (.invokestatic 37, 3) := by decide +kernel
theorem dX5_backOff_12 : decode cX5_backOff 12 = .ok (.putfield 18, 3) := by decide +kernel
theorem dX5_backOff_15 : decode cX5_backOff 15 = .ok (.aload_n 0, 1) := by decide +kernel
theorem dX5_backOff_16 : decode cX5_backOff 16 = .ok (.iconst (-1), 1) := by decide +kernel
theorem dX5_backOff_17 : decode cX5_backOff 17 = .ok (.putfield 21, 3) := by decide +kernel
theorem dX5_backOff_20 : decode cX5_backOff 20 = .ok (.return_, 1) := by decide +kernel
theorem dX5_copyFrom_0 : decode cX5_copyFrom 0 = .ok (.aload_n 0, 1) := by decide +kernel
theorem dX5_copyFrom_1 : decode cX5_copyFrom 1 = .ok (.aload_n 1, 1) := by decide +kernel
theorem dX5_copyFrom_2 : decode cX5_copyFrom 2 = .ok (.getfield 9, 3) := by decide +kernel
theorem dX5_copyFrom_5 : decode cX5_copyFrom 5 = .ok (.putfield 9, 3) := by decide +kernel
theorem dX5_copyFrom_8 : decode cX5_copyFrom 8 = .ok (.aload_n 0, 1) := by decide +kernel
theorem dX5_copyFrom_9 : decode cX5_copyFrom 9 = .ok (.aload_n 1, 1) := by decide +kernel
theorem dX5_copyFrom_10 : decode cX5_copyFrom 10 = .ok (.getfield 15, 3) := by decide +kernel
theorem dX5_copyFrom_13 : decode cX5_copyFrom 13 = .ok (.putfield 15, 3) := by decide +kernel
theorem dX5_copyFrom_16 : decode cX5_copyFrom 16 = .ok (.aload_n 0, 1) := by decide +kernel
theorem dX5_copyFrom_17 : decode cX5_copyFrom 17 = .ok (.aload_n 1, 1) := by decide +kernel
theorem dX5_copyFrom_18 : decode cX5_copyFrom 18 = .ok (.getfield 18, 3) := by decide +kernel
theorem dX5_copyFrom_21 : decode cX5_copyFrom 21 = .ok (.putfield 18, 3) := by decide +kernel
theorem dX5_copyFrom_24 : decode cX5_copyFrom 24 = .ok (.aload_n 0, 1) := by decide +kernel
theorem dX5_copyFrom_25 : decode cX5_copyFrom 25 = .ok (.aload_n 1, 1) := by decide +kernel
theorem dX5_copyFrom_26 : decode cX5_copyFrom 26 = .ok (.getfield 21, 3) := by decide +kernel
theorem dX5_copyFrom_29 : decode cX5_copyFrom 29 = .ok (.putfield 21, 3) := by decide +kernel
theorem dX5_copyFrom_32 : decode cX5_copyFrom 32 = .ok (.aload_n 0, 1) := by decide +kernel
theorem dX5_copyFrom_33 : decode cX5_copyFrom 33 = .ok (.aload_n 1, 1) := by decide +kernel
theorem dX5_copyFrom_34 : decode cX5_copyFrom 34 = .ok (.getfield 24, 3) := by decide +kernel
theorem dX5_copyFrom_37 : decode cX5_copyFrom 37 = .ok (.putfield 24, 3) := by decide +kernel
theorem dX5_copyFrom_40 : decode cX5_copyFrom 40 = .ok (.return_, 1) := by decide +kernel
theorem dX7_init_0 : decode cX7_init 0 = .ok (.aload_n 0, 1) := by decide +kernel
theorem dX7_init_1 : decode cX7_init 1 = .ok (.invokespecial 3, 3) := by decide +kernel
theorem dX7_init_4 : decode cX7_init 4 = .ok (.aload_n 0, 1) := by decide +kernel
theorem dX7_init_5 : decode cX7_init 5 = .ok (.bipush 20, 2) := by decide +kernel
theorem dX7_init_7 : decode cX7_init 7 = .ok (.newarray .int, 2) := by decide +kernel
theorem dX7_init_9 : decode cX7_init 9 = .ok (.putfield 9, 3) := by decide +kernel
theorem dX7_init_12 : decode cX7_init 12 = .ok (.aload_n 0, 1) := by decide +kernel
theorem dX7_init_13 : decode cX7_init 13 = .ok (.bipush 10, 2) := by decide +kernel
theorem dX7_init_15 : decode cX7_init 15 = .ok (.newarray .int, 2) := by decide +kernel
theorem dX7_init_17 : decode cX7_init 17 = .ok (.putfield 15, 3) := by decide +kernel
theorem dX7_init_20 : decode cX7_init 20 = .ok (.iconst 0, 1) := by decide +kernel
theorem dX7_init_21 : decode cX7_init 21 = .ok (.istore_n 1, 1) := by decide +kernel
theorem dX7_init_22 : decode cX7_init 22 = .ok (.iload_n 1, 1) := by decide +kernel
theorem dX7_init_23 : decode cX7_init 23 = .ok (.bipush 10, 2) := by decide +kernel
theorem dX7_init_25 : decode cX7_init 25 = .ok (.if_icmp .ge 16, 3) := by decide +kernel
theorem dX7_init_28 : decode cX7_init 28 = .ok (.aload_n 0, 1) := by decide +kernel
theorem dX7_init_29 : decode cX7_init 29 = .ok (.getfield 15, 3) := by decide +kernel
theorem dX7_init_32 : decode cX7_init 32 = .ok (.iload_n 1, 1) := by decide +kernel
theorem dX7_init_33 : decode cX7_init 33 = .ok (.iconst (-1), 1) := by decide +kernel
theorem dX7_init_34 : decode cX7_init 34 = .ok (.iastore, 1) := by decide +kernel
theorem dX7_init_35 : decode cX7_init 35 = .ok (.iinc 1 1, 3) := by decide +kernel
theorem dX7_init_38 : decode cX7_init 38 = .ok (.goto (-16), 3) := by decide +kernel
theorem dX7_init_41 : decode cX7_init 41 = .ok (.return_, 1) := by decide +kernel
theorem dX7_join_0 : decode cX7_join 0 = .ok (.aload_n 0, 1) := by decide +kernel
theorem dX7_join_1 : decode cX7_join 1 = .ok (.getfield 18, 3) := by decide +kernel
theorem dX7_join_4 : decode cX7_join 4 = .ok (.iload_n 2, 1) := by decide +kernel
theorem dX7_join_5 : decode cX7_join 5 = .ok (.if_icmp .ge 12, 3) := by decide +kernel
theorem dX7_join_8 : decode cX7_join 8 = .ok (.aload_n 0, 1) := by decide +kernel
theorem dX7_join_9 : decode cX7_join 9 = .ok (.getfield 18, 3) := by decide +kernel
theorem dX7_join_12 : decode cX7_join 12 = .ok (.bipush 20, 2) := by decide +kernel
theorem dX7_join_14 : decode cX7_join 14 = .ok (.if_icmp .lt 5, 3) := by decide +kernel
theorem dX7_join_17 : decode cX7_join 17 = .ok (.iconst 0, 1) := by decide +kernel
theorem dX7_join_18 : decode cX7_join 18 = .ok (.ireturn, 1) := by decide +kernel
theorem dX7_join_19 : decode cX7_join 19 = .ok (.aload_n 0, 1) := by decide +kernel
theorem dX7_join_20 : decode cX7_join 20 = .ok (.getfield 9, 3) := by decide +kernel
theorem dX7_join_23 : decode cX7_join 23 = .ok (.aload_n 0, 1) := by decide +kernel
theorem dX7_join_24 : decode cX7_join 24 = .ok (.getfield 22, 3) := by decide +kernel
theorem dX7_join_27 : decode cX7_join 27 = .ok (.aload_n 0, 1) := by decide +kernel
theorem dX7_join_28 : decode cX7_join 28 = .ok (.getfield 18, 3) := by decide +kernel
theorem dX7_join_31 : decode cX7_join 31 = .ok (.iadd, 1) := by decide +kernel
theorem dX7_join_32 : decode cX7_join 32 = .ok (.bipush 20, 2) := by decide +kernel
theorem dX7_join_34 : decode cX7_join 34 = .ok (.irem, 1) := by decide +kernel
theorem dX7_join_35 : decode cX7_join 35 = .ok (.iload_n 1, 1) := by decide +kernel
theorem dX7_join_36 : decode cX7_join 36 = .ok (.iastore, 1) := by decide +kernel
theorem dX7_join_37 : decode cX7_join 37 = .ok (.aload_n 0, 1) := by decide +kernel
theorem dX7_join_38 : decode cX7_join 38 = .ok (.dup, 1) := by decide +kernel
theorem dX7_join_39 : decode cX7_join 39 = .ok (.getfield 18, 3) := by decide +kernel
theorem dX7_join_42 : decode cX7_join 42 = .ok (.iconst 1, 1) := by decide +kernel
theorem dX7_join_43 : decode cX7_join 43 = .ok (.iadd, 1) := by decide +kernel
theorem dX7_join_44 : decode cX7_join 44 = .ok (.putfield 18, 3) := by decide +kernel
theorem dX7_join_47 : decode cX7_join 47 = .ok (.iconst 1, 1) := by decide +kernel
theorem dX7_join_48 : decode cX7_join 48 = .ok (.ireturn, 1) := by decide +kernel
set_option maxRecDepth 20000 in
theorem ggX7_takeOff_J9_floorMod_7cf53 : GoodIn wsX7_takeOff wsJ9_floorMod_7cf53 := goodIn_r _ [12] (by decide +kernel) (by decide +kernel)
set_option maxRecDepth 20000 in
theorem gX7_takeOff_J9_floorMod_7cf53 : GoodIn wsX7_takeOff (va_wsS RX7 28 yJ9_floorMod_7cf53 wsJ9_floorMod_7cf53) := goodIn_app (goodIn_of _ (by decide +kernel)) ggX7_takeOff_J9_floorMod_7cf53
theorem dX7_takeOff_0 : decode cX7_takeOff 0 = .ok (.aload_n 0, 1) := by decide +kernel
theorem dX7_takeOff_1 : decode cX7_takeOff 1 = .ok (.getfield 18, 3) := by decide +kernel
theorem dX7_takeOff_4 : decode cX7_takeOff 4 = .ok (.ifCond .ne 5, 3) := by decide +kernel
theorem dX7_takeOff_7 : decode cX7_takeOff 7 = .ok (.iconst 0, 1) := by decide +kernel
theorem dX7_takeOff_8 : decode cX7_takeOff 8 = .ok (.ireturn, 1) := by decide +kernel
theorem dX7_takeOff_9 : decode cX7_takeOff 9 = .ok (.aload_n 0, 1) := by decide +kernel
theorem dX7_takeOff_10 : decode cX7_takeOff 10 = .ok (.getfield 9, 3) := by decide +kernel
theorem dX7_takeOff_13 : decode cX7_takeOff 13 = .ok (.aload_n 0, 1) := by decide +kernel
theorem dX7_takeOff_14 : decode cX7_takeOff 14 = .ok (.getfield 22, 3) := by decide +kernel
theorem dX7_takeOff_17 : decode cX7_takeOff 17 = .ok (.iaload, 1) := by decide +kernel
theorem dX7_takeOff_18 : decode cX7_takeOff 18 = .ok (.istore_n 2, 1) := by decide +kernel
theorem dX7_takeOff_19 : decode cX7_takeOff 19 = .ok (.aload_n 0, 1) := by decide +kernel
theorem dX7_takeOff_20 : decode cX7_takeOff 20 = .ok (.aload_n 0, 1) := by decide +kernel
theorem dX7_takeOff_21 : decode cX7_takeOff 21 = .ok (.getfield 22, 3) := by decide +kernel
theorem dX7_takeOff_24 : decode cX7_takeOff 24 = .ok (.iconst 1, 1) := by decide +kernel
theorem dX7_takeOff_25 : decode cX7_takeOff 25 = .ok (.iadd, 1) := by decide +kernel
theorem dX7_takeOff_26 : decode cX7_takeOff 26 = .ok (.bipush 20, 2) := by decide +kernel
theorem dX7_takeOff_28 : decode cX7_takeOff 28 = .ok (.irem, 1) := by decide +kernel
theorem dX7_takeOff_29 : decode cX7_takeOff 29 = .ok (.putfield 22, 3) := by decide +kernel
theorem dX7_takeOff_32 : decode cX7_takeOff 32 = .ok (.aload_n 0, 1) := by decide +kernel
theorem dX7_takeOff_33 : decode cX7_takeOff 33 = .ok (.dup, 1) := by decide +kernel
theorem dX7_takeOff_34 : decode cX7_takeOff 34 = .ok (.getfield 18, 3) := by decide +kernel
theorem dX7_takeOff_37 : decode cX7_takeOff 37 = .ok (.iconst 1, 1) := by decide +kernel
theorem dX7_takeOff_38 : decode cX7_takeOff 38 = .ok (.isub, 1) := by decide +kernel
theorem dX7_takeOff_39 : decode cX7_takeOff 39 = .ok (.putfield 18, 3) := by decide +kernel
theorem dX7_takeOff_42 : decode cX7_takeOff 42 = .ok (.aload_n 0, 1) := by decide +kernel
theorem dX7_takeOff_43 : decode cX7_takeOff 43 = .ok (.getfield 25, 3) := by decide +kernel
theorem dX7_takeOff_46 : decode cX7_takeOff 46 = .ok (.ifCond .le 15, 3) := by decide +kernel
theorem dX7_takeOff_49 : decode cX7_takeOff 49 = .ok (.aload_n 0, 1) := by decide +kernel
theorem dX7_takeOff_50 : decode cX7_takeOff 50 = .ok (.dup, 1) := by decide +kernel
theorem dX7_takeOff_51 : decode cX7_takeOff 51 = .ok (.getfield 25, 3) := by decide +kernel
theorem dX7_takeOff_54 : decode cX7_takeOff 54 = .ok (.iconst 1, 1) := by decide +kernel
theorem dX7_takeOff_55 : decode cX7_takeOff 55 = .ok (.isub, 1) := by decide +kernel
theorem dX7_takeOff_56 : decode cX7_takeOff 56 = .ok (.putfield 25, 3) := by decide +kernel
theorem dX7_takeOff_59 : decode cX7_takeOff 59 = .ok (.iconst 1, 1) := by decide +kernel
theorem dX7_takeOff_60 : decode cX7_takeOff 60 = .ok (.ireturn, 1) := by decide +kernel
theorem dX7_takeOff_61 : decode cX7_takeOff 61 = .ok (.aload_n 0, 1) := by decide +kernel
theorem dX7_takeOff_62 : decode cX7_takeOff 62 = .ok (.getfield 15, 3) := by decide +kernel
theorem dX7_takeOff_65 : decode cX7_takeOff 65 = .ok (.iload_n 1, 1) := by decide +kernel
theorem dX7_takeOff_66 : decode cX7_takeOff 66 = .ok (.bipush 10, 2) := by decide +kernel
theorem dX7_takeOff_68 : decode cX7_takeOff 68 = .ok (.invokestatic 28, 3) := by decide +kernel
theorem dX7_takeOff_71 : decode cX7_takeOff 71 = .ok (.iload_n 2, 1) := by decide +kernel
theorem dX7_takeOff_72 : decode cX7_takeOff 72 = .ok (.ldc 36, 2) := by decide +kernel
theorem dX7_takeOff_74 : decode cX7_takeOff 74 = .ok (.iadd, 1) := by decide +kernel
theorem dX7_takeOff_75 : decode cX7_takeOff 75 = .ok (.iastore, 1) := by decide +kernel
theorem dX7_takeOff_76 : decode cX7_takeOff 76 = .ok (.aload_n 0, 1) := by decide +kernel
theorem dX7_takeOff_77 : decode cX7_takeOff 77 = .ok (.dup, 1) := by decide +kernel
theorem dX7_takeOff_78 : decode cX7_takeOff 78 = .ok (.getfield 37, 3) := by decide +kernel
theorem dX7_takeOff_81 : decode cX7_takeOff 81 = .ok (.iconst 1, 1) := by decide +kernel
theorem dX7_takeOff_82 : decode cX7_takeOff 82 = .ok (.iadd, 1) := by decide +kernel
theorem dX7_takeOff_83 : decode cX7_takeOff 83 = .ok (.putfield 37, 3) := by decide +kernel
theorem dX7_takeOff_86 : decode cX7_takeOff 86 = .ok (.aload_n 0, 1) := by decide +kernel
theorem dX7_takeOff_87 : decode cX7_takeOff 87 = .ok (.dup, 1) := by decide +kernel
theorem dX7_takeOff_88 : decode cX7_takeOff 88 = .ok (.getfield 40, 3) := by decide +kernel
theorem dX7_takeOff_91 : decode cX7_takeOff 91 = .ok (.iconst 1, 1) := by decide +kernel
theorem dX7_takeOff_92 : decode cX7_takeOff 92 = .ok (.iadd, 1) := by decide +kernel
theorem dX7_takeOff_93 : decode cX7_takeOff 93 = .ok (.putfield 40, 3) := by decide +kernel
theorem dX7_takeOff_96 : decode cX7_takeOff 96 = .ok (.iconst 0, 1) := by decide +kernel
theorem dX7_takeOff_97 : decode cX7_takeOff 97 = .ok (.ireturn, 1) := by decide +kernel
set_option maxRecDepth 20000 in
theorem ggX7_land_J9_floorMod_7cf53 : GoodIn wsX7_land wsJ9_floorMod_7cf53 := goodIn_r _ [6] (by decide +kernel) (by decide +kernel)
set_option maxRecDepth 20000 in
theorem gX7_land_J9_floorMod_7cf53 : GoodIn wsX7_land (va_wsS RX7 28 yJ9_floorMod_7cf53 wsJ9_floorMod_7cf53) := goodIn_app (goodIn_of _ (by decide +kernel)) ggX7_land_J9_floorMod_7cf53
theorem dX7_land_0 : decode cX7_land 0 = .ok (.iload_n 1, 1) := by decide +kernel
theorem dX7_land_1 : decode cX7_land 1 = .ok (.bipush 10, 2) := by decide +kernel
theorem dX7_land_3 : decode cX7_land 3 = .ok (.invokestatic 28, 3) := by decide +kernel
theorem dX7_land_6 : decode cX7_land 6 = .ok (.istore_n 2, 1) := by decide +kernel
theorem dX7_land_7 : decode cX7_land 7 = .ok (.aload_n 0, 1) := by decide +kernel
theorem dX7_land_8 : decode cX7_land 8 = .ok (.getfield 15, 3) := by decide +kernel
theorem dX7_land_11 : decode cX7_land 11 = .ok (.iload_n 2, 1) := by decide +kernel
theorem dX7_land_12 : decode cX7_land 12 = .ok (.iaload, 1) := by decide +kernel
theorem dX7_land_13 : decode cX7_land 13 = .ok (.istore_n 3, 1) := by decide +kernel
theorem dX7_land_14 : decode cX7_land 14 = .ok (.iload_n 3, 1) := by decide +kernel
theorem dX7_land_15 : decode cX7_land 15 = .ok (.iconst (-1), 1) := by decide +kernel
theorem dX7_land_16 : decode cX7_land 16 = .ok (.if_icmp .eq 20, 3) := by decide +kernel
theorem dX7_land_19 : decode cX7_land 19 = .ok (.aload_n 0, 1) := by decide +kernel
theorem dX7_land_20 : decode cX7_land 20 = .ok (.getfield 15, 3) := by decide +kernel
theorem dX7_land_23 : decode cX7_land 23 = .ok (.iload_n 2, 1) := by decide +kernel
theorem dX7_land_24 : decode cX7_land 24 = .ok (.iconst (-1), 1) := by decide +kernel
theorem dX7_land_25 : decode cX7_land 25 = .ok (.iastore, 1) := by decide +kernel
theorem dX7_land_26 : decode cX7_land 26 = .ok (.aload_n 0, 1) := by decide +kernel
theorem dX7_land_27 : decode cX7_land 27 = .ok (.dup, 1) := by decide +kernel
theorem dX7_land_28 : decode cX7_land 28 = .ok (.getfield 37, 3) := by decide +kernel
theorem dX7_land_31 : decode cX7_land 31 = .ok (.iconst 1, 1) := by decide +kernel
theorem dX7_land_32 : decode cX7_land 32 = .ok (.isub, 1) := by decide +kernel
theorem dX7_land_33 : decode cX7_land 33 = .ok (.putfield 37, 3) := by decide +kernel
theorem dX7_land_36 : decode cX7_land 36 = .ok (.iload_n 3, 1) := by decide +kernel
theorem dX7_land_37 : decode cX7_land 37 = .ok (.ireturn, 1) := by decide +kernel
theorem dX7_drop_0 : decode cX7_drop 0 = .ok (.aload_n 0, 1) := by decide +kernel
theorem dX7_drop_1 : decode cX7_drop 1 = .ok (.getfield 18, 3) := by decide +kernel
theorem dX7_drop_4 : decode cX7_drop 4 = .ok (.aload_n 0, 1) := by decide +kernel
theorem dX7_drop_5 : decode cX7_drop 5 = .ok (.getfield 37, 3) := by decide +kernel
theorem dX7_drop_8 : decode cX7_drop 8 = .ok (.iadd, 1) := by decide +kernel
theorem dX7_drop_9 : decode cX7_drop 9 = .ok (.istore_n 1, 1) := by decide +kernel
theorem dX7_drop_10 : decode cX7_drop 10 = .ok (.aload_n 0, 1) := by decide +kernel
theorem dX7_drop_11 : decode cX7_drop 11 = .ok (.iconst 0, 1) := by decide +kernel
theorem dX7_drop_12 : decode cX7_drop 12 = .ok (.putfield 18, 3) := by decide +kernel
theorem dX7_drop_15 : decode cX7_drop 15 = .ok (.aload_n 0, 1) := by decide +kernel
theorem dX7_drop_16 : decode cX7_drop 16 = .ok (.iconst 0, 1) := by decide +kernel
theorem dX7_drop_17 : decode cX7_drop 17 = .ok (.putfield 37, 3) := by decide +kernel
theorem dX7_drop_20 : decode cX7_drop 20 = .ok (.iconst 0, 1) := by decide +kernel
theorem dX7_drop_21 : decode cX7_drop 21 = .ok (.istore_n 2, 1) := by decide +kernel
theorem dX7_drop_22 : decode cX7_drop 22 = .ok (.iload_n 2, 1) := by decide +kernel
theorem dX7_drop_23 : decode cX7_drop 23 = .ok (.bipush 10, 2) := by decide +kernel
theorem dX7_drop_25 : decode cX7_drop 25 = .ok (.if_icmp .ge 16, 3) := by decide +kernel
theorem dX7_drop_28 : decode cX7_drop 28 = .ok (.aload_n 0, 1) := by decide +kernel
theorem dX7_drop_29 : decode cX7_drop 29 = .ok (.getfield 15, 3) := by decide +kernel
theorem dX7_drop_32 : decode cX7_drop 32 = .ok (.iload_n 2, 1) := by decide +kernel
theorem dX7_drop_33 : decode cX7_drop 33 = .ok (.iconst (-1), 1) := by decide +kernel
theorem dX7_drop_34 : decode cX7_drop 34 = .ok (.iastore, 1) := by decide +kernel
theorem dX7_drop_35 : decode cX7_drop 35 = .ok (.iinc 2 1, 3) := by decide +kernel
theorem dX7_drop_38 : decode cX7_drop 38 = .ok (.goto (-16), 3) := by decide +kernel
theorem dX7_drop_41 : decode cX7_drop 41 = .ok (.iload_n 1, 1) := by decide +kernel
theorem dX7_drop_42 : decode cX7_drop 42 = .ok (.ireturn, 1) := by decide +kernel
theorem dX7_copyFrom_0 : decode cX7_copyFrom 0 = .ok (.aload_n 1, 1) := by decide +kernel
theorem dX7_copyFrom_1 : decode cX7_copyFrom 1 = .ok (.getfield 9, 3) := by decide +kernel
theorem dX7_copyFrom_4 : decode cX7_copyFrom 4 = .ok (.iconst 0, 1) := by decide +kernel
theorem dX7_copyFrom_5 : decode cX7_copyFrom 5 = .ok (.aload_n 0, 1) := by decide +kernel
theorem dX7_copyFrom_6 : decode cX7_copyFrom 6 = .ok (.getfield 9, 3) := by decide +kernel
theorem dX7_copyFrom_9 : decode cX7_copyFrom 9 = .ok (.iconst 0, 1) := by decide +kernel
theorem dX7_copyFrom_10 : decode cX7_copyFrom 10 = .ok (.bipush 20, 2) := by decide +kernel
theorem dX7_copyFrom_12 : decode cX7_copyFrom 12 = .ok (.invokestatic 43, 3) := by decide +kernel
theorem dX7_copyFrom_15 : decode cX7_copyFrom 15 = .ok (.aload_n 0, 1) := by decide +kernel
theorem dX7_copyFrom_16 : decode cX7_copyFrom 16 = .ok (.aload_n 1, 1) := by decide +kernel
theorem dX7_copyFrom_17 : decode cX7_copyFrom 17 = .ok (.getfield 22, 3) := by decide +kernel
theorem dX7_copyFrom_20 : decode cX7_copyFrom 20 = .ok (.putfield 22, 3) := by decide +kernel
theorem dX7_copyFrom_23 : decode cX7_copyFrom 23 = .ok (.aload_n 0, 1) := by decide +kernel
theorem dX7_copyFrom_24 : decode cX7_copyFrom 24 = .ok (.aload_n 1, 1) := by decide +kernel
theorem dX7_copyFrom_25 : decode cX7_copyFrom 25 = .ok (.getfield 18, 3) := by decide +kernel
theorem dX7_copyFrom_28 : decode cX7_copyFrom 28 = .ok (.putfield 18, 3) := by decide +kernel
theorem dX7_copyFrom_31 : decode cX7_copyFrom 31 = .ok (.aload_n 1, 1) := by decide +kernel
theorem dX7_copyFrom_32 : decode cX7_copyFrom 32 = .ok (.getfield 15, 3) := by decide +kernel
theorem dX7_copyFrom_35 : decode cX7_copyFrom 35 = .ok (.iconst 0, 1) := by decide +kernel
theorem dX7_copyFrom_36 : decode cX7_copyFrom 36 = .ok (.aload_n 0, 1) := by decide +kernel
theorem dX7_copyFrom_37 : decode cX7_copyFrom 37 = .ok (.getfield 15, 3) := by decide +kernel
theorem dX7_copyFrom_40 : decode cX7_copyFrom 40 = .ok (.iconst 0, 1) := by decide +kernel
theorem dX7_copyFrom_41 : decode cX7_copyFrom 41 = .ok (.bipush 10, 2) := by decide +kernel
theorem dX7_copyFrom_43 : decode cX7_copyFrom 43 = .ok (.invokestatic 43, 3) := by decide +kernel
theorem dX7_copyFrom_46 : decode cX7_copyFrom 46 = .ok (.aload_n 0, 1) := by decide +kernel
theorem dX7_copyFrom_47 : decode cX7_copyFrom 47 = .ok (.aload_n 1, 1) := by decide +kernel
theorem dX7_copyFrom_48 : decode cX7_copyFrom 48 = .ok (.getfield 37, 3) := by decide +kernel
theorem dX7_copyFrom_51 : decode cX7_copyFrom 51 = .ok (.putfield 37, 3) := by decide +kernel
theorem dX7_copyFrom_54 : decode cX7_copyFrom 54 = .ok (.aload_n 0, 1) := by decide +kernel
theorem dX7_copyFrom_55 : decode cX7_copyFrom 55 = .ok (.aload_n 1, 1) := by decide +kernel
theorem dX7_copyFrom_56 : decode cX7_copyFrom 56 = .ok (.getfield 40, 3) := by decide +kernel
theorem dX7_copyFrom_59 : decode cX7_copyFrom 59 = .ok (.putfield 40, 3) := by decide +kernel
theorem dX7_copyFrom_62 : decode cX7_copyFrom 62 = .ok (.aload_n 0, 1) := by decide +kernel
theorem dX7_copyFrom_63 : decode cX7_copyFrom 63 = .ok (.aload_n 1, 1) := by decide +kernel
theorem dX7_copyFrom_64 : decode cX7_copyFrom 64 = .ok (.getfield 25, 3) := by decide +kernel
theorem dX7_copyFrom_67 : decode cX7_copyFrom 67 = .ok (.putfield 25, 3) := by decide +kernel
theorem dX7_copyFrom_70 : decode cX7_copyFrom 70 = .ok (.return_, 1) := by decide +kernel
theorem dJ9_floorMod_7cf53_0 : decode cJ9_floorMod_7cf53 0 = .ok (.iload_n 0, 1) := by decide +kernel
theorem dJ9_floorMod_7cf53_1 : decode cJ9_floorMod_7cf53 1 = .ok (.iload_n 1, 1) := by decide +kernel
theorem dJ9_floorMod_7cf53_2 : decode cJ9_floorMod_7cf53 2 = .ok (.irem, 1) := by decide +kernel
theorem dJ9_floorMod_7cf53_3 : decode cJ9_floorMod_7cf53 3 = .ok (.istore_n 2, 1) := by decide +kernel
theorem dJ9_floorMod_7cf53_4 : decode cJ9_floorMod_7cf53 4 = .ok (.iload_n 0, 1) := by decide +kernel
theorem dJ9_floorMod_7cf53_5 : decode cJ9_floorMod_7cf53 5 = .ok (.iload_n 1, 1) := by decide +kernel
theorem dJ9_floorMod_7cf53_6 : decode cJ9_floorMod_7cf53 6 = .ok (.ixor, 1) := by decide +kernel
theorem dJ9_floorMod_7cf53_7 : decode cJ9_floorMod_7cf53 7 = .ok (.ifCond .ge 11, 3) := by decide +kernel
theorem dJ9_floorMod_7cf53_10 : decode cJ9_floorMod_7cf53 10 = .ok (.iload_n 2, 1) := by decide +kernel
theorem dJ9_floorMod_7cf53_11 : decode cJ9_floorMod_7cf53 11 = .ok (.ifCond .eq 7, 3) := by decide +kernel
theorem dJ9_floorMod_7cf53_14 : decode cJ9_floorMod_7cf53 14 = .ok (.iload_n 2, 1) := by decide +kernel
theorem dJ9_floorMod_7cf53_15 : decode cJ9_floorMod_7cf53 15 = .ok (.iload_n 1, 1) := by decide +kernel
theorem dJ9_floorMod_7cf53_16 : decode cJ9_floorMod_7cf53 16 = .ok (.iadd, 1) := by decide +kernel
theorem dJ9_floorMod_7cf53_17 : decode cJ9_floorMod_7cf53 17 = .ok (.ireturn, 1) := by decide +kernel
theorem dJ9_floorMod_7cf53_18 : decode cJ9_floorMod_7cf53 18 = .ok (.iload_n 2, 1) := by decide +kernel
theorem dJ9_floorMod_7cf53_19 : decode cJ9_floorMod_7cf53 19 = .ok (.ireturn, 1) := by decide +kernel
theorem dJ9_abs_0f7a4_0 : decode cJ9_abs_0f7a4 0 = .ok (.iload_n 0, 1) := by decide +kernel
theorem dJ9_abs_0f7a4_1 : decode cJ9_abs_0f7a4 1 = .ok (.ifCond .ge 8, 3) := by decide +kernel
theorem dJ9_abs_0f7a4_4 : decode cJ9_abs_0f7a4 4 = .ok (.iload_n 0, 1) := by decide +kernel
theorem dJ9_abs_0f7a4_5 : decode cJ9_abs_0f7a4 5 = .ok (.ineg, 1) := by decide +kernel
theorem dJ9_abs_0f7a4_6 : decode cJ9_abs_0f7a4 6 = .ok (.goto 4, 3) := by decide +kernel
theorem dJ9_abs_0f7a4_9 : decode cJ9_abs_0f7a4 9 = .ok (.iload_n 0, 1) := by decide +kernel
theorem dJ9_abs_0f7a4_10 : decode cJ9_abs_0f7a4 10 = .ok (.ireturn, 1) := by decide +kernel
theorem dJ9_max_7cf53_0 : decode cJ9_max_7cf53 0 = .ok (.iload_n 0, 1) := by decide +kernel
theorem dJ9_max_7cf53_1 : decode cJ9_max_7cf53 1 = .ok (.iload_n 1, 1) := by decide +kernel
theorem dJ9_max_7cf53_2 : decode cJ9_max_7cf53 2 = .ok (.if_icmp .lt 7, 3) := by decide +kernel
theorem dJ9_max_7cf53_5 : decode cJ9_max_7cf53 5 = .ok (.iload_n 0, 1) := by decide +kernel
theorem dJ9_max_7cf53_6 : decode cJ9_max_7cf53 6 = .ok (.goto 4, 3) := by decide +kernel
theorem dJ9_max_7cf53_9 : decode cJ9_max_7cf53 9 = .ok (.iload_n 1, 1) := by decide +kernel
theorem dJ9_max_7cf53_10 : decode cJ9_max_7cf53 10 = .ok (.ireturn, 1) := by decide +kernel
theorem dJ9_min_7cf53_0 : decode cJ9_min_7cf53 0 = .ok (.iload_n 0, 1) := by decide +kernel
theorem dJ9_min_7cf53_1 : decode cJ9_min_7cf53 1 = .ok (.iload_n 1, 1) := by decide +kernel
theorem dJ9_min_7cf53_2 : decode cJ9_min_7cf53 2 = .ok (.if_icmp .gt 7, 3) := by decide +kernel
theorem dJ9_min_7cf53_5 : decode cJ9_min_7cf53 5 = .ok (.iload_n 0, 1) := by decide +kernel
theorem dJ9_min_7cf53_6 : decode cJ9_min_7cf53 6 = .ok (.goto 4, 3) := by decide +kernel
theorem dJ9_min_7cf53_9 : decode cJ9_min_7cf53 9 = .ok (.iload_n 1, 1) := by decide +kernel
theorem dJ9_min_7cf53_10 : decode cJ9_min_7cf53 10 = .ok (.ireturn, 1) := by decide +kernel
