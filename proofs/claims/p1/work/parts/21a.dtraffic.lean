set_option maxRecDepth 20000 in
theorem ggX6_tick_X6_letArrive : GoodIn wsX6_tick wsX6_letArrive := goodIn_r _ [6, 7, 8, 9, 1, 10, 11, 12, 13, 14, 15, 16, 17, 18, 19, 20, 21, 22, 23, 24, 25, 5, 26, 27, 28, 29, 30, 31, 32, 33, 34, 35, 36, 37, 38, 39, 40, 41, 42, 43, 44, 45, 46, 47, 48, 49, 50, 51, 52, 53, 54, 55, 56, 57, 58, 59, 60, 61, 62, 63, 64, 65, 66, 67, 68, 69, 70, 71, 72, 73, 74, 75, 76, 77, 78, 79, 80, 81, 82, 83, 84, 85, 86, 87, 88, 89, 90, 91, 92, 93, 94, 95, 96, 97, 98, 99, 100, 101, 102, 103, 104, 105, 106, 107, 108, 109, 110, 111, 112, 113, 114, 115, 116, 117, 118, 119, 120, 121, 122, 123, 124, 125, 126, 127, 128, 129, 130, 131, 132, 133, 134, 135, 136, 137, 138, 139, 140, 141, 142, 143, 144, 145, 146, 147, 148, 149, 150, 151, 152, 153, 154, 155, 156, 157, 158, 159, 160, 161, 162, 163, 164, 165, 166, 167, 168, 222, 223, 224, 225, 226, 227, 228, 229, 230, 231, 232, 233, 234, 235, 236, 237, 238, 239, 240, 241, 242, 243, 244, 245, 246, 247, 248, 249, 250, 251, 252, 253, 254, 255, 256, 257, 258, 259, 260, 261, 262, 263, 264, 265, 266, 267, 268, 269, 270] (by decide +kernel) (by decide +kernel)
set_option maxRecDepth 20000 in
theorem gX6_tick_X6_letArrive : GoodIn wsX6_tick (wsV RX6 72 RX6 yX6_letArrive wsX6_letArrive) := goodIn_app (goodIn_of _ (by decide +kernel)) ggX6_tick_X6_letArrive
set_option maxRecDepth 20000 in
theorem ggX6_tick_X6_letTimersRunOut : GoodIn wsX6_tick wsX6_letTimersRunOut := goodIn_r _ [172, 27, 28, 31, 173, 1, 174, 175, 176, 177, 80, 178, 84, 83, 82, 92, 121, 93, 95, 179, 180, 181, 100, 182, 116, 113, 114, 108, 115, 102, 129, 130, 131, 132, 86, 94, 85, 123, 111, 112, 122, 183, 184, 185, 5, 186, 29, 30, 147, 148, 36, 149, 41, 42, 43, 44, 7, 32, 11, 9, 45, 46, 47, 48, 49, 50, 51, 52, 53, 54, 55, 56, 57, 58, 59, 60, 61, 62, 63, 64, 65, 66, 15, 67, 68, 69, 70, 133, 134, 135, 136, 137, 138, 139, 140, 141, 142, 143, 144, 145, 146, 222, 223, 224, 225, 226, 227, 244, 245, 246, 247, 248, 249, 250, 251, 252, 253, 254, 255, 256, 257, 258, 259, 260, 261, 262, 263, 264, 265, 266, 228, 229, 230, 231, 232, 233, 234, 235, 236, 237, 238, 239, 240, 241, 242, 243] (by decide +kernel) (by decide +kernel)
set_option maxRecDepth 20000 in
theorem gX6_tick_X6_letTimersRunOut : GoodIn wsX6_tick (wsV RX6 75 RX6 yX6_letTimersRunOut wsX6_letTimersRunOut) := goodIn_app (goodIn_of _ (by decide +kernel)) ggX6_tick_X6_letTimersRunOut
set_option maxRecDepth 20000 in
theorem ggX6_tick_X6_letCallersSend : GoodIn wsX6_tick wsX6_letCallersSend := goodIn_r _ [190, 27, 28, 31, 191, 1, 192, 193, 194, 80, 195, 86, 85, 82, 121, 96, 87, 196, 197, 198, 199, 200, 142, 143, 144, 5, 145, 146, 29, 30, 147, 148, 36, 149, 41, 42, 43, 44, 7, 32, 11, 9, 45, 46, 47, 48, 49, 50, 51, 52, 53, 54, 55, 56, 57, 58, 59, 60, 61, 62, 63, 64, 65, 66, 15, 67, 68, 69, 70, 201, 202, 203, 204, 92, 84, 95, 205, 206, 207, 100, 208, 102, 103, 222, 223, 224, 225, 226, 227, 244, 245, 246, 247, 248, 249, 250, 251, 252, 253, 254, 255, 256, 257, 258, 259, 260, 261, 228, 229, 230, 231, 232, 233, 234, 235, 236, 237, 238, 239, 240, 241, 242, 243, 262, 263, 264, 265, 266] (by decide +kernel) (by decide +kernel)
set_option maxRecDepth 20000 in
theorem gX6_tick_X6_letCallersSend : GoodIn wsX6_tick (wsV RX6 78 RX6 yX6_letCallersSend wsX6_letCallersSend) := goodIn_app (goodIn_of _ (by decide +kernel)) ggX6_tick_X6_letCallersSend
set_option maxRecDepth 20000 in
theorem ggX6_tick_X6_letTakeOff : GoodIn wsX6_tick wsX6_letTakeOff := goodIn_r _ [212, 7, 8, 213, 1, 214, 32, 9, 215, 216, 217, 15, 218, 68, 69, 70, 219, 17, 220, 18, 221, 19, 20, 21, 22, 222, 223, 224, 225, 226, 227, 228, 229, 230, 231, 232, 233, 234, 235, 236, 237, 238, 239, 240, 241, 242, 243] (by decide +kernel) (by decide +kernel)
set_option maxRecDepth 20000 in
theorem gX6_tick_X6_letTakeOff : GoodIn wsX6_tick (wsV RX6 81 RX6 yX6_letTakeOff wsX6_letTakeOff) := goodIn_app (goodIn_of _ (by decide +kernel)) ggX6_tick_X6_letTakeOff
theorem dX6_tick_0 : decode cX6_tick 0 = .ok (.aload_n 0, 1) := by decide +kernel
theorem dX6_tick_1 : decode cX6_tick 1 = .ok (.dup, 1) := by decide +kernel
theorem dX6_tick_2 : decode cX6_tick 2 = .ok (.getfield 52, 3) := by decide +kernel
theorem dX6_tick_5 : decode cX6_tick 5 = .ok (.iconst 1, 1) := by decide +kernel
theorem dX6_tick_6 : decode cX6_tick 6 = .ok (.iadd, 1) := by decide +kernel
theorem dX6_tick_7 : decode cX6_tick 7 = .ok (.putfield 52, 3) := by decide +kernel
theorem dX6_tick_10 : decode cX6_tick 10 = .ok (.aload_n 0, 1) := by decide +kernel
theorem dX6_tick_11 : decode cX6_tick 11 = .ok (.invokevirtual 72, 3) := by decide +kernel
theorem dX6_tick_14 : decode cX6_tick 14 = .ok (.aload_n 0, 1) := by decide +kernel
theorem dX6_tick_15 : decode cX6_tick 15 = .ok (.invokevirtual 75, 3) := by decide +kernel
theorem dX6_tick_18 : decode cX6_tick 18 = .ok (.aload_n 0, 1) := by decide +kernel
theorem dX6_tick_19 : decode cX6_tick 19 = .ok (.invokevirtual 78, 3) := by decide +kernel
theorem dX6_tick_22 : decode cX6_tick 22 = .ok (.aload_n 0, 1) := by decide +kernel
theorem dX6_tick_23 : decode cX6_tick 23 = .ok (.invokevirtual 81, 3) := by decide +kernel
theorem dX6_tick_26 : decode cX6_tick 26 = .ok (.return_, 1) := by decide +kernel
theorem dX6_letArrive_0 : decode cX6_letArrive 0 = .ok (.iconst 0, 1) := by decide +kernel
theorem dX6_letArrive_1 : decode cX6_letArrive 1 = .ok (.istore_n 1, 1) := by decide +kernel
theorem dX6_letArrive_2 : decode cX6_letArrive 2 = .ok (.iload_n 1, 1) := by decide +kernel
theorem dX6_letArrive_3 : decode cX6_letArrive 3 = .ok (.aload_n 0, 1) := by decide +kernel
theorem dX6_letArrive_4 : decode cX6_letArrive 4 = .ok (.getfield 23, 3) := by decide +kernel
theorem dX6_letArrive_7 : decode cX6_letArrive 7 = .ok (.getfield 84, 3) := by decide +kernel
theorem dX6_letArrive_10 : decode cX6_letArrive 10 = .ok (.if_icmp .ge 75, 3) := by decide +kernel
theorem dX6_letArrive_13 : decode cX6_letArrive 13 = .ok (.iconst 0, 1) := by decide +kernel
theorem dX6_letArrive_14 : decode cX6_letArrive 14 = .ok (.istore_n 2, 1) := by decide +kernel
theorem dX6_letArrive_15 : decode cX6_letArrive 15 = .ok (.iload_n 2, 1) := by decide +kernel
theorem dX6_letArrive_16 : decode cX6_letArrive 16 = .ok (.iconst 2, 1) := by decide +kernel
theorem dX6_letArrive_17 : decode cX6_letArrive 17 = .ok (.if_icmp .ge 62, 3) := by decide +kernel
theorem dX6_letArrive_20 : decode cX6_letArrive 20 = .ok (.aload_n 0, 1) := by decide +kernel
theorem dX6_letArrive_21 : decode cX6_letArrive 21 = .ok (.getfield 11, 3) := by decide +kernel
theorem dX6_letArrive_24 : decode cX6_letArrive 24 = .ok (.iconst 2, 1) := by decide +kernel
theorem dX6_letArrive_25 : decode cX6_letArrive 25 = .ok (.iload_n 1, 1) := by decide +kernel
theorem dX6_letArrive_26 : decode cX6_letArrive 26 = .ok (.imul, 1) := by decide +kernel
theorem dX6_letArrive_27 : decode cX6_letArrive 27 = .ok (.iload_n 2, 1) := by decide +kernel
theorem dX6_letArrive_28 : decode cX6_letArrive 28 = .ok (.iadd, 1) := by decide +kernel
theorem dX6_letArrive_29 : decode cX6_letArrive 29 = .ok (.aaload, 1) := by decide +kernel
theorem dX6_letArrive_30 : decode cX6_letArrive 30 = .ok (.aload_n 0, 1) := by decide +kernel
theorem dX6_letArrive_31 : decode cX6_letArrive 31 = .ok (.getfield 52, 3) := by decide +kernel
theorem dX6_letArrive_79 : decode cX6_letArrive 79 = .ok (.iinc 1 1, 3) := by decide +kernel
theorem dX6_letArrive_82 : decode cX6_letArrive 82 = .ok (.goto (-80), 3) := by decide +kernel
theorem dX6_letArrive_85 : decode cX6_letArrive 85 = .ok (.return_, 1) := by decide +kernel
theorem dX6_letTimersRunOut_0 : decode cX6_letTimersRunOut 0 = .ok (.iconst 0, 1) := by decide +kernel
theorem dX6_letTimersRunOut_1 : decode cX6_letTimersRunOut 1 = .ok (.istore_n 1, 1) := by decide +kernel
theorem dX6_letTimersRunOut_2 : decode cX6_letTimersRunOut 2 = .ok (.iload_n 1, 1) := by decide +kernel
theorem dX6_letTimersRunOut_3 : decode cX6_letTimersRunOut 3 = .ok (.aload_n 0, 1) := by decide +kernel
theorem dX6_letTimersRunOut_4 : decode cX6_letTimersRunOut 4 = .ok (.getfield 29, 3) := by decide +kernel
theorem dX6_letTimersRunOut_7 : decode cX6_letTimersRunOut 7 = .ok (.if_icmp .ge 65, 3) := by decide +kernel
theorem dX6_letTimersRunOut_10 : decode cX6_letTimersRunOut 10 = .ok (.aload_n 0, 1) := by decide +kernel
theorem dX6_letTimersRunOut_11 : decode cX6_letTimersRunOut 11 = .ok (.getfield 19, 3) := by decide +kernel
theorem dX6_letTimersRunOut_14 : decode cX6_letTimersRunOut 14 = .ok (.iload_n 1, 1) := by decide +kernel
theorem dX6_letTimersRunOut_15 : decode cX6_letTimersRunOut 15 = .ok (.aaload, 1) := by decide +kernel
theorem dX6_letTimersRunOut_16 : decode cX6_letTimersRunOut 16 = .ok (.getfield 48, 3) := by decide +kernel
theorem dX6_letTimersRunOut_19 : decode cX6_letTimersRunOut 19 = .ok (.astore_n 2, 1) := by decide +kernel
theorem dX6_letTimersRunOut_20 : decode cX6_letTimersRunOut 20 = .ok (.aload_n 2, 1) := by decide +kernel
theorem dX6_letTimersRunOut_21 : decode cX6_letTimersRunOut 21 = .ok (.getfield 138, 3) := by decide +kernel
theorem dX6_letTimersRunOut_24 : decode cX6_letTimersRunOut 24 = .ok (.aload_n 0, 1) := by decide +kernel
theorem dX6_letTimersRunOut_25 : decode cX6_letTimersRunOut 25 = .ok (.getfield 52, 3) := by decide +kernel
theorem dX6_letTimersRunOut_28 : decode cX6_letTimersRunOut 28 = .ok (.if_icmp .ne 38, 3) := by decide +kernel
theorem dX6_letTimersRunOut_31 : decode cX6_letTimersRunOut 31 = .ok (.aload_n 2, 1) := by decide +kernel
theorem dX6_letTimersRunOut_32 : decode cX6_letTimersRunOut 32 = .ok (.aload_n 0, 1) := by decide +kernel
theorem dX6_letTimersRunOut_33 : decode cX6_letTimersRunOut 33 = .ok (.getfield 52, 3) := by decide +kernel
theorem dX6_letTimersRunOut_66 : decode cX6_letTimersRunOut 66 = .ok (.iinc 1 1, 3) := by decide +kernel
theorem dX6_letTimersRunOut_69 : decode cX6_letTimersRunOut 69 = .ok (.goto (-67), 3) := by decide +kernel
theorem dX6_letTimersRunOut_72 : decode cX6_letTimersRunOut 72 = .ok (.return_, 1) := by decide +kernel
theorem dX6_letCallersSend_0 : decode cX6_letCallersSend 0 = .ok (.iconst 0, 1) := by decide +kernel
theorem dX6_letCallersSend_1 : decode cX6_letCallersSend 1 = .ok (.istore_n 1, 1) := by decide +kernel
theorem dX6_letCallersSend_2 : decode cX6_letCallersSend 2 = .ok (.iload_n 1, 1) := by decide +kernel
theorem dX6_letCallersSend_3 : decode cX6_letCallersSend 3 = .ok (.aload_n 0, 1) := by decide +kernel
theorem dX6_letCallersSend_4 : decode cX6_letCallersSend 4 = .ok (.getfield 29, 3) := by decide +kernel
theorem dX6_letCallersSend_7 : decode cX6_letCallersSend 7 = .ok (.if_icmp .ge 58, 3) := by decide +kernel
theorem dX6_letCallersSend_10 : decode cX6_letCallersSend 10 = .ok (.aload_n 0, 1) := by decide +kernel
theorem dX6_letCallersSend_11 : decode cX6_letCallersSend 11 = .ok (.getfield 19, 3) := by decide +kernel
theorem dX6_letCallersSend_14 : decode cX6_letCallersSend 14 = .ok (.iload_n 1, 1) := by decide +kernel
theorem dX6_letCallersSend_15 : decode cX6_letCallersSend 15 = .ok (.aaload, 1) := by decide +kernel
theorem dX6_letCallersSend_16 : decode cX6_letCallersSend 16 = .ok (.getfield 48, 3) := by decide +kernel
theorem dX6_letCallersSend_19 : decode cX6_letCallersSend 19 = .ok (.astore_n 2, 1) := by decide +kernel
theorem dX6_letCallersSend_20 : decode cX6_letCallersSend 20 = .ok (.iconst 0, 1) := by decide +kernel
theorem dX6_letCallersSend_21 : decode cX6_letCallersSend 21 = .ok (.istore_n 3, 1) := by decide +kernel
theorem dX6_letCallersSend_22 : decode cX6_letCallersSend 22 = .ok (.iload_n 3, 1) := by decide +kernel
theorem dX6_letCallersSend_23 : decode cX6_letCallersSend 23 = .ok (.sipush 201, 3) := by decide +kernel
theorem dX6_letCallersSend_26 : decode cX6_letCallersSend 26 = .ok (.if_icmp .ge 33, 3) := by decide +kernel
theorem dX6_letCallersSend_29 : decode cX6_letCallersSend 29 = .ok (.aload_n 2, 1) := by decide +kernel
theorem dX6_letCallersSend_59 : decode cX6_letCallersSend 59 = .ok (.iinc 1 1, 3) := by decide +kernel
theorem dX6_letCallersSend_62 : decode cX6_letCallersSend 62 = .ok (.goto (-60), 3) := by decide +kernel
theorem dX6_letCallersSend_65 : decode cX6_letCallersSend 65 = .ok (.return_, 1) := by decide +kernel
theorem dX6_letTakeOff_0 : decode cX6_letTakeOff 0 = .ok (.iconst 0, 1) := by decide +kernel
theorem dX6_letTakeOff_1 : decode cX6_letTakeOff 1 = .ok (.istore_n 1, 1) := by decide +kernel
theorem dX6_letTakeOff_2 : decode cX6_letTakeOff 2 = .ok (.iload_n 1, 1) := by decide +kernel
theorem dX6_letTakeOff_3 : decode cX6_letTakeOff 3 = .ok (.aload_n 0, 1) := by decide +kernel
theorem dX6_letTakeOff_4 : decode cX6_letTakeOff 4 = .ok (.getfield 23, 3) := by decide +kernel
theorem dX6_letTakeOff_7 : decode cX6_letTakeOff 7 = .ok (.getfield 84, 3) := by decide +kernel
theorem dX6_letTakeOff_10 : decode cX6_letTakeOff 10 = .ok (.if_icmp .ge 96, 3) := by decide +kernel
theorem dX6_letTakeOff_13 : decode cX6_letTakeOff 13 = .ok (.aload_n 0, 1) := by decide +kernel
theorem dX6_letTakeOff_14 : decode cX6_letTakeOff 14 = .ok (.getfield 23, 3) := by decide +kernel
theorem dX6_letTakeOff_17 : decode cX6_letTakeOff 17 = .ok (.getfield 158, 3) := by decide +kernel
theorem dX6_letTakeOff_20 : decode cX6_letTakeOff 20 = .ok (.iload_n 1, 1) := by decide +kernel
theorem dX6_letTakeOff_21 : decode cX6_letTakeOff 21 = .ok (.baload, 1) := by decide +kernel
theorem dX6_letTakeOff_22 : decode cX6_letTakeOff 22 = .ok (.ifCond .eq 78, 3) := by decide +kernel
theorem dX6_letTakeOff_25 : decode cX6_letTakeOff 25 = .ok (.aload_n 0, 1) := by decide +kernel
theorem dX6_letTakeOff_26 : decode cX6_letTakeOff 26 = .ok (.getfield 52, 3) := by decide +kernel
theorem dX6_letTakeOff_29 : decode cX6_letTakeOff 29 = .ok (.aload_n 0, 1) := by decide +kernel
theorem dX6_letTakeOff_30 : decode cX6_letTakeOff 30 = .ok (.getfield 23, 3) := by decide +kernel
theorem dX6_letTakeOff_33 : decode cX6_letTakeOff 33 = .ok (.getfield 162, 3) := by decide +kernel
theorem dX6_letTakeOff_36 : decode cX6_letTakeOff 36 = .ok (.iload_n 1, 1) := by decide +kernel
theorem dX6_letTakeOff_37 : decode cX6_letTakeOff 37 = .ok (.iaload, 1) := by decide +kernel
theorem dX6_letTakeOff_38 : decode cX6_letTakeOff 38 = .ok (.iadd, 1) := by decide +kernel
theorem dX6_letTakeOff_39 : decode cX6_letTakeOff 39 = .ok (.istore_n 2, 1) := by decide +kernel
theorem dX6_letTakeOff_40 : decode cX6_letTakeOff 40 = .ok (.aload_n 0, 1) := by decide +kernel
theorem dX6_letTakeOff_41 : decode cX6_letTakeOff 41 = .ok (.dup, 1) := by decide +kernel
theorem dX6_letTakeOff_42 : decode cX6_letTakeOff 42 = .ok (.getfield 69, 3) := by decide +kernel
theorem dX6_letTakeOff_45 : decode cX6_letTakeOff 45 = .ok (.aload_n 0, 1) := by decide +kernel
theorem dX6_letTakeOff_46 : decode cX6_letTakeOff 46 = .ok (.getfield 11, 3) := by decide +kernel
theorem dX6_letTakeOff_49 : decode cX6_letTakeOff 49 = .ok (.iconst 2, 1) := by decide +kernel
theorem dX6_letTakeOff_50 : decode cX6_letTakeOff 50 = .ok (.iload_n 1, 1) := by decide +kernel
theorem dX6_letTakeOff_51 : decode cX6_letTakeOff 51 = .ok (.imul, 1) := by decide +kernel
theorem dX6_letTakeOff_52 : decode cX6_letTakeOff 52 = .ok (.aaload, 1) := by decide +kernel
theorem dX6_letTakeOff_53 : decode cX6_letTakeOff 53 = .ok (.iload_n 2, 1) := by decide +kernel
theorem dX6_letTakeOff_100 : decode cX6_letTakeOff 100 = .ok (.iinc 1 1, 3) := by decide +kernel
theorem dX6_letTakeOff_103 : decode cX6_letTakeOff 103 = .ok (.goto (-101), 3) := by decide +kernel
theorem dX6_letTakeOff_106 : decode cX6_letTakeOff 106 = .ok (.return_, 1) := by decide +kernel
theorem dX6_copyFrom_0 : decode cX6_copyFrom 0 = .ok (.iconst 0, 1) := by decide +kernel
theorem dX6_copyFrom_1 : decode cX6_copyFrom 1 = .ok (.istore_n 2, 1) := by decide +kernel
theorem dX6_copyFrom_2 : decode cX6_copyFrom 2 = .ok (.iload_n 2, 1) := by decide +kernel
theorem dX6_copyFrom_3 : decode cX6_copyFrom 3 = .ok (.iconst 2, 1) := by decide +kernel
theorem dX6_copyFrom_4 : decode cX6_copyFrom 4 = .ok (.aload_n 0, 1) := by decide +kernel
theorem dX6_copyFrom_5 : decode cX6_copyFrom 5 = .ok (.getfield 23, 3) := by decide +kernel
theorem dX6_copyFrom_8 : decode cX6_copyFrom 8 = .ok (.getfield 84, 3) := by decide +kernel
theorem dX6_copyFrom_11 : decode cX6_copyFrom 11 = .ok (.imul, 1) := by decide +kernel
theorem dX6_copyFrom_12 : decode cX6_copyFrom 12 = .ok (.if_icmp .ge 24, 3) := by decide +kernel
theorem dX6_copyFrom_15 : decode cX6_copyFrom 15 = .ok (.aload_n 0, 1) := by decide +kernel
theorem dX6_copyFrom_16 : decode cX6_copyFrom 16 = .ok (.getfield 11, 3) := by decide +kernel
theorem dX6_copyFrom_19 : decode cX6_copyFrom 19 = .ok (.iload_n 2, 1) := by decide +kernel
theorem dX6_copyFrom_20 : decode cX6_copyFrom 20 = .ok (.aaload, 1) := by decide +kernel
theorem dX6_copyFrom_21 : decode cX6_copyFrom 21 = .ok (.aload_n 1, 1) := by decide +kernel
theorem dX6_copyFrom_22 : decode cX6_copyFrom 22 = .ok (.getfield 11, 3) := by decide +kernel
theorem dX6_copyFrom_25 : decode cX6_copyFrom 25 = .ok (.iload_n 2, 1) := by decide +kernel
theorem dX6_copyFrom_26 : decode cX6_copyFrom 26 = .ok (.aaload, 1) := by decide +kernel
theorem dX6_copyFrom_36 : decode cX6_copyFrom 36 = .ok (.iconst 0, 1) := by decide +kernel
theorem dX6_copyFrom_37 : decode cX6_copyFrom 37 = .ok (.istore_n 2, 1) := by decide +kernel
theorem dX6_copyFrom_38 : decode cX6_copyFrom 38 = .ok (.iload_n 2, 1) := by decide +kernel
theorem dX6_copyFrom_39 : decode cX6_copyFrom 39 = .ok (.aload_n 1, 1) := by decide +kernel
theorem dX6_copyFrom_40 : decode cX6_copyFrom 40 = .ok (.getfield 29, 3) := by decide +kernel
theorem dX6_copyFrom_43 : decode cX6_copyFrom 43 = .ok (.if_icmp .ge 24, 3) := by decide +kernel
theorem dX6_copyFrom_46 : decode cX6_copyFrom 46 = .ok (.aload_n 0, 1) := by decide +kernel
theorem dX6_copyFrom_47 : decode cX6_copyFrom 47 = .ok (.getfield 19, 3) := by decide +kernel
theorem dX6_copyFrom_50 : decode cX6_copyFrom 50 = .ok (.iload_n 2, 1) := by decide +kernel
theorem dX6_copyFrom_51 : decode cX6_copyFrom 51 = .ok (.aaload, 1) := by decide +kernel
theorem dX6_copyFrom_52 : decode cX6_copyFrom 52 = .ok (.aload_n 1, 1) := by decide +kernel
theorem dX6_copyFrom_53 : decode cX6_copyFrom 53 = .ok (.getfield 19, 3) := by decide +kernel
theorem dX6_copyFrom_56 : decode cX6_copyFrom 56 = .ok (.iload_n 2, 1) := by decide +kernel
theorem dX6_copyFrom_57 : decode cX6_copyFrom 57 = .ok (.aaload, 1) := by decide +kernel
theorem dX6_copyFrom_67 : decode cX6_copyFrom 67 = .ok (.aload_n 0, 1) := by decide +kernel
theorem dX6_copyFrom_68 : decode cX6_copyFrom 68 = .ok (.aload_n 1, 1) := by decide +kernel
theorem dX6_copyFrom_69 : decode cX6_copyFrom 69 = .ok (.getfield 29, 3) := by decide +kernel
theorem dX6_copyFrom_72 : decode cX6_copyFrom 72 = .ok (.putfield 29, 3) := by decide +kernel
theorem dX6_copyFrom_75 : decode cX6_copyFrom 75 = .ok (.aload_n 0, 1) := by decide +kernel
theorem dX6_copyFrom_76 : decode cX6_copyFrom 76 = .ok (.aload_n 1, 1) := by decide +kernel
theorem dX6_copyFrom_77 : decode cX6_copyFrom 77 = .ok (.getfield 52, 3) := by decide +kernel
theorem dX6_copyFrom_80 : decode cX6_copyFrom 80 = .ok (.putfield 52, 3) := by decide +kernel
theorem dX6_copyFrom_83 : decode cX6_copyFrom 83 = .ok (.aload_n 0, 1) := by decide +kernel
theorem dX6_copyFrom_84 : decode cX6_copyFrom 84 = .ok (.aload_n 1, 1) := by decide +kernel
theorem dX6_copyFrom_85 : decode cX6_copyFrom 85 = .ok (.getfield 69, 3) := by decide +kernel
theorem dX6_copyFrom_88 : decode cX6_copyFrom 88 = .ok (.putfield 69, 3) := by decide +kernel
theorem dX6_copyFrom_91 : decode cX6_copyFrom 91 = .ok (.return_, 1) := by decide +kernel
