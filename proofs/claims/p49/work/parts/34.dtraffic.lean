set_option maxRecDepth 20000 in
theorem ggX6_init_X7_init : GoodIn wsX6_init wsX7_init := goodIn_r _ [15, 16, 2, 3, 17, 18, 19, 52, 53, 54, 55, 56, 57, 58] (by decide +kernel) (by decide +kernel)
set_option maxRecDepth 20000 in
theorem gX6_init_X7_init : GoodIn wsX6_init (wsX7_init) := ggX6_init_X7_init
set_option maxRecDepth 20000 in
theorem ggX6_init_X2_init : GoodIn wsX6_init wsX2_init := goodIn_r _ [21, 22, 2, 3, 23, 24, 25, 26, 27, 28, 29, 30, 31, 32, 33, 34, 35, 36, 37, 38, 39, 40, 41, 42, 43, 44, 45, 63, 64, 65, 66, 67, 68, 69, 70, 71, 72, 73, 74, 75, 76, 59, 60, 61, 62, 77, 78, 79, 80, 81, 82, 83, 84, 85] (by decide +kernel) (by decide +kernel)
set_option maxRecDepth 20000 in
theorem gX6_init_X2_init_n28 : GoodIn wsX6_init (wsX2_init) := ggX6_init_X2_init
theorem dX6_init_0 : decode cX6_init 0 = .ok (.aload_n 0, 1) := by decide +kernel
theorem dX6_init_1 : decode cX6_init 1 = .ok (.invokespecial 3, 3) := by decide +kernel
theorem dX6_init_4 : decode cX6_init 4 = .ok (.aload_n 0, 1) := by decide +kernel
theorem dX6_init_5 : decode cX6_init 5 = .ok (.bipush 24, 2) := by decide +kernel
theorem dX6_init_7 : decode cX6_init 7 = .ok (.anewarray 9, 3) := by decide +kernel
theorem dX6_init_10 : decode cX6_init 10 = .ok (.putfield 11, 3) := by decide +kernel
theorem dX6_init_13 : decode cX6_init 13 = .ok (.aload_n 0, 1) := by decide +kernel
theorem dX6_init_14 : decode cX6_init 14 = .ok (.bipush 6, 2) := by decide +kernel
theorem dX6_init_16 : decode cX6_init 16 = .ok (.anewarray 17, 3) := by decide +kernel
theorem dX6_init_19 : decode cX6_init 19 = .ok (.putfield 19, 3) := by decide +kernel
theorem dX6_init_22 : decode cX6_init 22 = .ok (.aload_n 0, 1) := by decide +kernel
theorem dX6_init_23 : decode cX6_init 23 = .ok (.aload_n 1, 1) := by decide +kernel
theorem dX6_init_24 : decode cX6_init 24 = .ok (.putfield 23, 3) := by decide +kernel
theorem dX6_init_27 : decode cX6_init 27 = .ok (.iconst 0, 1) := by decide +kernel
theorem dX6_init_28 : decode cX6_init 28 = .ok (.istore_n 2, 1) := by decide +kernel
theorem dX6_init_29 : decode cX6_init 29 = .ok (.iload_n 2, 1) := by decide +kernel
theorem dX6_init_30 : decode cX6_init 30 = .ok (.aload_n 0, 1) := by decide +kernel
theorem dX6_init_31 : decode cX6_init 31 = .ok (.getfield 11, 3) := by decide +kernel
theorem dX6_init_34 : decode cX6_init 34 = .ok (.arraylength, 1) := by decide +kernel
theorem dX6_init_35 : decode cX6_init 35 = .ok (.if_icmp .ge 22, 3) := by decide +kernel
theorem dX6_init_38 : decode cX6_init 38 = .ok (.aload_n 0, 1) := by decide +kernel
theorem dX6_init_39 : decode cX6_init 39 = .ok (.getfield 11, 3) := by decide +kernel
theorem dX6_init_42 : decode cX6_init 42 = .ok (.iload_n 2, 1) := by decide +kernel
theorem dX6_init_43 : decode cX6_init 43 = .ok (.new 9, 3) := by decide +kernel
theorem dX6_init_46 : decode cX6_init 46 = .ok (.dup, 1) := by decide +kernel
theorem dX6_init_47 : decode cX6_init 47 = .ok (.invokespecial 27, 3) := by decide +kernel
theorem dX6_init_50 : decode cX6_init 50 = .ok (.aastore, 1) := by decide +kernel
theorem dX6_init_51 : decode cX6_init 51 = .ok (.iinc 2 1, 3) := by decide +kernel
theorem dX6_init_54 : decode cX6_init 54 = .ok (.goto (-25), 3) := by decide +kernel
theorem dX6_init_57 : decode cX6_init 57 = .ok (.iconst 0, 1) := by decide +kernel
theorem dX6_init_58 : decode cX6_init 58 = .ok (.istore_n 2, 1) := by decide +kernel
theorem dX6_init_59 : decode cX6_init 59 = .ok (.iload_n 2, 1) := by decide +kernel
theorem dX6_init_60 : decode cX6_init 60 = .ok (.aload_n 0, 1) := by decide +kernel
theorem dX6_init_61 : decode cX6_init 61 = .ok (.getfield 19, 3) := by decide +kernel
theorem dX6_init_64 : decode cX6_init 64 = .ok (.arraylength, 1) := by decide +kernel
theorem dX6_init_65 : decode cX6_init 65 = .ok (.if_icmp .ge 22, 3) := by decide +kernel
theorem dX6_init_68 : decode cX6_init 68 = .ok (.aload_n 0, 1) := by decide +kernel
theorem dX6_init_69 : decode cX6_init 69 = .ok (.getfield 19, 3) := by decide +kernel
theorem dX6_init_72 : decode cX6_init 72 = .ok (.iload_n 2, 1) := by decide +kernel
theorem dX6_init_73 : decode cX6_init 73 = .ok (.new 17, 3) := by decide +kernel
theorem dX6_init_76 : decode cX6_init 76 = .ok (.dup, 1) := by decide +kernel
theorem dX6_init_77 : decode cX6_init 77 = .ok (.invokespecial 28, 3) := by decide +kernel
theorem dX6_init_80 : decode cX6_init 80 = .ok (.aastore, 1) := by decide +kernel
theorem dX6_init_81 : decode cX6_init 81 = .ok (.iinc 2 1, 3) := by decide +kernel
theorem dX6_init_84 : decode cX6_init 84 = .ok (.goto (-25), 3) := by decide +kernel
theorem dX6_init_87 : decode cX6_init 87 = .ok (.return_, 1) := by decide +kernel
set_option maxRecDepth 20000 in
theorem ggX6_connect_X1_begin : GoodIn wsX6_connect wsX1_begin := goodIn_r _ [13, 14, 15, 16, 17, 18, 19, 20, 21, 22, 23, 24, 25, 26, 27, 28, 29, 30, 31, 90, 91, 92, 93, 94, 95, 96, 97, 98, 99, 100, 101, 102, 103, 104, 105, 106, 107, 108] (by decide +kernel) (by decide +kernel)
set_option maxRecDepth 20000 in
theorem gX6_connect_X1_begin : GoodIn wsX6_connect (wsV RX6 55 RX1 yX1_begin wsX1_begin) := goodIn_app (goodIn_of _ (by decide +kernel)) ggX6_connect_X1_begin
set_option maxRecDepth 20000 in
theorem ggX6_connect_X6_sendHello : GoodIn wsX6_connect wsX6_sendHello := goodIn_r _ [36, 2, 3, 4, 37, 38, 39, 40, 41, 42, 43, 35, 44, 45, 46, 47, 48, 49, 50, 51, 52, 53, 54, 55, 56, 57, 58, 59, 60, 61, 62, 63, 64, 65, 66, 67, 68, 69, 70, 71, 72, 73, 74, 75, 76, 77, 78, 79, 80, 81, 82, 83, 84, 85, 109, 110, 111, 112, 113, 114, 115, 116, 117, 118, 119, 120, 121, 122, 123, 124] (by decide +kernel) (by decide +kernel)
set_option maxRecDepth 20000 in
theorem gX6_connect_X6_sendHello : GoodIn wsX6_connect (wsV RX6 61 RX6 yX6_sendHello wsX6_sendHello) := goodIn_app (goodIn_of _ (by decide +kernel)) ggX6_connect_X6_sendHello
theorem dX6_connect_0 : decode cX6_connect 0 = .ok (.aload_n 0, 1) := by decide +kernel
theorem dX6_connect_1 : decode cX6_connect 1 = .ok (.getfield 29, 3) := by decide +kernel
theorem dX6_connect_4 : decode cX6_connect 4 = .ok (.istore 4, 2) := by decide +kernel
theorem dX6_connect_6 : decode cX6_connect 6 = .ok (.aload_n 0, 1) := by decide +kernel
theorem dX6_connect_7 : decode cX6_connect 7 = .ok (.getfield 19, 3) := by decide +kernel
theorem dX6_connect_10 : decode cX6_connect 10 = .ok (.iload 4, 2) := by decide +kernel
theorem dX6_connect_12 : decode cX6_connect 12 = .ok (.aaload, 1) := by decide +kernel
theorem dX6_connect_13 : decode cX6_connect 13 = .ok (.astore 5, 2) := by decide +kernel
theorem dX6_connect_15 : decode cX6_connect 15 = .ok (.aload 5, 2) := by decide +kernel
theorem dX6_connect_17 : decode cX6_connect 17 = .ok (.iload_n 1, 1) := by decide +kernel
theorem dX6_connect_18 : decode cX6_connect 18 = .ok (.putfield 33, 3) := by decide +kernel
theorem dX6_connect_21 : decode cX6_connect 21 = .ok (.aload 5, 2) := by decide +kernel
theorem dX6_connect_23 : decode cX6_connect 23 = .ok (.iload_n 2, 1) := by decide +kernel
theorem dX6_connect_24 : decode cX6_connect 24 = .ok (.putfield 36, 3) := by decide +kernel
theorem dX6_connect_27 : decode cX6_connect 27 = .ok (.aload 5, 2) := by decide +kernel
theorem dX6_connect_29 : decode cX6_connect 29 = .ok (.getfield 39, 3) := by decide +kernel
theorem dX6_connect_32 : decode cX6_connect 32 = .ok (.iload_n 3, 1) := by decide +kernel
theorem dX6_connect_33 : decode cX6_connect 33 = .ok (.putfield 43, 3) := by decide +kernel
theorem dX6_connect_36 : decode cX6_connect 36 = .ok (.aload 5, 2) := by decide +kernel
theorem dX6_connect_38 : decode cX6_connect 38 = .ok (.getfield 48, 3) := by decide +kernel
theorem dX6_connect_41 : decode cX6_connect 41 = .ok (.iload_n 3, 1) := by decide +kernel
theorem dX6_connect_42 : decode cX6_connect 42 = .ok (.aload_n 0, 1) := by decide +kernel
theorem dX6_connect_43 : decode cX6_connect 43 = .ok (.getfield 52, 3) := by decide +kernel
theorem dX6_connect_46 : decode cX6_connect 46 = .ok (.invokevirtual 55, 3) := by decide +kernel
theorem dX6_connect_49 : decode cX6_connect 49 = .ok (.aload_n 0, 1) := by decide +kernel
theorem dX6_connect_50 : decode cX6_connect 50 = .ok (.dup, 1) := by decide +kernel
theorem dX6_connect_51 : decode cX6_connect 51 = .ok (.getfield 29, 3) := by decide +kernel
theorem dX6_connect_54 : decode cX6_connect 54 = .ok (.iconst 1, 1) := by decide +kernel
theorem dX6_connect_55 : decode cX6_connect 55 = .ok (.iadd, 1) := by decide +kernel
theorem dX6_connect_56 : decode cX6_connect 56 = .ok (.putfield 29, 3) := by decide +kernel
theorem dX6_connect_59 : decode cX6_connect 59 = .ok (.aload_n 0, 1) := by decide +kernel
theorem dX6_connect_60 : decode cX6_connect 60 = .ok (.iload 4, 2) := by decide +kernel
theorem dX6_connect_62 : decode cX6_connect 62 = .ok (.invokevirtual 61, 3) := by decide +kernel
theorem dX6_connect_65 : decode cX6_connect 65 = .ok (.iload 4, 2) := by decide +kernel
theorem dX6_connect_67 : decode cX6_connect 67 = .ok (.ireturn, 1) := by decide +kernel
set_option maxRecDepth 20000 in
theorem ggX6_dropAll_X7_drop : GoodIn wsX6_dropAll wsX7_drop := goodIn_r _ [7, 8, 9, 10, 17, 18, 19, 20, 21, 22, 23] (by decide +kernel) (by decide +kernel)
set_option maxRecDepth 20000 in
theorem gX6_dropAll_X7_drop : GoodIn wsX6_dropAll (wsV RX6 65 RX7 yX7_drop wsX7_drop) := goodIn_app (goodIn_of _ (by decide +kernel)) ggX6_dropAll_X7_drop
theorem dX6_dropAll_0 : decode cX6_dropAll 0 = .ok (.aload_n 0, 1) := by decide +kernel
theorem dX6_dropAll_1 : decode cX6_dropAll 1 = .ok (.getfield 11, 3) := by decide +kernel
theorem dX6_dropAll_4 : decode cX6_dropAll 4 = .ok (.iconst 2, 1) := by decide +kernel
theorem dX6_dropAll_5 : decode cX6_dropAll 5 = .ok (.iload_n 1, 1) := by decide +kernel
theorem dX6_dropAll_6 : decode cX6_dropAll 6 = .ok (.imul, 1) := by decide +kernel
theorem dX6_dropAll_7 : decode cX6_dropAll 7 = .ok (.aaload, 1) := by decide +kernel
theorem dX6_dropAll_8 : decode cX6_dropAll 8 = .ok (.invokevirtual 65, 3) := by decide +kernel
theorem dX6_dropAll_11 : decode cX6_dropAll 11 = .ok (.aload_n 0, 1) := by decide +kernel
theorem dX6_dropAll_12 : decode cX6_dropAll 12 = .ok (.getfield 11, 3) := by decide +kernel
theorem dX6_dropAll_15 : decode cX6_dropAll 15 = .ok (.iconst 2, 1) := by decide +kernel
theorem dX6_dropAll_16 : decode cX6_dropAll 16 = .ok (.iload_n 1, 1) := by decide +kernel
theorem dX6_dropAll_17 : decode cX6_dropAll 17 = .ok (.imul, 1) := by decide +kernel
theorem dX6_dropAll_18 : decode cX6_dropAll 18 = .ok (.iconst 1, 1) := by decide +kernel
theorem dX6_dropAll_19 : decode cX6_dropAll 19 = .ok (.iadd, 1) := by decide +kernel
theorem dX6_dropAll_20 : decode cX6_dropAll 20 = .ok (.aaload, 1) := by decide +kernel
theorem dX6_dropAll_21 : decode cX6_dropAll 21 = .ok (.invokevirtual 65, 3) := by decide +kernel
theorem dX6_dropAll_24 : decode cX6_dropAll 24 = .ok (.iadd, 1) := by decide +kernel
theorem dX6_dropAll_25 : decode cX6_dropAll 25 = .ok (.istore_n 2, 1) := by decide +kernel
theorem dX6_dropAll_26 : decode cX6_dropAll 26 = .ok (.aload_n 0, 1) := by decide +kernel
theorem dX6_dropAll_27 : decode cX6_dropAll 27 = .ok (.dup, 1) := by decide +kernel
theorem dX6_dropAll_28 : decode cX6_dropAll 28 = .ok (.getfield 69, 3) := by decide +kernel
theorem dX6_dropAll_31 : decode cX6_dropAll 31 = .ok (.iload_n 2, 1) := by decide +kernel
theorem dX6_dropAll_32 : decode cX6_dropAll 32 = .ok (.iadd, 1) := by decide +kernel
theorem dX6_dropAll_33 : decode cX6_dropAll 33 = .ok (.putfield 69, 3) := by decide +kernel
theorem dX6_dropAll_36 : decode cX6_dropAll 36 = .ok (.iload_n 2, 1) := by decide +kernel
theorem dX6_dropAll_37 : decode cX6_dropAll 37 = .ok (.ireturn, 1) := by decide +kernel
set_option maxRecDepth 20000 in
theorem ggX6_tick_X6_letArrive : GoodIn wsX6_tick wsX6_letArrive := goodIn_r _ [6, 7, 8, 9, 1, 10, 11, 12, 13, 14, 15, 16, 17, 18, 19, 20, 21, 22, 23, 24, 25, 5, 26, 27, 28, 29, 30, 31, 32, 33, 34, 35, 36, 37, 38, 39, 40, 41, 42, 43, 44, 45, 46, 47, 48, 49, 50, 51, 52, 53, 54, 55, 56, 57, 58, 59, 60, 61, 62, 63, 64, 65, 66, 67, 68, 69, 70, 71, 72, 73, 74, 75, 76, 77, 78, 79, 80, 81, 82, 83, 84, 85, 86, 87, 88, 89, 90, 91, 92, 93, 94, 95, 96, 97, 98, 99, 100, 101, 102, 103, 104, 105, 106, 107, 108, 109, 110, 111, 112, 113, 114, 115, 116, 117, 118, 119, 120, 121, 122, 123, 124, 125, 126, 127, 128, 129, 130, 131, 132, 133, 134, 135, 136, 137, 138, 139, 140, 141, 142, 143, 144, 145, 146, 147, 148, 149, 150, 151, 152, 153, 154, 155, 156, 157, 158, 159, 160, 161, 162, 163, 164, 165, 166, 167, 168, 222, 223, 224, 225, 226, 227, 228, 229, 230, 231, 232, 233, 234, 235, 236, 237, 238, 239, 240, 241, 242, 243, 244, 245, 246, 247, 248, 249, 250, 251, 252, 253, 254, 255, 256, 257, 258, 259, 260, 261, 262, 263, 264, 265, 266, 267, 268, 269, 270] (by decide +kernel) (by decide +kernel)
set_option maxRecDepth 20000 in
theorem gX6_tick_X6_letArrive : GoodIn wsX6_tick (wsV RX6 72 RX6 yX6_letArrive wsX6_letArrive) := goodIn_app (goodIn_of _ (by decide +kernel)) ggX6_tick_X6_letArrive
set_option maxRecDepth 20000 in
theorem ggX6_tick_X6_letTimersRunOut : GoodIn wsX6_tick wsX6_letTimersRunOut := goodIn_r _ [172, 27, 28, 31, 173, 1, 174, 175, 176, 177, 80, 178, 84, 83, 82, 92, 121, 93, 95, 179, 180, 181, 100, 182, 116, 113, 114, 108, 115, 102, 129, 130, 131, 132, 86, 94, 85, 123, 111, 112, 122, 183, 184, 185, 5, 186, 29, 30, 147, 148, 36, 149, 41, 42, 43, 44, 7, 32, 11, 9, 45, 46, 47, 48, 49, 50, 51, 52, 53, 54, 55, 56, 57, 58, 59, 60, 61, 62, 63, 64, 65, 66, 15, 67, 68, 69, 70, 133, 134, 135, 136, 137, 138, 139, 140, 141, 142, 143, 144, 145, 146, 222, 223, 224, 225, 226, 227, 244, 245, 246, 247, 248, 249, 250, 251, 252, 253, 254, 255, 256, 257, 258, 259, 260, 261, 262, 263, 264, 265, 266, 228, 229, 230, 231, 232, 233, 234, 235, 236, 237, 238, 239, 240, 241, 242, 243] (by decide +kernel) (by decide +kernel)
set_option maxRecDepth 20000 in
theorem gX6_tick_X6_letTimersRunOut : GoodIn wsX6_tick (wsV RX6 75 RX6 yX6_letTimersRunOut wsX6_letTimersRunOut) := goodIn_app (goodIn_of _ (by decide +kernel)) ggX6_tick_X6_letTimersRunOut
set_option maxRecDepth 20000 in
theorem ggX6_tick_X6_letCallersSend : GoodIn wsX6_tick wsX6_letCallersSend := goodIn_r _ [190, 27, 28, 31, 191, 1, 192, 193, 194, 80, 195, 86, 85, 82, 121, 96, 87, 196, 197, 198, 199, 200, 142, 143, 144, 5, 145, 146, 29, 30, 147, 148, 36, 149, 41, 42, 43, 44, 7, 32, 11, 9, 45, 46, 47, 48, 49, 50, 51, 52, 53, 54, 55, 56, 57, 58, 59, 60, 61, 62, 63, 64, 65, 66, 15, 67, 68, 69, 70, 201, 202, 203, 204, 92, 84, 95, 205, 206, 207, 100, 208, 102, 103, 222, 223, 224, 225, 226, 227, 244, 245, 246, 247, 248, 249, 250, 251, 252, 253, 254, 255, 256, 257, 258, 259, 260, 261, 228, 229, 230, 231, 232, 233, 234, 235, 236, 237, 238, 239, 240, 241, 242, 243, 262, 263, 264, 265, 266] (by decide +kernel) (by decide +kernel)
set_option maxRecDepth 20000 in
theorem gX6_tick_X6_letCallersSend : GoodIn wsX6_tick (wsV RX6 78 RX6 yX6_letCallersSend wsX6_letCallersSend) := goodIn_app (goodIn_of _ (by decide +kernel)) ggX6_tick_X6_letCallersSend
set_option maxRecDepth 20000 in
theorem ggX6_tick_X6_letTakeOff : GoodIn wsX6_tick wsX6_letTakeOff := goodIn_r _ [212, 7, 8, 213, 1, 214, 32, 9, 215, 216, 217, 15, 218, 68, 69, 70, 219, 17, 220, 18, 221, 19, 20, 21, 22, 222, 223, 224, 225, 226, 227, 228, 229, 230, 231, 232, 233, 234, 235, 236, 237, 238, 239, 240, 241, 242, 243] (by decide +kernel) (by decide +kernel)
set_option maxRecDepth 20000 in
theorem gX6_tick_X6_letTakeOff : GoodIn wsX6_tick (wsV RX6 81 RX6 yX6_letTakeOff wsX6_letTakeOff) := goodIn_app (goodIn_of _ (by decide +kernel)) ggX6_tick_X6_letTakeOff
theorem dX6_tick_0 : decode cX6_tick 0 = .ok (.aload_n 0, 1) := by decide +kernel
theorem dX6_tick_1 : decode cX6_tick 1 = .ok (.dup, 1) := by decide +kernel
theorem dX6_tick_2 : decode cX6_tick 2 = .ok (.getfield 52, 3) := by decide +kernel
theorem dX6_tick_5 : decode cX6_tick 5 = .ok (.iconst 1, 1) := by decide +kernel
theorem dX6_tick_6 : decode cX6_tick 6 = .ok (.iadd, 1) := by decide +kernel
theorem dX6_tick_7 : decode cX6_tick 7 = .ok (.putfield 52, 3) := by decide +kernel
theorem dX6_tick_10 : decode cX6_tick 10 = .ok (.aload_n 0, 1) := by decide +kernel
theorem dX6_tick_11 : decode cX6_tick 11 = .ok (.invokevirtual 72, 3) := by decide +kernel
theorem dX6_tick_14 : decode cX6_tick 14 = .ok (.aload_n 0, 1) := by decide +kernel
theorem dX6_tick_15 : decode cX6_tick 15 = .ok (.invokevirtual 75, 3) := by decide +kernel
theorem dX6_tick_18 : decode cX6_tick 18 = .ok (.aload_n 0, 1) := by decide +kernel
theorem dX6_tick_19 : decode cX6_tick 19 = .ok (.invokevirtual 78, 3) := by decide +kernel
theorem dX6_tick_22 : decode cX6_tick 22 = .ok (.aload_n 0, 1) := by decide +kernel
theorem dX6_tick_23 : decode cX6_tick 23 = .ok (.invokevirtual 81, 3) := by decide +kernel
theorem dX6_tick_26 : decode cX6_tick 26 = .ok (.return_, 1) := by decide +kernel
set_option maxRecDepth 20000 in
theorem ggX6_letArrive_X7_land : GoodIn wsX6_letArrive wsX7_land := goodIn_r _ [11, 12, 13, 14, 15, 16, 17, 180, 181, 182, 183, 184, 185, 186] (by decide +kernel) (by decide +kernel)
set_option maxRecDepth 20000 in
theorem gX6_letArrive_X7_land : GoodIn wsX6_letArrive (wsV RX6 89 RX7 yX7_land wsX7_land) := goodIn_app (goodIn_of _ (by decide +kernel)) ggX6_letArrive_X7_land
set_option maxRecDepth 20000 in
theorem ggX6_letArrive_X6_arrive : GoodIn wsX6_letArrive wsX6_arrive := goodIn_r _ [22, 23, 24, 25, 26, 27, 4, 28, 29, 30, 31, 32, 33, 34, 35, 36, 37, 38, 39, 21, 40, 1, 6, 3, 41, 42, 43, 44, 45, 46, 47, 48, 49, 50, 51, 52, 53, 54, 55, 56, 57, 58, 59, 60, 61, 62, 10, 63, 64, 65, 66, 67, 68, 69, 70, 71, 72, 73, 74, 75, 76, 77, 78, 79, 80, 81, 82, 83, 84, 85, 86, 87, 88, 89, 90, 91, 92, 93, 94, 95, 96, 97, 98, 99, 100, 101, 102, 103, 104, 105, 106, 107, 108, 109, 110, 111, 112, 113, 114, 115, 116, 117, 118, 119, 120, 121, 122, 123, 124, 125, 126, 127, 128, 129, 130, 131, 132, 133, 134, 135, 136, 137, 138, 139, 140, 141, 142, 143, 144, 145, 146, 147, 148, 149, 150, 151, 152, 153, 154, 155, 156, 157, 158, 159, 160, 161, 162, 163, 164, 165, 166, 167, 168, 169, 170, 187, 188, 189, 190, 171, 172, 173, 174, 175, 176, 177, 178, 179, 180, 181, 182, 183, 184, 185, 186, 191, 192, 193, 194, 195, 196, 197, 198, 199, 200, 201, 202, 203, 204, 205, 206, 207, 208, 209, 210, 211, 212, 213] (by decide +kernel) (by decide +kernel)
set_option maxRecDepth 20000 in
theorem gX6_letArrive_X6_arrive : GoodIn wsX6_letArrive (wsV RX6 100 RX6 yX6_arrive wsX6_arrive) := goodIn_app (goodIn_of _ (by decide +kernel)) ggX6_letArrive_X6_arrive
theorem dX6_letArrive_0 : decode cX6_letArrive 0 = .ok (.iconst 0, 1) := by decide +kernel
theorem dX6_letArrive_1 : decode cX6_letArrive 1 = .ok (.istore_n 1, 1) := by decide +kernel
theorem dX6_letArrive_2 : decode cX6_letArrive 2 = .ok (.iload_n 1, 1) := by decide +kernel
theorem dX6_letArrive_3 : decode cX6_letArrive 3 = .ok (.aload_n 0, 1) := by decide +kernel
theorem dX6_letArrive_4 : decode cX6_letArrive 4 = .ok (.getfield 23, 3) := by decide +kernel
theorem dX6_letArrive_7 : decode cX6_letArrive 7 = .ok (.getfield 84, 3) := by decide +kernel
theorem dX6_letArrive_10 : decode cX6_letArrive 10 = .ok (.if_icmp .ge 75, 3) := by decide +kernel
theorem dX6_letArrive_13 : decode cX6_letArrive 13 = .ok (.iconst 0, 1) := by decide +kernel
theorem dX6_letArrive_14 : decode cX6_letArrive 14 = .ok (.istore_n 2, 1) := by decide +kernel
theorem dX6_letArrive_15 : decode cX6_letArrive 15 = .ok (.iload_n 2, 1) := by decide +kernel
theorem dX6_letArrive_16 : decode cX6_letArrive 16 = .ok (.iconst 2, 1) := by decide +kernel
theorem dX6_letArrive_17 : decode cX6_letArrive 17 = .ok (.if_icmp .ge 62, 3) := by decide +kernel
theorem dX6_letArrive_20 : decode cX6_letArrive 20 = .ok (.aload_n 0, 1) := by decide +kernel
theorem dX6_letArrive_21 : decode cX6_letArrive 21 = .ok (.getfield 11, 3) := by decide +kernel
theorem dX6_letArrive_24 : decode cX6_letArrive 24 = .ok (.iconst 2, 1) := by decide +kernel
theorem dX6_letArrive_25 : decode cX6_letArrive 25 = .ok (.iload_n 1, 1) := by decide +kernel
theorem dX6_letArrive_26 : decode cX6_letArrive 26 = .ok (.imul, 1) := by decide +kernel
theorem dX6_letArrive_27 : decode cX6_letArrive 27 = .ok (.iload_n 2, 1) := by decide +kernel
theorem dX6_letArrive_28 : decode cX6_letArrive 28 = .ok (.iadd, 1) := by decide +kernel
theorem dX6_letArrive_29 : decode cX6_letArrive 29 = .ok (.aaload, 1) := by decide +kernel
theorem dX6_letArrive_30 : decode cX6_letArrive 30 = .ok (.aload_n 0, 1) := by decide +kernel
theorem dX6_letArrive_31 : decode cX6_letArrive 31 = .ok (.getfield 52, 3) := by decide +kernel
theorem dX6_letArrive_34 : decode cX6_letArrive 34 = .ok (.invokevirtual 89, 3) := by decide +kernel
theorem dX6_letArrive_37 : decode cX6_letArrive 37 = .ok (.istore_n 3, 1) := by decide +kernel
theorem dX6_letArrive_38 : decode cX6_letArrive 38 = .ok (.iload_n 3, 1) := by decide +kernel
theorem dX6_letArrive_39 : decode cX6_letArrive 39 = .ok (.iconst (-1), 1) := by decide +kernel
theorem dX6_letArrive_40 : decode cX6_letArrive 40 = .ok (.if_icmp .eq 33, 3) := by decide +kernel
theorem dX6_letArrive_43 : decode cX6_letArrive 43 = .ok (.aload_n 0, 1) := by decide +kernel
theorem dX6_letArrive_44 : decode cX6_letArrive 44 = .ok (.iload_n 3, 1) := by decide +kernel
theorem dX6_letArrive_45 : decode cX6_letArrive 45 = .ok (.iload_n 2, 1) := by decide +kernel
theorem dX6_letArrive_46 : decode cX6_letArrive 46 = .ok (.ifCond .ne 15, 3) := by decide +kernel
theorem dX6_letArrive_49 : decode cX6_letArrive 49 = .ok (.aload_n 0, 1) := by decide +kernel
theorem dX6_letArrive_50 : decode cX6_letArrive 50 = .ok (.getfield 23, 3) := by decide +kernel
theorem dX6_letArrive_53 : decode cX6_letArrive 53 = .ok (.getfield 93, 3) := by decide +kernel
theorem dX6_letArrive_56 : decode cX6_letArrive 56 = .ok (.iload_n 1, 1) := by decide +kernel
theorem dX6_letArrive_57 : decode cX6_letArrive 57 = .ok (.iaload, 1) := by decide +kernel
theorem dX6_letArrive_58 : decode cX6_letArrive 58 = .ok (.goto 12, 3) := by decide +kernel
theorem dX6_letArrive_61 : decode cX6_letArrive 61 = .ok (.aload_n 0, 1) := by decide +kernel
theorem dX6_letArrive_62 : decode cX6_letArrive 62 = .ok (.getfield 23, 3) := by decide +kernel
theorem dX6_letArrive_65 : decode cX6_letArrive 65 = .ok (.getfield 97, 3) := by decide +kernel
theorem dX6_letArrive_68 : decode cX6_letArrive 68 = .ok (.iload_n 1, 1) := by decide +kernel
theorem dX6_letArrive_69 : decode cX6_letArrive 69 = .ok (.iaload, 1) := by decide +kernel
theorem dX6_letArrive_70 : decode cX6_letArrive 70 = .ok (.invokevirtual 100, 3) := by decide +kernel
theorem dX6_letArrive_73 : decode cX6_letArrive 73 = .ok (.iinc 2 1, 3) := by decide +kernel
theorem dX6_letArrive_76 : decode cX6_letArrive 76 = .ok (.goto (-61), 3) := by decide +kernel
theorem dX6_letArrive_79 : decode cX6_letArrive 79 = .ok (.iinc 1 1, 3) := by decide +kernel
theorem dX6_letArrive_82 : decode cX6_letArrive 82 = .ok (.goto (-80), 3) := by decide +kernel
theorem dX6_letArrive_85 : decode cX6_letArrive 85 = .ok (.return_, 1) := by decide +kernel
set_option maxRecDepth 20000 in
theorem ggX6_arrive_X4_connectionOf : GoodIn wsX6_arrive wsX4_connectionOf := goodIn_r _ [12] (by decide +kernel) (by decide +kernel)
set_option maxRecDepth 20000 in
theorem gX6_arrive_X4_connectionOf : GoodIn wsX6_arrive (va_wsS RX6 103 yX4_connectionOf wsX4_connectionOf) := goodIn_app (goodIn_of _ (by decide +kernel)) ggX6_arrive_X4_connectionOf
set_option maxRecDepth 20000 in
theorem ggX6_arrive_X4_kindOf : GoodIn wsX6_arrive wsX4_kindOf := goodIn_r _ [15] (by decide +kernel) (by decide +kernel)
set_option maxRecDepth 20000 in
theorem gX6_arrive_X4_kindOf : GoodIn wsX6_arrive (va_wsS RX6 108 yX4_kindOf wsX4_kindOf) := goodIn_app (goodIn_of _ (by decide +kernel)) ggX6_arrive_X4_kindOf
set_option maxRecDepth 20000 in
theorem ggX6_arrive_X6_send : GoodIn wsX6_arrive wsX6_send := goodIn_r _ [20, 21, 7, 22, 23, 24, 25, 26, 27, 28, 29, 30, 31, 32, 33, 34, 35, 36, 37, 38, 39, 40, 41, 11, 42, 43, 44, 45, 46, 47, 48, 49, 50, 149, 150, 151, 152, 153, 154, 159, 160, 161, 162, 163, 164, 165, 166, 167, 168, 169, 170, 171, 172, 173, 174] (by decide +kernel) (by decide +kernel)
set_option maxRecDepth 20000 in
theorem gX6_arrive_X6_send : GoodIn wsX6_arrive (wsV RX6 111 RX6 yX6_send wsX6_send) := goodIn_app (goodIn_of _ (by decide +kernel)) ggX6_arrive_X6_send
set_option maxRecDepth 20000 in
theorem ggX6_arrive_X4_numberOf : GoodIn wsX6_arrive wsX4_numberOf := goodIn_r _ [53] (by decide +kernel) (by decide +kernel)
set_option maxRecDepth 20000 in
theorem gX6_arrive_X4_numberOf : GoodIn wsX6_arrive (va_wsS RX6 115 yX4_numberOf wsX4_numberOf) := goodIn_app (goodIn_of _ (by decide +kernel)) ggX6_arrive_X4_numberOf
set_option maxRecDepth 20000 in
theorem ggX6_arrive_X4_roomOf : GoodIn wsX6_arrive wsX4_roomOf := goodIn_r _ [56] (by decide +kernel) (by decide +kernel)
set_option maxRecDepth 20000 in
theorem gX6_arrive_X4_roomOf : GoodIn wsX6_arrive (va_wsS RX6 118 yX4_roomOf wsX4_roomOf) := goodIn_app (goodIn_of _ (by decide +kernel)) ggX6_arrive_X4_roomOf
set_option maxRecDepth 20000 in
theorem ggX6_arrive_X1_takeAnswer : GoodIn wsX6_arrive wsX1_takeAnswer := goodIn_r _ [61, 62, 63, 64, 65, 66, 67, 68, 69, 70, 60, 71, 72, 73, 74, 75, 76, 77, 78, 79, 80, 81, 82, 83, 84, 85, 86, 87, 88, 89, 90, 91, 92, 93, 94, 95, 96, 97, 98, 99, 100, 101, 102, 103, 104, 105, 106, 107, 108, 109, 110, 111, 112, 175, 176, 177, 178, 179, 180, 181, 182, 183, 184, 185, 186, 187, 188, 189, 190, 191, 192, 193] (by decide +kernel) (by decide +kernel)
set_option maxRecDepth 20000 in
theorem gX6_arrive_X1_takeAnswer : GoodIn wsX6_arrive (wsV RX6 121 RX1 yX1_takeAnswer wsX1_takeAnswer) := goodIn_app (goodIn_of _ (by decide +kernel)) ggX6_arrive_X1_takeAnswer
set_option maxRecDepth 20000 in
theorem ggX6_arrive_X1_baseAgain : GoodIn wsX6_arrive wsX1_baseAgain := goodIn_r _ [116, 117, 72, 65, 118, 119, 120, 80, 121, 82, 175, 176, 177, 178, 179, 180, 181, 182, 183, 184, 185, 186, 187, 188, 189, 190, 191, 192, 193] (by decide +kernel) (by decide +kernel)
set_option maxRecDepth 20000 in
theorem gX6_arrive_X1_baseAgain : GoodIn wsX6_arrive (wsV RX6 125 RX1 yX1_baseAgain wsX1_baseAgain) := goodIn_app (goodIn_of _ (by decide +kernel)) ggX6_arrive_X1_baseAgain
set_option maxRecDepth 20000 in
theorem ggX6_arrive_X6_sendThing : GoodIn wsX6_arrive wsX6_sendThing := goodIn_r _ [125, 2, 5, 126, 3, 4, 127, 128, 11, 129, 16, 17, 18, 19, 20, 21, 7, 22, 23, 24, 25, 26, 27, 28, 29, 30, 31, 32, 33, 34, 35, 36, 37, 38, 39, 40, 41, 42, 43, 44, 45, 46, 47, 48, 49, 50, 149, 150, 151, 152, 153, 154, 155, 156, 157, 158, 175, 176, 177, 178, 179, 180, 181, 182, 183, 184, 185, 186, 187, 188, 159, 160, 161, 162, 163, 164, 165, 166, 167, 168, 169, 170, 171, 172, 173, 174] (by decide +kernel) (by decide +kernel)
set_option maxRecDepth 20000 in
theorem gX6_arrive_X6_sendThing : GoodIn wsX6_arrive (wsV RX6 128 RX6 yX6_sendThing wsX6_sendThing) := goodIn_app (goodIn_of _ (by decide +kernel)) ggX6_arrive_X6_sendThing
set_option maxRecDepth 20000 in
theorem ggX6_arrive_X0_take : GoodIn wsX6_arrive wsX0_take := goodIn_r _ [134, 135, 136, 137, 138, 194, 195, 196, 197] (by decide +kernel) (by decide +kernel)
set_option maxRecDepth 20000 in
theorem gX6_arrive_X0_take : GoodIn wsX6_arrive (wsV RX6 131 RX0 yX0_take wsX0_take) := goodIn_app (goodIn_of _ (by decide +kernel)) ggX6_arrive_X0_take
set_option maxRecDepth 20000 in
theorem ggX6_arrive_X6_sendAnswer : GoodIn wsX6_arrive wsX6_sendAnswer := goodIn_r _ [142, 2, 8, 143, 4, 3, 144, 145, 146, 133, 147, 137, 138, 135, 148, 91, 88, 92, 127, 128, 11, 129, 16, 17, 18, 19, 20, 21, 7, 22, 23, 24, 25, 26, 27, 28, 29, 30, 31, 32, 33, 34, 35, 36, 37, 38, 39, 40, 41, 42, 43, 44, 45, 46, 47, 48, 49, 50, 149, 150, 151, 152, 153, 154, 155, 156, 157, 158, 194, 195, 196, 197, 159, 160, 161, 162, 163, 164, 165, 166, 167, 168, 169, 170, 171, 172, 173, 174] (by decide +kernel) (by decide +kernel)
set_option maxRecDepth 20000 in
theorem gX6_arrive_X6_sendAnswer : GoodIn wsX6_arrive (wsV RX6 135 RX6 yX6_sendAnswer wsX6_sendAnswer) := goodIn_app (goodIn_of _ (by decide +kernel)) ggX6_arrive_X6_sendAnswer
theorem dX6_arrive_0 : decode cX6_arrive 0 = .ok (.iload_n 1, 1) := by decide +kernel
theorem dX6_arrive_1 : decode cX6_arrive 1 = .ok (.invokestatic 103, 3) := by decide +kernel
theorem dX6_arrive_4 : decode cX6_arrive 4 = .ok (.istore_n 3, 1) := by decide +kernel
theorem dX6_arrive_5 : decode cX6_arrive 5 = .ok (.iload_n 3, 1) := by decide +kernel
theorem dX6_arrive_6 : decode cX6_arrive 6 = .ok (.aload_n 0, 1) := by decide +kernel
theorem dX6_arrive_7 : decode cX6_arrive 7 = .ok (.getfield 29, 3) := by decide +kernel
theorem dX6_arrive_10 : decode cX6_arrive 10 = .ok (.if_icmp .lt 4, 3) := by decide +kernel
theorem dX6_arrive_13 : decode cX6_arrive 13 = .ok (.return_, 1) := by decide +kernel
theorem dX6_arrive_14 : decode cX6_arrive 14 = .ok (.aload_n 0, 1) := by decide +kernel
theorem dX6_arrive_15 : decode cX6_arrive 15 = .ok (.getfield 19, 3) := by decide +kernel
theorem dX6_arrive_18 : decode cX6_arrive 18 = .ok (.iload_n 3, 1) := by decide +kernel
theorem dX6_arrive_19 : decode cX6_arrive 19 = .ok (.aaload, 1) := by decide +kernel
theorem dX6_arrive_20 : decode cX6_arrive 20 = .ok (.astore 4, 2) := by decide +kernel
theorem dX6_arrive_22 : decode cX6_arrive 22 = .ok (.iload_n 1, 1) := by decide +kernel
theorem dX6_arrive_23 : decode cX6_arrive 23 = .ok (.invokestatic 108, 3) := by decide +kernel
theorem dX6_arrive_26 : decode cX6_arrive 26 = .ok (.iconst 3, 1) := by decide +kernel
theorem dX6_arrive_27 : decode cX6_arrive 27 = .ok (.if_icmp .ne 7, 3) := by decide +kernel
theorem dX6_arrive_30 : decode cX6_arrive 30 = .ok (.iconst 1, 1) := by decide +kernel
theorem dX6_arrive_31 : decode cX6_arrive 31 = .ok (.goto 4, 3) := by decide +kernel
theorem dX6_arrive_34 : decode cX6_arrive 34 = .ok (.iconst 0, 1) := by decide +kernel
theorem dX6_arrive_35 : decode cX6_arrive 35 = .ok (.istore 5, 2) := by decide +kernel
theorem dX6_arrive_37 : decode cX6_arrive 37 = .ok (.iload 5, 2) := by decide +kernel
theorem dX6_arrive_39 : decode cX6_arrive 39 = .ok (.ifCond .eq 11, 3) := by decide +kernel
theorem dX6_arrive_42 : decode cX6_arrive 42 = .ok (.aload 4, 2) := by decide +kernel
theorem dX6_arrive_44 : decode cX6_arrive 44 = .ok (.getfield 33, 3) := by decide +kernel
theorem dX6_arrive_47 : decode cX6_arrive 47 = .ok (.goto 8, 3) := by decide +kernel
theorem dX6_arrive_50 : decode cX6_arrive 50 = .ok (.aload 4, 2) := by decide +kernel
theorem dX6_arrive_52 : decode cX6_arrive 52 = .ok (.getfield 36, 3) := by decide +kernel
theorem dX6_arrive_55 : decode cX6_arrive 55 = .ok (.istore 6, 2) := by decide +kernel
theorem dX6_arrive_57 : decode cX6_arrive 57 = .ok (.iload_n 2, 1) := by decide +kernel
theorem dX6_arrive_58 : decode cX6_arrive 58 = .ok (.iload 6, 2) := by decide +kernel
theorem dX6_arrive_60 : decode cX6_arrive 60 = .ok (.if_icmp .eq 14, 3) := by decide +kernel
theorem dX6_arrive_63 : decode cX6_arrive 63 = .ok (.aload_n 0, 1) := by decide +kernel
theorem dX6_arrive_64 : decode cX6_arrive 64 = .ok (.iload_n 1, 1) := by decide +kernel
theorem dX6_arrive_65 : decode cX6_arrive 65 = .ok (.iload_n 2, 1) := by decide +kernel
theorem dX6_arrive_66 : decode cX6_arrive 66 = .ok (.iload 6, 2) := by decide +kernel
theorem dX6_arrive_68 : decode cX6_arrive 68 = .ok (.invokevirtual 111, 3) := by decide +kernel
theorem dX6_arrive_71 : decode cX6_arrive 71 = .ok (.goto 106, 3) := by decide +kernel
theorem dX6_arrive_74 : decode cX6_arrive 74 = .ok (.iload 5, 2) := by decide +kernel
theorem dX6_arrive_76 : decode cX6_arrive 76 = .ok (.ifCond .eq 43, 3) := by decide +kernel
theorem dX6_arrive_79 : decode cX6_arrive 79 = .ok (.aload 4, 2) := by decide +kernel
theorem dX6_arrive_81 : decode cX6_arrive 81 = .ok (.getfield 48, 3) := by decide +kernel
theorem dX6_arrive_84 : decode cX6_arrive 84 = .ok (.astore 7, 2) := by decide +kernel
theorem dX6_arrive_86 : decode cX6_arrive 86 = .ok (.aload 7, 2) := by decide +kernel
theorem dX6_arrive_88 : decode cX6_arrive 88 = .ok (.iload_n 1, 1) := by decide +kernel
theorem dX6_arrive_89 : decode cX6_arrive 89 = .ok (.invokestatic 115, 3) := by decide +kernel
theorem dX6_arrive_92 : decode cX6_arrive 92 = .ok (.iload_n 1, 1) := by decide +kernel
theorem dX6_arrive_93 : decode cX6_arrive 93 = .ok (.invokestatic 118, 3) := by decide +kernel
theorem dX6_arrive_96 : decode cX6_arrive 96 = .ok (.aload_n 0, 1) := by decide +kernel
theorem dX6_arrive_97 : decode cX6_arrive 97 = .ok (.getfield 52, 3) := by decide +kernel
theorem dX6_arrive_100 : decode cX6_arrive 100 = .ok (.invokevirtual 121, 3) := by decide +kernel
theorem dX6_arrive_103 : decode cX6_arrive 103 = .ok (.ifCond .eq 13, 3) := by decide +kernel
theorem dX6_arrive_106 : decode cX6_arrive 106 = .ok (.aload_n 0, 1) := by decide +kernel
theorem dX6_arrive_107 : decode cX6_arrive 107 = .ok (.iload_n 3, 1) := by decide +kernel
theorem dX6_arrive_108 : decode cX6_arrive 108 = .ok (.aload 7, 2) := by decide +kernel
theorem dX6_arrive_110 : decode cX6_arrive 110 = .ok (.invokevirtual 125, 3) := by decide +kernel
theorem dX6_arrive_113 : decode cX6_arrive 113 = .ok (.invokevirtual 128, 3) := by decide +kernel
theorem dX6_arrive_116 : decode cX6_arrive 116 = .ok (.goto 61, 3) := by decide +kernel
theorem dX6_arrive_119 : decode cX6_arrive 119 = .ok (.iload_n 1, 1) := by decide +kernel
theorem dX6_arrive_120 : decode cX6_arrive 120 = .ok (.invokestatic 108, 3) := by decide +kernel
theorem dX6_arrive_123 : decode cX6_arrive 123 = .ok (.ifCond .eq 49, 3) := by decide +kernel
theorem dX6_arrive_126 : decode cX6_arrive 126 = .ok (.iload_n 1, 1) := by decide +kernel
theorem dX6_arrive_127 : decode cX6_arrive 127 = .ok (.invokestatic 108, 3) := by decide +kernel
theorem dX6_arrive_130 : decode cX6_arrive 130 = .ok (.iconst 1, 1) := by decide +kernel
theorem dX6_arrive_131 : decode cX6_arrive 131 = .ok (.if_icmp .ne 7, 3) := by decide +kernel
theorem dX6_arrive_134 : decode cX6_arrive 134 = .ok (.iconst 1, 1) := by decide +kernel
theorem dX6_arrive_135 : decode cX6_arrive 135 = .ok (.goto 4, 3) := by decide +kernel
theorem dX6_arrive_138 : decode cX6_arrive 138 = .ok (.iconst 0, 1) := by decide +kernel
theorem dX6_arrive_139 : decode cX6_arrive 139 = .ok (.istore 7, 2) := by decide +kernel
theorem dX6_arrive_141 : decode cX6_arrive 141 = .ok (.aload_n 0, 1) := by decide +kernel
theorem dX6_arrive_142 : decode cX6_arrive 142 = .ok (.dup, 1) := by decide +kernel
theorem dX6_arrive_143 : decode cX6_arrive 143 = .ok (.getfield 69, 3) := by decide +kernel
theorem dX6_arrive_146 : decode cX6_arrive 146 = .ok (.aload 4, 2) := by decide +kernel
theorem dX6_arrive_148 : decode cX6_arrive 148 = .ok (.getfield 39, 3) := by decide +kernel
theorem dX6_arrive_151 : decode cX6_arrive 151 = .ok (.iload_n 1, 1) := by decide +kernel
theorem dX6_arrive_152 : decode cX6_arrive 152 = .ok (.invokestatic 115, 3) := by decide +kernel
theorem dX6_arrive_155 : decode cX6_arrive 155 = .ok (.iload 7, 2) := by decide +kernel
theorem dX6_arrive_157 : decode cX6_arrive 157 = .ok (.invokevirtual 131, 3) := by decide +kernel
theorem dX6_arrive_160 : decode cX6_arrive 160 = .ok (.ifCond .eq 7, 3) := by decide +kernel
theorem dX6_arrive_163 : decode cX6_arrive 163 = .ok (.iconst 0, 1) := by decide +kernel
theorem dX6_arrive_164 : decode cX6_arrive 164 = .ok (.goto 4, 3) := by decide +kernel
theorem dX6_arrive_167 : decode cX6_arrive 167 = .ok (.iconst 1, 1) := by decide +kernel
theorem dX6_arrive_168 : decode cX6_arrive 168 = .ok (.iadd, 1) := by decide +kernel
theorem dX6_arrive_169 : decode cX6_arrive 169 = .ok (.putfield 69, 3) := by decide +kernel
theorem dX6_arrive_172 : decode cX6_arrive 172 = .ok (.aload_n 0, 1) := by decide +kernel
theorem dX6_arrive_173 : decode cX6_arrive 173 = .ok (.iload_n 3, 1) := by decide +kernel
theorem dX6_arrive_174 : decode cX6_arrive 174 = .ok (.invokevirtual 135, 3) := by decide +kernel
theorem dX6_arrive_177 : decode cX6_arrive 177 = .ok (.return_, 1) := by decide +kernel
set_option maxRecDepth 20000 in
theorem ggX6_letTimersRunOut_X1_runOut : GoodIn wsX6_letTimersRunOut wsX1_runOut := goodIn_r _ [11, 12, 13, 14, 15, 16, 17, 18, 19, 20, 21, 22, 23, 24, 25, 26, 27, 28, 29, 30, 31, 32, 10, 33, 34, 35, 36, 37, 38, 39, 40, 111, 112, 113, 114, 115, 116, 117, 118, 119, 120, 121, 122, 123, 124, 125, 126, 127, 128, 129] (by decide +kernel) (by decide +kernel)
set_option maxRecDepth 20000 in
theorem gX6_letTimersRunOut_X1_runOut : GoodIn wsX6_letTimersRunOut (wsV RX6 141 RX1 yX1_runOut wsX1_runOut) := goodIn_app (goodIn_of _ (by decide +kernel)) ggX6_letTimersRunOut_X1_runOut
set_option maxRecDepth 20000 in
theorem ggX6_letTimersRunOut_X6_sendHello : GoodIn wsX6_letTimersRunOut wsX6_sendHello := goodIn_r _ [45, 2, 46, 47, 48, 49, 50, 51, 52, 53, 54, 44, 55, 56, 57, 58, 59, 60, 61, 62, 63, 64, 65, 66, 67, 68, 69, 70, 71, 72, 73, 74, 75, 76, 77, 78, 79, 80, 81, 82, 83, 84, 85, 86, 101, 102, 103, 104, 105, 106, 107, 108, 109, 110, 130, 131, 132, 133, 134, 135, 136, 137, 138, 139, 140, 141, 142, 143, 144, 145] (by decide +kernel) (by decide +kernel)
set_option maxRecDepth 20000 in
theorem gX6_letTimersRunOut_X6_sendHello : GoodIn wsX6_letTimersRunOut (wsV RX6 61 RX6 yX6_sendHello wsX6_sendHello) := goodIn_app (goodIn_of _ (by decide +kernel)) ggX6_letTimersRunOut_X6_sendHello
set_option maxRecDepth 20000 in
theorem ggX6_letTimersRunOut_X1_baseAgain : GoodIn wsX6_letTimersRunOut wsX1_baseAgain := goodIn_r _ [90, 91, 15, 36, 92, 93, 94, 22, 95, 29, 111, 112, 113, 114, 115, 116, 117, 118, 119, 120, 121, 122, 123, 124, 125, 126, 127, 128, 129] (by decide +kernel) (by decide +kernel)
set_option maxRecDepth 20000 in
theorem gX6_letTimersRunOut_X1_baseAgain : GoodIn wsX6_letTimersRunOut (wsV RX6 125 RX1 yX1_baseAgain wsX1_baseAgain) := goodIn_app (goodIn_of _ (by decide +kernel)) ggX6_letTimersRunOut_X1_baseAgain
set_option maxRecDepth 20000 in
theorem ggX6_letTimersRunOut_X6_sendThing : GoodIn wsX6_letTimersRunOut wsX6_sendThing := goodIn_r _ [99, 2, 3, 100, 46, 47, 48, 49, 50, 51, 52, 53, 54, 44, 55, 56, 57, 58, 59, 60, 61, 62, 63, 64, 65, 66, 67, 68, 69, 70, 71, 72, 73, 74, 75, 76, 77, 78, 79, 80, 81, 82, 83, 84, 85, 86, 101, 102, 103, 104, 105, 106, 107, 108, 109, 110, 111, 112, 113, 114, 115, 116, 117, 118, 119, 120, 121, 122, 123, 124, 130, 131, 132, 133, 134, 135, 136, 137, 138, 139, 140, 141, 142, 143, 144, 145] (by decide +kernel) (by decide +kernel)
set_option maxRecDepth 20000 in
theorem gX6_letTimersRunOut_X6_sendThing : GoodIn wsX6_letTimersRunOut (wsV RX6 128 RX6 yX6_sendThing wsX6_sendThing) := goodIn_app (goodIn_of _ (by decide +kernel)) ggX6_letTimersRunOut_X6_sendThing
theorem dX6_letTimersRunOut_0 : decode cX6_letTimersRunOut 0 = .ok (.iconst 0, 1) := by decide +kernel
theorem dX6_letTimersRunOut_1 : decode cX6_letTimersRunOut 1 = .ok (.istore_n 1, 1) := by decide +kernel
theorem dX6_letTimersRunOut_2 : decode cX6_letTimersRunOut 2 = .ok (.iload_n 1, 1) := by decide +kernel
theorem dX6_letTimersRunOut_3 : decode cX6_letTimersRunOut 3 = .ok (.aload_n 0, 1) := by decide +kernel
theorem dX6_letTimersRunOut_4 : decode cX6_letTimersRunOut 4 = .ok (.getfield 29, 3) := by decide +kernel
theorem dX6_letTimersRunOut_7 : decode cX6_letTimersRunOut 7 = .ok (.if_icmp .ge 65, 3) := by decide +kernel
theorem dX6_letTimersRunOut_10 : decode cX6_letTimersRunOut 10 = .ok (.aload_n 0, 1) := by decide +kernel
theorem dX6_letTimersRunOut_11 : decode cX6_letTimersRunOut 11 = .ok (.getfield 19, 3) := by decide +kernel
theorem dX6_letTimersRunOut_14 : decode cX6_letTimersRunOut 14 = .ok (.iload_n 1, 1) := by decide +kernel
theorem dX6_letTimersRunOut_15 : decode cX6_letTimersRunOut 15 = .ok (.aaload, 1) := by decide +kernel
theorem dX6_letTimersRunOut_16 : decode cX6_letTimersRunOut 16 = .ok (.getfield 48, 3) := by decide +kernel
theorem dX6_letTimersRunOut_19 : decode cX6_letTimersRunOut 19 = .ok (.astore_n 2, 1) := by decide +kernel
theorem dX6_letTimersRunOut_20 : decode cX6_letTimersRunOut 20 = .ok (.aload_n 2, 1) := by decide +kernel
theorem dX6_letTimersRunOut_21 : decode cX6_letTimersRunOut 21 = .ok (.getfield 138, 3) := by decide +kernel
theorem dX6_letTimersRunOut_24 : decode cX6_letTimersRunOut 24 = .ok (.aload_n 0, 1) := by decide +kernel
theorem dX6_letTimersRunOut_25 : decode cX6_letTimersRunOut 25 = .ok (.getfield 52, 3) := by decide +kernel
theorem dX6_letTimersRunOut_28 : decode cX6_letTimersRunOut 28 = .ok (.if_icmp .ne 38, 3) := by decide +kernel
theorem dX6_letTimersRunOut_31 : decode cX6_letTimersRunOut 31 = .ok (.aload_n 2, 1) := by decide +kernel
theorem dX6_letTimersRunOut_32 : decode cX6_letTimersRunOut 32 = .ok (.aload_n 0, 1) := by decide +kernel
theorem dX6_letTimersRunOut_33 : decode cX6_letTimersRunOut 33 = .ok (.getfield 52, 3) := by decide +kernel
theorem dX6_letTimersRunOut_36 : decode cX6_letTimersRunOut 36 = .ok (.invokevirtual 141, 3) := by decide +kernel
theorem dX6_letTimersRunOut_39 : decode cX6_letTimersRunOut 39 = .ok (.ifCond .eq 27, 3) := by decide +kernel
theorem dX6_letTimersRunOut_42 : decode cX6_letTimersRunOut 42 = .ok (.aload_n 2, 1) := by decide +kernel
theorem dX6_letTimersRunOut_43 : decode cX6_letTimersRunOut 43 = .ok (.getfield 145, 3) := by decide +kernel
theorem dX6_letTimersRunOut_46 : decode cX6_letTimersRunOut 46 = .ok (.ifCond .ne 11, 3) := by decide +kernel
theorem dX6_letTimersRunOut_49 : decode cX6_letTimersRunOut 49 = .ok (.aload_n 0, 1) := by decide +kernel
theorem dX6_letTimersRunOut_50 : decode cX6_letTimersRunOut 50 = .ok (.iload_n 1, 1) := by decide +kernel
theorem dX6_letTimersRunOut_51 : decode cX6_letTimersRunOut 51 = .ok (.invokevirtual 61, 3) := by decide +kernel
theorem dX6_letTimersRunOut_54 : decode cX6_letTimersRunOut 54 = .ok (.goto 12, 3) := by decide +kernel
theorem dX6_letTimersRunOut_57 : decode cX6_letTimersRunOut 57 = .ok (.aload_n 0, 1) := by decide +kernel
theorem dX6_letTimersRunOut_58 : decode cX6_letTimersRunOut 58 = .ok (.iload_n 1, 1) := by decide +kernel
theorem dX6_letTimersRunOut_59 : decode cX6_letTimersRunOut 59 = .ok (.aload_n 2, 1) := by decide +kernel
theorem dX6_letTimersRunOut_60 : decode cX6_letTimersRunOut 60 = .ok (.invokevirtual 125, 3) := by decide +kernel
theorem dX6_letTimersRunOut_63 : decode cX6_letTimersRunOut 63 = .ok (.invokevirtual 128, 3) := by decide +kernel
theorem dX6_letTimersRunOut_66 : decode cX6_letTimersRunOut 66 = .ok (.iinc 1 1, 3) := by decide +kernel
theorem dX6_letTimersRunOut_69 : decode cX6_letTimersRunOut 69 = .ok (.goto (-67), 3) := by decide +kernel
theorem dX6_letTimersRunOut_72 : decode cX6_letTimersRunOut 72 = .ok (.return_, 1) := by decide +kernel
set_option maxRecDepth 20000 in
theorem ggX6_letCallersSend_X1_maySend : GoodIn wsX6_letCallersSend wsX1_maySend := goodIn_r _ [10, 11, 12, 13, 14, 15, 16, 17, 18, 19, 9, 20, 21, 93, 94, 95, 96, 97, 98, 99, 100, 101, 102, 103, 104, 105, 106] (by decide +kernel) (by decide +kernel)
set_option maxRecDepth 20000 in
theorem gX6_letCallersSend_X1_maySend : GoodIn wsX6_letCallersSend (wsV RX6 148 RX1 yX1_maySend wsX1_maySend) := goodIn_app (goodIn_of _ (by decide +kernel)) ggX6_letCallersSend_X1_maySend
set_option maxRecDepth 20000 in
theorem ggX6_letCallersSend_X6_sendThing : GoodIn wsX6_letCallersSend wsX6_sendThing := goodIn_r _ [26, 2, 3, 27, 28, 29, 30, 31, 32, 33, 34, 35, 36, 25, 37, 38, 39, 40, 41, 42, 43, 44, 45, 46, 47, 48, 49, 50, 51, 52, 53, 54, 55, 56, 57, 58, 59, 60, 61, 62, 63, 64, 65, 66, 67, 68, 83, 84, 85, 86, 87, 88, 89, 90, 91, 92, 93, 94, 95, 96, 97, 98, 99, 100, 101, 102, 103, 104, 105, 106, 107, 108, 109, 110, 111, 112, 113, 114, 115, 116, 117, 118, 119, 120, 121, 122] (by decide +kernel) (by decide +kernel)
set_option maxRecDepth 20000 in
theorem gX6_letCallersSend_X6_sendThing : GoodIn wsX6_letCallersSend (wsV RX6 128 RX6 yX6_sendThing wsX6_sendThing) := goodIn_app (goodIn_of _ (by decide +kernel)) ggX6_letCallersSend_X6_sendThing
set_option maxRecDepth 20000 in
theorem ggX6_letCallersSend_X1_sent : GoodIn wsX6_letCallersSend wsX1_sent := goodIn_r _ [72, 73, 11, 74, 75, 76, 77, 78, 79, 80, 81, 82, 93, 94, 95, 96, 97, 98, 99, 100, 101, 102, 103, 104, 105, 106, 123, 124, 125, 126, 127] (by decide +kernel) (by decide +kernel)
set_option maxRecDepth 20000 in
theorem gX6_letCallersSend_X1_sent : GoodIn wsX6_letCallersSend (wsV RX6 155 RX1 yX1_sent wsX1_sent) := goodIn_app (goodIn_of _ (by decide +kernel)) ggX6_letCallersSend_X1_sent
theorem dX6_letCallersSend_0 : decode cX6_letCallersSend 0 = .ok (.iconst 0, 1) := by decide +kernel
theorem dX6_letCallersSend_1 : decode cX6_letCallersSend 1 = .ok (.istore_n 1, 1) := by decide +kernel
theorem dX6_letCallersSend_2 : decode cX6_letCallersSend 2 = .ok (.iload_n 1, 1) := by decide +kernel
theorem dX6_letCallersSend_3 : decode cX6_letCallersSend 3 = .ok (.aload_n 0, 1) := by decide +kernel
theorem dX6_letCallersSend_4 : decode cX6_letCallersSend 4 = .ok (.getfield 29, 3) := by decide +kernel
theorem dX6_letCallersSend_7 : decode cX6_letCallersSend 7 = .ok (.if_icmp .ge 58, 3) := by decide +kernel
theorem dX6_letCallersSend_10 : decode cX6_letCallersSend 10 = .ok (.aload_n 0, 1) := by decide +kernel
theorem dX6_letCallersSend_11 : decode cX6_letCallersSend 11 = .ok (.getfield 19, 3) := by decide +kernel
theorem dX6_letCallersSend_14 : decode cX6_letCallersSend 14 = .ok (.iload_n 1, 1) := by decide +kernel
theorem dX6_letCallersSend_15 : decode cX6_letCallersSend 15 = .ok (.aaload, 1) := by decide +kernel
theorem dX6_letCallersSend_16 : decode cX6_letCallersSend 16 = .ok (.getfield 48, 3) := by decide +kernel
theorem dX6_letCallersSend_19 : decode cX6_letCallersSend 19 = .ok (.astore_n 2, 1) := by decide +kernel
theorem dX6_letCallersSend_20 : decode cX6_letCallersSend 20 = .ok (.iconst 0, 1) := by decide +kernel
theorem dX6_letCallersSend_21 : decode cX6_letCallersSend 21 = .ok (.istore_n 3, 1) := by decide +kernel
theorem dX6_letCallersSend_22 : decode cX6_letCallersSend 22 = .ok (.iload_n 3, 1) := by decide +kernel
theorem dX6_letCallersSend_23 : decode cX6_letCallersSend 23 = .ok (.sipush 201, 3) := by decide +kernel
theorem dX6_letCallersSend_26 : decode cX6_letCallersSend 26 = .ok (.if_icmp .ge 33, 3) := by decide +kernel
theorem dX6_letCallersSend_29 : decode cX6_letCallersSend 29 = .ok (.aload_n 2, 1) := by decide +kernel
theorem dX6_letCallersSend_30 : decode cX6_letCallersSend 30 = .ok (.invokevirtual 148, 3) := by decide +kernel
theorem dX6_letCallersSend_33 : decode cX6_letCallersSend 33 = .ok (.ifCond .eq 26, 3) := by decide +kernel
theorem dX6_letCallersSend_36 : decode cX6_letCallersSend 36 = .ok (.aload_n 0, 1) := by decide +kernel
theorem dX6_letCallersSend_37 : decode cX6_letCallersSend 37 = .ok (.iload_n 1, 1) := by decide +kernel
theorem dX6_letCallersSend_38 : decode cX6_letCallersSend 38 = .ok (.aload_n 2, 1) := by decide +kernel
theorem dX6_letCallersSend_39 : decode cX6_letCallersSend 39 = .ok (.getfield 152, 3) := by decide +kernel
theorem dX6_letCallersSend_42 : decode cX6_letCallersSend 42 = .ok (.invokevirtual 128, 3) := by decide +kernel
theorem dX6_letCallersSend_45 : decode cX6_letCallersSend 45 = .ok (.aload_n 2, 1) := by decide +kernel
theorem dX6_letCallersSend_46 : decode cX6_letCallersSend 46 = .ok (.aload_n 0, 1) := by decide +kernel
theorem dX6_letCallersSend_47 : decode cX6_letCallersSend 47 = .ok (.getfield 52, 3) := by decide +kernel
theorem dX6_letCallersSend_50 : decode cX6_letCallersSend 50 = .ok (.invokevirtual 155, 3) := by decide +kernel
theorem dX6_letCallersSend_53 : decode cX6_letCallersSend 53 = .ok (.iinc 3 1, 3) := by decide +kernel
theorem dX6_letCallersSend_56 : decode cX6_letCallersSend 56 = .ok (.goto (-34), 3) := by decide +kernel
theorem dX6_letCallersSend_59 : decode cX6_letCallersSend 59 = .ok (.iinc 1 1, 3) := by decide +kernel
theorem dX6_letCallersSend_62 : decode cX6_letCallersSend 62 = .ok (.goto (-60), 3) := by decide +kernel
theorem dX6_letCallersSend_65 : decode cX6_letCallersSend 65 = .ok (.return_, 1) := by decide +kernel
set_option maxRecDepth 20000 in
theorem ggX6_letTakeOff_X7_takeOff : GoodIn wsX6_letTakeOff wsX7_takeOff := goodIn_r _ [12, 13, 14, 15, 16, 17, 18, 19, 20, 21, 22, 23, 24, 40, 41, 42, 43, 44, 45, 46] (by decide +kernel) (by decide +kernel)
set_option maxRecDepth 20000 in
theorem gX6_letTakeOff_X7_takeOff : GoodIn wsX6_letTakeOff (wsV RX6 165 RX7 yX7_takeOff wsX7_takeOff) := goodIn_app (goodIn_of _ (by decide +kernel)) ggX6_letTakeOff_X7_takeOff
theorem dX6_letTakeOff_0 : decode cX6_letTakeOff 0 = .ok (.iconst 0, 1) := by decide +kernel
theorem dX6_letTakeOff_1 : decode cX6_letTakeOff 1 = .ok (.istore_n 1, 1) := by decide +kernel
theorem dX6_letTakeOff_2 : decode cX6_letTakeOff 2 = .ok (.iload_n 1, 1) := by decide +kernel
theorem dX6_letTakeOff_3 : decode cX6_letTakeOff 3 = .ok (.aload_n 0, 1) := by decide +kernel
theorem dX6_letTakeOff_4 : decode cX6_letTakeOff 4 = .ok (.getfield 23, 3) := by decide +kernel
theorem dX6_letTakeOff_7 : decode cX6_letTakeOff 7 = .ok (.getfield 84, 3) := by decide +kernel
theorem dX6_letTakeOff_10 : decode cX6_letTakeOff 10 = .ok (.if_icmp .ge 96, 3) := by decide +kernel
theorem dX6_letTakeOff_13 : decode cX6_letTakeOff 13 = .ok (.aload_n 0, 1) := by decide +kernel
theorem dX6_letTakeOff_14 : decode cX6_letTakeOff 14 = .ok (.getfield 23, 3) := by decide +kernel
theorem dX6_letTakeOff_17 : decode cX6_letTakeOff 17 = .ok (.getfield 158, 3) := by decide +kernel
theorem dX6_letTakeOff_20 : decode cX6_letTakeOff 20 = .ok (.iload_n 1, 1) := by decide +kernel
theorem dX6_letTakeOff_21 : decode cX6_letTakeOff 21 = .ok (.baload, 1) := by decide +kernel
theorem dX6_letTakeOff_22 : decode cX6_letTakeOff 22 = .ok (.ifCond .eq 78, 3) := by decide +kernel
theorem dX6_letTakeOff_25 : decode cX6_letTakeOff 25 = .ok (.aload_n 0, 1) := by decide +kernel
theorem dX6_letTakeOff_26 : decode cX6_letTakeOff 26 = .ok (.getfield 52, 3) := by decide +kernel
theorem dX6_letTakeOff_29 : decode cX6_letTakeOff 29 = .ok (.aload_n 0, 1) := by decide +kernel
theorem dX6_letTakeOff_30 : decode cX6_letTakeOff 30 = .ok (.getfield 23, 3) := by decide +kernel
theorem dX6_letTakeOff_33 : decode cX6_letTakeOff 33 = .ok (.getfield 162, 3) := by decide +kernel
theorem dX6_letTakeOff_36 : decode cX6_letTakeOff 36 = .ok (.iload_n 1, 1) := by decide +kernel
theorem dX6_letTakeOff_37 : decode cX6_letTakeOff 37 = .ok (.iaload, 1) := by decide +kernel
theorem dX6_letTakeOff_38 : decode cX6_letTakeOff 38 = .ok (.iadd, 1) := by decide +kernel
theorem dX6_letTakeOff_39 : decode cX6_letTakeOff 39 = .ok (.istore_n 2, 1) := by decide +kernel
theorem dX6_letTakeOff_40 : decode cX6_letTakeOff 40 = .ok (.aload_n 0, 1) := by decide +kernel
theorem dX6_letTakeOff_41 : decode cX6_letTakeOff 41 = .ok (.dup, 1) := by decide +kernel
theorem dX6_letTakeOff_42 : decode cX6_letTakeOff 42 = .ok (.getfield 69, 3) := by decide +kernel
theorem dX6_letTakeOff_45 : decode cX6_letTakeOff 45 = .ok (.aload_n 0, 1) := by decide +kernel
theorem dX6_letTakeOff_46 : decode cX6_letTakeOff 46 = .ok (.getfield 11, 3) := by decide +kernel
theorem dX6_letTakeOff_49 : decode cX6_letTakeOff 49 = .ok (.iconst 2, 1) := by decide +kernel
theorem dX6_letTakeOff_50 : decode cX6_letTakeOff 50 = .ok (.iload_n 1, 1) := by decide +kernel
theorem dX6_letTakeOff_51 : decode cX6_letTakeOff 51 = .ok (.imul, 1) := by decide +kernel
theorem dX6_letTakeOff_52 : decode cX6_letTakeOff 52 = .ok (.aaload, 1) := by decide +kernel
theorem dX6_letTakeOff_53 : decode cX6_letTakeOff 53 = .ok (.iload_n 2, 1) := by decide +kernel
theorem dX6_letTakeOff_54 : decode cX6_letTakeOff 54 = .ok (.invokevirtual 165, 3) := by decide +kernel
theorem dX6_letTakeOff_57 : decode cX6_letTakeOff 57 = .ok (.ifCond .eq 7, 3) := by decide +kernel
theorem dX6_letTakeOff_60 : decode cX6_letTakeOff 60 = .ok (.iconst 1, 1) := by decide +kernel
theorem dX6_letTakeOff_61 : decode cX6_letTakeOff 61 = .ok (.goto 4, 3) := by decide +kernel
theorem dX6_letTakeOff_64 : decode cX6_letTakeOff 64 = .ok (.iconst 0, 1) := by decide +kernel
theorem dX6_letTakeOff_65 : decode cX6_letTakeOff 65 = .ok (.iadd, 1) := by decide +kernel
theorem dX6_letTakeOff_66 : decode cX6_letTakeOff 66 = .ok (.putfield 69, 3) := by decide +kernel
theorem dX6_letTakeOff_69 : decode cX6_letTakeOff 69 = .ok (.aload_n 0, 1) := by decide +kernel
theorem dX6_letTakeOff_70 : decode cX6_letTakeOff 70 = .ok (.dup, 1) := by decide +kernel
theorem dX6_letTakeOff_71 : decode cX6_letTakeOff 71 = .ok (.getfield 69, 3) := by decide +kernel
theorem dX6_letTakeOff_74 : decode cX6_letTakeOff 74 = .ok (.aload_n 0, 1) := by decide +kernel
theorem dX6_letTakeOff_75 : decode cX6_letTakeOff 75 = .ok (.getfield 11, 3) := by decide +kernel
theorem dX6_letTakeOff_78 : decode cX6_letTakeOff 78 = .ok (.iconst 2, 1) := by decide +kernel
theorem dX6_letTakeOff_79 : decode cX6_letTakeOff 79 = .ok (.iload_n 1, 1) := by decide +kernel
theorem dX6_letTakeOff_80 : decode cX6_letTakeOff 80 = .ok (.imul, 1) := by decide +kernel
theorem dX6_letTakeOff_81 : decode cX6_letTakeOff 81 = .ok (.iconst 1, 1) := by decide +kernel
theorem dX6_letTakeOff_82 : decode cX6_letTakeOff 82 = .ok (.iadd, 1) := by decide +kernel
theorem dX6_letTakeOff_83 : decode cX6_letTakeOff 83 = .ok (.aaload, 1) := by decide +kernel
theorem dX6_letTakeOff_84 : decode cX6_letTakeOff 84 = .ok (.iload_n 2, 1) := by decide +kernel
theorem dX6_letTakeOff_85 : decode cX6_letTakeOff 85 = .ok (.invokevirtual 165, 3) := by decide +kernel
theorem dX6_letTakeOff_88 : decode cX6_letTakeOff 88 = .ok (.ifCond .eq 7, 3) := by decide +kernel
theorem dX6_letTakeOff_91 : decode cX6_letTakeOff 91 = .ok (.iconst 1, 1) := by decide +kernel
theorem dX6_letTakeOff_92 : decode cX6_letTakeOff 92 = .ok (.goto 4, 3) := by decide +kernel
theorem dX6_letTakeOff_95 : decode cX6_letTakeOff 95 = .ok (.iconst 0, 1) := by decide +kernel
theorem dX6_letTakeOff_96 : decode cX6_letTakeOff 96 = .ok (.iadd, 1) := by decide +kernel
theorem dX6_letTakeOff_97 : decode cX6_letTakeOff 97 = .ok (.putfield 69, 3) := by decide +kernel
theorem dX6_letTakeOff_100 : decode cX6_letTakeOff 100 = .ok (.iinc 1 1, 3) := by decide +kernel
theorem dX6_letTakeOff_103 : decode cX6_letTakeOff 103 = .ok (.goto (-101), 3) := by decide +kernel
theorem dX6_letTakeOff_106 : decode cX6_letTakeOff 106 = .ok (.return_, 1) := by decide +kernel
set_option maxRecDepth 20000 in
theorem ggX6_sendHello_X4_of : GoodIn wsX6_sendHello wsX4_of := goodIn_r _ [7] (by decide +kernel) (by decide +kernel)
set_option maxRecDepth 20000 in
theorem gX6_sendHello_X4_of : GoodIn wsX6_sendHello (va_wsS RX6 168 yX4_of wsX4_of) := goodIn_app (goodIn_of _ (by decide +kernel)) ggX6_sendHello_X4_of
set_option maxRecDepth 20000 in
theorem ggX6_sendHello_X6_send : GoodIn wsX6_sendHello wsX6_send := goodIn_r _ [12, 13, 14, 15, 16, 17, 18, 19, 20, 21, 22, 23, 24, 25, 26, 27, 28, 29, 30, 31, 32, 33, 34, 6, 35, 36, 37, 38, 39, 40, 41, 42, 43, 44, 45, 46, 47, 48, 49, 54, 55, 56, 57, 58, 59, 60, 61, 62, 63, 64, 65, 66, 67, 68, 69] (by decide +kernel) (by decide +kernel)
set_option maxRecDepth 20000 in
theorem gX6_sendHello_X6_send : GoodIn wsX6_sendHello (wsV RX6 111 RX6 yX6_send wsX6_send) := goodIn_app (goodIn_of _ (by decide +kernel)) ggX6_sendHello_X6_send
theorem dX6_sendHello_0 : decode cX6_sendHello 0 = .ok (.aload_n 0, 1) := by decide +kernel
theorem dX6_sendHello_1 : decode cX6_sendHello 1 = .ok (.getfield 19, 3) := by decide +kernel
theorem dX6_sendHello_4 : decode cX6_sendHello 4 = .ok (.iload_n 1, 1) := by decide +kernel
theorem dX6_sendHello_5 : decode cX6_sendHello 5 = .ok (.aaload, 1) := by decide +kernel
theorem dX6_sendHello_6 : decode cX6_sendHello 6 = .ok (.astore_n 2, 1) := by decide +kernel
theorem dX6_sendHello_7 : decode cX6_sendHello 7 = .ok (.iload_n 1, 1) := by decide +kernel
theorem dX6_sendHello_8 : decode cX6_sendHello 8 = .ok (.iconst 0, 1) := by decide +kernel
theorem dX6_sendHello_9 : decode cX6_sendHello 9 = .ok (.iconst 0, 1) := by decide +kernel
theorem dX6_sendHello_10 : decode cX6_sendHello 10 = .ok (.iconst 0, 1) := by decide +kernel
theorem dX6_sendHello_11 : decode cX6_sendHello 11 = .ok (.invokestatic 168, 3) := by decide +kernel
theorem dX6_sendHello_14 : decode cX6_sendHello 14 = .ok (.istore_n 3, 1) := by decide +kernel
theorem dX6_sendHello_15 : decode cX6_sendHello 15 = .ok (.aload_n 0, 1) := by decide +kernel
theorem dX6_sendHello_16 : decode cX6_sendHello 16 = .ok (.iload_n 3, 1) := by decide +kernel
theorem dX6_sendHello_17 : decode cX6_sendHello 17 = .ok (.aload_n 2, 1) := by decide +kernel
theorem dX6_sendHello_18 : decode cX6_sendHello 18 = .ok (.getfield 33, 3) := by decide +kernel
theorem dX6_sendHello_21 : decode cX6_sendHello 21 = .ok (.aload_n 2, 1) := by decide +kernel
theorem dX6_sendHello_22 : decode cX6_sendHello 22 = .ok (.getfield 36, 3) := by decide +kernel
theorem dX6_sendHello_25 : decode cX6_sendHello 25 = .ok (.invokevirtual 111, 3) := by decide +kernel
theorem dX6_sendHello_28 : decode cX6_sendHello 28 = .ok (.return_, 1) := by decide +kernel
set_option maxRecDepth 20000 in
theorem ggX6_sendThing_X4_of : GoodIn wsX6_sendThing wsX4_of := goodIn_r _ [9] (by decide +kernel) (by decide +kernel)
set_option maxRecDepth 20000 in
theorem gX6_sendThing_X4_of : GoodIn wsX6_sendThing (va_wsS RX6 168 yX4_of wsX4_of) := goodIn_app (goodIn_of _ (by decide +kernel)) ggX6_sendThing_X4_of
set_option maxRecDepth 20000 in
theorem ggX6_sendThing_X6_send : GoodIn wsX6_sendThing wsX6_send := goodIn_r _ [14, 15, 16, 17, 18, 19, 20, 21, 22, 23, 24, 25, 26, 27, 28, 29, 30, 31, 32, 33, 34, 35, 36, 8, 37, 38, 39, 40, 41, 42, 43, 44, 45, 46, 47, 48, 49, 50, 51, 70, 71, 72, 73, 74, 75, 76, 77, 78, 79, 80, 81, 82, 83, 84, 85] (by decide +kernel) (by decide +kernel)
set_option maxRecDepth 20000 in
theorem gX6_sendThing_X6_send : GoodIn wsX6_sendThing (wsV RX6 111 RX6 yX6_send wsX6_send) := goodIn_app (goodIn_of _ (by decide +kernel)) ggX6_sendThing_X6_send
theorem dX6_sendThing_0 : decode cX6_sendThing 0 = .ok (.aload_n 0, 1) := by decide +kernel
theorem dX6_sendThing_1 : decode cX6_sendThing 1 = .ok (.getfield 19, 3) := by decide +kernel
theorem dX6_sendThing_4 : decode cX6_sendThing 4 = .ok (.iload_n 1, 1) := by decide +kernel
theorem dX6_sendThing_5 : decode cX6_sendThing 5 = .ok (.aaload, 1) := by decide +kernel
theorem dX6_sendThing_6 : decode cX6_sendThing 6 = .ok (.astore_n 3, 1) := by decide +kernel
theorem dX6_sendThing_7 : decode cX6_sendThing 7 = .ok (.iload_n 2, 1) := by decide +kernel
theorem dX6_sendThing_8 : decode cX6_sendThing 8 = .ok (.aload_n 3, 1) := by decide +kernel
theorem dX6_sendThing_9 : decode cX6_sendThing 9 = .ok (.getfield 48, 3) := by decide +kernel
theorem dX6_sendThing_12 : decode cX6_sendThing 12 = .ok (.getfield 172, 3) := by decide +kernel
theorem dX6_sendThing_15 : decode cX6_sendThing 15 = .ok (.if_icmp .ge 7, 3) := by decide +kernel
theorem dX6_sendThing_18 : decode cX6_sendThing 18 = .ok (.iconst 1, 1) := by decide +kernel
theorem dX6_sendThing_19 : decode cX6_sendThing 19 = .ok (.goto 4, 3) := by decide +kernel
theorem dX6_sendThing_22 : decode cX6_sendThing 22 = .ok (.iconst 2, 1) := by decide +kernel
theorem dX6_sendThing_23 : decode cX6_sendThing 23 = .ok (.istore 4, 2) := by decide +kernel
theorem dX6_sendThing_25 : decode cX6_sendThing 25 = .ok (.iload_n 1, 1) := by decide +kernel
theorem dX6_sendThing_26 : decode cX6_sendThing 26 = .ok (.iload 4, 2) := by decide +kernel
theorem dX6_sendThing_28 : decode cX6_sendThing 28 = .ok (.iload_n 2, 1) := by decide +kernel
theorem dX6_sendThing_29 : decode cX6_sendThing 29 = .ok (.iconst 0, 1) := by decide +kernel
theorem dX6_sendThing_30 : decode cX6_sendThing 30 = .ok (.invokestatic 168, 3) := by decide +kernel
theorem dX6_sendThing_33 : decode cX6_sendThing 33 = .ok (.istore 5, 2) := by decide +kernel
theorem dX6_sendThing_35 : decode cX6_sendThing 35 = .ok (.aload_n 0, 1) := by decide +kernel
theorem dX6_sendThing_36 : decode cX6_sendThing 36 = .ok (.iload 5, 2) := by decide +kernel
theorem dX6_sendThing_38 : decode cX6_sendThing 38 = .ok (.aload_n 3, 1) := by decide +kernel
theorem dX6_sendThing_39 : decode cX6_sendThing 39 = .ok (.getfield 33, 3) := by decide +kernel
theorem dX6_sendThing_42 : decode cX6_sendThing 42 = .ok (.aload_n 3, 1) := by decide +kernel
theorem dX6_sendThing_43 : decode cX6_sendThing 43 = .ok (.getfield 36, 3) := by decide +kernel
theorem dX6_sendThing_46 : decode cX6_sendThing 46 = .ok (.invokevirtual 111, 3) := by decide +kernel
theorem dX6_sendThing_49 : decode cX6_sendThing 49 = .ok (.return_, 1) := by decide +kernel
set_option maxRecDepth 20000 in
theorem ggX6_sendAnswer_X0_spare : GoodIn wsX6_sendAnswer wsX0_spare := goodIn_r _ [10, 11, 12, 13, 14, 15, 16, 17, 68, 69, 70, 71] (by decide +kernel) (by decide +kernel)
set_option maxRecDepth 20000 in
theorem gX6_sendAnswer_X0_spare : GoodIn wsX6_sendAnswer (wsV RX6 178 RX0 yX0_spare wsX0_spare) := goodIn_app (goodIn_of _ (by decide +kernel)) ggX6_sendAnswer_X0_spare
set_option maxRecDepth 20000 in
theorem ggX6_sendAnswer_X4_of : GoodIn wsX6_sendAnswer wsX4_of := goodIn_r _ [21] (by decide +kernel) (by decide +kernel)
set_option maxRecDepth 20000 in
theorem gX6_sendAnswer_X4_of : GoodIn wsX6_sendAnswer (va_wsS RX6 168 yX4_of wsX4_of) := goodIn_app (goodIn_of _ (by decide +kernel)) ggX6_sendAnswer_X4_of
set_option maxRecDepth 20000 in
theorem ggX6_sendAnswer_X6_send : GoodIn wsX6_sendAnswer wsX6_send := goodIn_r _ [26, 27, 28, 29, 30, 31, 32, 33, 34, 35, 36, 37, 38, 39, 40, 41, 42, 43, 44, 45, 46, 47, 48, 20, 49, 50, 51, 52, 53, 54, 55, 56, 57, 58, 59, 60, 61, 62, 63, 72, 73, 74, 75, 76, 77, 78, 79, 80, 81, 82, 83, 84, 85, 86, 87] (by decide +kernel) (by decide +kernel)
set_option maxRecDepth 20000 in
theorem gX6_sendAnswer_X6_send : GoodIn wsX6_sendAnswer (wsV RX6 111 RX6 yX6_send wsX6_send) := goodIn_app (goodIn_of _ (by decide +kernel)) ggX6_sendAnswer_X6_send
theorem dX6_sendAnswer_0 : decode cX6_sendAnswer 0 = .ok (.aload_n 0, 1) := by decide +kernel
theorem dX6_sendAnswer_1 : decode cX6_sendAnswer 1 = .ok (.getfield 19, 3) := by decide +kernel
theorem dX6_sendAnswer_4 : decode cX6_sendAnswer 4 = .ok (.iload_n 1, 1) := by decide +kernel
theorem dX6_sendAnswer_5 : decode cX6_sendAnswer 5 = .ok (.aaload, 1) := by decide +kernel
theorem dX6_sendAnswer_6 : decode cX6_sendAnswer 6 = .ok (.astore_n 2, 1) := by decide +kernel
theorem dX6_sendAnswer_7 : decode cX6_sendAnswer 7 = .ok (.aload_n 2, 1) := by decide +kernel
theorem dX6_sendAnswer_8 : decode cX6_sendAnswer 8 = .ok (.getfield 39, 3) := by decide +kernel
theorem dX6_sendAnswer_11 : decode cX6_sendAnswer 11 = .ok (.astore_n 3, 1) := by decide +kernel
theorem dX6_sendAnswer_12 : decode cX6_sendAnswer 12 = .ok (.iload_n 1, 1) := by decide +kernel
theorem dX6_sendAnswer_13 : decode cX6_sendAnswer 13 = .ok (.iconst 3, 1) := by decide +kernel
theorem dX6_sendAnswer_14 : decode cX6_sendAnswer 14 = .ok (.aload_n 3, 1) := by decide +kernel
theorem dX6_sendAnswer_15 : decode cX6_sendAnswer 15 = .ok (.getfield 175, 3) := by decide +kernel
theorem dX6_sendAnswer_18 : decode cX6_sendAnswer 18 = .ok (.aload_n 3, 1) := by decide +kernel
theorem dX6_sendAnswer_19 : decode cX6_sendAnswer 19 = .ok (.invokevirtual 178, 3) := by decide +kernel
theorem dX6_sendAnswer_22 : decode cX6_sendAnswer 22 = .ok (.invokestatic 168, 3) := by decide +kernel
theorem dX6_sendAnswer_25 : decode cX6_sendAnswer 25 = .ok (.istore 4, 2) := by decide +kernel
theorem dX6_sendAnswer_27 : decode cX6_sendAnswer 27 = .ok (.aload_n 0, 1) := by decide +kernel
theorem dX6_sendAnswer_28 : decode cX6_sendAnswer 28 = .ok (.iload 4, 2) := by decide +kernel
theorem dX6_sendAnswer_30 : decode cX6_sendAnswer 30 = .ok (.aload_n 2, 1) := by decide +kernel
theorem dX6_sendAnswer_31 : decode cX6_sendAnswer 31 = .ok (.getfield 36, 3) := by decide +kernel
theorem dX6_sendAnswer_34 : decode cX6_sendAnswer 34 = .ok (.aload_n 2, 1) := by decide +kernel
theorem dX6_sendAnswer_35 : decode cX6_sendAnswer 35 = .ok (.getfield 33, 3) := by decide +kernel
theorem dX6_sendAnswer_38 : decode cX6_sendAnswer 38 = .ok (.invokevirtual 111, 3) := by decide +kernel
theorem dX6_sendAnswer_41 : decode cX6_sendAnswer 41 = .ok (.return_, 1) := by decide +kernel
set_option maxRecDepth 20000 in
theorem ggX6_send_X3_linkTowards : GoodIn wsX6_send wsX3_linkTowards := goodIn_r _ [10, 11, 12, 13, 14, 15, 16, 17, 9, 18, 19, 20, 39, 40, 41, 42, 43, 44, 45, 46, 47] (by decide +kernel) (by decide +kernel)
set_option maxRecDepth 20000 in
theorem gX6_send_X3_linkTowards : GoodIn wsX6_send (wsV RX6 181 RX3 yX3_linkTowards wsX3_linkTowards) := goodIn_app (goodIn_of _ (by decide +kernel)) ggX6_send_X3_linkTowards
set_option maxRecDepth 20000 in
theorem ggX6_send_X4_hopsOf : GoodIn wsX6_send wsX4_hopsOf := goodIn_r _ [24] (by decide +kernel) (by decide +kernel)
set_option maxRecDepth 20000 in
theorem gX6_send_X4_hopsOf : GoodIn wsX6_send (va_wsS RX6 185 yX4_hopsOf wsX4_hopsOf) := goodIn_app (goodIn_of _ (by decide +kernel)) ggX6_send_X4_hopsOf
set_option maxRecDepth 20000 in
theorem ggX6_send_X7_join : GoodIn wsX6_send wsX7_join := goodIn_r _ [29, 30, 31, 32, 48, 49, 50, 51, 52, 53, 54] (by decide +kernel) (by decide +kernel)
set_option maxRecDepth 20000 in
theorem gX6_send_X7_join : GoodIn wsX6_send (wsV RX6 191 RX7 yX7_join wsX7_join) := goodIn_app (goodIn_of _ (by decide +kernel)) ggX6_send_X7_join
theorem dX6_send_0 : decode cX6_send 0 = .ok (.aload_n 0, 1) := by decide +kernel
theorem dX6_send_1 : decode cX6_send 1 = .ok (.getfield 23, 3) := by decide +kernel
theorem dX6_send_4 : decode cX6_send 4 = .ok (.iload_n 2, 1) := by decide +kernel
theorem dX6_send_5 : decode cX6_send 5 = .ok (.iload_n 3, 1) := by decide +kernel
theorem dX6_send_6 : decode cX6_send 6 = .ok (.invokevirtual 181, 3) := by decide +kernel
theorem dX6_send_9 : decode cX6_send 9 = .ok (.istore 4, 2) := by decide +kernel
theorem dX6_send_11 : decode cX6_send 11 = .ok (.iload 4, 2) := by decide +kernel
theorem dX6_send_13 : decode cX6_send 13 = .ok (.iconst (-1), 1) := by decide +kernel
theorem dX6_send_14 : decode cX6_send 14 = .ok (.if_icmp .eq 12, 3) := by decide +kernel
theorem dX6_send_17 : decode cX6_send 17 = .ok (.iload_n 1, 1) := by decide +kernel
theorem dX6_send_18 : decode cX6_send 18 = .ok (.invokestatic 185, 3) := by decide +kernel
theorem dX6_send_21 : decode cX6_send 21 = .ok (.bipush 16, 2) := by decide +kernel
theorem dX6_send_23 : decode cX6_send 23 = .ok (.if_icmp .lt 14, 3) := by decide +kernel
theorem dX6_send_26 : decode cX6_send 26 = .ok (.aload_n 0, 1) := by decide +kernel
theorem dX6_send_27 : decode cX6_send 27 = .ok (.dup, 1) := by decide +kernel
theorem dX6_send_28 : decode cX6_send 28 = .ok (.getfield 69, 3) := by decide +kernel
theorem dX6_send_31 : decode cX6_send 31 = .ok (.iconst 1, 1) := by decide +kernel
theorem dX6_send_32 : decode cX6_send 32 = .ok (.iadd, 1) := by decide +kernel
theorem dX6_send_33 : decode cX6_send 33 = .ok (.putfield 69, 3) := by decide +kernel
theorem dX6_send_36 : decode cX6_send 36 = .ok (.return_, 1) := by decide +kernel
theorem dX6_send_37 : decode cX6_send 37 = .ok (.aload_n 0, 1) := by decide +kernel
theorem dX6_send_38 : decode cX6_send 38 = .ok (.getfield 23, 3) := by decide +kernel
theorem dX6_send_41 : decode cX6_send 41 = .ok (.getfield 97, 3) := by decide +kernel
theorem dX6_send_44 : decode cX6_send 44 = .ok (.iload 4, 2) := by decide +kernel
theorem dX6_send_46 : decode cX6_send 46 = .ok (.iaload, 1) := by decide +kernel
theorem dX6_send_47 : decode cX6_send 47 = .ok (.iload_n 2, 1) := by decide +kernel
theorem dX6_send_48 : decode cX6_send 48 = .ok (.if_icmp .ne 7, 3) := by decide +kernel
theorem dX6_send_51 : decode cX6_send 51 = .ok (.iconst 0, 1) := by decide +kernel
theorem dX6_send_52 : decode cX6_send 52 = .ok (.goto 4, 3) := by decide +kernel
theorem dX6_send_55 : decode cX6_send 55 = .ok (.iconst 1, 1) := by decide +kernel
theorem dX6_send_56 : decode cX6_send 56 = .ok (.istore 5, 2) := by decide +kernel
theorem dX6_send_58 : decode cX6_send 58 = .ok (.aload_n 0, 1) := by decide +kernel
theorem dX6_send_59 : decode cX6_send 59 = .ok (.getfield 11, 3) := by decide +kernel
theorem dX6_send_62 : decode cX6_send 62 = .ok (.iconst 2, 1) := by decide +kernel
theorem dX6_send_63 : decode cX6_send 63 = .ok (.iload 4, 2) := by decide +kernel
theorem dX6_send_65 : decode cX6_send 65 = .ok (.imul, 1) := by decide +kernel
theorem dX6_send_66 : decode cX6_send 66 = .ok (.iload 5, 2) := by decide +kernel
theorem dX6_send_68 : decode cX6_send 68 = .ok (.iadd, 1) := by decide +kernel
theorem dX6_send_69 : decode cX6_send 69 = .ok (.aaload, 1) := by decide +kernel
theorem dX6_send_70 : decode cX6_send 70 = .ok (.iload_n 1, 1) := by decide +kernel
theorem dX6_send_71 : decode cX6_send 71 = .ok (.aload_n 0, 1) := by decide +kernel
theorem dX6_send_72 : decode cX6_send 72 = .ok (.getfield 23, 3) := by decide +kernel
theorem dX6_send_75 : decode cX6_send 75 = .ok (.getfield 188, 3) := by decide +kernel
theorem dX6_send_78 : decode cX6_send 78 = .ok (.iload 4, 2) := by decide +kernel
theorem dX6_send_80 : decode cX6_send 80 = .ok (.iaload, 1) := by decide +kernel
theorem dX6_send_81 : decode cX6_send 81 = .ok (.invokevirtual 191, 3) := by decide +kernel
theorem dX6_send_84 : decode cX6_send 84 = .ok (.ifCond .ne 13, 3) := by decide +kernel
theorem dX6_send_87 : decode cX6_send 87 = .ok (.aload_n 0, 1) := by decide +kernel
theorem dX6_send_88 : decode cX6_send 88 = .ok (.dup, 1) := by decide +kernel
theorem dX6_send_89 : decode cX6_send 89 = .ok (.getfield 69, 3) := by decide +kernel
theorem dX6_send_92 : decode cX6_send 92 = .ok (.iconst 1, 1) := by decide +kernel
theorem dX6_send_93 : decode cX6_send 93 = .ok (.iadd, 1) := by decide +kernel
theorem dX6_send_94 : decode cX6_send 94 = .ok (.putfield 69, 3) := by decide +kernel
theorem dX6_send_97 : decode cX6_send 97 = .ok (.return_, 1) := by decide +kernel
set_option maxRecDepth 20000 in
theorem ggX6_copyFrom_X7_copyFrom : GoodIn wsX6_copyFrom wsX7_copyFrom := goodIn_r _ [12, 13, 14, 15, 16, 17, 18, 19, 20, 21, 22, 23, 87, 88, 89, 90, 91, 92, 93] (by decide +kernel) (by decide +kernel)
set_option maxRecDepth 20000 in
theorem gX6_copyFrom_X7_copyFrom : GoodIn wsX6_copyFrom (wsV RX6 195 RX7 yX7_copyFrom wsX7_copyFrom) := goodIn_app (goodIn_of _ (by decide +kernel)) ggX6_copyFrom_X7_copyFrom
set_option maxRecDepth 20000 in
theorem ggX6_copyFrom_X2_copyFrom : GoodIn wsX6_copyFrom wsX2_copyFrom := goodIn_r _ [28, 29, 30, 31, 32, 33, 34, 35, 36, 37, 38, 39, 40, 41, 42, 43, 44, 45, 46, 47, 48, 49, 50, 51, 52, 53, 54, 55, 56, 57, 58, 59, 60, 61, 62, 63, 64, 65, 66, 67, 68, 69, 70, 71, 15, 16, 17, 94, 95, 96, 97, 98, 99, 100, 101, 102, 103, 104, 105, 106, 107, 108, 109, 110, 111, 112, 113, 114, 115, 116, 117, 118, 119, 120] (by decide +kernel) (by decide +kernel)
set_option maxRecDepth 20000 in
theorem gX6_copyFrom_X2_copyFrom : GoodIn wsX6_copyFrom (wsV RX6 199 RX2 yX2_copyFrom wsX2_copyFrom) := goodIn_app (goodIn_of _ (by decide +kernel)) ggX6_copyFrom_X2_copyFrom
theorem dX6_copyFrom_0 : decode cX6_copyFrom 0 = .ok (.iconst 0, 1) := by decide +kernel
theorem dX6_copyFrom_1 : decode cX6_copyFrom 1 = .ok (.istore_n 2, 1) := by decide +kernel
theorem dX6_copyFrom_2 : decode cX6_copyFrom 2 = .ok (.iload_n 2, 1) := by decide +kernel
theorem dX6_copyFrom_3 : decode cX6_copyFrom 3 = .ok (.iconst 2, 1) := by decide +kernel
theorem dX6_copyFrom_4 : decode cX6_copyFrom 4 = .ok (.aload_n 0, 1) := by decide +kernel
theorem dX6_copyFrom_5 : decode cX6_copyFrom 5 = .ok (.getfield 23, 3) := by decide +kernel
theorem dX6_copyFrom_8 : decode cX6_copyFrom 8 = .ok (.getfield 84, 3) := by decide +kernel
theorem dX6_copyFrom_11 : decode cX6_copyFrom 11 = .ok (.imul, 1) := by decide +kernel
theorem dX6_copyFrom_12 : decode cX6_copyFrom 12 = .ok (.if_icmp .ge 24, 3) := by decide +kernel
theorem dX6_copyFrom_15 : decode cX6_copyFrom 15 = .ok (.aload_n 0, 1) := by decide +kernel
theorem dX6_copyFrom_16 : decode cX6_copyFrom 16 = .ok (.getfield 11, 3) := by decide +kernel
theorem dX6_copyFrom_19 : decode cX6_copyFrom 19 = .ok (.iload_n 2, 1) := by decide +kernel
theorem dX6_copyFrom_20 : decode cX6_copyFrom 20 = .ok (.aaload, 1) := by decide +kernel
theorem dX6_copyFrom_21 : decode cX6_copyFrom 21 = .ok (.aload_n 1, 1) := by decide +kernel
theorem dX6_copyFrom_22 : decode cX6_copyFrom 22 = .ok (.getfield 11, 3) := by decide +kernel
theorem dX6_copyFrom_25 : decode cX6_copyFrom 25 = .ok (.iload_n 2, 1) := by decide +kernel
theorem dX6_copyFrom_26 : decode cX6_copyFrom 26 = .ok (.aaload, 1) := by decide +kernel
theorem dX6_copyFrom_27 : decode cX6_copyFrom 27 = .ok (.invokevirtual 195, 3) := by decide +kernel
theorem dX6_copyFrom_30 : decode cX6_copyFrom 30 = .ok (.iinc 2 1, 3) := by decide +kernel
theorem dX6_copyFrom_33 : decode cX6_copyFrom 33 = .ok (.goto (-31), 3) := by decide +kernel
theorem dX6_copyFrom_36 : decode cX6_copyFrom 36 = .ok (.iconst 0, 1) := by decide +kernel
theorem dX6_copyFrom_37 : decode cX6_copyFrom 37 = .ok (.istore_n 2, 1) := by decide +kernel
theorem dX6_copyFrom_38 : decode cX6_copyFrom 38 = .ok (.iload_n 2, 1) := by decide +kernel
theorem dX6_copyFrom_39 : decode cX6_copyFrom 39 = .ok (.aload_n 1, 1) := by decide +kernel
theorem dX6_copyFrom_40 : decode cX6_copyFrom 40 = .ok (.getfield 29, 3) := by decide +kernel
theorem dX6_copyFrom_43 : decode cX6_copyFrom 43 = .ok (.if_icmp .ge 24, 3) := by decide +kernel
theorem dX6_copyFrom_46 : decode cX6_copyFrom 46 = .ok (.aload_n 0, 1) := by decide +kernel
theorem dX6_copyFrom_47 : decode cX6_copyFrom 47 = .ok (.getfield 19, 3) := by decide +kernel
theorem dX6_copyFrom_50 : decode cX6_copyFrom 50 = .ok (.iload_n 2, 1) := by decide +kernel
theorem dX6_copyFrom_51 : decode cX6_copyFrom 51 = .ok (.aaload, 1) := by decide +kernel
theorem dX6_copyFrom_52 : decode cX6_copyFrom 52 = .ok (.aload_n 1, 1) := by decide +kernel
theorem dX6_copyFrom_53 : decode cX6_copyFrom 53 = .ok (.getfield 19, 3) := by decide +kernel
theorem dX6_copyFrom_56 : decode cX6_copyFrom 56 = .ok (.iload_n 2, 1) := by decide +kernel
theorem dX6_copyFrom_57 : decode cX6_copyFrom 57 = .ok (.aaload, 1) := by decide +kernel
theorem dX6_copyFrom_58 : decode cX6_copyFrom 58 = .ok (.invokevirtual 199, 3) := by decide +kernel
theorem dX6_copyFrom_61 : decode cX6_copyFrom 61 = .ok (.iinc 2 1, 3) := by decide +kernel
theorem dX6_copyFrom_64 : decode cX6_copyFrom 64 = .ok (.goto (-26), 3) := by decide +kernel
theorem dX6_copyFrom_67 : decode cX6_copyFrom 67 = .ok (.aload_n 0, 1) := by decide +kernel
theorem dX6_copyFrom_68 : decode cX6_copyFrom 68 = .ok (.aload_n 1, 1) := by decide +kernel
theorem dX6_copyFrom_69 : decode cX6_copyFrom 69 = .ok (.getfield 29, 3) := by decide +kernel
theorem dX6_copyFrom_72 : decode cX6_copyFrom 72 = .ok (.putfield 29, 3) := by decide +kernel
theorem dX6_copyFrom_75 : decode cX6_copyFrom 75 = .ok (.aload_n 0, 1) := by decide +kernel
theorem dX6_copyFrom_76 : decode cX6_copyFrom 76 = .ok (.aload_n 1, 1) := by decide +kernel
theorem dX6_copyFrom_77 : decode cX6_copyFrom 77 = .ok (.getfield 52, 3) := by decide +kernel
theorem dX6_copyFrom_80 : decode cX6_copyFrom 80 = .ok (.putfield 52, 3) := by decide +kernel
theorem dX6_copyFrom_83 : decode cX6_copyFrom 83 = .ok (.aload_n 0, 1) := by decide +kernel
theorem dX6_copyFrom_84 : decode cX6_copyFrom 84 = .ok (.aload_n 1, 1) := by decide +kernel
theorem dX6_copyFrom_85 : decode cX6_copyFrom 85 = .ok (.getfield 69, 3) := by decide +kernel
theorem dX6_copyFrom_88 : decode cX6_copyFrom 88 = .ok (.putfield 69, 3) := by decide +kernel
theorem dX6_copyFrom_91 : decode cX6_copyFrom 91 = .ok (.return_, 1) := by decide +kernel
