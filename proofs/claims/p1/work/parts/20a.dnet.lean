set_option maxRecDepth 20000 in
theorem ggX3_layNode_X3_measureRoutes : GoodIn wsX3_layNode wsX3_measureRoutes := goodIn_r _ [6, 1, 7, 8, 9, 10, 5, 11, 12, 13, 14, 15, 16, 17, 18, 19, 20, 21, 22, 23, 24, 25, 26, 27, 28] (by decide +kernel) (by decide +kernel)
set_option maxRecDepth 20000 in
theorem gX3_layNode_X3_measureRoutes : GoodIn wsX3_layNode (wsV RX3 40 RX3 yX3_measureRoutes wsX3_measureRoutes) := goodIn_app (goodIn_of _ (by decide +kernel)) ggX3_layNode_X3_measureRoutes
theorem dX3_layNode_0 : decode cX3_layNode 0 = .ok (.aload_n 0, 1) := by decide +kernel
theorem dX3_layNode_1 : decode cX3_layNode 1 = .ok (.dup, 1) := by decide +kernel
theorem dX3_layNode_2 : decode cX3_layNode 2 = .ok (.getfield 36, 3) := by decide +kernel
theorem dX3_layNode_5 : decode cX3_layNode 5 = .ok (.iconst 1, 1) := by decide +kernel
theorem dX3_layNode_6 : decode cX3_layNode 6 = .ok (.iadd, 1) := by decide +kernel
theorem dX3_layNode_7 : decode cX3_layNode 7 = .ok (.putfield 36, 3) := by decide +kernel
theorem dX3_layNode_10 : decode cX3_layNode 10 = .ok (.aload_n 0, 1) := by decide +kernel
theorem dX3_layNode_11 : decode cX3_layNode 11 = .ok (.invokevirtual 40, 3) := by decide +kernel
theorem dX3_layNode_14 : decode cX3_layNode 14 = .ok (.aload_n 0, 1) := by decide +kernel
theorem dX3_layNode_15 : decode cX3_layNode 15 = .ok (.getfield 36, 3) := by decide +kernel
theorem dX3_layNode_18 : decode cX3_layNode 18 = .ok (.iconst 1, 1) := by decide +kernel
theorem dX3_layNode_19 : decode cX3_layNode 19 = .ok (.isub, 1) := by decide +kernel
theorem dX3_layNode_20 : decode cX3_layNode 20 = .ok (.ireturn, 1) := by decide +kernel
set_option maxRecDepth 20000 in
theorem ggX3_measureRoutes_X3_spread : GoodIn wsX3_measureRoutes wsX3_spread := goodIn_r _ [7, 1, 8, 9, 10, 11, 12, 13, 14, 6, 15, 16, 17, 18, 19, 20, 21, 22, 23, 24] (by decide +kernel) (by decide +kernel)
set_option maxRecDepth 20000 in
theorem gX3_measureRoutes_X3_spread : GoodIn wsX3_measureRoutes (wsV RX3 50 RX3 yX3_spread wsX3_spread) := goodIn_app (goodIn_of _ (by decide +kernel)) ggX3_measureRoutes_X3_spread
theorem dX3_measureRoutes_0 : decode cX3_measureRoutes 0 = .ok (.iconst 0, 1) := by decide +kernel
theorem dX3_measureRoutes_1 : decode cX3_measureRoutes 1 = .ok (.istore_n 1, 1) := by decide +kernel
theorem dX3_measureRoutes_2 : decode cX3_measureRoutes 2 = .ok (.iload_n 1, 1) := by decide +kernel
theorem dX3_measureRoutes_3 : decode cX3_measureRoutes 3 = .ok (.aload_n 0, 1) := by decide +kernel
theorem dX3_measureRoutes_4 : decode cX3_measureRoutes 4 = .ok (.getfield 36, 3) := by decide +kernel
theorem dX3_measureRoutes_7 : decode cX3_measureRoutes 7 = .ok (.if_icmp .ge 21, 3) := by decide +kernel
theorem dX3_measureRoutes_10 : decode cX3_measureRoutes 10 = .ok (.aload_n 0, 1) := by decide +kernel
theorem dX3_measureRoutes_11 : decode cX3_measureRoutes 11 = .ok (.iload_n 1, 1) := by decide +kernel
theorem dX3_measureRoutes_12 : decode cX3_measureRoutes 12 = .ok (.iconst (-1), 1) := by decide +kernel
theorem dX3_measureRoutes_13 : decode cX3_measureRoutes 13 = .ok (.aload_n 0, 1) := by decide +kernel
theorem dX3_measureRoutes_14 : decode cX3_measureRoutes 14 = .ok (.getfield 30, 3) := by decide +kernel
theorem dX3_measureRoutes_17 : decode cX3_measureRoutes 17 = .ok (.iload_n 1, 1) := by decide +kernel
theorem dX3_measureRoutes_18 : decode cX3_measureRoutes 18 = .ok (.aaload, 1) := by decide +kernel
theorem dX3_measureRoutes_19 : decode cX3_measureRoutes 19 = .ok (.invokevirtual 50, 3) := by decide +kernel
theorem dX3_measureRoutes_22 : decode cX3_measureRoutes 22 = .ok (.iinc 1 1, 3) := by decide +kernel
theorem dX3_measureRoutes_25 : decode cX3_measureRoutes 25 = .ok (.goto (-23), 3) := by decide +kernel
theorem dX3_measureRoutes_28 : decode cX3_measureRoutes 28 = .ok (.return_, 1) := by decide +kernel
theorem dX3_spread_0 : decode cX3_spread 0 = .ok (.iconst 0, 1) := by decide +kernel
theorem dX3_spread_1 : decode cX3_spread 1 = .ok (.istore 4, 2) := by decide +kernel
theorem dX3_spread_3 : decode cX3_spread 3 = .ok (.iload 4, 2) := by decide +kernel
theorem dX3_spread_5 : decode cX3_spread 5 = .ok (.aload_n 3, 1) := by decide +kernel
theorem dX3_spread_6 : decode cX3_spread 6 = .ok (.arraylength, 1) := by decide +kernel
theorem dX3_spread_7 : decode cX3_spread 7 = .ok (.if_icmp .ge 24, 3) := by decide +kernel
theorem dX3_spread_10 : decode cX3_spread 10 = .ok (.aload_n 3, 1) := by decide +kernel
theorem dX3_spread_11 : decode cX3_spread 11 = .ok (.iload 4, 2) := by decide +kernel
theorem dX3_spread_13 : decode cX3_spread 13 = .ok (.iload 4, 2) := by decide +kernel
theorem dX3_spread_15 : decode cX3_spread 15 = .ok (.iload_n 1, 1) := by decide +kernel
theorem dX3_spread_16 : decode cX3_spread 16 = .ok (.if_icmp .ne 7, 3) := by decide +kernel
theorem dX3_spread_19 : decode cX3_spread 19 = .ok (.iconst 0, 1) := by decide +kernel
theorem dX3_spread_20 : decode cX3_spread 20 = .ok (.goto 4, 3) := by decide +kernel
theorem dX3_spread_23 : decode cX3_spread 23 = .ok (.iconst (-1), 1) := by decide +kernel
theorem dX3_spread_24 : decode cX3_spread 24 = .ok (.iastore, 1) := by decide +kernel
theorem dX3_spread_25 : decode cX3_spread 25 = .ok (.iinc 4 1, 3) := by decide +kernel
theorem dX3_spread_28 : decode cX3_spread 28 = .ok (.goto (-25), 3) := by decide +kernel
theorem dX3_spread_31 : decode cX3_spread 31 = .ok (.iconst 1, 1) := by decide +kernel
theorem dX3_spread_32 : decode cX3_spread 32 = .ok (.istore 4, 2) := by decide +kernel
theorem dX3_spread_34 : decode cX3_spread 34 = .ok (.iconst 0, 1) := by decide +kernel
theorem dX3_spread_35 : decode cX3_spread 35 = .ok (.istore 5, 2) := by decide +kernel
theorem dX3_spread_37 : decode cX3_spread 37 = .ok (.iload 5, 2) := by decide +kernel
theorem dX3_spread_39 : decode cX3_spread 39 = .ok (.aload_n 0, 1) := by decide +kernel
theorem dX3_spread_40 : decode cX3_spread 40 = .ok (.getfield 36, 3) := by decide +kernel
theorem dX3_spread_43 : decode cX3_spread 43 = .ok (.if_icmp .ge 127, 3) := by decide +kernel
theorem dX3_spread_46 : decode cX3_spread 46 = .ok (.iload 4, 2) := by decide +kernel
theorem dX3_spread_48 : decode cX3_spread 48 = .ok (.ifCond .eq 122, 3) := by decide +kernel
theorem dX3_spread_51 : decode cX3_spread 51 = .ok (.iconst 0, 1) := by decide +kernel
theorem dX3_spread_52 : decode cX3_spread 52 = .ok (.istore 4, 2) := by decide +kernel
theorem dX3_spread_54 : decode cX3_spread 54 = .ok (.iconst 0, 1) := by decide +kernel
theorem dX3_spread_55 : decode cX3_spread 55 = .ok (.istore 6, 2) := by decide +kernel
theorem dX3_spread_57 : decode cX3_spread 57 = .ok (.iload 6, 2) := by decide +kernel
theorem dX3_spread_59 : decode cX3_spread 59 = .ok (.aload_n 0, 1) := by decide +kernel
theorem dX3_spread_60 : decode cX3_spread 60 = .ok (.getfield 43, 3) := by decide +kernel
theorem dX3_spread_63 : decode cX3_spread 63 = .ok (.if_icmp .ge 101, 3) := by decide +kernel
theorem dX3_spread_66 : decode cX3_spread 66 = .ok (.aload_n 0, 1) := by decide +kernel
theorem dX3_spread_67 : decode cX3_spread 67 = .ok (.getfield 24, 3) := by decide +kernel
theorem dX3_spread_70 : decode cX3_spread 70 = .ok (.iload 6, 2) := by decide +kernel
theorem dX3_spread_72 : decode cX3_spread 72 = .ok (.baload, 1) := by decide +kernel
theorem dX3_spread_73 : decode cX3_spread 73 = .ok (.ifCond .eq 85, 3) := by decide +kernel
theorem dX3_spread_76 : decode cX3_spread 76 = .ok (.iload 6, 2) := by decide +kernel
theorem dX3_spread_78 : decode cX3_spread 78 = .ok (.iload_n 2, 1) := by decide +kernel
theorem dX3_spread_79 : decode cX3_spread 79 = .ok (.if_icmp .eq 79, 3) := by decide +kernel
theorem dX3_spread_82 : decode cX3_spread 82 = .ok (.aload_n 3, 1) := by decide +kernel
theorem dX3_spread_83 : decode cX3_spread 83 = .ok (.aload_n 0, 1) := by decide +kernel
theorem dX3_spread_84 : decode cX3_spread 84 = .ok (.getfield 9, 3) := by decide +kernel
theorem dX3_spread_87 : decode cX3_spread 87 = .ok (.iload 6, 2) := by decide +kernel
theorem dX3_spread_89 : decode cX3_spread 89 = .ok (.iaload, 1) := by decide +kernel
theorem dX3_spread_90 : decode cX3_spread 90 = .ok (.aload_n 0, 1) := by decide +kernel
theorem dX3_spread_91 : decode cX3_spread 91 = .ok (.getfield 15, 3) := by decide +kernel
theorem dX3_spread_94 : decode cX3_spread 94 = .ok (.iload 6, 2) := by decide +kernel
theorem dX3_spread_96 : decode cX3_spread 96 = .ok (.iaload, 1) := by decide +kernel
theorem dX3_spread_97 : decode cX3_spread 97 = .ok (.aload_n 0, 1) := by decide +kernel
theorem dX3_spread_98 : decode cX3_spread 98 = .ok (.getfield 18, 3) := by decide +kernel
theorem dX3_spread_101 : decode cX3_spread 101 = .ok (.iload 6, 2) := by decide +kernel
theorem dX3_spread_103 : decode cX3_spread 103 = .ok (.iaload, 1) := by decide +kernel
theorem dX3_spread_158 : decode cX3_spread 158 = .ok (.iinc 6 1, 3) := by decide +kernel
theorem dX3_spread_161 : decode cX3_spread 161 = .ok (.goto (-104), 3) := by decide +kernel
theorem dX3_spread_164 : decode cX3_spread 164 = .ok (.iinc 5 1, 3) := by decide +kernel
theorem dX3_spread_167 : decode cX3_spread 167 = .ok (.goto (-130), 3) := by decide +kernel
theorem dX3_spread_170 : decode cX3_spread 170 = .ok (.return_, 1) := by decide +kernel
