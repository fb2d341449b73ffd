set_option maxRecDepth 20000 in
theorem ggX8_addNode_X3_layNode : GoodIn wsX8_addNode wsX3_layNode := goodIn_r _ [9, 10, 11, 12, 13, 8, 14, 15, 16, 17, 18, 19, 20, 21, 22, 23, 24, 25, 26, 27, 32, 33, 34, 35, 36, 37, 38, 39, 40] (by decide +kernel) (by decide +kernel)
set_option maxRecDepth 20000 in
theorem gX8_addNode_X3_layNode : GoodIn wsX8_addNode (wsV RX8 44 RX3 yX3_layNode wsX3_layNode) := goodIn_app (goodIn_of _ (by decide +kernel)) ggX8_addNode_X3_layNode
theorem dX8_addNode_0 : decode cX8_addNode 0 = .ok (.aload_n 0, 1) := by decide +kernel
theorem dX8_addNode_1 : decode cX8_addNode 1 = .ok (.getfield 12, 3) := by decide +kernel
theorem dX8_addNode_4 : decode cX8_addNode 4 = .ok (.getfield 33, 3) := by decide +kernel
theorem dX8_addNode_7 : decode cX8_addNode 7 = .ok (.bipush 8, 2) := by decide +kernel
theorem dX8_addNode_9 : decode cX8_addNode 9 = .ok (.if_icmp .lt 13, 3) := by decide +kernel
theorem dX8_addNode_22 : decode cX8_addNode 22 = .ok (.aload_n 0, 1) := by decide +kernel
theorem dX8_addNode_23 : decode cX8_addNode 23 = .ok (.getfield 12, 3) := by decide +kernel
theorem dX8_addNode_26 : decode cX8_addNode 26 = .ok (.invokevirtual 44, 3) := by decide +kernel
theorem dX8_addNode_29 : decode cX8_addNode 29 = .ok (.ireturn, 1) := by decide +kernel
theorem dX8_clock_0 : decode cX8_clock 0 = .ok (.aload_n 0, 1) := by decide +kernel
theorem dX8_clock_1 : decode cX8_clock 1 = .ok (.getfield 21, 3) := by decide +kernel
theorem dX8_clock_4 : decode cX8_clock 4 = .ok (.getfield 168, 3) := by decide +kernel
theorem dX8_clock_7 : decode cX8_clock 7 = .ok (.ireturn, 1) := by decide +kernel
theorem dX8_nodes_0 : decode cX8_nodes 0 = .ok (.aload_n 0, 1) := by decide +kernel
theorem dX8_nodes_1 : decode cX8_nodes 1 = .ok (.getfield 12, 3) := by decide +kernel
theorem dX8_nodes_4 : decode cX8_nodes 4 = .ok (.getfield 33, 3) := by decide +kernel
theorem dX8_nodes_7 : decode cX8_nodes 7 = .ok (.ireturn, 1) := by decide +kernel
theorem dX8_links_0 : decode cX8_links 0 = .ok (.aload_n 0, 1) := by decide +kernel
theorem dX8_links_1 : decode cX8_links 1 = .ok (.getfield 12, 3) := by decide +kernel
theorem dX8_links_4 : decode cX8_links 4 = .ok (.getfield 61, 3) := by decide +kernel
theorem dX8_links_7 : decode cX8_links 7 = .ok (.ireturn, 1) := by decide +kernel
theorem dX8_lost_0 : decode cX8_lost 0 = .ok (.aload_n 0, 1) := by decide +kernel
theorem dX8_lost_1 : decode cX8_lost 1 = .ok (.getfield 21, 3) := by decide +kernel
theorem dX8_lost_4 : decode cX8_lost 4 = .ok (.getfield 186, 3) := by decide +kernel
theorem dX8_lost_7 : decode cX8_lost 7 = .ok (.ireturn, 1) := by decide +kernel
theorem dX8_underWay_0 : decode cX8_underWay 0 = .ok (.iconst 0, 1) := by decide +kernel
theorem dX8_underWay_1 : decode cX8_underWay 1 = .ok (.istore_n 1, 1) := by decide +kernel
theorem dX8_underWay_2 : decode cX8_underWay 2 = .ok (.iconst 0, 1) := by decide +kernel
theorem dX8_underWay_3 : decode cX8_underWay 3 = .ok (.istore_n 2, 1) := by decide +kernel
theorem dX8_underWay_4 : decode cX8_underWay 4 = .ok (.iload_n 2, 1) := by decide +kernel
theorem dX8_underWay_5 : decode cX8_underWay 5 = .ok (.iconst 2, 1) := by decide +kernel
theorem dX8_underWay_6 : decode cX8_underWay 6 = .ok (.aload_n 0, 1) := by decide +kernel
theorem dX8_underWay_7 : decode cX8_underWay 7 = .ok (.getfield 12, 3) := by decide +kernel
theorem dX8_underWay_10 : decode cX8_underWay 10 = .ok (.getfield 61, 3) := by decide +kernel
theorem dX8_underWay_13 : decode cX8_underWay 13 = .ok (.imul, 1) := by decide +kernel
theorem dX8_underWay_14 : decode cX8_underWay 14 = .ok (.if_icmp .ge 37, 3) := by decide +kernel
theorem dX8_underWay_17 : decode cX8_underWay 17 = .ok (.iload_n 1, 1) := by decide +kernel
theorem dX8_underWay_18 : decode cX8_underWay 18 = .ok (.aload_n 0, 1) := by decide +kernel
theorem dX8_underWay_19 : decode cX8_underWay 19 = .ok (.getfield 21, 3) := by decide +kernel
theorem dX8_underWay_22 : decode cX8_underWay 22 = .ok (.getfield 189, 3) := by decide +kernel
theorem dX8_underWay_25 : decode cX8_underWay 25 = .ok (.iload_n 2, 1) := by decide +kernel
theorem dX8_underWay_26 : decode cX8_underWay 26 = .ok (.aaload, 1) := by decide +kernel
theorem dX8_underWay_27 : decode cX8_underWay 27 = .ok (.getfield 177, 3) := by decide +kernel
theorem dX8_underWay_30 : decode cX8_underWay 30 = .ok (.aload_n 0, 1) := by decide +kernel
theorem dX8_underWay_31 : decode cX8_underWay 31 = .ok (.getfield 21, 3) := by decide +kernel
theorem dX8_underWay_34 : decode cX8_underWay 34 = .ok (.getfield 189, 3) := by decide +kernel
theorem dX8_underWay_37 : decode cX8_underWay 37 = .ok (.iload_n 2, 1) := by decide +kernel
theorem dX8_underWay_38 : decode cX8_underWay 38 = .ok (.aaload, 1) := by decide +kernel
theorem dX8_underWay_39 : decode cX8_underWay 39 = .ok (.getfield 180, 3) := by decide +kernel
theorem dX8_underWay_42 : decode cX8_underWay 42 = .ok (.iadd, 1) := by decide +kernel
theorem dX8_underWay_43 : decode cX8_underWay 43 = .ok (.iadd, 1) := by decide +kernel
theorem dX8_underWay_44 : decode cX8_underWay 44 = .ok (.istore_n 1, 1) := by decide +kernel
theorem dX8_underWay_45 : decode cX8_underWay 45 = .ok (.iinc 2 1, 3) := by decide +kernel
theorem dX8_underWay_48 : decode cX8_underWay 48 = .ok (.goto (-44), 3) := by decide +kernel
theorem dX8_underWay_51 : decode cX8_underWay 51 = .ok (.iload_n 1, 1) := by decide +kernel
theorem dX8_underWay_52 : decode cX8_underWay 52 = .ok (.ireturn, 1) := by decide +kernel
theorem dX8_connections_0 : decode cX8_connections 0 = .ok (.aload_n 0, 1) := by decide +kernel
theorem dX8_connections_1 : decode cX8_connections 1 = .ok (.getfield 21, 3) := by decide +kernel
theorem dX8_connections_4 : decode cX8_connections 4 = .ok (.getfield 99, 3) := by decide +kernel
theorem dX8_connections_7 : decode cX8_connections 7 = .ok (.ireturn, 1) := by decide +kernel
theorem dX8_meanWindow_0 : decode cX8_meanWindow 0 = .ok (.dconst 0, 1) := by decide +kernel
theorem dX8_meanWindow_1 : decode cX8_meanWindow 1 = .ok (.dstore_n 1, 1) := by decide +kernel
theorem dX8_meanWindow_2 : decode cX8_meanWindow 2 = .ok (.iconst 0, 1) := by decide +kernel
theorem dX8_meanWindow_3 : decode cX8_meanWindow 3 = .ok (.istore_n 3, 1) := by decide +kernel
theorem dX8_meanWindow_4 : decode cX8_meanWindow 4 = .ok (.iconst 0, 1) := by decide +kernel
theorem dX8_meanWindow_5 : decode cX8_meanWindow 5 = .ok (.istore 4, 2) := by decide +kernel
theorem dX8_meanWindow_7 : decode cX8_meanWindow 7 = .ok (.iload 4, 2) := by decide +kernel
theorem dX8_meanWindow_9 : decode cX8_meanWindow 9 = .ok (.aload_n 0, 1) := by decide +kernel
theorem dX8_meanWindow_10 : decode cX8_meanWindow 10 = .ok (.getfield 21, 3) := by decide +kernel
theorem dX8_meanWindow_13 : decode cX8_meanWindow 13 = .ok (.getfield 99, 3) := by decide +kernel
theorem dX8_meanWindow_16 : decode cX8_meanWindow 16 = .ok (.if_icmp .ge 45, 3) := by decide +kernel
theorem dX8_meanWindow_19 : decode cX8_meanWindow 19 = .ok (.aload_n 0, 1) := by decide +kernel
theorem dX8_meanWindow_20 : decode cX8_meanWindow 20 = .ok (.getfield 21, 3) := by decide +kernel
theorem dX8_meanWindow_23 : decode cX8_meanWindow 23 = .ok (.getfield 247, 3) := by decide +kernel
theorem dX8_meanWindow_26 : decode cX8_meanWindow 26 = .ok (.iload 4, 2) := by decide +kernel
theorem dX8_meanWindow_28 : decode cX8_meanWindow 28 = .ok (.aaload, 1) := by decide +kernel
theorem dX8_meanWindow_29 : decode cX8_meanWindow 29 = .ok (.getfield 251, 3) := by decide +kernel
theorem dX8_meanWindow_32 : decode cX8_meanWindow 32 = .ok (.astore 5, 2) := by decide +kernel
theorem dX8_meanWindow_34 : decode cX8_meanWindow 34 = .ok (.aload 5, 2) := by decide +kernel
theorem dX8_meanWindow_36 : decode cX8_meanWindow 36 = .ok (.getfield 193, 3) := by decide +kernel
theorem dX8_meanWindow_39 : decode cX8_meanWindow 39 = .ok (.iconst 1, 1) := by decide +kernel
theorem dX8_meanWindow_40 : decode cX8_meanWindow 40 = .ok (.if_icmp .ne 15, 3) := by decide +kernel
theorem dX8_meanWindow_43 : decode cX8_meanWindow 43 = .ok (.dload_n 1, 1) := by decide +kernel
theorem dX8_meanWindow_44 : decode cX8_meanWindow 44 = .ok (.aload 5, 2) := by decide +kernel
theorem dX8_meanWindow_46 : decode cX8_meanWindow 46 = .ok (.getfield 199, 3) := by decide +kernel
theorem dX8_meanWindow_55 : decode cX8_meanWindow 55 = .ok (.iinc 4 1, 3) := by decide +kernel
theorem dX8_meanWindow_58 : decode cX8_meanWindow 58 = .ok (.goto (-51), 3) := by decide +kernel
theorem dX8_meanWindow_61 : decode cX8_meanWindow 61 = .ok (.iload_n 3, 1) := by decide +kernel
theorem dX8_meanWindow_62 : decode cX8_meanWindow 62 = .ok (.ifCond .ne 7, 3) := by decide +kernel
theorem dX8_meanWindow_65 : decode cX8_meanWindow 65 = .ok (.dconst 0, 1) := by decide +kernel
theorem dX8_meanWindow_66 : decode cX8_meanWindow 66 = .ok (.goto 7, 3) := by decide +kernel
theorem dX8_meanWindow_69 : decode cX8_meanWindow 69 = .ok (.dload_n 1, 1) := by decide +kernel
theorem dX8_meanWindow_70 : decode cX8_meanWindow 70 = .ok (.iload_n 3, 1) := by decide +kernel
theorem dX8_meanWindow_73 : decode cX8_meanWindow 73 = .ok (.dreturn, 1) := by decide +kernel
set_option maxRecDepth 20000 in
theorem ggX8_digest_X8_clock : GoodIn wsX8_digest wsX8_clock := goodIn_r _ [15, 5, 16, 87, 88, 89, 90, 100, 101, 102, 103, 104, 105] (by decide +kernel) (by decide +kernel)
set_option maxRecDepth 20000 in
theorem gX8_digest_X8_clock : GoodIn wsX8_digest (wsV RX8 271 RX8 yX8_clock wsX8_clock) := goodIn_app (goodIn_of _ (by decide +kernel)) ggX8_digest_X8_clock
set_option maxRecDepth 20000 in
theorem ggX8_digest_X8_nodes : GoodIn wsX8_digest wsX8_nodes := goodIn_r _ [20, 3, 9, 87, 88, 89, 90, 91, 92, 93, 94, 95, 96, 97, 98, 99] (by decide +kernel) (by decide +kernel)
set_option maxRecDepth 20000 in
theorem gX8_digest_X8_nodes : GoodIn wsX8_digest (wsV RX8 273 RX8 yX8_nodes wsX8_nodes) := goodIn_app (goodIn_of _ (by decide +kernel)) ggX8_digest_X8_nodes
set_option maxRecDepth 20000 in
theorem ggX8_digest_X8_links : GoodIn wsX8_digest wsX8_links := goodIn_r _ [24, 3, 4, 87, 88, 89, 90, 91, 92, 93, 94, 95, 96, 97, 98, 99] (by decide +kernel) (by decide +kernel)
set_option maxRecDepth 20000 in
theorem gX8_digest_X8_links : GoodIn wsX8_digest (wsV RX8 275 RX8 yX8_links wsX8_links) := goodIn_app (goodIn_of _ (by decide +kernel)) ggX8_digest_X8_links
set_option maxRecDepth 20000 in
theorem ggX8_digest_X8_lost : GoodIn wsX8_digest wsX8_lost := goodIn_r _ [28, 5, 29, 87, 88, 89, 90, 100, 101, 102, 103, 104, 105] (by decide +kernel) (by decide +kernel)
set_option maxRecDepth 20000 in
theorem gX8_digest_X8_lost : GoodIn wsX8_digest (wsV RX8 277 RX8 yX8_lost wsX8_lost) := goodIn_app (goodIn_of _ (by decide +kernel)) ggX8_digest_X8_lost
set_option maxRecDepth 20000 in
theorem ggX8_digest_X8_underWay : GoodIn wsX8_digest wsX8_underWay := goodIn_r _ [33, 3, 4, 5, 34, 35, 36, 87, 88, 89, 90, 91, 92, 93, 94, 95, 96, 97, 98, 99, 100, 101, 102, 103, 104, 105, 110, 111, 112, 113, 114, 115, 116] (by decide +kernel) (by decide +kernel)
set_option maxRecDepth 20000 in
theorem gX8_digest_X8_underWay : GoodIn wsX8_digest (wsV RX8 279 RX8 yX8_underWay wsX8_underWay) := goodIn_app (goodIn_of _ (by decide +kernel)) ggX8_digest_X8_underWay
set_option maxRecDepth 20000 in
theorem ggX8_digest_X8_connections : GoodIn wsX8_digest wsX8_connections := goodIn_r _ [40, 5, 6, 87, 88, 89, 90, 100, 101, 102, 103, 104, 105] (by decide +kernel) (by decide +kernel)
set_option maxRecDepth 20000 in
theorem gX8_digest_X8_connections : GoodIn wsX8_digest (wsV RX8 282 RX8 yX8_connections wsX8_connections) := goodIn_app (goodIn_of _ (by decide +kernel)) ggX8_digest_X8_connections
theorem dX8_digest_0 : decode cX8_digest 0 = .ok (.ldc2_w 267, 3) := by decide +kernel
theorem dX8_digest_3 : decode cX8_digest 3 = .ok (.lstore_n 1, 1) := by decide +kernel
theorem dX8_digest_4 : decode cX8_digest 4 = .ok (.lload_n 1, 1) := by decide +kernel
theorem dX8_digest_5 : decode cX8_digest 5 = .ok (.ldc2_w 269, 3) := by decide +kernel
theorem dX8_digest_8 : decode cX8_digest 8 = .ok (.lmul, 1) := by decide +kernel
theorem dX8_digest_9 : decode cX8_digest 9 = .ok (.aload_n 0, 1) := by decide +kernel
theorem dX8_digest_10 : decode cX8_digest 10 = .ok (.invokevirtual 271, 3) := by decide +kernel
theorem dX8_digest_13 : decode cX8_digest 13 = .ok (.i2l, 1) := by decide +kernel
theorem dX8_digest_14 : decode cX8_digest 14 = .ok (.ladd, 1) := by decide +kernel
theorem dX8_digest_15 : decode cX8_digest 15 = .ok (.lstore_n 1, 1) := by decide +kernel
theorem dX8_digest_16 : decode cX8_digest 16 = .ok (.lload_n 1, 1) := by decide +kernel
theorem dX8_digest_17 : decode cX8_digest 17 = .ok (.ldc2_w 269, 3) := by decide +kernel
theorem dX8_digest_20 : decode cX8_digest 20 = .ok (.lmul, 1) := by decide +kernel
theorem dX8_digest_21 : decode cX8_digest 21 = .ok (.aload_n 0, 1) := by decide +kernel
theorem dX8_digest_22 : decode cX8_digest 22 = .ok (.invokevirtual 273, 3) := by decide +kernel
theorem dX8_digest_25 : decode cX8_digest 25 = .ok (.i2l, 1) := by decide +kernel
theorem dX8_digest_26 : decode cX8_digest 26 = .ok (.ladd, 1) := by decide +kernel
theorem dX8_digest_27 : decode cX8_digest 27 = .ok (.lstore_n 1, 1) := by decide +kernel
theorem dX8_digest_28 : decode cX8_digest 28 = .ok (.lload_n 1, 1) := by decide +kernel
theorem dX8_digest_29 : decode cX8_digest 29 = .ok (.ldc2_w 269, 3) := by decide +kernel
theorem dX8_digest_32 : decode cX8_digest 32 = .ok (.lmul, 1) := by decide +kernel
theorem dX8_digest_33 : decode cX8_digest 33 = .ok (.aload_n 0, 1) := by decide +kernel
theorem dX8_digest_34 : decode cX8_digest 34 = .ok (.invokevirtual 275, 3) := by decide +kernel
theorem dX8_digest_37 : decode cX8_digest 37 = .ok (.i2l, 1) := by decide +kernel
theorem dX8_digest_38 : decode cX8_digest 38 = .ok (.ladd, 1) := by decide +kernel
theorem dX8_digest_39 : decode cX8_digest 39 = .ok (.lstore_n 1, 1) := by decide +kernel
theorem dX8_digest_40 : decode cX8_digest 40 = .ok (.lload_n 1, 1) := by decide +kernel
theorem dX8_digest_41 : decode cX8_digest 41 = .ok (.ldc2_w 269, 3) := by decide +kernel
theorem dX8_digest_44 : decode cX8_digest 44 = .ok (.lmul, 1) := by decide +kernel
theorem dX8_digest_45 : decode cX8_digest 45 = .ok (.aload_n 0, 1) := by decide +kernel
theorem dX8_digest_46 : decode cX8_digest 46 = .ok (.invokevirtual 277, 3) := by decide +kernel
theorem dX8_digest_49 : decode cX8_digest 49 = .ok (.i2l, 1) := by decide +kernel
theorem dX8_digest_50 : decode cX8_digest 50 = .ok (.ladd, 1) := by decide +kernel
theorem dX8_digest_51 : decode cX8_digest 51 = .ok (.lstore_n 1, 1) := by decide +kernel
theorem dX8_digest_52 : decode cX8_digest 52 = .ok (.lload_n 1, 1) := by decide +kernel
theorem dX8_digest_53 : decode cX8_digest 53 = .ok (.ldc2_w 269, 3) := by decide +kernel
theorem dX8_digest_56 : decode cX8_digest 56 = .ok (.lmul, 1) := by decide +kernel
theorem dX8_digest_57 : decode cX8_digest 57 = .ok (.aload_n 0, 1) := by decide +kernel
theorem dX8_digest_58 : decode cX8_digest 58 = .ok (.invokevirtual 279, 3) := by decide +kernel
theorem dX8_digest_61 : decode cX8_digest 61 = .ok (.i2l, 1) := by decide +kernel
theorem dX8_digest_62 : decode cX8_digest 62 = .ok (.ladd, 1) := by decide +kernel
theorem dX8_digest_63 : decode cX8_digest 63 = .ok (.lstore_n 1, 1) := by decide +kernel
theorem dX8_digest_64 : decode cX8_digest 64 = .ok (.lload_n 1, 1) := by decide +kernel
theorem dX8_digest_65 : decode cX8_digest 65 = .ok (.ldc2_w 269, 3) := by decide +kernel
theorem dX8_digest_68 : decode cX8_digest 68 = .ok (.lmul, 1) := by decide +kernel
theorem dX8_digest_69 : decode cX8_digest 69 = .ok (.aload_n 0, 1) := by decide +kernel
theorem dX8_digest_70 : decode cX8_digest 70 = .ok (.invokevirtual 282, 3) := by decide +kernel
theorem dX8_digest_73 : decode cX8_digest 73 = .ok (.i2l, 1) := by decide +kernel
theorem dX8_digest_74 : decode cX8_digest 74 = .ok (.ladd, 1) := by decide +kernel
theorem dX8_digest_75 : decode cX8_digest 75 = .ok (.lstore_n 1, 1) := by decide +kernel
theorem dX8_digest_76 : decode cX8_digest 76 = .ok (.iconst 0, 1) := by decide +kernel
theorem dX8_digest_77 : decode cX8_digest 77 = .ok (.istore_n 3, 1) := by decide +kernel
theorem dX8_digest_78 : decode cX8_digest 78 = .ok (.iload_n 3, 1) := by decide +kernel
theorem dX8_digest_79 : decode cX8_digest 79 = .ok (.aload_n 0, 1) := by decide +kernel
theorem dX8_digest_80 : decode cX8_digest 80 = .ok (.getfield 12, 3) := by decide +kernel
theorem dX8_digest_83 : decode cX8_digest 83 = .ok (.getfield 61, 3) := by decide +kernel
theorem dX8_digest_86 : decode cX8_digest 86 = .ok (.if_icmp .ge 16, 3) := by decide +kernel
theorem dX8_digest_89 : decode cX8_digest 89 = .ok (.aload_n 0, 1) := by decide +kernel
theorem dX8_digest_90 : decode cX8_digest 90 = .ok (.lload_n 1, 1) := by decide +kernel
theorem dX8_digest_91 : decode cX8_digest 91 = .ok (.iload_n 3, 1) := by decide +kernel
theorem dX8_digest_102 : decode cX8_digest 102 = .ok (.iconst 0, 1) := by decide +kernel
theorem dX8_digest_103 : decode cX8_digest 103 = .ok (.istore_n 3, 1) := by decide +kernel
theorem dX8_digest_104 : decode cX8_digest 104 = .ok (.iload_n 3, 1) := by decide +kernel
theorem dX8_digest_105 : decode cX8_digest 105 = .ok (.aload_n 0, 1) := by decide +kernel
theorem dX8_digest_106 : decode cX8_digest 106 = .ok (.getfield 21, 3) := by decide +kernel
theorem dX8_digest_109 : decode cX8_digest 109 = .ok (.getfield 99, 3) := by decide +kernel
theorem dX8_digest_112 : decode cX8_digest 112 = .ok (.if_icmp .ge 38, 3) := by decide +kernel
theorem dX8_digest_115 : decode cX8_digest 115 = .ok (.lload_n 1, 1) := by decide +kernel
theorem dX8_digest_116 : decode cX8_digest 116 = .ok (.aload_n 0, 1) := by decide +kernel
theorem dX8_digest_117 : decode cX8_digest 117 = .ok (.getfield 21, 3) := by decide +kernel
theorem dX8_digest_120 : decode cX8_digest 120 = .ok (.getfield 247, 3) := by decide +kernel
theorem dX8_digest_123 : decode cX8_digest 123 = .ok (.iload_n 3, 1) := by decide +kernel
theorem dX8_digest_124 : decode cX8_digest 124 = .ok (.aaload, 1) := by decide +kernel
theorem dX8_digest_125 : decode cX8_digest 125 = .ok (.getfield 251, 3) := by decide +kernel
theorem dX8_digest_150 : decode cX8_digest 150 = .ok (.iconst 0, 1) := by decide +kernel
theorem dX8_digest_151 : decode cX8_digest 151 = .ok (.istore_n 3, 1) := by decide +kernel
theorem dX8_digest_152 : decode cX8_digest 152 = .ok (.iload_n 3, 1) := by decide +kernel
theorem dX8_digest_153 : decode cX8_digest 153 = .ok (.aload_n 0, 1) := by decide +kernel
theorem dX8_digest_154 : decode cX8_digest 154 = .ok (.getfield 12, 3) := by decide +kernel
theorem dX8_digest_157 : decode cX8_digest 157 = .ok (.getfield 33, 3) := by decide +kernel
theorem dX8_digest_160 : decode cX8_digest 160 = .ok (.if_icmp .ge 28, 3) := by decide +kernel
theorem dX8_digest_163 : decode cX8_digest 163 = .ok (.lload_n 1, 1) := by decide +kernel
theorem dX8_digest_164 : decode cX8_digest 164 = .ok (.ldc2_w 269, 3) := by decide +kernel
theorem dX8_digest_167 : decode cX8_digest 167 = .ok (.lmul, 1) := by decide +kernel
theorem dX8_digest_168 : decode cX8_digest 168 = .ok (.aload_n 0, 1) := by decide +kernel
theorem dX8_digest_169 : decode cX8_digest 169 = .ok (.getfield 12, 3) := by decide +kernel
theorem dX8_digest_172 : decode cX8_digest 172 = .ok (.getfield 171, 3) := by decide +kernel
theorem dX8_digest_175 : decode cX8_digest 175 = .ok (.iload_n 3, 1) := by decide +kernel
theorem dX8_digest_176 : decode cX8_digest 176 = .ok (.aaload, 1) := by decide +kernel
theorem dX8_digest_177 : decode cX8_digest 177 = .ok (.iconst 0, 1) := by decide +kernel
theorem dX8_digest_178 : decode cX8_digest 178 = .ok (.iaload, 1) := by decide +kernel
theorem dX8_digest_179 : decode cX8_digest 179 = .ok (.i2l, 1) := by decide +kernel
theorem dX8_digest_180 : decode cX8_digest 180 = .ok (.ladd, 1) := by decide +kernel
theorem dX8_digest_181 : decode cX8_digest 181 = .ok (.lstore_n 1, 1) := by decide +kernel
theorem dX8_digest_182 : decode cX8_digest 182 = .ok (.iinc 3 1, 3) := by decide +kernel
theorem dX8_digest_185 : decode cX8_digest 185 = .ok (.goto (-33), 3) := by decide +kernel
theorem dX8_digest_188 : decode cX8_digest 188 = .ok (.lload_n 1, 1) := by decide +kernel
theorem dX8_digest_189 : decode cX8_digest 189 = .ok (.lreturn, 1) := by decide +kernel
