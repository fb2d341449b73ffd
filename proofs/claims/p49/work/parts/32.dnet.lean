theorem dX3_init_0 : decode cX3_init 0 = .ok (.aload_n 0, 1) := by decide +kernel
theorem dX3_init_1 : decode cX3_init 1 = .ok (.invokespecial 3, 3) := by decide +kernel
theorem dX3_init_4 : decode cX3_init 4 = .ok (.aload_n 0, 1) := by decide +kernel
theorem dX3_init_5 : decode cX3_init 5 = .ok (.bipush 12, 2) := by decide +kernel
theorem dX3_init_7 : decode cX3_init 7 = .ok (.newarray .int, 2) := by decide +kernel
theorem dX3_init_9 : decode cX3_init 9 = .ok (.putfield 9, 3) := by decide +kernel
theorem dX3_init_12 : decode cX3_init 12 = .ok (.aload_n 0, 1) := by decide +kernel
theorem dX3_init_13 : decode cX3_init 13 = .ok (.bipush 12, 2) := by decide +kernel
theorem dX3_init_15 : decode cX3_init 15 = .ok (.newarray .int, 2) := by decide +kernel
theorem dX3_init_17 : decode cX3_init 17 = .ok (.putfield 15, 3) := by decide +kernel
theorem dX3_init_20 : decode cX3_init 20 = .ok (.aload_n 0, 1) := by decide +kernel
theorem dX3_init_21 : decode cX3_init 21 = .ok (.bipush 12, 2) := by decide +kernel
theorem dX3_init_23 : decode cX3_init 23 = .ok (.newarray .int, 2) := by decide +kernel
theorem dX3_init_25 : decode cX3_init 25 = .ok (.putfield 18, 3) := by decide +kernel
theorem dX3_init_28 : decode cX3_init 28 = .ok (.aload_n 0, 1) := by decide +kernel
theorem dX3_init_29 : decode cX3_init 29 = .ok (.bipush 12, 2) := by decide +kernel
theorem dX3_init_31 : decode cX3_init 31 = .ok (.newarray .int, 2) := by decide +kernel
theorem dX3_init_33 : decode cX3_init 33 = .ok (.putfield 21, 3) := by decide +kernel
theorem dX3_init_36 : decode cX3_init 36 = .ok (.aload_n 0, 1) := by decide +kernel
theorem dX3_init_37 : decode cX3_init 37 = .ok (.bipush 12, 2) := by decide +kernel
theorem dX3_init_39 : decode cX3_init 39 = .ok (.newarray .boolean, 2) := by decide +kernel
theorem dX3_init_41 : decode cX3_init 41 = .ok (.putfield 24, 3) := by decide +kernel
theorem dX3_init_44 : decode cX3_init 44 = .ok (.aload_n 0, 1) := by decide +kernel
theorem dX3_init_45 : decode cX3_init 45 = .ok (.bipush 8, 2) := by decide +kernel
theorem dX3_init_47 : decode cX3_init 47 = .ok (.bipush 8, 2) := by decide +kernel
theorem dX3_init_49 : decode cX3_init 49 = .ok (.multianewarray 28 2, 4) := by decide +kernel
theorem dX3_init_53 : decode cX3_init 53 = .ok (.putfield 30, 3) := by decide +kernel
theorem dX3_init_56 : decode cX3_init 56 = .ok (.aload_n 0, 1) := by decide +kernel
theorem dX3_init_57 : decode cX3_init 57 = .ok (.bipush 8, 2) := by decide +kernel
theorem dX3_init_59 : decode cX3_init 59 = .ok (.newarray .int, 2) := by decide +kernel
theorem dX3_init_61 : decode cX3_init 61 = .ok (.putfield 33, 3) := by decide +kernel
theorem dX3_init_64 : decode cX3_init 64 = .ok (.return_, 1) := by decide +kernel
set_option maxRecDepth 20000 in
theorem ggX3_layNode_X3_measureRoutes : GoodIn wsX3_layNode wsX3_measureRoutes := goodIn_r _ [6, 1, 7, 8, 9, 10, 5, 11, 12, 13, 14, 15, 16, 17, 18, 19, 20, 21, 22, 23, 24, 25, 26, 27, 28] (by decide +kernel) (by decide +kernel)
set_option maxRecDepth 20000 in
theorem gX3_layNode_X3_measureRoutes : GoodIn wsX3_layNode (wsV RX3 40 RX3 yX3_measureRoutes wsX3_measureRoutes) := goodIn_app (goodIn_of _ (by decide +kernel)) ggX3_layNode_X3_measureRoutes
theorem dX3_layNode_0 : decode cX3_layNode 0 = .ok (.aload_n 0, 1) := by decide +kernel
theorem dX3_layNode_1 : decode cX3_layNode 1 = .ok (.dup, 1) := by decide +kernel
theorem dX3_layNode_2 : decode cX3_layNode 2 = .ok (.getfield 36, 3) := by decide +kernel
theorem dX3_layNode_5 : decode cX3_layNode 5 = .ok (.iconst 1, 1) := by decide +kernel
theorem dX3_layNode_6 : decode cX3_layNode 6 = .ok (.iadd, 1) := by decide +kernel
theorem dX3_layNode_7 : decode cX3_layNode 7 = .ok (.putfield 36, 3) := by decide +kernel
theorem dX3_layNode_10 : decode cX3_layNode 10 = .ok (.aload_n 0, 1) := by decide +kernel
theorem dX3_layNode_11 : decode cX3_layNode 11 = .ok (.invokevirtual 40, 3) := by decide +kernel
theorem dX3_layNode_14 : decode cX3_layNode 14 = .ok (.aload_n 0, 1) := by decide +kernel
theorem dX3_layNode_15 : decode cX3_layNode 15 = .ok (.getfield 36, 3) := by decide +kernel
theorem dX3_layNode_18 : decode cX3_layNode 18 = .ok (.iconst 1, 1) := by decide +kernel
theorem dX3_layNode_19 : decode cX3_layNode 19 = .ok (.isub, 1) := by decide +kernel
theorem dX3_layNode_20 : decode cX3_layNode 20 = .ok (.ireturn, 1) := by decide +kernel
set_option maxRecDepth 20000 in
theorem ggX3_layLink_X3_measureRoutes : GoodIn wsX3_layLink wsX3_measureRoutes := goodIn_r _ [11, 12, 13, 14, 15, 16, 10, 17, 1, 6, 2, 3, 4, 18, 19, 20, 21, 22, 23, 24, 25, 26, 27, 28, 29] (by decide +kernel) (by decide +kernel)
set_option maxRecDepth 20000 in
theorem gX3_layLink_X3_measureRoutes : GoodIn wsX3_layLink (wsV RX3 40 RX3 yX3_measureRoutes wsX3_measureRoutes) := goodIn_app (goodIn_of _ (by decide +kernel)) ggX3_layLink_X3_measureRoutes
theorem dX3_layLink_0 : decode cX3_layLink 0 = .ok (.aload_n 0, 1) := by decide +kernel
theorem dX3_layLink_1 : decode cX3_layLink 1 = .ok (.getfield 43, 3) := by decide +kernel
theorem dX3_layLink_4 : decode cX3_layLink 4 = .ok (.istore 5, 2) := by decide +kernel
theorem dX3_layLink_6 : decode cX3_layLink 6 = .ok (.aload_n 0, 1) := by decide +kernel
theorem dX3_layLink_7 : decode cX3_layLink 7 = .ok (.getfield 9, 3) := by decide +kernel
theorem dX3_layLink_10 : decode cX3_layLink 10 = .ok (.iload 5, 2) := by decide +kernel
theorem dX3_layLink_12 : decode cX3_layLink 12 = .ok (.iload_n 1, 1) := by decide +kernel
theorem dX3_layLink_13 : decode cX3_layLink 13 = .ok (.iastore, 1) := by decide +kernel
theorem dX3_layLink_14 : decode cX3_layLink 14 = .ok (.aload_n 0, 1) := by decide +kernel
theorem dX3_layLink_15 : decode cX3_layLink 15 = .ok (.getfield 15, 3) := by decide +kernel
theorem dX3_layLink_18 : decode cX3_layLink 18 = .ok (.iload 5, 2) := by decide +kernel
theorem dX3_layLink_20 : decode cX3_layLink 20 = .ok (.iload_n 2, 1) := by decide +kernel
theorem dX3_layLink_21 : decode cX3_layLink 21 = .ok (.iastore, 1) := by decide +kernel
theorem dX3_layLink_22 : decode cX3_layLink 22 = .ok (.aload_n 0, 1) := by decide +kernel
theorem dX3_layLink_23 : decode cX3_layLink 23 = .ok (.getfield 18, 3) := by decide +kernel
theorem dX3_layLink_26 : decode cX3_layLink 26 = .ok (.iload 5, 2) := by decide +kernel
theorem dX3_layLink_28 : decode cX3_layLink 28 = .ok (.iload_n 3, 1) := by decide +kernel
theorem dX3_layLink_29 : decode cX3_layLink 29 = .ok (.iastore, 1) := by decide +kernel
theorem dX3_layLink_30 : decode cX3_layLink 30 = .ok (.aload_n 0, 1) := by decide +kernel
theorem dX3_layLink_31 : decode cX3_layLink 31 = .ok (.getfield 21, 3) := by decide +kernel
theorem dX3_layLink_34 : decode cX3_layLink 34 = .ok (.iload 5, 2) := by decide +kernel
theorem dX3_layLink_36 : decode cX3_layLink 36 = .ok (.iload 4, 2) := by decide +kernel
theorem dX3_layLink_38 : decode cX3_layLink 38 = .ok (.iastore, 1) := by decide +kernel
theorem dX3_layLink_39 : decode cX3_layLink 39 = .ok (.aload_n 0, 1) := by decide +kernel
theorem dX3_layLink_40 : decode cX3_layLink 40 = .ok (.getfield 24, 3) := by decide +kernel
theorem dX3_layLink_43 : decode cX3_layLink 43 = .ok (.iload 5, 2) := by decide +kernel
theorem dX3_layLink_45 : decode cX3_layLink 45 = .ok (.iconst 1, 1) := by decide +kernel
theorem dX3_layLink_46 : decode cX3_layLink 46 = .ok (.bastore, 1) := by decide +kernel
theorem dX3_layLink_47 : decode cX3_layLink 47 = .ok (.aload_n 0, 1) := by decide +kernel
theorem dX3_layLink_48 : decode cX3_layLink 48 = .ok (.dup, 1) := by decide +kernel
theorem dX3_layLink_49 : decode cX3_layLink 49 = .ok (.getfield 43, 3) := by decide +kernel
theorem dX3_layLink_52 : decode cX3_layLink 52 = .ok (.iconst 1, 1) := by decide +kernel
theorem dX3_layLink_53 : decode cX3_layLink 53 = .ok (.iadd, 1) := by decide +kernel
theorem dX3_layLink_54 : decode cX3_layLink 54 = .ok (.putfield 43, 3) := by decide +kernel
theorem dX3_layLink_57 : decode cX3_layLink 57 = .ok (.aload_n 0, 1) := by decide +kernel
theorem dX3_layLink_58 : decode cX3_layLink 58 = .ok (.invokevirtual 40, 3) := by decide +kernel
theorem dX3_layLink_61 : decode cX3_layLink 61 = .ok (.iload 5, 2) := by decide +kernel
theorem dX3_layLink_63 : decode cX3_layLink 63 = .ok (.ireturn, 1) := by decide +kernel
set_option maxRecDepth 20000 in
theorem ggX3_flip_X3_measureRoutes : GoodIn wsX3_flip wsX3_measureRoutes := goodIn_r _ [6, 7, 8, 9, 10, 11, 5, 12, 13, 1, 14, 15, 16, 17, 18, 19, 20, 21, 22, 23, 24, 25, 26, 27, 28] (by decide +kernel) (by decide +kernel)
set_option maxRecDepth 20000 in
theorem gX3_flip_X3_measureRoutes : GoodIn wsX3_flip (wsV RX3 40 RX3 yX3_measureRoutes wsX3_measureRoutes) := goodIn_app (goodIn_of _ (by decide +kernel)) ggX3_flip_X3_measureRoutes
theorem dX3_flip_0 : decode cX3_flip 0 = .ok (.aload_n 0, 1) := by decide +kernel
theorem dX3_flip_1 : decode cX3_flip 1 = .ok (.getfield 24, 3) := by decide +kernel
theorem dX3_flip_4 : decode cX3_flip 4 = .ok (.iload_n 1, 1) := by decide +kernel
theorem dX3_flip_5 : decode cX3_flip 5 = .ok (.aload_n 0, 1) := by decide +kernel
theorem dX3_flip_6 : decode cX3_flip 6 = .ok (.getfield 24, 3) := by decide +kernel
theorem dX3_flip_9 : decode cX3_flip 9 = .ok (.iload_n 1, 1) := by decide +kernel
theorem dX3_flip_10 : decode cX3_flip 10 = .ok (.baload, 1) := by decide +kernel
theorem dX3_flip_11 : decode cX3_flip 11 = .ok (.ifCond .ne 7, 3) := by decide +kernel
theorem dX3_flip_14 : decode cX3_flip 14 = .ok (.iconst 1, 1) := by decide +kernel
theorem dX3_flip_15 : decode cX3_flip 15 = .ok (.goto 4, 3) := by decide +kernel
theorem dX3_flip_18 : decode cX3_flip 18 = .ok (.iconst 0, 1) := by decide +kernel
theorem dX3_flip_19 : decode cX3_flip 19 = .ok (.bastore, 1) := by decide +kernel
theorem dX3_flip_20 : decode cX3_flip 20 = .ok (.aload_n 0, 1) := by decide +kernel
theorem dX3_flip_21 : decode cX3_flip 21 = .ok (.invokevirtual 40, 3) := by decide +kernel
theorem dX3_flip_24 : decode cX3_flip 24 = .ok (.return_, 1) := by decide +kernel
set_option maxRecDepth 20000 in
theorem ggX3_joins_X3_farEnd : GoodIn wsX3_joins wsX3_farEnd := goodIn_r _ [6, 7, 8, 9, 10, 11, 12, 13, 14, 15, 16, 17] (by decide +kernel) (by decide +kernel)
set_option maxRecDepth 20000 in
theorem gX3_joins_X3_farEnd : GoodIn wsX3_joins (wsV RX3 46 RX3 yX3_farEnd wsX3_farEnd) := goodIn_app (goodIn_of _ (by decide +kernel)) ggX3_joins_X3_farEnd
theorem dX3_joins_0 : decode cX3_joins 0 = .ok (.iconst 0, 1) := by decide +kernel
theorem dX3_joins_1 : decode cX3_joins 1 = .ok (.istore_n 3, 1) := by decide +kernel
theorem dX3_joins_2 : decode cX3_joins 2 = .ok (.iload_n 3, 1) := by decide +kernel
theorem dX3_joins_3 : decode cX3_joins 3 = .ok (.aload_n 0, 1) := by decide +kernel
theorem dX3_joins_4 : decode cX3_joins 4 = .ok (.getfield 43, 3) := by decide +kernel
theorem dX3_joins_7 : decode cX3_joins 7 = .ok (.if_icmp .ge 21, 3) := by decide +kernel
theorem dX3_joins_10 : decode cX3_joins 10 = .ok (.aload_n 0, 1) := by decide +kernel
theorem dX3_joins_11 : decode cX3_joins 11 = .ok (.iload_n 3, 1) := by decide +kernel
theorem dX3_joins_12 : decode cX3_joins 12 = .ok (.iload_n 1, 1) := by decide +kernel
theorem dX3_joins_13 : decode cX3_joins 13 = .ok (.invokevirtual 46, 3) := by decide +kernel
theorem dX3_joins_16 : decode cX3_joins 16 = .ok (.iload_n 2, 1) := by decide +kernel
theorem dX3_joins_17 : decode cX3_joins 17 = .ok (.if_icmp .ne 5, 3) := by decide +kernel
theorem dX3_joins_20 : decode cX3_joins 20 = .ok (.iconst 1, 1) := by decide +kernel
theorem dX3_joins_21 : decode cX3_joins 21 = .ok (.ireturn, 1) := by decide +kernel
theorem dX3_joins_22 : decode cX3_joins 22 = .ok (.iinc 3 1, 3) := by decide +kernel
theorem dX3_joins_25 : decode cX3_joins 25 = .ok (.goto (-23), 3) := by decide +kernel
theorem dX3_joins_28 : decode cX3_joins 28 = .ok (.iconst 0, 1) := by decide +kernel
theorem dX3_joins_29 : decode cX3_joins 29 = .ok (.ireturn, 1) := by decide +kernel
theorem dX3_farEnd_0 : decode cX3_farEnd 0 = .ok (.aload_n 0, 1) := by decide +kernel
theorem dX3_farEnd_1 : decode cX3_farEnd 1 = .ok (.getfield 9, 3) := by decide +kernel
theorem dX3_farEnd_4 : decode cX3_farEnd 4 = .ok (.iload_n 1, 1) := by decide +kernel
theorem dX3_farEnd_5 : decode cX3_farEnd 5 = .ok (.iaload, 1) := by decide +kernel
theorem dX3_farEnd_6 : decode cX3_farEnd 6 = .ok (.iload_n 2, 1) := by decide +kernel
theorem dX3_farEnd_7 : decode cX3_farEnd 7 = .ok (.if_icmp .ne 10, 3) := by decide +kernel
theorem dX3_farEnd_10 : decode cX3_farEnd 10 = .ok (.aload_n 0, 1) := by decide +kernel
theorem dX3_farEnd_11 : decode cX3_farEnd 11 = .ok (.getfield 15, 3) := by decide +kernel
theorem dX3_farEnd_14 : decode cX3_farEnd 14 = .ok (.iload_n 1, 1) := by decide +kernel
theorem dX3_farEnd_15 : decode cX3_farEnd 15 = .ok (.iaload, 1) := by decide +kernel
theorem dX3_farEnd_16 : decode cX3_farEnd 16 = .ok (.ireturn, 1) := by decide +kernel
theorem dX3_farEnd_17 : decode cX3_farEnd 17 = .ok (.aload_n 0, 1) := by decide +kernel
theorem dX3_farEnd_18 : decode cX3_farEnd 18 = .ok (.getfield 15, 3) := by decide +kernel
theorem dX3_farEnd_21 : decode cX3_farEnd 21 = .ok (.iload_n 1, 1) := by decide +kernel
theorem dX3_farEnd_22 : decode cX3_farEnd 22 = .ok (.iaload, 1) := by decide +kernel
theorem dX3_farEnd_23 : decode cX3_farEnd 23 = .ok (.iload_n 2, 1) := by decide +kernel
theorem dX3_farEnd_24 : decode cX3_farEnd 24 = .ok (.if_icmp .ne 12, 3) := by decide +kernel
theorem dX3_farEnd_27 : decode cX3_farEnd 27 = .ok (.aload_n 0, 1) := by decide +kernel
theorem dX3_farEnd_28 : decode cX3_farEnd 28 = .ok (.getfield 9, 3) := by decide +kernel
theorem dX3_farEnd_31 : decode cX3_farEnd 31 = .ok (.iload_n 1, 1) := by decide +kernel
theorem dX3_farEnd_32 : decode cX3_farEnd 32 = .ok (.iaload, 1) := by decide +kernel
theorem dX3_farEnd_33 : decode cX3_farEnd 33 = .ok (.goto 4, 3) := by decide +kernel
theorem dX3_farEnd_36 : decode cX3_farEnd 36 = .ok (.iconst (-1), 1) := by decide +kernel
theorem dX3_farEnd_37 : decode cX3_farEnd 37 = .ok (.ireturn, 1) := by decide +kernel
set_option maxRecDepth 20000 in
theorem ggX3_linkTowards_X3_farEnd : GoodIn wsX3_linkTowards wsX3_farEnd := goodIn_r _ [9, 10, 11, 12, 13, 14, 15, 16, 17, 18, 19, 20] (by decide +kernel) (by decide +kernel)
set_option maxRecDepth 20000 in
theorem gX3_linkTowards_X3_farEnd : GoodIn wsX3_linkTowards (wsV RX3 46 RX3 yX3_farEnd wsX3_farEnd) := goodIn_app (goodIn_of _ (by decide +kernel)) ggX3_linkTowards_X3_farEnd
theorem dX3_linkTowards_0 : decode cX3_linkTowards 0 = .ok (.aload_n 0, 1) := by decide +kernel
theorem dX3_linkTowards_1 : decode cX3_linkTowards 1 = .ok (.getfield 30, 3) := by decide +kernel
theorem dX3_linkTowards_4 : decode cX3_linkTowards 4 = .ok (.iload_n 2, 1) := by decide +kernel
theorem dX3_linkTowards_5 : decode cX3_linkTowards 5 = .ok (.aaload, 1) := by decide +kernel
theorem dX3_linkTowards_6 : decode cX3_linkTowards 6 = .ok (.astore_n 3, 1) := by decide +kernel
theorem dX3_linkTowards_7 : decode cX3_linkTowards 7 = .ok (.iconst 0, 1) := by decide +kernel
theorem dX3_linkTowards_8 : decode cX3_linkTowards 8 = .ok (.istore 4, 2) := by decide +kernel
theorem dX3_linkTowards_10 : decode cX3_linkTowards 10 = .ok (.iload 4, 2) := by decide +kernel
theorem dX3_linkTowards_12 : decode cX3_linkTowards 12 = .ok (.aload_n 0, 1) := by decide +kernel
theorem dX3_linkTowards_13 : decode cX3_linkTowards 13 = .ok (.getfield 43, 3) := by decide +kernel
theorem dX3_linkTowards_16 : decode cX3_linkTowards 16 = .ok (.if_icmp .ge 67, 3) := by decide +kernel
theorem dX3_linkTowards_19 : decode cX3_linkTowards 19 = .ok (.aload_n 0, 1) := by decide +kernel
theorem dX3_linkTowards_20 : decode cX3_linkTowards 20 = .ok (.getfield 24, 3) := by decide +kernel
theorem dX3_linkTowards_23 : decode cX3_linkTowards 23 = .ok (.iload 4, 2) := by decide +kernel
theorem dX3_linkTowards_25 : decode cX3_linkTowards 25 = .ok (.baload, 1) := by decide +kernel
theorem dX3_linkTowards_26 : decode cX3_linkTowards 26 = .ok (.ifCond .eq 13, 3) := by decide +kernel
theorem dX3_linkTowards_29 : decode cX3_linkTowards 29 = .ok (.aload_n 0, 1) := by decide +kernel
theorem dX3_linkTowards_30 : decode cX3_linkTowards 30 = .ok (.iload 4, 2) := by decide +kernel
theorem dX3_linkTowards_32 : decode cX3_linkTowards 32 = .ok (.iload_n 1, 1) := by decide +kernel
theorem dX3_linkTowards_33 : decode cX3_linkTowards 33 = .ok (.invokevirtual 46, 3) := by decide +kernel
theorem dX3_linkTowards_36 : decode cX3_linkTowards 36 = .ok (.goto 4, 3) := by decide +kernel
theorem dX3_linkTowards_39 : decode cX3_linkTowards 39 = .ok (.iconst (-1), 1) := by decide +kernel
theorem dX3_linkTowards_40 : decode cX3_linkTowards 40 = .ok (.istore 5, 2) := by decide +kernel
theorem dX3_linkTowards_42 : decode cX3_linkTowards 42 = .ok (.iload 5, 2) := by decide +kernel
theorem dX3_linkTowards_44 : decode cX3_linkTowards 44 = .ok (.iconst (-1), 1) := by decide +kernel
theorem dX3_linkTowards_45 : decode cX3_linkTowards 45 = .ok (.if_icmp .eq 32, 3) := by decide +kernel
theorem dX3_linkTowards_48 : decode cX3_linkTowards 48 = .ok (.aload_n 3, 1) := by decide +kernel
theorem dX3_linkTowards_49 : decode cX3_linkTowards 49 = .ok (.iload 5, 2) := by decide +kernel
theorem dX3_linkTowards_51 : decode cX3_linkTowards 51 = .ok (.iaload, 1) := by decide +kernel
theorem dX3_linkTowards_52 : decode cX3_linkTowards 52 = .ok (.iconst (-1), 1) := by decide +kernel
theorem dX3_linkTowards_53 : decode cX3_linkTowards 53 = .ok (.if_icmp .eq 24, 3) := by decide +kernel
theorem dX3_linkTowards_56 : decode cX3_linkTowards 56 = .ok (.aload_n 3, 1) := by decide +kernel
theorem dX3_linkTowards_57 : decode cX3_linkTowards 57 = .ok (.iload 5, 2) := by decide +kernel
theorem dX3_linkTowards_59 : decode cX3_linkTowards 59 = .ok (.iaload, 1) := by decide +kernel
theorem dX3_linkTowards_60 : decode cX3_linkTowards 60 = .ok (.aload_n 0, 1) := by decide +kernel
theorem dX3_linkTowards_61 : decode cX3_linkTowards 61 = .ok (.getfield 18, 3) := by decide +kernel
theorem dX3_linkTowards_64 : decode cX3_linkTowards 64 = .ok (.iload 4, 2) := by decide +kernel
theorem dX3_linkTowards_66 : decode cX3_linkTowards 66 = .ok (.iaload, 1) := by decide +kernel
theorem dX3_linkTowards_67 : decode cX3_linkTowards 67 = .ok (.iadd, 1) := by decide +kernel
theorem dX3_linkTowards_68 : decode cX3_linkTowards 68 = .ok (.aload_n 3, 1) := by decide +kernel
theorem dX3_linkTowards_69 : decode cX3_linkTowards 69 = .ok (.iload_n 1, 1) := by decide +kernel
theorem dX3_linkTowards_70 : decode cX3_linkTowards 70 = .ok (.iaload, 1) := by decide +kernel
theorem dX3_linkTowards_71 : decode cX3_linkTowards 71 = .ok (.if_icmp .ne 6, 3) := by decide +kernel
theorem dX3_linkTowards_74 : decode cX3_linkTowards 74 = .ok (.iload 4, 2) := by decide +kernel
theorem dX3_linkTowards_76 : decode cX3_linkTowards 76 = .ok (.ireturn, 1) := by decide +kernel
theorem dX3_linkTowards_77 : decode cX3_linkTowards 77 = .ok (.iinc 4 1, 3) := by decide +kernel
theorem dX3_linkTowards_80 : decode cX3_linkTowards 80 = .ok (.goto (-70), 3) := by decide +kernel
theorem dX3_linkTowards_83 : decode cX3_linkTowards 83 = .ok (.iconst (-1), 1) := by decide +kernel
theorem dX3_linkTowards_84 : decode cX3_linkTowards 84 = .ok (.ireturn, 1) := by decide +kernel
set_option maxRecDepth 20000 in
theorem ggX3_measureRoutes_X3_spread : GoodIn wsX3_measureRoutes wsX3_spread := goodIn_r _ [7, 1, 8, 9, 10, 11, 12, 13, 14, 6, 15, 16, 17, 18, 19, 20, 21, 22, 23, 24] (by decide +kernel) (by decide +kernel)
set_option maxRecDepth 20000 in
theorem gX3_measureRoutes_X3_spread : GoodIn wsX3_measureRoutes (wsV RX3 50 RX3 yX3_spread wsX3_spread) := goodIn_app (goodIn_of _ (by decide +kernel)) ggX3_measureRoutes_X3_spread
theorem dX3_measureRoutes_0 : decode cX3_measureRoutes 0 = .ok (.iconst 0, 1) := by decide +kernel
theorem dX3_measureRoutes_1 : decode cX3_measureRoutes 1 = .ok (.istore_n 1, 1) := by decide +kernel
theorem dX3_measureRoutes_2 : decode cX3_measureRoutes 2 = .ok (.iload_n 1, 1) := by decide +kernel
theorem dX3_measureRoutes_3 : decode cX3_measureRoutes 3 = .ok (.aload_n 0, 1) := by decide +kernel
theorem dX3_measureRoutes_4 : decode cX3_measureRoutes 4 = .ok (.getfield 36, 3) := by decide +kernel
theorem dX3_measureRoutes_7 : decode cX3_measureRoutes 7 = .ok (.if_icmp .ge 21, 3) := by decide +kernel
theorem dX3_measureRoutes_10 : decode cX3_measureRoutes 10 = .ok (.aload_n 0, 1) := by decide +kernel
theorem dX3_measureRoutes_11 : decode cX3_measureRoutes 11 = .ok (.iload_n 1, 1) := by decide +kernel
theorem dX3_measureRoutes_12 : decode cX3_measureRoutes 12 = .ok (.iconst (-1), 1) := by decide +kernel
theorem dX3_measureRoutes_13 : decode cX3_measureRoutes 13 = .ok (.aload_n 0, 1) := by decide +kernel
theorem dX3_measureRoutes_14 : decode cX3_measureRoutes 14 = .ok (.getfield 30, 3) := by decide +kernel
theorem dX3_measureRoutes_17 : decode cX3_measureRoutes 17 = .ok (.iload_n 1, 1) := by decide +kernel
theorem dX3_measureRoutes_18 : decode cX3_measureRoutes 18 = .ok (.aaload, 1) := by decide +kernel
theorem dX3_measureRoutes_19 : decode cX3_measureRoutes 19 = .ok (.invokevirtual 50, 3) := by decide +kernel
theorem dX3_measureRoutes_22 : decode cX3_measureRoutes 22 = .ok (.iinc 1 1, 3) := by decide +kernel
theorem dX3_measureRoutes_25 : decode cX3_measureRoutes 25 = .ok (.goto (-23), 3) := by decide +kernel
theorem dX3_measureRoutes_28 : decode cX3_measureRoutes 28 = .ok (.return_, 1) := by decide +kernel
set_option maxRecDepth 20000 in
theorem ggX3_spread_X3_shorten : GoodIn wsX3_spread wsX3_shorten := goodIn_r _ [10] (by decide +kernel) (by decide +kernel)
set_option maxRecDepth 20000 in
theorem gX3_spread_X3_shorten : GoodIn wsX3_spread (va_wsS RX3 54 yX3_shorten wsX3_shorten) := goodIn_app (goodIn_of _ (by decide +kernel)) ggX3_spread_X3_shorten
theorem dX3_spread_0 : decode cX3_spread 0 = .ok (.iconst 0, 1) := by decide +kernel
theorem dX3_spread_1 : decode cX3_spread 1 = .ok (.istore 4, 2) := by decide +kernel
theorem dX3_spread_3 : decode cX3_spread 3 = .ok (.iload 4, 2) := by decide +kernel
theorem dX3_spread_5 : decode cX3_spread 5 = .ok (.aload_n 3, 1) := by decide +kernel
theorem dX3_spread_6 : decode cX3_spread 6 = .ok (.arraylength, 1) := by decide +kernel
theorem dX3_spread_7 : decode cX3_spread 7 = .ok (.if_icmp .ge 24, 3) := by decide +kernel
theorem dX3_spread_10 : decode cX3_spread 10 = .ok (.aload_n 3, 1) := by decide +kernel
theorem dX3_spread_11 : decode cX3_spread 11 = .ok (.iload 4, 2) := by decide +kernel
theorem dX3_spread_13 : decode cX3_spread 13 = .ok (.iload 4, 2) := by decide +kernel
theorem dX3_spread_15 : decode cX3_spread 15 = .ok (.iload_n 1, 1) := by decide +kernel
theorem dX3_spread_16 : decode cX3_spread 16 = .ok (.if_icmp .ne 7, 3) := by decide +kernel
theorem dX3_spread_19 : decode cX3_spread 19 = .ok (.iconst 0, 1) := by decide +kernel
theorem dX3_spread_20 : decode cX3_spread 20 = .ok (.goto 4, 3) := by decide +kernel
theorem dX3_spread_23 : decode cX3_spread 23 = .ok (.iconst (-1), 1) := by decide +kernel
theorem dX3_spread_24 : decode cX3_spread 24 = .ok (.iastore, 1) := by decide +kernel
theorem dX3_spread_25 : decode cX3_spread 25 = .ok (.iinc 4 1, 3) := by decide +kernel
theorem dX3_spread_28 : decode cX3_spread 28 = .ok (.goto (-25), 3) := by decide +kernel
theorem dX3_spread_31 : decode cX3_spread 31 = .ok (.iconst 1, 1) := by decide +kernel
theorem dX3_spread_32 : decode cX3_spread 32 = .ok (.istore 4, 2) := by decide +kernel
theorem dX3_spread_34 : decode cX3_spread 34 = .ok (.iconst 0, 1) := by decide +kernel
theorem dX3_spread_35 : decode cX3_spread 35 = .ok (.istore 5, 2) := by decide +kernel
theorem dX3_spread_37 : decode cX3_spread 37 = .ok (.iload 5, 2) := by decide +kernel
theorem dX3_spread_39 : decode cX3_spread 39 = .ok (.aload_n 0, 1) := by decide +kernel
theorem dX3_spread_40 : decode cX3_spread 40 = .ok (.getfield 36, 3) := by decide +kernel
theorem dX3_spread_43 : decode cX3_spread 43 = .ok (.if_icmp .ge 127, 3) := by decide +kernel
theorem dX3_spread_46 : decode cX3_spread 46 = .ok (.iload 4, 2) := by decide +kernel
theorem dX3_spread_48 : decode cX3_spread 48 = .ok (.ifCond .eq 122, 3) := by decide +kernel
theorem dX3_spread_51 : decode cX3_spread 51 = .ok (.iconst 0, 1) := by decide +kernel
theorem dX3_spread_52 : decode cX3_spread 52 = .ok (.istore 4, 2) := by decide +kernel
theorem dX3_spread_54 : decode cX3_spread 54 = .ok (.iconst 0, 1) := by decide +kernel
theorem dX3_spread_55 : decode cX3_spread 55 = .ok (.istore 6, 2) := by decide +kernel
theorem dX3_spread_57 : decode cX3_spread 57 = .ok (.iload 6, 2) := by decide +kernel
theorem dX3_spread_59 : decode cX3_spread 59 = .ok (.aload_n 0, 1) := by decide +kernel
theorem dX3_spread_60 : decode cX3_spread 60 = .ok (.getfield 43, 3) := by decide +kernel
theorem dX3_spread_63 : decode cX3_spread 63 = .ok (.if_icmp .ge 101, 3) := by decide +kernel
theorem dX3_spread_66 : decode cX3_spread 66 = .ok (.aload_n 0, 1) := by decide +kernel
theorem dX3_spread_67 : decode cX3_spread 67 = .ok (.getfield 24, 3) := by decide +kernel
theorem dX3_spread_70 : decode cX3_spread 70 = .ok (.iload 6, 2) := by decide +kernel
theorem dX3_spread_72 : decode cX3_spread 72 = .ok (.baload, 1) := by decide +kernel
theorem dX3_spread_73 : decode cX3_spread 73 = .ok (.ifCond .eq 85, 3) := by decide +kernel
theorem dX3_spread_76 : decode cX3_spread 76 = .ok (.iload 6, 2) := by decide +kernel
theorem dX3_spread_78 : decode cX3_spread 78 = .ok (.iload_n 2, 1) := by decide +kernel
theorem dX3_spread_79 : decode cX3_spread 79 = .ok (.if_icmp .eq 79, 3) := by decide +kernel
theorem dX3_spread_82 : decode cX3_spread 82 = .ok (.aload_n 3, 1) := by decide +kernel
theorem dX3_spread_83 : decode cX3_spread 83 = .ok (.aload_n 0, 1) := by decide +kernel
theorem dX3_spread_84 : decode cX3_spread 84 = .ok (.getfield 9, 3) := by decide +kernel
theorem dX3_spread_87 : decode cX3_spread 87 = .ok (.iload 6, 2) := by decide +kernel
theorem dX3_spread_89 : decode cX3_spread 89 = .ok (.iaload, 1) := by decide +kernel
theorem dX3_spread_90 : decode cX3_spread 90 = .ok (.aload_n 0, 1) := by decide +kernel
theorem dX3_spread_91 : decode cX3_spread 91 = .ok (.getfield 15, 3) := by decide +kernel
theorem dX3_spread_94 : decode cX3_spread 94 = .ok (.iload 6, 2) := by decide +kernel
theorem dX3_spread_96 : decode cX3_spread 96 = .ok (.iaload, 1) := by decide +kernel
theorem dX3_spread_97 : decode cX3_spread 97 = .ok (.aload_n 0, 1) := by decide +kernel
theorem dX3_spread_98 : decode cX3_spread 98 = .ok (.getfield 18, 3) := by decide +kernel
theorem dX3_spread_101 : decode cX3_spread 101 = .ok (.iload 6, 2) := by decide +kernel
theorem dX3_spread_103 : decode cX3_spread 103 = .ok (.iaload, 1) := by decide +kernel
theorem dX3_spread_104 : decode cX3_spread 104 = .ok (.invokestatic 54, 3) := by decide +kernel
theorem dX3_spread_107 : decode cX3_spread 107 = .ok (.istore 7, 2) := by decide +kernel
theorem dX3_spread_109 : decode cX3_spread 109 = .ok (.aload_n 3, 1) := by decide +kernel
theorem dX3_spread_110 : decode cX3_spread 110 = .ok (.aload_n 0, 1) := by decide +kernel
theorem dX3_spread_111 : decode cX3_spread 111 = .ok (.getfield 15, 3) := by decide +kernel
theorem dX3_spread_114 : decode cX3_spread 114 = .ok (.iload 6, 2) := by decide +kernel
theorem dX3_spread_116 : decode cX3_spread 116 = .ok (.iaload, 1) := by decide +kernel
theorem dX3_spread_117 : decode cX3_spread 117 = .ok (.aload_n 0, 1) := by decide +kernel
theorem dX3_spread_118 : decode cX3_spread 118 = .ok (.getfield 9, 3) := by decide +kernel
theorem dX3_spread_121 : decode cX3_spread 121 = .ok (.iload 6, 2) := by decide +kernel
theorem dX3_spread_123 : decode cX3_spread 123 = .ok (.iaload, 1) := by decide +kernel
theorem dX3_spread_124 : decode cX3_spread 124 = .ok (.aload_n 0, 1) := by decide +kernel
theorem dX3_spread_125 : decode cX3_spread 125 = .ok (.getfield 18, 3) := by decide +kernel
theorem dX3_spread_128 : decode cX3_spread 128 = .ok (.iload 6, 2) := by decide +kernel
theorem dX3_spread_130 : decode cX3_spread 130 = .ok (.iaload, 1) := by decide +kernel
theorem dX3_spread_131 : decode cX3_spread 131 = .ok (.invokestatic 54, 3) := by decide +kernel
theorem dX3_spread_134 : decode cX3_spread 134 = .ok (.istore 8, 2) := by decide +kernel
theorem dX3_spread_136 : decode cX3_spread 136 = .ok (.iload 4, 2) := by decide +kernel
theorem dX3_spread_138 : decode cX3_spread 138 = .ok (.ifCond .ne 13, 3) := by decide +kernel
theorem dX3_spread_141 : decode cX3_spread 141 = .ok (.iload 7, 2) := by decide +kernel
theorem dX3_spread_143 : decode cX3_spread 143 = .ok (.ifCond .ne 8, 3) := by decide +kernel
theorem dX3_spread_146 : decode cX3_spread 146 = .ok (.iload 8, 2) := by decide +kernel
theorem dX3_spread_148 : decode cX3_spread 148 = .ok (.ifCond .eq 7, 3) := by decide +kernel
theorem dX3_spread_151 : decode cX3_spread 151 = .ok (.iconst 1, 1) := by decide +kernel
theorem dX3_spread_152 : decode cX3_spread 152 = .ok (.goto 4, 3) := by decide +kernel
theorem dX3_spread_155 : decode cX3_spread 155 = .ok (.iconst 0, 1) := by decide +kernel
theorem dX3_spread_156 : decode cX3_spread 156 = .ok (.istore 4, 2) := by decide +kernel
theorem dX3_spread_158 : decode cX3_spread 158 = .ok (.iinc 6 1, 3) := by decide +kernel
theorem dX3_spread_161 : decode cX3_spread 161 = .ok (.goto (-104), 3) := by decide +kernel
theorem dX3_spread_164 : decode cX3_spread 164 = .ok (.iinc 5 1, 3) := by decide +kernel
theorem dX3_spread_167 : decode cX3_spread 167 = .ok (.goto (-130), 3) := by decide +kernel
theorem dX3_spread_170 : decode cX3_spread 170 = .ok (.return_, 1) := by decide +kernel
theorem dX3_shorten_0 : decode cX3_shorten 0 = .ok (.aload_n 0, 1) := by decide +kernel
theorem dX3_shorten_1 : decode cX3_shorten 1 = .ok (.iload_n 2, 1) := by decide +kernel
theorem dX3_shorten_2 : decode cX3_shorten 2 = .ok (.iaload, 1) := by decide +kernel
theorem dX3_shorten_3 : decode cX3_shorten 3 = .ok (.iconst (-1), 1) := by decide +kernel
theorem dX3_shorten_4 : decode cX3_shorten 4 = .ok (.if_icmp .eq 21, 3) := by decide +kernel
theorem dX3_shorten_7 : decode cX3_shorten 7 = .ok (.aload_n 0, 1) := by decide +kernel
theorem dX3_shorten_8 : decode cX3_shorten 8 = .ok (.iload_n 1, 1) := by decide +kernel
theorem dX3_shorten_9 : decode cX3_shorten 9 = .ok (.iaload, 1) := by decide +kernel
theorem dX3_shorten_10 : decode cX3_shorten 10 = .ok (.iconst (-1), 1) := by decide +kernel
theorem dX3_shorten_11 : decode cX3_shorten 11 = .ok (.if_icmp .eq 16, 3) := by decide +kernel
theorem dX3_shorten_14 : decode cX3_shorten 14 = .ok (.aload_n 0, 1) := by decide +kernel
theorem dX3_shorten_15 : decode cX3_shorten 15 = .ok (.iload_n 1, 1) := by decide +kernel
theorem dX3_shorten_16 : decode cX3_shorten 16 = .ok (.iaload, 1) := by decide +kernel
theorem dX3_shorten_17 : decode cX3_shorten 17 = .ok (.aload_n 0, 1) := by decide +kernel
theorem dX3_shorten_18 : decode cX3_shorten 18 = .ok (.iload_n 2, 1) := by decide +kernel
theorem dX3_shorten_19 : decode cX3_shorten 19 = .ok (.iaload, 1) := by decide +kernel
theorem dX3_shorten_20 : decode cX3_shorten 20 = .ok (.iload_n 3, 1) := by decide +kernel
theorem dX3_shorten_21 : decode cX3_shorten 21 = .ok (.iadd, 1) := by decide +kernel
theorem dX3_shorten_22 : decode cX3_shorten 22 = .ok (.if_icmp .gt 5, 3) := by decide +kernel
theorem dX3_shorten_25 : decode cX3_shorten 25 = .ok (.iconst 0, 1) := by decide +kernel
theorem dX3_shorten_26 : decode cX3_shorten 26 = .ok (.ireturn, 1) := by decide +kernel
theorem dX3_shorten_27 : decode cX3_shorten 27 = .ok (.aload_n 0, 1) := by decide +kernel
theorem dX3_shorten_28 : decode cX3_shorten 28 = .ok (.iload_n 1, 1) := by decide +kernel
theorem dX3_shorten_29 : decode cX3_shorten 29 = .ok (.aload_n 0, 1) := by decide +kernel
theorem dX3_shorten_30 : decode cX3_shorten 30 = .ok (.iload_n 2, 1) := by decide +kernel
theorem dX3_shorten_31 : decode cX3_shorten 31 = .ok (.iaload, 1) := by decide +kernel
theorem dX3_shorten_32 : decode cX3_shorten 32 = .ok (.iload_n 3, 1) := by decide +kernel
theorem dX3_shorten_33 : decode cX3_shorten 33 = .ok (.iadd, 1) := by decide +kernel
theorem dX3_shorten_34 : decode cX3_shorten 34 = .ok (.iastore, 1) := by decide +kernel
theorem dX3_shorten_35 : decode cX3_shorten 35 = .ok (.iconst 1, 1) := by decide +kernel
theorem dX3_shorten_36 : decode cX3_shorten 36 = .ok (.ireturn, 1) := by decide +kernel
