set_option maxRecDepth 20000 in
theorem ggX11_digest_X10_underWay : GoodIn wsX11_digest wsX10_underWay := goodIn_r _ [12, 13, 14, 15, 47, 48, 49, 50, 51, 52, 53, 54, 55, 56, 57, 58, 59, 37, 38, 39, 40, 41, 42, 43, 44, 45, 46, 60, 61] (by decide +kernel) (by decide +kernel)
set_option maxRecDepth 20000 in
theorem gX11_digest_X10_underWay : GoodIn wsX11_digest (wsV RX11 147 RX10 yX10_underWay wsX10_underWay) := goodIn_app (goodIn_of _ (by decide +kernel)) ggX11_digest_X10_underWay
set_option maxRecDepth 20000 in
theorem ggX11_digest_X11_add : GoodIn wsX11_digest wsX11_add := goodIn_r _ [20, 3, 21, 37, 38, 39, 40, 41, 42, 43, 44, 45, 46] (by decide +kernel) (by decide +kernel)
set_option maxRecDepth 20000 in
theorem gX11_digest_X11_add : GoodIn wsX11_digest (wsV RX11 170 RX11 yX11_add wsX11_add) := goodIn_app (goodIn_of _ (by decide +kernel)) ggX11_digest_X11_add
theorem dX11_digest_0 : decode cX11_digest 0 = .ok (.aload_n 0, 1) := by decide +kernel
theorem dX11_digest_1 : decode cX11_digest 1 = .ok (.iconst 0, 1) := by decide +kernel
theorem dX11_digest_2 : decode cX11_digest 2 = .ok (.putfield 34, 3) := by decide +kernel
theorem dX11_digest_5 : decode cX11_digest 5 = .ok (.aload_n 0, 1) := by decide +kernel
theorem dX11_digest_6 : decode cX11_digest 6 = .ok (.ldc2_w 168, 3) := by decide +kernel
theorem dX11_digest_9 : decode cX11_digest 9 = .ok (.putfield 162, 3) := by decide +kernel
theorem dX11_digest_12 : decode cX11_digest 12 = .ok (.bipush 6, 2) := by decide +kernel
theorem dX11_digest_14 : decode cX11_digest 14 = .ok (.newarray .int, 2) := by decide +kernel
theorem dX11_digest_16 : decode cX11_digest 16 = .ok (.dup, 1) := by decide +kernel
theorem dX11_digest_17 : decode cX11_digest 17 = .ok (.iconst 0, 1) := by decide +kernel
theorem dX11_digest_18 : decode cX11_digest 18 = .ok (.aload_n 0, 1) := by decide +kernel
theorem dX11_digest_19 : decode cX11_digest 19 = .ok (.getfield 27, 3) := by decide +kernel
theorem dX11_digest_22 : decode cX11_digest 22 = .ok (.getfield 116, 3) := by decide +kernel
theorem dX11_digest_25 : decode cX11_digest 25 = .ok (.iastore, 1) := by decide +kernel
theorem dX11_digest_26 : decode cX11_digest 26 = .ok (.dup, 1) := by decide +kernel
theorem dX11_digest_27 : decode cX11_digest 27 = .ok (.iconst 1, 1) := by decide +kernel
theorem dX11_digest_28 : decode cX11_digest 28 = .ok (.aload_n 0, 1) := by decide +kernel
theorem dX11_digest_29 : decode cX11_digest 29 = .ok (.getfield 38, 3) := by decide +kernel
theorem dX11_digest_32 : decode cX11_digest 32 = .ok (.iastore, 1) := by decide +kernel
theorem dX11_digest_33 : decode cX11_digest 33 = .ok (.dup, 1) := by decide +kernel
theorem dX11_digest_34 : decode cX11_digest 34 = .ok (.iconst 2, 1) := by decide +kernel
theorem dX11_digest_35 : decode cX11_digest 35 = .ok (.aload_n 0, 1) := by decide +kernel
theorem dX11_digest_36 : decode cX11_digest 36 = .ok (.getfield 45, 3) := by decide +kernel
theorem dX11_digest_39 : decode cX11_digest 39 = .ok (.iastore, 1) := by decide +kernel
theorem dX11_digest_40 : decode cX11_digest 40 = .ok (.dup, 1) := by decide +kernel
theorem dX11_digest_41 : decode cX11_digest 41 = .ok (.iconst 3, 1) := by decide +kernel
theorem dX11_digest_42 : decode cX11_digest 42 = .ok (.aload_n 0, 1) := by decide +kernel
theorem dX11_digest_43 : decode cX11_digest 43 = .ok (.getfield 27, 3) := by decide +kernel
theorem dX11_digest_46 : decode cX11_digest 46 = .ok (.getfield 144, 3) := by decide +kernel
theorem dX11_digest_49 : decode cX11_digest 49 = .ok (.iastore, 1) := by decide +kernel
theorem dX11_digest_50 : decode cX11_digest 50 = .ok (.dup, 1) := by decide +kernel
theorem dX11_digest_51 : decode cX11_digest 51 = .ok (.iconst 4, 1) := by decide +kernel
theorem dX11_digest_52 : decode cX11_digest 52 = .ok (.aload_n 0, 1) := by decide +kernel
theorem dX11_digest_53 : decode cX11_digest 53 = .ok (.getfield 27, 3) := by decide +kernel
theorem dX11_digest_56 : decode cX11_digest 56 = .ok (.invokevirtual 147, 3) := by decide +kernel
theorem dX11_digest_59 : decode cX11_digest 59 = .ok (.iastore, 1) := by decide +kernel
theorem dX11_digest_60 : decode cX11_digest 60 = .ok (.dup, 1) := by decide +kernel
theorem dX11_digest_61 : decode cX11_digest 61 = .ok (.iconst 5, 1) := by decide +kernel
theorem dX11_digest_62 : decode cX11_digest 62 = .ok (.aload_n 0, 1) := by decide +kernel
theorem dX11_digest_63 : decode cX11_digest 63 = .ok (.getfield 27, 3) := by decide +kernel
theorem dX11_digest_66 : decode cX11_digest 66 = .ok (.getfield 48, 3) := by decide +kernel
theorem dX11_digest_69 : decode cX11_digest 69 = .ok (.iastore, 1) := by decide +kernel
theorem dX11_digest_70 : decode cX11_digest 70 = .ok (.astore_n 1, 1) := by decide +kernel
theorem dX11_digest_71 : decode cX11_digest 71 = .ok (.aload_n 1, 1) := by decide +kernel
theorem dX11_digest_72 : decode cX11_digest 72 = .ok (.astore_n 2, 1) := by decide +kernel
theorem dX11_digest_73 : decode cX11_digest 73 = .ok (.aload_n 2, 1) := by decide +kernel
theorem dX11_digest_74 : decode cX11_digest 74 = .ok (.arraylength, 1) := by decide +kernel
theorem dX11_digest_75 : decode cX11_digest 75 = .ok (.istore_n 3, 1) := by decide +kernel
theorem dX11_digest_76 : decode cX11_digest 76 = .ok (.iconst 0, 1) := by decide +kernel
theorem dX11_digest_77 : decode cX11_digest 77 = .ok (.istore 4, 2) := by decide +kernel
theorem dX11_digest_79 : decode cX11_digest 79 = .ok (.iload 4, 2) := by decide +kernel
theorem dX11_digest_81 : decode cX11_digest 81 = .ok (.iload_n 3, 1) := by decide +kernel
theorem dX11_digest_82 : decode cX11_digest 82 = .ok (.if_icmp .ge 21, 3) := by decide +kernel
theorem dX11_digest_85 : decode cX11_digest 85 = .ok (.aload_n 2, 1) := by decide +kernel
theorem dX11_digest_86 : decode cX11_digest 86 = .ok (.iload 4, 2) := by decide +kernel
theorem dX11_digest_88 : decode cX11_digest 88 = .ok (.iaload, 1) := by decide +kernel
theorem dX11_digest_89 : decode cX11_digest 89 = .ok (.istore 5, 2) := by decide +kernel
theorem dX11_digest_91 : decode cX11_digest 91 = .ok (.aload_n 0, 1) := by decide +kernel
theorem dX11_digest_92 : decode cX11_digest 92 = .ok (.iload 5, 2) := by decide +kernel
theorem dX11_digest_94 : decode cX11_digest 94 = .ok (.invokevirtual 170, 3) := by decide +kernel
theorem dX11_digest_97 : decode cX11_digest 97 = .ok (.iinc 4 1, 3) := by decide +kernel
theorem dX11_digest_100 : decode cX11_digest 100 = .ok (.goto (-21), 3) := by decide +kernel
theorem dX11_digest_103 : decode cX11_digest 103 = .ok (.iconst 0, 1) := by decide +kernel
theorem dX11_digest_104 : decode cX11_digest 104 = .ok (.istore_n 2, 1) := by decide +kernel
theorem dX11_digest_105 : decode cX11_digest 105 = .ok (.iload_n 2, 1) := by decide +kernel
theorem dX11_digest_106 : decode cX11_digest 106 = .ok (.aload_n 0, 1) := by decide +kernel
theorem dX11_digest_107 : decode cX11_digest 107 = .ok (.getfield 45, 3) := by decide +kernel
theorem dX11_digest_110 : decode cX11_digest 110 = .ok (.if_icmp .ge 134, 3) := by decide +kernel
theorem dX11_digest_113 : decode cX11_digest 113 = .ok (.aload_n 0, 1) := by decide +kernel
theorem dX11_digest_114 : decode cX11_digest 114 = .ok (.aload_n 0, 1) := by decide +kernel
theorem dX11_digest_115 : decode cX11_digest 115 = .ok (.getfield 27, 3) := by decide +kernel
theorem dX11_digest_118 : decode cX11_digest 118 = .ok (.getfield 66, 3) := by decide +kernel
theorem dX11_digest_121 : decode cX11_digest 121 = .ok (.iload_n 2, 1) := by decide +kernel
theorem dX11_digest_122 : decode cX11_digest 122 = .ok (.baload, 1) := by decide +kernel
theorem dX11_digest_123 : decode cX11_digest 123 = .ok (.ifCond .eq 7, 3) := by decide +kernel
theorem dX11_digest_126 : decode cX11_digest 126 = .ok (.iconst 1, 1) := by decide +kernel
theorem dX11_digest_127 : decode cX11_digest 127 = .ok (.goto 4, 3) := by decide +kernel
theorem dX11_digest_130 : decode cX11_digest 130 = .ok (.iconst 0, 1) := by decide +kernel
theorem dX11_digest_131 : decode cX11_digest 131 = .ok (.invokevirtual 170, 3) := by decide +kernel
theorem dX11_digest_134 : decode cX11_digest 134 = .ok (.iconst 2, 1) := by decide +kernel
theorem dX11_digest_135 : decode cX11_digest 135 = .ok (.iload_n 2, 1) := by decide +kernel
theorem dX11_digest_136 : decode cX11_digest 136 = .ok (.imul, 1) := by decide +kernel
theorem dX11_digest_137 : decode cX11_digest 137 = .ok (.istore_n 3, 1) := by decide +kernel
theorem dX11_digest_138 : decode cX11_digest 138 = .ok (.iload_n 3, 1) := by decide +kernel
theorem dX11_digest_139 : decode cX11_digest 139 = .ok (.iconst 2, 1) := by decide +kernel
theorem dX11_digest_140 : decode cX11_digest 140 = .ok (.iload_n 2, 1) := by decide +kernel
theorem dX11_digest_141 : decode cX11_digest 141 = .ok (.imul, 1) := by decide +kernel
theorem dX11_digest_142 : decode cX11_digest 142 = .ok (.iconst 2, 1) := by decide +kernel
theorem dX11_digest_143 : decode cX11_digest 143 = .ok (.iadd, 1) := by decide +kernel
theorem dX11_digest_144 : decode cX11_digest 144 = .ok (.if_icmp .ge 94, 3) := by decide +kernel
theorem dX11_digest_147 : decode cX11_digest 147 = .ok (.iconst 3, 1) := by decide +kernel
theorem dX11_digest_238 : decode cX11_digest 238 = .ok (.iinc 2 1, 3) := by decide +kernel
theorem dX11_digest_241 : decode cX11_digest 241 = .ok (.goto (-136), 3) := by decide +kernel
theorem dX11_digest_244 : decode cX11_digest 244 = .ok (.iconst 0, 1) := by decide +kernel
theorem dX11_digest_245 : decode cX11_digest 245 = .ok (.istore_n 2, 1) := by decide +kernel
theorem dX11_digest_246 : decode cX11_digest 246 = .ok (.iload_n 2, 1) := by decide +kernel
theorem dX11_digest_247 : decode cX11_digest 247 = .ok (.aload_n 0, 1) := by decide +kernel
theorem dX11_digest_248 : decode cX11_digest 248 = .ok (.getfield 27, 3) := by decide +kernel
theorem dX11_digest_251 : decode cX11_digest 251 = .ok (.getfield 48, 3) := by decide +kernel
theorem dX11_digest_254 : decode cX11_digest 254 = .ok (.if_icmp .ge 211, 3) := by decide +kernel
theorem dX11_digest_257 : decode cX11_digest 257 = .ok (.aload_n 0, 1) := by decide +kernel
theorem dX11_digest_258 : decode cX11_digest 258 = .ok (.getfield 27, 3) := by decide +kernel
theorem dX11_digest_261 : decode cX11_digest 261 = .ok (.getfield 79, 3) := by decide +kernel
theorem dX11_digest_264 : decode cX11_digest 264 = .ok (.iload_n 2, 1) := by decide +kernel
theorem dX11_digest_265 : decode cX11_digest 265 = .ok (.aaload, 1) := by decide +kernel
theorem dX11_digest_266 : decode cX11_digest 266 = .ok (.astore_n 3, 1) := by decide +kernel
theorem dX11_digest_267 : decode cX11_digest 267 = .ok (.bipush 19, 2) := by decide +kernel
theorem dX11_digest_465 : decode cX11_digest 465 = .ok (.iconst 0, 1) := by decide +kernel
theorem dX11_digest_466 : decode cX11_digest 466 = .ok (.istore_n 2, 1) := by decide +kernel
theorem dX11_digest_467 : decode cX11_digest 467 = .ok (.iload_n 2, 1) := by decide +kernel
theorem dX11_digest_468 : decode cX11_digest 468 = .ok (.aload_n 0, 1) := by decide +kernel
theorem dX11_digest_469 : decode cX11_digest 469 = .ok (.getfield 38, 3) := by decide +kernel
theorem dX11_digest_472 : decode cX11_digest 472 = .ok (.if_icmp .ge 22, 3) := by decide +kernel
theorem dX11_digest_475 : decode cX11_digest 475 = .ok (.aload_n 0, 1) := by decide +kernel
theorem dX11_digest_476 : decode cX11_digest 476 = .ok (.aload_n 0, 1) := by decide +kernel
theorem dX11_digest_477 : decode cX11_digest 477 = .ok (.getfield 27, 3) := by decide +kernel
theorem dX11_digest_480 : decode cX11_digest 480 = .ok (.iconst 0, 1) := by decide +kernel
theorem dX11_digest_481 : decode cX11_digest 481 = .ok (.iload_n 2, 1) := by decide +kernel
theorem dX11_digest_494 : decode cX11_digest 494 = .ok (.aload_n 0, 1) := by decide +kernel
theorem dX11_digest_495 : decode cX11_digest 495 = .ok (.getfield 162, 3) := by decide +kernel
theorem dX11_digest_498 : decode cX11_digest 498 = .ok (.lreturn, 1) := by decide +kernel
