theorem dX11_thrown_0 : decode cX11_thrown 0 = .ok (.aload_n 0, 1) := by decide +kernel
theorem dX11_thrown_1 : decode cX11_thrown 1 = .ok (.getfield 34, 3) := by decide +kernel
theorem dX11_thrown_4 : decode cX11_thrown 4 = .ok (.ireturn, 1) := by decide +kernel
theorem dX11_refuse_0 : decode cX11_refuse 0 = .ok (.aload_n 0, 1) := by decide +kernel
theorem dX11_refuse_1 : decode cX11_refuse 1 = .ok (.iload_n 1, 1) := by decide +kernel
theorem dX11_refuse_2 : decode cX11_refuse 2 = .ok (.putfield 34, 3) := by decide +kernel
theorem dX11_refuse_5 : decode cX11_refuse 5 = .ok (.iconst 0, 1) := by decide +kernel
theorem dX11_refuse_6 : decode cX11_refuse 6 = .ok (.ireturn, 1) := by decide +kernel
theorem dX11_is_0 : decode cX11_is 0 = .ok (.iload_n 0, 1) := by decide +kernel
theorem dX11_is_1 : decode cX11_is 1 = .ok (.iload_n 1, 1) := by decide +kernel
theorem dX11_is_2 : decode cX11_is 2 = .ok (.if_icmp .lt 12, 3) := by decide +kernel
theorem dX11_is_5 : decode cX11_is 5 = .ok (.iload_n 0, 1) := by decide +kernel
theorem dX11_is_6 : decode cX11_is 6 = .ok (.iload_n 2, 1) := by decide +kernel
theorem dX11_is_7 : decode cX11_is 7 = .ok (.if_icmp .gt 7, 3) := by decide +kernel
theorem dX11_is_10 : decode cX11_is 10 = .ok (.iconst 1, 1) := by decide +kernel
theorem dX11_is_11 : decode cX11_is 11 = .ok (.goto 4, 3) := by decide +kernel
theorem dX11_is_14 : decode cX11_is 14 = .ok (.iconst 0, 1) := by decide +kernel
theorem dX11_is_15 : decode cX11_is 15 = .ok (.ireturn, 1) := by decide +kernel
set_option maxRecDepth 20000 in
theorem ggX11_isNode_X11_is : GoodIn wsX11_isNode wsX11_is := goodIn_r _ [5] (by decide +kernel) (by decide +kernel)
set_option maxRecDepth 20000 in
theorem gX11_isNode_X11_is : GoodIn wsX11_isNode (va_wsS RX11 41 yX11_is wsX11_is) := goodIn_app (goodIn_of _ (by decide +kernel)) ggX11_isNode_X11_is
theorem dX11_isNode_0 : decode cX11_isNode 0 = .ok (.iload_n 1, 1) := by decide +kernel
theorem dX11_isNode_1 : decode cX11_isNode 1 = .ok (.iconst 0, 1) := by decide +kernel
theorem dX11_isNode_2 : decode cX11_isNode 2 = .ok (.aload_n 0, 1) := by decide +kernel
theorem dX11_isNode_3 : decode cX11_isNode 3 = .ok (.getfield 38, 3) := by decide +kernel
theorem dX11_isNode_6 : decode cX11_isNode 6 = .ok (.iconst 1, 1) := by decide +kernel
theorem dX11_isNode_7 : decode cX11_isNode 7 = .ok (.isub, 1) := by decide +kernel
theorem dX11_isNode_8 : decode cX11_isNode 8 = .ok (.invokestatic 41, 3) := by decide +kernel
theorem dX11_isNode_11 : decode cX11_isNode 11 = .ok (.ireturn, 1) := by decide +kernel
set_option maxRecDepth 20000 in
theorem ggX11_isLink_X11_is : GoodIn wsX11_isLink wsX11_is := goodIn_r _ [5] (by decide +kernel) (by decide +kernel)
set_option maxRecDepth 20000 in
theorem gX11_isLink_X11_is : GoodIn wsX11_isLink (va_wsS RX11 41 yX11_is wsX11_is) := goodIn_app (goodIn_of _ (by decide +kernel)) ggX11_isLink_X11_is
theorem dX11_isLink_0 : decode cX11_isLink 0 = .ok (.iload_n 1, 1) := by decide +kernel
theorem dX11_isLink_1 : decode cX11_isLink 1 = .ok (.iconst 0, 1) := by decide +kernel
theorem dX11_isLink_2 : decode cX11_isLink 2 = .ok (.aload_n 0, 1) := by decide +kernel
theorem dX11_isLink_3 : decode cX11_isLink 3 = .ok (.getfield 45, 3) := by decide +kernel
theorem dX11_isLink_6 : decode cX11_isLink 6 = .ok (.iconst 1, 1) := by decide +kernel
theorem dX11_isLink_7 : decode cX11_isLink 7 = .ok (.isub, 1) := by decide +kernel
theorem dX11_isLink_8 : decode cX11_isLink 8 = .ok (.invokestatic 41, 3) := by decide +kernel
theorem dX11_isLink_11 : decode cX11_isLink 11 = .ok (.ireturn, 1) := by decide +kernel
set_option maxRecDepth 20000 in
theorem ggX11_isCall_X11_is : GoodIn wsX11_isCall wsX11_is := goodIn_r _ [5] (by decide +kernel) (by decide +kernel)
set_option maxRecDepth 20000 in
theorem gX11_isCall_X11_is : GoodIn wsX11_isCall (va_wsS RX11 41 yX11_is wsX11_is) := goodIn_app (goodIn_of _ (by decide +kernel)) ggX11_isCall_X11_is
theorem dX11_isCall_0 : decode cX11_isCall 0 = .ok (.iload_n 1, 1) := by decide +kernel
theorem dX11_isCall_1 : decode cX11_isCall 1 = .ok (.iconst 0, 1) := by decide +kernel
theorem dX11_isCall_2 : decode cX11_isCall 2 = .ok (.aload_n 0, 1) := by decide +kernel
theorem dX11_isCall_3 : decode cX11_isCall 3 = .ok (.getfield 27, 3) := by decide +kernel
theorem dX11_isCall_6 : decode cX11_isCall 6 = .ok (.getfield 48, 3) := by decide +kernel
theorem dX11_isCall_9 : decode cX11_isCall 9 = .ok (.iconst 1, 1) := by decide +kernel
theorem dX11_isCall_10 : decode cX11_isCall 10 = .ok (.isub, 1) := by decide +kernel
theorem dX11_isCall_11 : decode cX11_isCall 11 = .ok (.invokestatic 41, 3) := by decide +kernel
theorem dX11_isCall_14 : decode cX11_isCall 14 = .ok (.ireturn, 1) := by decide +kernel
set_option maxRecDepth 20000 in
theorem ggX11_addNode_X11_refuse : GoodIn wsX11_addNode wsX11_refuse := goodIn_r _ [8, 1, 26, 27, 28, 29, 30, 31, 32, 33, 34, 35] (by decide +kernel) (by decide +kernel)
set_option maxRecDepth 20000 in
theorem gX11_addNode_X11_refuse : GoodIn wsX11_addNode (wsV RX11 51 RX11 yX11_refuse wsX11_refuse) := goodIn_app (goodIn_of _ (by decide +kernel)) ggX11_addNode_X11_refuse
set_option maxRecDepth 20000 in
theorem ggX11_addNode_X10_routes : GoodIn wsX11_addNode wsX10_routes := goodIn_r _ [13, 14, 15, 16, 17, 18, 19, 20, 21, 22, 23, 24, 25, 36, 37, 38, 39, 40, 41, 42, 43, 44, 45, 46, 47, 48, 26, 27, 28, 29, 30, 31, 32, 33, 34, 35] (by decide +kernel) (by decide +kernel)
set_option maxRecDepth 20000 in
theorem gX11_addNode_X10_routes : GoodIn wsX11_addNode (wsV RX11 55 RX10 yX10_routes wsX10_routes) := goodIn_app (goodIn_of _ (by decide +kernel)) ggX11_addNode_X10_routes
theorem dX11_addNode_0 : decode cX11_addNode 0 = .ok (.aload_n 0, 1) := by decide +kernel
theorem dX11_addNode_1 : decode cX11_addNode 1 = .ok (.iconst 0, 1) := by decide +kernel
theorem dX11_addNode_2 : decode cX11_addNode 2 = .ok (.putfield 34, 3) := by decide +kernel
theorem dX11_addNode_5 : decode cX11_addNode 5 = .ok (.aload_n 0, 1) := by decide +kernel
theorem dX11_addNode_6 : decode cX11_addNode 6 = .ok (.getfield 38, 3) := by decide +kernel
theorem dX11_addNode_9 : decode cX11_addNode 9 = .ok (.bipush 8, 2) := by decide +kernel
theorem dX11_addNode_11 : decode cX11_addNode 11 = .ok (.if_icmp .ne 9, 3) := by decide +kernel
theorem dX11_addNode_14 : decode cX11_addNode 14 = .ok (.aload_n 0, 1) := by decide +kernel
theorem dX11_addNode_15 : decode cX11_addNode 15 = .ok (.iconst 1, 1) := by decide +kernel
theorem dX11_addNode_16 : decode cX11_addNode 16 = .ok (.invokevirtual 51, 3) := by decide +kernel
theorem dX11_addNode_19 : decode cX11_addNode 19 = .ok (.ireturn, 1) := by decide +kernel
theorem dX11_addNode_20 : decode cX11_addNode 20 = .ok (.aload_n 0, 1) := by decide +kernel
theorem dX11_addNode_21 : decode cX11_addNode 21 = .ok (.dup, 1) := by decide +kernel
theorem dX11_addNode_22 : decode cX11_addNode 22 = .ok (.getfield 38, 3) := by decide +kernel
theorem dX11_addNode_25 : decode cX11_addNode 25 = .ok (.iconst 1, 1) := by decide +kernel
theorem dX11_addNode_26 : decode cX11_addNode 26 = .ok (.iadd, 1) := by decide +kernel
theorem dX11_addNode_27 : decode cX11_addNode 27 = .ok (.putfield 38, 3) := by decide +kernel
theorem dX11_addNode_30 : decode cX11_addNode 30 = .ok (.aload_n 0, 1) := by decide +kernel
theorem dX11_addNode_31 : decode cX11_addNode 31 = .ok (.getfield 27, 3) := by decide +kernel
theorem dX11_addNode_34 : decode cX11_addNode 34 = .ok (.iconst (-1), 1) := by decide +kernel
theorem dX11_addNode_35 : decode cX11_addNode 35 = .ok (.invokevirtual 55, 3) := by decide +kernel
theorem dX11_addNode_38 : decode cX11_addNode 38 = .ok (.aload_n 0, 1) := by decide +kernel
theorem dX11_addNode_39 : decode cX11_addNode 39 = .ok (.getfield 38, 3) := by decide +kernel
theorem dX11_addNode_42 : decode cX11_addNode 42 = .ok (.iconst 1, 1) := by decide +kernel
theorem dX11_addNode_43 : decode cX11_addNode 43 = .ok (.isub, 1) := by decide +kernel
theorem dX11_addNode_44 : decode cX11_addNode 44 = .ok (.ireturn, 1) := by decide +kernel
set_option maxRecDepth 20000 in
theorem ggX11_addLink_X11_isNode : GoodIn wsX11_addLink wsX11_isNode := goodIn_r _ [12, 13, 14, 15, 11, 16, 42, 43, 44, 45, 46, 47, 48, 49, 50, 51] (by decide +kernel) (by decide +kernel)
set_option maxRecDepth 20000 in
theorem gX11_addLink_X11_isNode : GoodIn wsX11_addLink (wsV RX11 59 RX11 yX11_isNode wsX11_isNode) := goodIn_app (goodIn_of _ (by decide +kernel)) ggX11_addLink_X11_isNode
set_option maxRecDepth 20000 in
theorem ggX11_addLink_X11_refuse : GoodIn wsX11_addLink wsX11_refuse := goodIn_r _ [20, 1, 42, 43, 44, 45, 46, 47, 48, 49, 50, 51] (by decide +kernel) (by decide +kernel)
set_option maxRecDepth 20000 in
theorem gX11_addLink_X11_refuse : GoodIn wsX11_addLink (wsV RX11 51 RX11 yX11_refuse wsX11_refuse) := goodIn_app (goodIn_of _ (by decide +kernel)) ggX11_addLink_X11_refuse
set_option maxRecDepth 20000 in
theorem ggX11_addLink_X11_is : GoodIn wsX11_addLink wsX11_is := goodIn_r _ [16] (by decide +kernel) (by decide +kernel)
set_option maxRecDepth 20000 in
theorem gX11_addLink_X11_is : GoodIn wsX11_addLink (va_wsS RX11 41 yX11_is wsX11_is) := goodIn_app (goodIn_of _ (by decide +kernel)) ggX11_addLink_X11_is
set_option maxRecDepth 20000 in
theorem ggX11_addLink_X10_routes : GoodIn wsX11_addLink wsX10_routes := goodIn_r _ [29, 30, 31, 32, 33, 34, 35, 36, 37, 38, 39, 40, 41, 52, 53, 54, 55, 56, 57, 58, 59, 60, 61, 62, 63, 64, 42, 43, 44, 45, 46, 47, 48, 49, 50, 51] (by decide +kernel) (by decide +kernel)
set_option maxRecDepth 20000 in
theorem gX11_addLink_X10_routes : GoodIn wsX11_addLink (wsV RX11 55 RX10 yX10_routes wsX10_routes) := goodIn_app (goodIn_of _ (by decide +kernel)) ggX11_addLink_X10_routes
theorem dX11_addLink_0 : decode cX11_addLink 0 = .ok (.aload_n 0, 1) := by decide +kernel
theorem dX11_addLink_1 : decode cX11_addLink 1 = .ok (.iconst 0, 1) := by decide +kernel
theorem dX11_addLink_2 : decode cX11_addLink 2 = .ok (.putfield 34, 3) := by decide +kernel
theorem dX11_addLink_5 : decode cX11_addLink 5 = .ok (.aload_n 0, 1) := by decide +kernel
theorem dX11_addLink_6 : decode cX11_addLink 6 = .ok (.iload_n 1, 1) := by decide +kernel
theorem dX11_addLink_7 : decode cX11_addLink 7 = .ok (.invokevirtual 59, 3) := by decide +kernel
theorem dX11_addLink_10 : decode cX11_addLink 10 = .ok (.ifCond .eq 11, 3) := by decide +kernel
theorem dX11_addLink_13 : decode cX11_addLink 13 = .ok (.aload_n 0, 1) := by decide +kernel
theorem dX11_addLink_14 : decode cX11_addLink 14 = .ok (.iload_n 2, 1) := by decide +kernel
theorem dX11_addLink_15 : decode cX11_addLink 15 = .ok (.invokevirtual 59, 3) := by decide +kernel
theorem dX11_addLink_18 : decode cX11_addLink 18 = .ok (.ifCond .ne 9, 3) := by decide +kernel
theorem dX11_addLink_21 : decode cX11_addLink 21 = .ok (.aload_n 0, 1) := by decide +kernel
theorem dX11_addLink_22 : decode cX11_addLink 22 = .ok (.iconst 1, 1) := by decide +kernel
theorem dX11_addLink_23 : decode cX11_addLink 23 = .ok (.invokevirtual 51, 3) := by decide +kernel
theorem dX11_addLink_26 : decode cX11_addLink 26 = .ok (.ireturn, 1) := by decide +kernel
theorem dX11_addLink_27 : decode cX11_addLink 27 = .ok (.iload_n 1, 1) := by decide +kernel
theorem dX11_addLink_28 : decode cX11_addLink 28 = .ok (.iload_n 2, 1) := by decide +kernel
theorem dX11_addLink_29 : decode cX11_addLink 29 = .ok (.if_icmp .eq 24, 3) := by decide +kernel
theorem dX11_addLink_32 : decode cX11_addLink 32 = .ok (.iload_n 3, 1) := by decide +kernel
theorem dX11_addLink_33 : decode cX11_addLink 33 = .ok (.iconst 1, 1) := by decide +kernel
theorem dX11_addLink_34 : decode cX11_addLink 34 = .ok (.bipush 9, 2) := by decide +kernel
theorem dX11_addLink_36 : decode cX11_addLink 36 = .ok (.invokestatic 41, 3) := by decide +kernel
theorem dX11_addLink_39 : decode cX11_addLink 39 = .ok (.ifCond .eq 14, 3) := by decide +kernel
theorem dX11_addLink_42 : decode cX11_addLink 42 = .ok (.iload 4, 2) := by decide +kernel
theorem dX11_addLink_44 : decode cX11_addLink 44 = .ok (.iconst 1, 1) := by decide +kernel
theorem dX11_addLink_45 : decode cX11_addLink 45 = .ok (.bipush 20, 2) := by decide +kernel
theorem dX11_addLink_47 : decode cX11_addLink 47 = .ok (.invokestatic 41, 3) := by decide +kernel
theorem dX11_addLink_50 : decode cX11_addLink 50 = .ok (.ifCond .ne 9, 3) := by decide +kernel
theorem dX11_addLink_53 : decode cX11_addLink 53 = .ok (.aload_n 0, 1) := by decide +kernel
theorem dX11_addLink_54 : decode cX11_addLink 54 = .ok (.iconst 2, 1) := by decide +kernel
theorem dX11_addLink_55 : decode cX11_addLink 55 = .ok (.invokevirtual 51, 3) := by decide +kernel
theorem dX11_addLink_58 : decode cX11_addLink 58 = .ok (.ireturn, 1) := by decide +kernel
theorem dX11_addLink_59 : decode cX11_addLink 59 = .ok (.aload_n 0, 1) := by decide +kernel
theorem dX11_addLink_60 : decode cX11_addLink 60 = .ok (.getfield 45, 3) := by decide +kernel
theorem dX11_addLink_63 : decode cX11_addLink 63 = .ok (.bipush 12, 2) := by decide +kernel
theorem dX11_addLink_65 : decode cX11_addLink 65 = .ok (.if_icmp .ne 7, 3) := by decide +kernel
theorem dX11_addLink_68 : decode cX11_addLink 68 = .ok (.iconst 1, 1) := by decide +kernel
theorem dX11_addLink_69 : decode cX11_addLink 69 = .ok (.goto 4, 3) := by decide +kernel
theorem dX11_addLink_72 : decode cX11_addLink 72 = .ok (.iconst 0, 1) := by decide +kernel
theorem dX11_addLink_73 : decode cX11_addLink 73 = .ok (.istore 5, 2) := by decide +kernel
theorem dX11_addLink_75 : decode cX11_addLink 75 = .ok (.iconst 0, 1) := by decide +kernel
theorem dX11_addLink_76 : decode cX11_addLink 76 = .ok (.istore 6, 2) := by decide +kernel
theorem dX11_addLink_78 : decode cX11_addLink 78 = .ok (.iload 6, 2) := by decide +kernel
theorem dX11_addLink_80 : decode cX11_addLink 80 = .ok (.aload_n 0, 1) := by decide +kernel
theorem dX11_addLink_81 : decode cX11_addLink 81 = .ok (.getfield 45, 3) := by decide +kernel
theorem dX11_addLink_84 : decode cX11_addLink 84 = .ok (.if_icmp .ge 22, 3) := by decide +kernel
theorem dX11_addLink_87 : decode cX11_addLink 87 = .ok (.iload 5, 2) := by decide +kernel
theorem dX11_addLink_89 : decode cX11_addLink 89 = .ok (.aload_n 0, 1) := by decide +kernel
theorem dX11_addLink_90 : decode cX11_addLink 90 = .ok (.iload 6, 2) := by decide +kernel
theorem dX11_addLink_92 : decode cX11_addLink 92 = .ok (.iload_n 1, 1) := by decide +kernel
theorem dX11_addLink_93 : decode cX11_addLink 93 = .ok (.iload_n 2, 1) := by decide +kernel
theorem dX11_addLink_106 : decode cX11_addLink 106 = .ok (.iload 5, 2) := by decide +kernel
theorem dX11_addLink_108 : decode cX11_addLink 108 = .ok (.ifCond .eq 9, 3) := by decide +kernel
theorem dX11_addLink_111 : decode cX11_addLink 111 = .ok (.aload_n 0, 1) := by decide +kernel
theorem dX11_addLink_112 : decode cX11_addLink 112 = .ok (.iconst 3, 1) := by decide +kernel
theorem dX11_addLink_113 : decode cX11_addLink 113 = .ok (.invokevirtual 51, 3) := by decide +kernel
theorem dX11_addLink_116 : decode cX11_addLink 116 = .ok (.ireturn, 1) := by decide +kernel
theorem dX11_addLink_117 : decode cX11_addLink 117 = .ok (.aload_n 0, 1) := by decide +kernel
theorem dX11_addLink_118 : decode cX11_addLink 118 = .ok (.getfield 9, 3) := by decide +kernel
theorem dX11_addLink_121 : decode cX11_addLink 121 = .ok (.aload_n 0, 1) := by decide +kernel
theorem dX11_addLink_122 : decode cX11_addLink 122 = .ok (.getfield 45, 3) := by decide +kernel
theorem dX11_addLink_125 : decode cX11_addLink 125 = .ok (.iload_n 1, 1) := by decide +kernel
theorem dX11_addLink_126 : decode cX11_addLink 126 = .ok (.iastore, 1) := by decide +kernel
theorem dX11_addLink_127 : decode cX11_addLink 127 = .ok (.aload_n 0, 1) := by decide +kernel
theorem dX11_addLink_128 : decode cX11_addLink 128 = .ok (.getfield 13, 3) := by decide +kernel
theorem dX11_addLink_131 : decode cX11_addLink 131 = .ok (.aload_n 0, 1) := by decide +kernel
theorem dX11_addLink_132 : decode cX11_addLink 132 = .ok (.getfield 45, 3) := by decide +kernel
theorem dX11_addLink_135 : decode cX11_addLink 135 = .ok (.iload_n 2, 1) := by decide +kernel
theorem dX11_addLink_136 : decode cX11_addLink 136 = .ok (.iastore, 1) := by decide +kernel
theorem dX11_addLink_137 : decode cX11_addLink 137 = .ok (.aload_n 0, 1) := by decide +kernel
theorem dX11_addLink_138 : decode cX11_addLink 138 = .ok (.getfield 16, 3) := by decide +kernel
theorem dX11_addLink_141 : decode cX11_addLink 141 = .ok (.aload_n 0, 1) := by decide +kernel
theorem dX11_addLink_142 : decode cX11_addLink 142 = .ok (.getfield 45, 3) := by decide +kernel
theorem dX11_addLink_145 : decode cX11_addLink 145 = .ok (.iload_n 3, 1) := by decide +kernel
theorem dX11_addLink_146 : decode cX11_addLink 146 = .ok (.iastore, 1) := by decide +kernel
theorem dX11_addLink_147 : decode cX11_addLink 147 = .ok (.aload_n 0, 1) := by decide +kernel
theorem dX11_addLink_148 : decode cX11_addLink 148 = .ok (.getfield 19, 3) := by decide +kernel
theorem dX11_addLink_151 : decode cX11_addLink 151 = .ok (.aload_n 0, 1) := by decide +kernel
theorem dX11_addLink_152 : decode cX11_addLink 152 = .ok (.getfield 45, 3) := by decide +kernel
theorem dX11_addLink_155 : decode cX11_addLink 155 = .ok (.iload 4, 2) := by decide +kernel
theorem dX11_addLink_157 : decode cX11_addLink 157 = .ok (.iastore, 1) := by decide +kernel
theorem dX11_addLink_158 : decode cX11_addLink 158 = .ok (.aload_n 0, 1) := by decide +kernel
theorem dX11_addLink_159 : decode cX11_addLink 159 = .ok (.getfield 27, 3) := by decide +kernel
theorem dX11_addLink_162 : decode cX11_addLink 162 = .ok (.getfield 66, 3) := by decide +kernel
theorem dX11_addLink_165 : decode cX11_addLink 165 = .ok (.aload_n 0, 1) := by decide +kernel
theorem dX11_addLink_166 : decode cX11_addLink 166 = .ok (.getfield 45, 3) := by decide +kernel
theorem dX11_addLink_169 : decode cX11_addLink 169 = .ok (.iconst 1, 1) := by decide +kernel
theorem dX11_addLink_170 : decode cX11_addLink 170 = .ok (.bastore, 1) := by decide +kernel
theorem dX11_addLink_171 : decode cX11_addLink 171 = .ok (.aload_n 0, 1) := by decide +kernel
theorem dX11_addLink_172 : decode cX11_addLink 172 = .ok (.dup, 1) := by decide +kernel
theorem dX11_addLink_173 : decode cX11_addLink 173 = .ok (.getfield 45, 3) := by decide +kernel
theorem dX11_addLink_176 : decode cX11_addLink 176 = .ok (.iconst 1, 1) := by decide +kernel
theorem dX11_addLink_177 : decode cX11_addLink 177 = .ok (.iadd, 1) := by decide +kernel
theorem dX11_addLink_178 : decode cX11_addLink 178 = .ok (.putfield 45, 3) := by decide +kernel
theorem dX11_addLink_181 : decode cX11_addLink 181 = .ok (.aload_n 0, 1) := by decide +kernel
theorem dX11_addLink_182 : decode cX11_addLink 182 = .ok (.getfield 27, 3) := by decide +kernel
theorem dX11_addLink_185 : decode cX11_addLink 185 = .ok (.iconst (-1), 1) := by decide +kernel
theorem dX11_addLink_186 : decode cX11_addLink 186 = .ok (.invokevirtual 55, 3) := by decide +kernel
theorem dX11_addLink_189 : decode cX11_addLink 189 = .ok (.aload_n 0, 1) := by decide +kernel
theorem dX11_addLink_190 : decode cX11_addLink 190 = .ok (.getfield 45, 3) := by decide +kernel
theorem dX11_addLink_193 : decode cX11_addLink 193 = .ok (.iconst 1, 1) := by decide +kernel
theorem dX11_addLink_194 : decode cX11_addLink 194 = .ok (.isub, 1) := by decide +kernel
theorem dX11_addLink_195 : decode cX11_addLink 195 = .ok (.ireturn, 1) := by decide +kernel
set_option maxRecDepth 20000 in
theorem ggX11_turn_X11_isLink : GoodIn wsX11_turn wsX11_isLink := goodIn_r _ [7, 8, 9, 10, 6, 11, 40, 41, 42, 43, 44, 45, 46, 47, 48, 49] (by decide +kernel) (by decide +kernel)
set_option maxRecDepth 20000 in
theorem gX11_turn_X11_isLink : GoodIn wsX11_turn (wsV RX11 70 RX11 yX11_isLink wsX11_isLink) := goodIn_app (goodIn_of _ (by decide +kernel)) ggX11_turn_X11_isLink
set_option maxRecDepth 20000 in
theorem ggX11_turn_X11_refuse : GoodIn wsX11_turn wsX11_refuse := goodIn_r _ [15, 1, 40, 41, 42, 43, 44, 45, 46, 47, 48, 49] (by decide +kernel) (by decide +kernel)
set_option maxRecDepth 20000 in
theorem gX11_turn_X11_refuse : GoodIn wsX11_turn (wsV RX11 51 RX11 yX11_refuse wsX11_refuse) := goodIn_app (goodIn_of _ (by decide +kernel)) ggX11_turn_X11_refuse
set_option maxRecDepth 20000 in
theorem ggX11_turn_X10_routes : GoodIn wsX11_turn wsX10_routes := goodIn_r _ [27, 28, 29, 30, 31, 32, 33, 34, 35, 36, 37, 38, 39, 50, 51, 52, 53, 54, 55, 56, 57, 58, 59, 60, 61, 62, 40, 41, 42, 43, 44, 45, 46, 47, 48, 49] (by decide +kernel) (by decide +kernel)
set_option maxRecDepth 20000 in
theorem gX11_turn_X10_routes : GoodIn wsX11_turn (wsV RX11 55 RX10 yX10_routes wsX10_routes) := goodIn_app (goodIn_of _ (by decide +kernel)) ggX11_turn_X10_routes
theorem dX11_turn_0 : decode cX11_turn 0 = .ok (.aload_n 0, 1) := by decide +kernel
theorem dX11_turn_1 : decode cX11_turn 1 = .ok (.iconst 0, 1) := by decide +kernel
theorem dX11_turn_2 : decode cX11_turn 2 = .ok (.putfield 34, 3) := by decide +kernel
theorem dX11_turn_5 : decode cX11_turn 5 = .ok (.aload_n 0, 1) := by decide +kernel
theorem dX11_turn_6 : decode cX11_turn 6 = .ok (.iload_n 1, 1) := by decide +kernel
theorem dX11_turn_7 : decode cX11_turn 7 = .ok (.invokevirtual 70, 3) := by decide +kernel
theorem dX11_turn_10 : decode cX11_turn 10 = .ok (.ifCond .ne 9, 3) := by decide +kernel
theorem dX11_turn_13 : decode cX11_turn 13 = .ok (.aload_n 0, 1) := by decide +kernel
theorem dX11_turn_14 : decode cX11_turn 14 = .ok (.iconst 1, 1) := by decide +kernel
theorem dX11_turn_15 : decode cX11_turn 15 = .ok (.invokevirtual 51, 3) := by decide +kernel
theorem dX11_turn_18 : decode cX11_turn 18 = .ok (.ireturn, 1) := by decide +kernel
theorem dX11_turn_19 : decode cX11_turn 19 = .ok (.aload_n 0, 1) := by decide +kernel
theorem dX11_turn_20 : decode cX11_turn 20 = .ok (.getfield 27, 3) := by decide +kernel
theorem dX11_turn_23 : decode cX11_turn 23 = .ok (.getfield 66, 3) := by decide +kernel
theorem dX11_turn_26 : decode cX11_turn 26 = .ok (.iload_n 1, 1) := by decide +kernel
theorem dX11_turn_27 : decode cX11_turn 27 = .ok (.baload, 1) := by decide +kernel
theorem dX11_turn_28 : decode cX11_turn 28 = .ok (.ifCond .eq 14, 3) := by decide +kernel
theorem dX11_turn_31 : decode cX11_turn 31 = .ok (.aload_n 0, 1) := by decide +kernel
theorem dX11_turn_32 : decode cX11_turn 32 = .ok (.getfield 27, 3) := by decide +kernel
theorem dX11_turn_35 : decode cX11_turn 35 = .ok (.iload_n 1, 1) := by decide +kernel
theorem dX11_turn_42 : decode cX11_turn 42 = .ok (.iconst 0, 1) := by decide +kernel
theorem dX11_turn_43 : decode cX11_turn 43 = .ok (.istore_n 2, 1) := by decide +kernel
theorem dX11_turn_44 : decode cX11_turn 44 = .ok (.aload_n 0, 1) := by decide +kernel
theorem dX11_turn_45 : decode cX11_turn 45 = .ok (.getfield 27, 3) := by decide +kernel
theorem dX11_turn_48 : decode cX11_turn 48 = .ok (.getfield 66, 3) := by decide +kernel
theorem dX11_turn_51 : decode cX11_turn 51 = .ok (.iload_n 1, 1) := by decide +kernel
theorem dX11_turn_52 : decode cX11_turn 52 = .ok (.aload_n 0, 1) := by decide +kernel
theorem dX11_turn_53 : decode cX11_turn 53 = .ok (.getfield 27, 3) := by decide +kernel
theorem dX11_turn_56 : decode cX11_turn 56 = .ok (.getfield 66, 3) := by decide +kernel
theorem dX11_turn_59 : decode cX11_turn 59 = .ok (.iload_n 1, 1) := by decide +kernel
theorem dX11_turn_60 : decode cX11_turn 60 = .ok (.baload, 1) := by decide +kernel
theorem dX11_turn_61 : decode cX11_turn 61 = .ok (.ifCond .ne 7, 3) := by decide +kernel
theorem dX11_turn_64 : decode cX11_turn 64 = .ok (.iconst 1, 1) := by decide +kernel
theorem dX11_turn_65 : decode cX11_turn 65 = .ok (.goto 4, 3) := by decide +kernel
theorem dX11_turn_68 : decode cX11_turn 68 = .ok (.iconst 0, 1) := by decide +kernel
theorem dX11_turn_69 : decode cX11_turn 69 = .ok (.bastore, 1) := by decide +kernel
theorem dX11_turn_70 : decode cX11_turn 70 = .ok (.aload_n 0, 1) := by decide +kernel
theorem dX11_turn_71 : decode cX11_turn 71 = .ok (.getfield 27, 3) := by decide +kernel
theorem dX11_turn_74 : decode cX11_turn 74 = .ok (.iconst (-1), 1) := by decide +kernel
theorem dX11_turn_75 : decode cX11_turn 75 = .ok (.invokevirtual 55, 3) := by decide +kernel
theorem dX11_turn_78 : decode cX11_turn 78 = .ok (.iload_n 2, 1) := by decide +kernel
theorem dX11_turn_79 : decode cX11_turn 79 = .ok (.ireturn, 1) := by decide +kernel
set_option maxRecDepth 20000 in
theorem ggX11_lose_X11_isLink : GoodIn wsX11_lose wsX11_isLink := goodIn_r _ [7, 8, 9, 10, 6, 11, 16, 17, 18, 19, 20, 21, 22, 23, 24, 25] (by decide +kernel) (by decide +kernel)
set_option maxRecDepth 20000 in
theorem gX11_lose_X11_isLink : GoodIn wsX11_lose (wsV RX11 70 RX11 yX11_isLink wsX11_isLink) := goodIn_app (goodIn_of _ (by decide +kernel)) ggX11_lose_X11_isLink
set_option maxRecDepth 20000 in
theorem ggX11_lose_X11_is : GoodIn wsX11_lose wsX11_is := goodIn_r _ [11] (by decide +kernel) (by decide +kernel)
set_option maxRecDepth 20000 in
theorem gX11_lose_X11_is : GoodIn wsX11_lose (va_wsS RX11 41 yX11_is wsX11_is) := goodIn_app (goodIn_of _ (by decide +kernel)) ggX11_lose_X11_is
set_option maxRecDepth 20000 in
theorem ggX11_lose_X11_refuse : GoodIn wsX11_lose wsX11_refuse := goodIn_r _ [15, 1, 16, 17, 18, 19, 20, 21, 22, 23, 24, 25] (by decide +kernel) (by decide +kernel)
set_option maxRecDepth 20000 in
theorem gX11_lose_X11_refuse : GoodIn wsX11_lose (wsV RX11 51 RX11 yX11_refuse wsX11_refuse) := goodIn_app (goodIn_of _ (by decide +kernel)) ggX11_lose_X11_refuse
theorem dX11_lose_0 : decode cX11_lose 0 = .ok (.aload_n 0, 1) := by decide +kernel
theorem dX11_lose_1 : decode cX11_lose 1 = .ok (.iconst 0, 1) := by decide +kernel
theorem dX11_lose_2 : decode cX11_lose 2 = .ok (.putfield 34, 3) := by decide +kernel
theorem dX11_lose_5 : decode cX11_lose 5 = .ok (.aload_n 0, 1) := by decide +kernel
theorem dX11_lose_6 : decode cX11_lose 6 = .ok (.iload_n 1, 1) := by decide +kernel
theorem dX11_lose_7 : decode cX11_lose 7 = .ok (.invokevirtual 70, 3) := by decide +kernel
theorem dX11_lose_10 : decode cX11_lose 10 = .ok (.ifCond .eq 12, 3) := by decide +kernel
theorem dX11_lose_13 : decode cX11_lose 13 = .ok (.iload_n 2, 1) := by decide +kernel
theorem dX11_lose_14 : decode cX11_lose 14 = .ok (.iconst 0, 1) := by decide +kernel
theorem dX11_lose_15 : decode cX11_lose 15 = .ok (.iconst 1, 1) := by decide +kernel
theorem dX11_lose_16 : decode cX11_lose 16 = .ok (.invokestatic 41, 3) := by decide +kernel
theorem dX11_lose_19 : decode cX11_lose 19 = .ok (.ifCond .ne 9, 3) := by decide +kernel
theorem dX11_lose_22 : decode cX11_lose 22 = .ok (.aload_n 0, 1) := by decide +kernel
theorem dX11_lose_23 : decode cX11_lose 23 = .ok (.iconst 1, 1) := by decide +kernel
theorem dX11_lose_24 : decode cX11_lose 24 = .ok (.invokevirtual 51, 3) := by decide +kernel
theorem dX11_lose_27 : decode cX11_lose 27 = .ok (.ireturn, 1) := by decide +kernel
theorem dX11_lose_28 : decode cX11_lose 28 = .ok (.iload_n 3, 1) := by decide +kernel
theorem dX11_lose_29 : decode cX11_lose 29 = .ok (.iconst 0, 1) := by decide +kernel
theorem dX11_lose_30 : decode cX11_lose 30 = .ok (.bipush 9, 2) := by decide +kernel
theorem dX11_lose_32 : decode cX11_lose 32 = .ok (.invokestatic 41, 3) := by decide +kernel
theorem dX11_lose_35 : decode cX11_lose 35 = .ok (.ifCond .ne 9, 3) := by decide +kernel
theorem dX11_lose_38 : decode cX11_lose 38 = .ok (.aload_n 0, 1) := by decide +kernel
theorem dX11_lose_39 : decode cX11_lose 39 = .ok (.iconst 2, 1) := by decide +kernel
theorem dX11_lose_40 : decode cX11_lose 40 = .ok (.invokevirtual 51, 3) := by decide +kernel
theorem dX11_lose_43 : decode cX11_lose 43 = .ok (.ireturn, 1) := by decide +kernel
theorem dX11_lose_44 : decode cX11_lose 44 = .ok (.aload_n 0, 1) := by decide +kernel
theorem dX11_lose_45 : decode cX11_lose 45 = .ok (.getfield 27, 3) := by decide +kernel
theorem dX11_lose_48 : decode cX11_lose 48 = .ok (.getfield 76, 3) := by decide +kernel
theorem dX11_lose_51 : decode cX11_lose 51 = .ok (.iconst 2, 1) := by decide +kernel
theorem dX11_lose_52 : decode cX11_lose 52 = .ok (.iload_n 1, 1) := by decide +kernel
theorem dX11_lose_53 : decode cX11_lose 53 = .ok (.imul, 1) := by decide +kernel
theorem dX11_lose_54 : decode cX11_lose 54 = .ok (.iload_n 2, 1) := by decide +kernel
theorem dX11_lose_55 : decode cX11_lose 55 = .ok (.iadd, 1) := by decide +kernel
theorem dX11_lose_56 : decode cX11_lose 56 = .ok (.iaload, 1) := by decide +kernel
theorem dX11_lose_57 : decode cX11_lose 57 = .ok (.istore 4, 2) := by decide +kernel
theorem dX11_lose_59 : decode cX11_lose 59 = .ok (.aload_n 0, 1) := by decide +kernel
theorem dX11_lose_60 : decode cX11_lose 60 = .ok (.getfield 27, 3) := by decide +kernel
theorem dX11_lose_63 : decode cX11_lose 63 = .ok (.getfield 76, 3) := by decide +kernel
theorem dX11_lose_66 : decode cX11_lose 66 = .ok (.iconst 2, 1) := by decide +kernel
theorem dX11_lose_67 : decode cX11_lose 67 = .ok (.iload_n 1, 1) := by decide +kernel
theorem dX11_lose_68 : decode cX11_lose 68 = .ok (.imul, 1) := by decide +kernel
theorem dX11_lose_69 : decode cX11_lose 69 = .ok (.iload_n 2, 1) := by decide +kernel
theorem dX11_lose_70 : decode cX11_lose 70 = .ok (.iadd, 1) := by decide +kernel
theorem dX11_lose_71 : decode cX11_lose 71 = .ok (.iload_n 3, 1) := by decide +kernel
theorem dX11_lose_72 : decode cX11_lose 72 = .ok (.iastore, 1) := by decide +kernel
theorem dX11_lose_73 : decode cX11_lose 73 = .ok (.iload 4, 2) := by decide +kernel
theorem dX11_lose_75 : decode cX11_lose 75 = .ok (.ireturn, 1) := by decide +kernel
set_option maxRecDepth 20000 in
theorem ggX11_call_X11_isNode : GoodIn wsX11_call wsX11_isNode := goodIn_r _ [7, 8, 9, 10, 6, 11, 72, 73, 74, 75, 76, 77, 78, 79, 80, 81] (by decide +kernel) (by decide +kernel)
set_option maxRecDepth 20000 in
theorem gX11_call_X11_isNode : GoodIn wsX11_call (wsV RX11 59 RX11 yX11_isNode wsX11_isNode) := goodIn_app (goodIn_of _ (by decide +kernel)) ggX11_call_X11_isNode
set_option maxRecDepth 20000 in
theorem ggX11_call_X11_refuse : GoodIn wsX11_call wsX11_refuse := goodIn_r _ [15, 1, 72, 73, 74, 75, 76, 77, 78, 79, 80, 81] (by decide +kernel) (by decide +kernel)
set_option maxRecDepth 20000 in
theorem gX11_call_X11_refuse : GoodIn wsX11_call (wsV RX11 51 RX11 yX11_refuse wsX11_refuse) := goodIn_app (goodIn_of _ (by decide +kernel)) ggX11_call_X11_refuse
set_option maxRecDepth 20000 in
theorem ggX11_call_X11_is : GoodIn wsX11_call wsX11_is := goodIn_r _ [11] (by decide +kernel) (by decide +kernel)
set_option maxRecDepth 20000 in
theorem gX11_call_X11_is : GoodIn wsX11_call (va_wsS RX11 41 yX11_is wsX11_is) := goodIn_app (goodIn_of _ (by decide +kernel)) ggX11_call_X11_is
theorem dX11_call_0 : decode cX11_call 0 = .ok (.aload_n 0, 1) := by decide +kernel
theorem dX11_call_1 : decode cX11_call 1 = .ok (.iconst 0, 1) := by decide +kernel
theorem dX11_call_2 : decode cX11_call 2 = .ok (.putfield 34, 3) := by decide +kernel
theorem dX11_call_5 : decode cX11_call 5 = .ok (.aload_n 0, 1) := by decide +kernel
theorem dX11_call_6 : decode cX11_call 6 = .ok (.iload_n 1, 1) := by decide +kernel
theorem dX11_call_7 : decode cX11_call 7 = .ok (.invokevirtual 59, 3) := by decide +kernel
theorem dX11_call_10 : decode cX11_call 10 = .ok (.ifCond .eq 11, 3) := by decide +kernel
theorem dX11_call_13 : decode cX11_call 13 = .ok (.aload_n 0, 1) := by decide +kernel
theorem dX11_call_14 : decode cX11_call 14 = .ok (.iload_n 2, 1) := by decide +kernel
theorem dX11_call_15 : decode cX11_call 15 = .ok (.invokevirtual 59, 3) := by decide +kernel
theorem dX11_call_18 : decode cX11_call 18 = .ok (.ifCond .ne 9, 3) := by decide +kernel
theorem dX11_call_21 : decode cX11_call 21 = .ok (.aload_n 0, 1) := by decide +kernel
theorem dX11_call_22 : decode cX11_call 22 = .ok (.iconst 1, 1) := by decide +kernel
theorem dX11_call_23 : decode cX11_call 23 = .ok (.invokevirtual 51, 3) := by decide +kernel
theorem dX11_call_26 : decode cX11_call 26 = .ok (.ireturn, 1) := by decide +kernel
theorem dX11_call_27 : decode cX11_call 27 = .ok (.iload_n 1, 1) := by decide +kernel
theorem dX11_call_28 : decode cX11_call 28 = .ok (.iload_n 2, 1) := by decide +kernel
theorem dX11_call_29 : decode cX11_call 29 = .ok (.if_icmp .eq 13, 3) := by decide +kernel
theorem dX11_call_32 : decode cX11_call 32 = .ok (.iload_n 3, 1) := by decide +kernel
theorem dX11_call_33 : decode cX11_call 33 = .ok (.iconst 1, 1) := by decide +kernel
theorem dX11_call_34 : decode cX11_call 34 = .ok (.bipush 16, 2) := by decide +kernel
theorem dX11_call_36 : decode cX11_call 36 = .ok (.invokestatic 41, 3) := by decide +kernel
theorem dX11_call_39 : decode cX11_call 39 = .ok (.ifCond .ne 9, 3) := by decide +kernel
theorem dX11_call_42 : decode cX11_call 42 = .ok (.aload_n 0, 1) := by decide +kernel
theorem dX11_call_43 : decode cX11_call 43 = .ok (.iconst 2, 1) := by decide +kernel
theorem dX11_call_44 : decode cX11_call 44 = .ok (.invokevirtual 51, 3) := by decide +kernel
theorem dX11_call_47 : decode cX11_call 47 = .ok (.ireturn, 1) := by decide +kernel
theorem dX11_call_48 : decode cX11_call 48 = .ok (.aload_n 0, 1) := by decide +kernel
theorem dX11_call_49 : decode cX11_call 49 = .ok (.getfield 27, 3) := by decide +kernel
theorem dX11_call_52 : decode cX11_call 52 = .ok (.getfield 48, 3) := by decide +kernel
theorem dX11_call_55 : decode cX11_call 55 = .ok (.bipush 6, 2) := by decide +kernel
theorem dX11_call_57 : decode cX11_call 57 = .ok (.if_icmp .ne 9, 3) := by decide +kernel
theorem dX11_call_60 : decode cX11_call 60 = .ok (.aload_n 0, 1) := by decide +kernel
theorem dX11_call_61 : decode cX11_call 61 = .ok (.iconst 3, 1) := by decide +kernel
theorem dX11_call_62 : decode cX11_call 62 = .ok (.invokevirtual 51, 3) := by decide +kernel
theorem dX11_call_65 : decode cX11_call 65 = .ok (.ireturn, 1) := by decide +kernel
theorem dX11_call_66 : decode cX11_call 66 = .ok (.aload_n 0, 1) := by decide +kernel
theorem dX11_call_67 : decode cX11_call 67 = .ok (.getfield 27, 3) := by decide +kernel
theorem dX11_call_70 : decode cX11_call 70 = .ok (.getfield 48, 3) := by decide +kernel
theorem dX11_call_73 : decode cX11_call 73 = .ok (.istore 4, 2) := by decide +kernel
theorem dX11_call_75 : decode cX11_call 75 = .ok (.aload_n 0, 1) := by decide +kernel
theorem dX11_call_76 : decode cX11_call 76 = .ok (.getfield 27, 3) := by decide +kernel
theorem dX11_call_79 : decode cX11_call 79 = .ok (.getfield 79, 3) := by decide +kernel
theorem dX11_call_82 : decode cX11_call 82 = .ok (.iload 4, 2) := by decide +kernel
theorem dX11_call_84 : decode cX11_call 84 = .ok (.aaload, 1) := by decide +kernel
theorem dX11_call_85 : decode cX11_call 85 = .ok (.astore 5, 2) := by decide +kernel
theorem dX11_call_87 : decode cX11_call 87 = .ok (.aload 5, 2) := by decide +kernel
theorem dX11_call_89 : decode cX11_call 89 = .ok (.iconst 0, 1) := by decide +kernel
theorem dX11_call_90 : decode cX11_call 90 = .ok (.iload_n 1, 1) := by decide +kernel
theorem dX11_call_91 : decode cX11_call 91 = .ok (.iastore, 1) := by decide +kernel
theorem dX11_call_92 : decode cX11_call 92 = .ok (.aload 5, 2) := by decide +kernel
theorem dX11_call_94 : decode cX11_call 94 = .ok (.iconst 1, 1) := by decide +kernel
theorem dX11_call_95 : decode cX11_call 95 = .ok (.iload_n 2, 1) := by decide +kernel
theorem dX11_call_96 : decode cX11_call 96 = .ok (.iastore, 1) := by decide +kernel
theorem dX11_call_97 : decode cX11_call 97 = .ok (.aload 5, 2) := by decide +kernel
theorem dX11_call_99 : decode cX11_call 99 = .ok (.iconst 2, 1) := by decide +kernel
theorem dX11_call_100 : decode cX11_call 100 = .ok (.iload_n 3, 1) := by decide +kernel
theorem dX11_call_101 : decode cX11_call 101 = .ok (.iastore, 1) := by decide +kernel
theorem dX11_call_102 : decode cX11_call 102 = .ok (.aload 5, 2) := by decide +kernel
theorem dX11_call_104 : decode cX11_call 104 = .ok (.bipush 8, 2) := by decide +kernel
theorem dX11_call_106 : decode cX11_call 106 = .ok (.bipush 8, 2) := by decide +kernel
theorem dX11_call_108 : decode cX11_call 108 = .ok (.iastore, 1) := by decide +kernel
theorem dX11_call_109 : decode cX11_call 109 = .ok (.aload 5, 2) := by decide +kernel
theorem dX11_call_111 : decode cX11_call 111 = .ok (.bipush 9, 2) := by decide +kernel
theorem dX11_call_113 : decode cX11_call 113 = .ok (.sipush 128, 3) := by decide +kernel
theorem dX11_call_116 : decode cX11_call 116 = .ok (.iastore, 1) := by decide +kernel
theorem dX11_call_117 : decode cX11_call 117 = .ok (.aload 5, 2) := by decide +kernel
theorem dX11_call_119 : decode cX11_call 119 = .ok (.bipush 10, 2) := by decide +kernel
theorem dX11_call_121 : decode cX11_call 121 = .ok (.iload_n 3, 1) := by decide +kernel
theorem dX11_call_122 : decode cX11_call 122 = .ok (.iastore, 1) := by decide +kernel
theorem dX11_call_123 : decode cX11_call 123 = .ok (.aload 5, 2) := by decide +kernel
theorem dX11_call_125 : decode cX11_call 125 = .ok (.bipush 12, 2) := by decide +kernel
theorem dX11_call_127 : decode cX11_call 127 = .ok (.iconst (-1), 1) := by decide +kernel
theorem dX11_call_128 : decode cX11_call 128 = .ok (.iastore, 1) := by decide +kernel
theorem dX11_call_129 : decode cX11_call 129 = .ok (.aload 5, 2) := by decide +kernel
theorem dX11_call_131 : decode cX11_call 131 = .ok (.bipush 15, 2) := by decide +kernel
theorem dX11_call_133 : decode cX11_call 133 = .ok (.bipush 12, 2) := by decide +kernel
theorem dX11_call_135 : decode cX11_call 135 = .ok (.iastore, 1) := by decide +kernel
theorem dX11_call_136 : decode cX11_call 136 = .ok (.aload 5, 2) := by decide +kernel
theorem dX11_call_138 : decode cX11_call 138 = .ok (.bipush 17, 2) := by decide +kernel
theorem dX11_call_140 : decode cX11_call 140 = .ok (.iconst (-1), 1) := by decide +kernel
theorem dX11_call_141 : decode cX11_call 141 = .ok (.iastore, 1) := by decide +kernel
theorem dX11_call_142 : decode cX11_call 142 = .ok (.aload_n 0, 1) := by decide +kernel
theorem dX11_call_143 : decode cX11_call 143 = .ok (.getfield 27, 3) := by decide +kernel
theorem dX11_call_146 : decode cX11_call 146 = .ok (.dup, 1) := by decide +kernel
theorem dX11_call_147 : decode cX11_call 147 = .ok (.getfield 48, 3) := by decide +kernel
theorem dX11_call_150 : decode cX11_call 150 = .ok (.iconst 1, 1) := by decide +kernel
theorem dX11_call_151 : decode cX11_call 151 = .ok (.iadd, 1) := by decide +kernel
theorem dX11_call_152 : decode cX11_call 152 = .ok (.putfield 48, 3) := by decide +kernel
theorem dX11_call_155 : decode cX11_call 155 = .ok (.aload_n 0, 1) := by decide +kernel
theorem dX11_call_156 : decode cX11_call 156 = .ok (.getfield 27, 3) := by decide +kernel
theorem dX11_call_159 : decode cX11_call 159 = .ok (.iload 4, 2) := by decide +kernel
set_option maxRecDepth 20000 in
theorem ggX11_give_X11_isCall : GoodIn wsX11_give wsX11_isCall := goodIn_r _ [7, 2, 8, 9, 6, 10, 19, 20, 21, 22, 23, 24, 25, 26, 27, 28, 29, 30, 31, 32, 33, 34, 35, 36, 37, 38, 39, 40, 41] (by decide +kernel) (by decide +kernel)
set_option maxRecDepth 20000 in
theorem gX11_give_X11_isCall : GoodIn wsX11_give (wsV RX11 86 RX11 yX11_isCall wsX11_isCall) := goodIn_app (goodIn_of _ (by decide +kernel)) ggX11_give_X11_isCall
set_option maxRecDepth 20000 in
theorem ggX11_give_X11_refuse : GoodIn wsX11_give wsX11_refuse := goodIn_r _ [14, 1, 19, 20, 21, 22, 23, 24, 25, 26, 27, 28] (by decide +kernel) (by decide +kernel)
set_option maxRecDepth 20000 in
theorem gX11_give_X11_refuse : GoodIn wsX11_give (wsV RX11 51 RX11 yX11_refuse wsX11_refuse) := goodIn_app (goodIn_of _ (by decide +kernel)) ggX11_give_X11_refuse
set_option maxRecDepth 20000 in
theorem ggX11_give_X11_is : GoodIn wsX11_give wsX11_is := goodIn_r _ [10] (by decide +kernel) (by decide +kernel)
set_option maxRecDepth 20000 in
theorem gX11_give_X11_is : GoodIn wsX11_give (va_wsS RX11 41 yX11_is wsX11_is) := goodIn_app (goodIn_of _ (by decide +kernel)) ggX11_give_X11_is
theorem dX11_give_0 : decode cX11_give 0 = .ok (.aload_n 0, 1) := by decide +kernel
theorem dX11_give_1 : decode cX11_give 1 = .ok (.iconst 0, 1) := by decide +kernel
theorem dX11_give_2 : decode cX11_give 2 = .ok (.putfield 34, 3) := by decide +kernel
theorem dX11_give_5 : decode cX11_give 5 = .ok (.aload_n 0, 1) := by decide +kernel
theorem dX11_give_6 : decode cX11_give 6 = .ok (.iload_n 1, 1) := by decide +kernel
theorem dX11_give_7 : decode cX11_give 7 = .ok (.invokevirtual 86, 3) := by decide +kernel
theorem dX11_give_10 : decode cX11_give 10 = .ok (.ifCond .ne 9, 3) := by decide +kernel
theorem dX11_give_13 : decode cX11_give 13 = .ok (.aload_n 0, 1) := by decide +kernel
theorem dX11_give_14 : decode cX11_give 14 = .ok (.iconst 1, 1) := by decide +kernel
theorem dX11_give_15 : decode cX11_give 15 = .ok (.invokevirtual 51, 3) := by decide +kernel
theorem dX11_give_18 : decode cX11_give 18 = .ok (.ireturn, 1) := by decide +kernel
theorem dX11_give_19 : decode cX11_give 19 = .ok (.iload_n 3, 1) := by decide +kernel
theorem dX11_give_20 : decode cX11_give 20 = .ok (.iconst 1, 1) := by decide +kernel
theorem dX11_give_21 : decode cX11_give 21 = .ok (.bipush 50, 2) := by decide +kernel
theorem dX11_give_23 : decode cX11_give 23 = .ok (.invokestatic 41, 3) := by decide +kernel
theorem dX11_give_26 : decode cX11_give 26 = .ok (.ifCond .ne 9, 3) := by decide +kernel
theorem dX11_give_29 : decode cX11_give 29 = .ok (.aload_n 0, 1) := by decide +kernel
theorem dX11_give_30 : decode cX11_give 30 = .ok (.iconst 2, 1) := by decide +kernel
theorem dX11_give_31 : decode cX11_give 31 = .ok (.invokevirtual 51, 3) := by decide +kernel
theorem dX11_give_34 : decode cX11_give 34 = .ok (.ireturn, 1) := by decide +kernel
theorem dX11_give_35 : decode cX11_give 35 = .ok (.aload_n 0, 1) := by decide +kernel
theorem dX11_give_36 : decode cX11_give 36 = .ok (.getfield 27, 3) := by decide +kernel
theorem dX11_give_39 : decode cX11_give 39 = .ok (.getfield 79, 3) := by decide +kernel
theorem dX11_give_42 : decode cX11_give 42 = .ok (.iload_n 1, 1) := by decide +kernel
theorem dX11_give_43 : decode cX11_give 43 = .ok (.aaload, 1) := by decide +kernel
theorem dX11_give_44 : decode cX11_give 44 = .ok (.astore 4, 2) := by decide +kernel
theorem dX11_give_46 : decode cX11_give 46 = .ok (.aload_n 0, 1) := by decide +kernel
theorem dX11_give_47 : decode cX11_give 47 = .ok (.iload_n 1, 1) := by decide +kernel
set_option maxRecDepth 20000 in
theorem ggX11_close_X11_isCall : GoodIn wsX11_close wsX11_isCall := goodIn_r _ [7, 2, 8, 9, 6, 10, 25, 26, 27, 28, 29, 30, 31, 32, 33, 34, 35, 36, 37, 38, 39, 40, 41, 42, 43, 44, 45, 46, 47] (by decide +kernel) (by decide +kernel)
set_option maxRecDepth 20000 in
theorem gX11_close_X11_isCall : GoodIn wsX11_close (wsV RX11 86 RX11 yX11_isCall wsX11_isCall) := goodIn_app (goodIn_of _ (by decide +kernel)) ggX11_close_X11_isCall
set_option maxRecDepth 20000 in
theorem ggX11_close_X11_refuse : GoodIn wsX11_close wsX11_refuse := goodIn_r _ [14, 1, 25, 26, 27, 28, 29, 30, 31, 32, 33, 34] (by decide +kernel) (by decide +kernel)
set_option maxRecDepth 20000 in
theorem gX11_close_X11_refuse : GoodIn wsX11_close (wsV RX11 51 RX11 yX11_refuse wsX11_refuse) := goodIn_app (goodIn_of _ (by decide +kernel)) ggX11_close_X11_refuse
theorem dX11_close_0 : decode cX11_close 0 = .ok (.aload_n 0, 1) := by decide +kernel
theorem dX11_close_1 : decode cX11_close 1 = .ok (.iconst 0, 1) := by decide +kernel
theorem dX11_close_2 : decode cX11_close 2 = .ok (.putfield 34, 3) := by decide +kernel
theorem dX11_close_5 : decode cX11_close 5 = .ok (.aload_n 0, 1) := by decide +kernel
theorem dX11_close_6 : decode cX11_close 6 = .ok (.iload_n 1, 1) := by decide +kernel
theorem dX11_close_7 : decode cX11_close 7 = .ok (.invokevirtual 86, 3) := by decide +kernel
theorem dX11_close_10 : decode cX11_close 10 = .ok (.ifCond .ne 9, 3) := by decide +kernel
theorem dX11_close_13 : decode cX11_close 13 = .ok (.aload_n 0, 1) := by decide +kernel
theorem dX11_close_14 : decode cX11_close 14 = .ok (.iconst 1, 1) := by decide +kernel
theorem dX11_close_15 : decode cX11_close 15 = .ok (.invokevirtual 51, 3) := by decide +kernel
theorem dX11_close_18 : decode cX11_close 18 = .ok (.ireturn, 1) := by decide +kernel
theorem dX11_close_19 : decode cX11_close 19 = .ok (.aload_n 0, 1) := by decide +kernel
theorem dX11_close_20 : decode cX11_close 20 = .ok (.iload_n 1, 1) := by decide +kernel
set_option maxRecDepth 20000 in
theorem ggX11_read_X11_isCall : GoodIn wsX11_read wsX11_isCall := goodIn_r _ [11, 2, 12, 13, 10, 14, 79, 80, 81, 82, 83, 84, 85, 86, 87, 88, 89, 90, 91, 92, 93, 94, 95, 96, 97, 98, 99, 100, 101] (by decide +kernel) (by decide +kernel)
set_option maxRecDepth 20000 in
theorem gX11_read_X11_isCall : GoodIn wsX11_read (wsV RX11 86 RX11 yX11_isCall wsX11_isCall) := goodIn_app (goodIn_of _ (by decide +kernel)) ggX11_read_X11_isCall
set_option maxRecDepth 20000 in
theorem ggX11_read_X11_refuse : GoodIn wsX11_read wsX11_refuse := goodIn_r _ [18, 1, 79, 80, 81, 82, 83, 84, 85, 86, 87, 88] (by decide +kernel) (by decide +kernel)
set_option maxRecDepth 20000 in
theorem gX11_read_X11_refuse : GoodIn wsX11_read (wsV RX11 51 RX11 yX11_refuse wsX11_refuse) := goodIn_app (goodIn_of _ (by decide +kernel)) ggX11_read_X11_refuse
set_option maxRecDepth 20000 in
theorem ggX11_read_X11_is : GoodIn wsX11_read wsX11_is := goodIn_r _ [14] (by decide +kernel) (by decide +kernel)
set_option maxRecDepth 20000 in
theorem gX11_read_X11_is : GoodIn wsX11_read (va_wsS RX11 41 yX11_is wsX11_is) := goodIn_app (goodIn_of _ (by decide +kernel)) ggX11_read_X11_is
theorem dX11_read_0 : decode cX11_read 0 = .ok (.aload_n 0, 1) := by decide +kernel
theorem dX11_read_1 : decode cX11_read 1 = .ok (.iconst 0, 1) := by decide +kernel
theorem dX11_read_2 : decode cX11_read 2 = .ok (.putfield 34, 3) := by decide +kernel
theorem dX11_read_5 : decode cX11_read 5 = .ok (.aload_n 0, 1) := by decide +kernel
theorem dX11_read_6 : decode cX11_read 6 = .ok (.iload_n 1, 1) := by decide +kernel
theorem dX11_read_7 : decode cX11_read 7 = .ok (.invokevirtual 86, 3) := by decide +kernel
theorem dX11_read_10 : decode cX11_read 10 = .ok (.ifCond .ne 9, 3) := by decide +kernel
theorem dX11_read_13 : decode cX11_read 13 = .ok (.aload_n 0, 1) := by decide +kernel
theorem dX11_read_14 : decode cX11_read 14 = .ok (.iconst 1, 1) := by decide +kernel
theorem dX11_read_15 : decode cX11_read 15 = .ok (.invokevirtual 51, 3) := by decide +kernel
theorem dX11_read_18 : decode cX11_read 18 = .ok (.ireturn, 1) := by decide +kernel
theorem dX11_read_19 : decode cX11_read 19 = .ok (.iload_n 2, 1) := by decide +kernel
theorem dX11_read_20 : decode cX11_read 20 = .ok (.iconst 1, 1) := by decide +kernel
theorem dX11_read_21 : decode cX11_read 21 = .ok (.bipush 50, 2) := by decide +kernel
theorem dX11_read_23 : decode cX11_read 23 = .ok (.invokestatic 41, 3) := by decide +kernel
theorem dX11_read_26 : decode cX11_read 26 = .ok (.ifCond .ne 9, 3) := by decide +kernel
theorem dX11_read_29 : decode cX11_read 29 = .ok (.aload_n 0, 1) := by decide +kernel
theorem dX11_read_30 : decode cX11_read 30 = .ok (.iconst 2, 1) := by decide +kernel
theorem dX11_read_31 : decode cX11_read 31 = .ok (.invokevirtual 51, 3) := by decide +kernel
theorem dX11_read_34 : decode cX11_read 34 = .ok (.ireturn, 1) := by decide +kernel
theorem dX11_read_35 : decode cX11_read 35 = .ok (.iload_n 2, 1) := by decide +kernel
theorem dX11_read_36 : decode cX11_read 36 = .ok (.aload_n 0, 1) := by decide +kernel
theorem dX11_read_37 : decode cX11_read 37 = .ok (.getfield 27, 3) := by decide +kernel
theorem dX11_read_40 : decode cX11_read 40 = .ok (.iload_n 1, 1) := by decide +kernel
set_option maxRecDepth 20000 in
theorem ggX11_pass_X11_is : GoodIn wsX11_pass wsX11_is := goodIn_r _ [6] (by decide +kernel) (by decide +kernel)
set_option maxRecDepth 20000 in
theorem gX11_pass_X11_is : GoodIn wsX11_pass (va_wsS RX11 41 yX11_is wsX11_is) := goodIn_app (goodIn_of _ (by decide +kernel)) ggX11_pass_X11_is
set_option maxRecDepth 20000 in
theorem ggX11_pass_X11_refuse : GoodIn wsX11_pass wsX11_refuse := goodIn_r _ [10, 1, 148, 149, 150, 151, 152, 153, 154, 155, 156, 157] (by decide +kernel) (by decide +kernel)
set_option maxRecDepth 20000 in
theorem gX11_pass_X11_refuse : GoodIn wsX11_pass (wsV RX11 51 RX11 yX11_refuse wsX11_refuse) := goodIn_app (goodIn_of _ (by decide +kernel)) ggX11_pass_X11_refuse
set_option maxRecDepth 20000 in
theorem ggX11_pass_X10_tick : GoodIn wsX11_pass wsX10_tick := goodIn_r _ [15, 16, 17, 18, 19, 20, 21, 22, 14, 23, 24, 25, 26, 27, 28, 29, 30, 31, 32, 33, 34, 35, 36, 37, 38, 39, 40, 41, 42, 43, 44, 45, 46, 47, 48, 49, 50, 51, 52, 53, 54, 55, 56, 57, 58, 59, 60, 61, 62, 63, 64, 65, 66, 67, 68, 69, 70, 71, 72, 73, 74, 75, 76, 77, 78, 79, 80, 81, 82, 83, 84, 85, 86, 87, 88, 89, 90, 91, 92, 93, 94, 95, 96, 97, 98, 99, 100, 101, 102, 103, 104, 105, 106, 107, 108, 109, 110, 111, 112, 113, 114, 115, 116, 117, 118, 119, 120, 121, 122, 123, 124, 125, 126, 127, 128, 129, 130, 131, 132, 133, 134, 135, 136, 137, 138, 139, 140, 141, 142, 143, 144, 145, 146, 147, 158, 159, 160, 161, 162, 163, 164, 165, 166, 167, 168, 169, 170, 148, 149, 150, 151, 152, 153, 154, 155, 156, 157, 171, 172] (by decide +kernel) (by decide +kernel)
set_option maxRecDepth 20000 in
theorem gX11_pass_X10_tick : GoodIn wsX11_pass (wsV RX11 113 RX10 yX10_tick wsX10_tick) := goodIn_app (goodIn_of _ (by decide +kernel)) ggX11_pass_X10_tick
theorem dX11_pass_0 : decode cX11_pass 0 = .ok (.aload_n 0, 1) := by decide +kernel
theorem dX11_pass_1 : decode cX11_pass 1 = .ok (.iconst 0, 1) := by decide +kernel
theorem dX11_pass_2 : decode cX11_pass 2 = .ok (.putfield 34, 3) := by decide +kernel
theorem dX11_pass_5 : decode cX11_pass 5 = .ok (.iload_n 1, 1) := by decide +kernel
theorem dX11_pass_6 : decode cX11_pass 6 = .ok (.iconst 1, 1) := by decide +kernel
theorem dX11_pass_7 : decode cX11_pass 7 = .ok (.bipush 50, 2) := by decide +kernel
theorem dX11_pass_9 : decode cX11_pass 9 = .ok (.invokestatic 41, 3) := by decide +kernel
theorem dX11_pass_12 : decode cX11_pass 12 = .ok (.ifCond .ne 9, 3) := by decide +kernel
theorem dX11_pass_15 : decode cX11_pass 15 = .ok (.aload_n 0, 1) := by decide +kernel
theorem dX11_pass_16 : decode cX11_pass 16 = .ok (.iconst 1, 1) := by decide +kernel
theorem dX11_pass_17 : decode cX11_pass 17 = .ok (.invokevirtual 51, 3) := by decide +kernel
theorem dX11_pass_20 : decode cX11_pass 20 = .ok (.ireturn, 1) := by decide +kernel
theorem dX11_pass_21 : decode cX11_pass 21 = .ok (.iconst 0, 1) := by decide +kernel
theorem dX11_pass_22 : decode cX11_pass 22 = .ok (.istore_n 2, 1) := by decide +kernel
theorem dX11_pass_23 : decode cX11_pass 23 = .ok (.iload_n 2, 1) := by decide +kernel
theorem dX11_pass_24 : decode cX11_pass 24 = .ok (.iload_n 1, 1) := by decide +kernel
theorem dX11_pass_25 : decode cX11_pass 25 = .ok (.if_icmp .ge 16, 3) := by decide +kernel
theorem dX11_pass_28 : decode cX11_pass 28 = .ok (.aload_n 0, 1) := by decide +kernel
theorem dX11_pass_29 : decode cX11_pass 29 = .ok (.getfield 27, 3) := by decide +kernel
theorem dX11_pass_32 : decode cX11_pass 32 = .ok (.invokevirtual 113, 3) := by decide +kernel
theorem dX11_pass_35 : decode cX11_pass 35 = .ok (.iinc 2 1, 3) := by decide +kernel
theorem dX11_pass_38 : decode cX11_pass 38 = .ok (.goto (-15), 3) := by decide +kernel
theorem dX11_pass_41 : decode cX11_pass 41 = .ok (.aload_n 0, 1) := by decide +kernel
theorem dX11_pass_42 : decode cX11_pass 42 = .ok (.getfield 27, 3) := by decide +kernel
theorem dX11_pass_45 : decode cX11_pass 45 = .ok (.getfield 116, 3) := by decide +kernel
theorem dX11_pass_48 : decode cX11_pass 48 = .ok (.ireturn, 1) := by decide +kernel
theorem dX11_clock_0 : decode cX11_clock 0 = .ok (.aload_n 0, 1) := by decide +kernel
theorem dX11_clock_1 : decode cX11_clock 1 = .ok (.iconst 0, 1) := by decide +kernel
theorem dX11_clock_2 : decode cX11_clock 2 = .ok (.putfield 34, 3) := by decide +kernel
theorem dX11_clock_5 : decode cX11_clock 5 = .ok (.aload_n 0, 1) := by decide +kernel
theorem dX11_clock_6 : decode cX11_clock 6 = .ok (.getfield 27, 3) := by decide +kernel
theorem dX11_clock_9 : decode cX11_clock 9 = .ok (.getfield 116, 3) := by decide +kernel
theorem dX11_clock_12 : decode cX11_clock 12 = .ok (.ireturn, 1) := by decide +kernel
theorem dX11_nodes_0 : decode cX11_nodes 0 = .ok (.aload_n 0, 1) := by decide +kernel
theorem dX11_nodes_1 : decode cX11_nodes 1 = .ok (.iconst 0, 1) := by decide +kernel
theorem dX11_nodes_2 : decode cX11_nodes 2 = .ok (.putfield 34, 3) := by decide +kernel
theorem dX11_nodes_5 : decode cX11_nodes 5 = .ok (.aload_n 0, 1) := by decide +kernel
theorem dX11_nodes_6 : decode cX11_nodes 6 = .ok (.getfield 38, 3) := by decide +kernel
theorem dX11_nodes_9 : decode cX11_nodes 9 = .ok (.ireturn, 1) := by decide +kernel
theorem dX11_links_0 : decode cX11_links 0 = .ok (.aload_n 0, 1) := by decide +kernel
theorem dX11_links_1 : decode cX11_links 1 = .ok (.iconst 0, 1) := by decide +kernel
theorem dX11_links_2 : decode cX11_links 2 = .ok (.putfield 34, 3) := by decide +kernel
theorem dX11_links_5 : decode cX11_links 5 = .ok (.aload_n 0, 1) := by decide +kernel
theorem dX11_links_6 : decode cX11_links 6 = .ok (.getfield 45, 3) := by decide +kernel
theorem dX11_links_9 : decode cX11_links 9 = .ok (.ireturn, 1) := by decide +kernel
set_option maxRecDepth 20000 in
theorem ggX11_isUp_X11_isLink : GoodIn wsX11_isUp wsX11_isLink := goodIn_r _ [7, 8, 9, 10, 6, 11, 12, 13, 14, 15, 16, 17, 18, 19, 20, 21] (by decide +kernel) (by decide +kernel)
set_option maxRecDepth 20000 in
theorem gX11_isUp_X11_isLink : GoodIn wsX11_isUp (wsV RX11 70 RX11 yX11_isLink wsX11_isLink) := goodIn_app (goodIn_of _ (by decide +kernel)) ggX11_isUp_X11_isLink
theorem dX11_isUp_0 : decode cX11_isUp 0 = .ok (.aload_n 0, 1) := by decide +kernel
theorem dX11_isUp_1 : decode cX11_isUp 1 = .ok (.aload_n 0, 1) := by decide +kernel
theorem dX11_isUp_2 : decode cX11_isUp 2 = .ok (.iload_n 1, 1) := by decide +kernel
theorem dX11_isUp_3 : decode cX11_isUp 3 = .ok (.invokevirtual 70, 3) := by decide +kernel
theorem dX11_isUp_6 : decode cX11_isUp 6 = .ok (.ifCond .eq 7, 3) := by decide +kernel
theorem dX11_isUp_9 : decode cX11_isUp 9 = .ok (.iconst 0, 1) := by decide +kernel
theorem dX11_isUp_10 : decode cX11_isUp 10 = .ok (.goto 4, 3) := by decide +kernel
theorem dX11_isUp_13 : decode cX11_isUp 13 = .ok (.iconst 1, 1) := by decide +kernel
theorem dX11_isUp_14 : decode cX11_isUp 14 = .ok (.putfield 34, 3) := by decide +kernel
theorem dX11_isUp_17 : decode cX11_isUp 17 = .ok (.aload_n 0, 1) := by decide +kernel
theorem dX11_isUp_18 : decode cX11_isUp 18 = .ok (.getfield 34, 3) := by decide +kernel
theorem dX11_isUp_21 : decode cX11_isUp 21 = .ok (.ifCond .ne 19, 3) := by decide +kernel
theorem dX11_isUp_24 : decode cX11_isUp 24 = .ok (.aload_n 0, 1) := by decide +kernel
theorem dX11_isUp_25 : decode cX11_isUp 25 = .ok (.getfield 27, 3) := by decide +kernel
theorem dX11_isUp_28 : decode cX11_isUp 28 = .ok (.getfield 66, 3) := by decide +kernel
theorem dX11_isUp_31 : decode cX11_isUp 31 = .ok (.iload_n 1, 1) := by decide +kernel
theorem dX11_isUp_32 : decode cX11_isUp 32 = .ok (.baload, 1) := by decide +kernel
theorem dX11_isUp_33 : decode cX11_isUp 33 = .ok (.ifCond .eq 7, 3) := by decide +kernel
theorem dX11_isUp_36 : decode cX11_isUp 36 = .ok (.iconst 1, 1) := by decide +kernel
theorem dX11_isUp_37 : decode cX11_isUp 37 = .ok (.goto 4, 3) := by decide +kernel
theorem dX11_isUp_40 : decode cX11_isUp 40 = .ok (.iconst 0, 1) := by decide +kernel
theorem dX11_isUp_41 : decode cX11_isUp 41 = .ok (.ireturn, 1) := by decide +kernel
set_option maxRecDepth 20000 in
theorem ggX11_distance_X11_isNode : GoodIn wsX11_distance wsX11_isNode := goodIn_r _ [7, 8, 9, 10, 6, 11, 23, 24, 25, 26, 27, 28, 29, 30, 31, 32] (by decide +kernel) (by decide +kernel)
set_option maxRecDepth 20000 in
theorem gX11_distance_X11_isNode : GoodIn wsX11_distance (wsV RX11 59 RX11 yX11_isNode wsX11_isNode) := goodIn_app (goodIn_of _ (by decide +kernel)) ggX11_distance_X11_isNode
set_option maxRecDepth 20000 in
theorem ggX11_distance_X11_refuse : GoodIn wsX11_distance wsX11_refuse := goodIn_r _ [22, 1, 23, 24, 25, 26, 27, 28, 29, 30, 31, 32] (by decide +kernel) (by decide +kernel)
set_option maxRecDepth 20000 in
theorem gX11_distance_X11_refuse : GoodIn wsX11_distance (wsV RX11 51 RX11 yX11_refuse wsX11_refuse) := goodIn_app (goodIn_of _ (by decide +kernel)) ggX11_distance_X11_refuse
theorem dX11_distance_0 : decode cX11_distance 0 = .ok (.aload_n 0, 1) := by decide +kernel
theorem dX11_distance_1 : decode cX11_distance 1 = .ok (.iconst 0, 1) := by decide +kernel
theorem dX11_distance_2 : decode cX11_distance 2 = .ok (.putfield 34, 3) := by decide +kernel
theorem dX11_distance_5 : decode cX11_distance 5 = .ok (.aload_n 0, 1) := by decide +kernel
theorem dX11_distance_6 : decode cX11_distance 6 = .ok (.iload_n 1, 1) := by decide +kernel
theorem dX11_distance_7 : decode cX11_distance 7 = .ok (.invokevirtual 59, 3) := by decide +kernel
theorem dX11_distance_10 : decode cX11_distance 10 = .ok (.ifCond .eq 23, 3) := by decide +kernel
theorem dX11_distance_13 : decode cX11_distance 13 = .ok (.aload_n 0, 1) := by decide +kernel
theorem dX11_distance_14 : decode cX11_distance 14 = .ok (.iload_n 2, 1) := by decide +kernel
theorem dX11_distance_15 : decode cX11_distance 15 = .ok (.invokevirtual 59, 3) := by decide +kernel
theorem dX11_distance_18 : decode cX11_distance 18 = .ok (.ifCond .eq 15, 3) := by decide +kernel
theorem dX11_distance_21 : decode cX11_distance 21 = .ok (.aload_n 0, 1) := by decide +kernel
theorem dX11_distance_22 : decode cX11_distance 22 = .ok (.getfield 27, 3) := by decide +kernel
theorem dX11_distance_25 : decode cX11_distance 25 = .ok (.iload_n 1, 1) := by decide +kernel
theorem dX11_distance_26 : decode cX11_distance 26 = .ok (.iload_n 2, 1) := by decide +kernel
theorem dX11_distance_33 : decode cX11_distance 33 = .ok (.aload_n 0, 1) := by decide +kernel
theorem dX11_distance_34 : decode cX11_distance 34 = .ok (.iconst 1, 1) := by decide +kernel
theorem dX11_distance_35 : decode cX11_distance 35 = .ok (.invokevirtual 51, 3) := by decide +kernel
theorem dX11_distance_38 : decode cX11_distance 38 = .ok (.ireturn, 1) := by decide +kernel
set_option maxRecDepth 20000 in
theorem ggX11_nextLink_X11_isNode : GoodIn wsX11_nextLink wsX11_isNode := goodIn_r _ [7, 8, 9, 10, 6, 11, 25, 26, 27, 28, 29, 30, 31, 32, 33, 34] (by decide +kernel) (by decide +kernel)
set_option maxRecDepth 20000 in
theorem gX11_nextLink_X11_isNode : GoodIn wsX11_nextLink (wsV RX11 59 RX11 yX11_isNode wsX11_isNode) := goodIn_app (goodIn_of _ (by decide +kernel)) ggX11_nextLink_X11_isNode
set_option maxRecDepth 20000 in
theorem ggX11_nextLink_X11_refuse : GoodIn wsX11_nextLink wsX11_refuse := goodIn_r _ [24, 1, 25, 26, 27, 28, 29, 30, 31, 32, 33, 34] (by decide +kernel) (by decide +kernel)
set_option maxRecDepth 20000 in
theorem gX11_nextLink_X11_refuse : GoodIn wsX11_nextLink (wsV RX11 51 RX11 yX11_refuse wsX11_refuse) := goodIn_app (goodIn_of _ (by decide +kernel)) ggX11_nextLink_X11_refuse
theorem dX11_nextLink_0 : decode cX11_nextLink 0 = .ok (.aload_n 0, 1) := by decide +kernel
theorem dX11_nextLink_1 : decode cX11_nextLink 1 = .ok (.iconst 0, 1) := by decide +kernel
theorem dX11_nextLink_2 : decode cX11_nextLink 2 = .ok (.putfield 34, 3) := by decide +kernel
theorem dX11_nextLink_5 : decode cX11_nextLink 5 = .ok (.aload_n 0, 1) := by decide +kernel
theorem dX11_nextLink_6 : decode cX11_nextLink 6 = .ok (.iload_n 1, 1) := by decide +kernel
theorem dX11_nextLink_7 : decode cX11_nextLink 7 = .ok (.invokevirtual 59, 3) := by decide +kernel
theorem dX11_nextLink_10 : decode cX11_nextLink 10 = .ok (.ifCond .eq 23, 3) := by decide +kernel
theorem dX11_nextLink_13 : decode cX11_nextLink 13 = .ok (.aload_n 0, 1) := by decide +kernel
theorem dX11_nextLink_14 : decode cX11_nextLink 14 = .ok (.iload_n 2, 1) := by decide +kernel
theorem dX11_nextLink_15 : decode cX11_nextLink 15 = .ok (.invokevirtual 59, 3) := by decide +kernel
theorem dX11_nextLink_18 : decode cX11_nextLink 18 = .ok (.ifCond .eq 15, 3) := by decide +kernel
theorem dX11_nextLink_21 : decode cX11_nextLink 21 = .ok (.aload_n 0, 1) := by decide +kernel
theorem dX11_nextLink_22 : decode cX11_nextLink 22 = .ok (.getfield 27, 3) := by decide +kernel
theorem dX11_nextLink_25 : decode cX11_nextLink 25 = .ok (.iload_n 1, 1) := by decide +kernel
theorem dX11_nextLink_26 : decode cX11_nextLink 26 = .ok (.iload_n 2, 1) := by decide +kernel
theorem dX11_nextLink_33 : decode cX11_nextLink 33 = .ok (.aload_n 0, 1) := by decide +kernel
theorem dX11_nextLink_34 : decode cX11_nextLink 34 = .ok (.iconst 1, 1) := by decide +kernel
theorem dX11_nextLink_35 : decode cX11_nextLink 35 = .ok (.invokevirtual 51, 3) := by decide +kernel
theorem dX11_nextLink_38 : decode cX11_nextLink 38 = .ok (.ireturn, 1) := by decide +kernel
set_option maxRecDepth 20000 in
theorem ggX11_hasWay_X11_isLink : GoodIn wsX11_hasWay wsX11_isLink := goodIn_r _ [6, 7, 8, 9, 5, 10, 11, 12, 13, 14, 15, 16, 17, 18, 19, 20] (by decide +kernel) (by decide +kernel)
set_option maxRecDepth 20000 in
theorem gX11_hasWay_X11_isLink : GoodIn wsX11_hasWay (wsV RX11 70 RX11 yX11_isLink wsX11_isLink) := goodIn_app (goodIn_of _ (by decide +kernel)) ggX11_hasWay_X11_isLink
set_option maxRecDepth 20000 in
theorem ggX11_hasWay_X11_is : GoodIn wsX11_hasWay wsX11_is := goodIn_r _ [10] (by decide +kernel) (by decide +kernel)
set_option maxRecDepth 20000 in
theorem gX11_hasWay_X11_is : GoodIn wsX11_hasWay (va_wsS RX11 41 yX11_is wsX11_is) := goodIn_app (goodIn_of _ (by decide +kernel)) ggX11_hasWay_X11_is
theorem dX11_hasWay_0 : decode cX11_hasWay 0 = .ok (.aload_n 0, 1) := by decide +kernel
theorem dX11_hasWay_1 : decode cX11_hasWay 1 = .ok (.aload_n 0, 1) := by decide +kernel
theorem dX11_hasWay_2 : decode cX11_hasWay 2 = .ok (.iload_n 1, 1) := by decide +kernel
theorem dX11_hasWay_3 : decode cX11_hasWay 3 = .ok (.invokevirtual 70, 3) := by decide +kernel
theorem dX11_hasWay_6 : decode cX11_hasWay 6 = .ok (.ifCond .eq 16, 3) := by decide +kernel
theorem dX11_hasWay_9 : decode cX11_hasWay 9 = .ok (.iload_n 2, 1) := by decide +kernel
theorem dX11_hasWay_10 : decode cX11_hasWay 10 = .ok (.iconst 0, 1) := by decide +kernel
theorem dX11_hasWay_11 : decode cX11_hasWay 11 = .ok (.iconst 1, 1) := by decide +kernel
theorem dX11_hasWay_12 : decode cX11_hasWay 12 = .ok (.invokestatic 41, 3) := by decide +kernel
theorem dX11_hasWay_15 : decode cX11_hasWay 15 = .ok (.ifCond .eq 7, 3) := by decide +kernel
theorem dX11_hasWay_18 : decode cX11_hasWay 18 = .ok (.iconst 0, 1) := by decide +kernel
theorem dX11_hasWay_19 : decode cX11_hasWay 19 = .ok (.goto 4, 3) := by decide +kernel
theorem dX11_hasWay_22 : decode cX11_hasWay 22 = .ok (.iconst 1, 1) := by decide +kernel
theorem dX11_hasWay_23 : decode cX11_hasWay 23 = .ok (.putfield 34, 3) := by decide +kernel
theorem dX11_hasWay_26 : decode cX11_hasWay 26 = .ok (.aload_n 0, 1) := by decide +kernel
theorem dX11_hasWay_27 : decode cX11_hasWay 27 = .ok (.getfield 34, 3) := by decide +kernel
theorem dX11_hasWay_30 : decode cX11_hasWay 30 = .ok (.ifCond .ne 7, 3) := by decide +kernel
theorem dX11_hasWay_33 : decode cX11_hasWay 33 = .ok (.iconst 1, 1) := by decide +kernel
theorem dX11_hasWay_34 : decode cX11_hasWay 34 = .ok (.goto 4, 3) := by decide +kernel
theorem dX11_hasWay_37 : decode cX11_hasWay 37 = .ok (.iconst 0, 1) := by decide +kernel
theorem dX11_hasWay_38 : decode cX11_hasWay 38 = .ok (.ireturn, 1) := by decide +kernel
set_option maxRecDepth 20000 in
theorem ggX11_queued_X11_hasWay : GoodIn wsX11_queued wsX11_hasWay := goodIn_r _ [6, 7, 8, 9, 10, 5, 11, 12, 13, 14, 15, 16, 17, 18, 19, 20, 21, 22, 23, 24, 25] (by decide +kernel) (by decide +kernel)
set_option maxRecDepth 20000 in
theorem gX11_queued_X11_hasWay : GoodIn wsX11_queued (wsV RX11 125 RX11 yX11_hasWay wsX11_hasWay) := goodIn_app (goodIn_of _ (by decide +kernel)) ggX11_queued_X11_hasWay
theorem dX11_queued_0 : decode cX11_queued 0 = .ok (.aload_n 0, 1) := by decide +kernel
theorem dX11_queued_1 : decode cX11_queued 1 = .ok (.iload_n 1, 1) := by decide +kernel
theorem dX11_queued_2 : decode cX11_queued 2 = .ok (.iload_n 2, 1) := by decide +kernel
theorem dX11_queued_3 : decode cX11_queued 3 = .ok (.invokevirtual 125, 3) := by decide +kernel
theorem dX11_queued_6 : decode cX11_queued 6 = .ok (.ifCond .eq 22, 3) := by decide +kernel
theorem dX11_queued_9 : decode cX11_queued 9 = .ok (.aload_n 0, 1) := by decide +kernel
theorem dX11_queued_10 : decode cX11_queued 10 = .ok (.getfield 27, 3) := by decide +kernel
theorem dX11_queued_13 : decode cX11_queued 13 = .ok (.getfield 129, 3) := by decide +kernel
theorem dX11_queued_16 : decode cX11_queued 16 = .ok (.iconst 2, 1) := by decide +kernel
theorem dX11_queued_17 : decode cX11_queued 17 = .ok (.iload_n 1, 1) := by decide +kernel
theorem dX11_queued_18 : decode cX11_queued 18 = .ok (.imul, 1) := by decide +kernel
theorem dX11_queued_19 : decode cX11_queued 19 = .ok (.iload_n 2, 1) := by decide +kernel
theorem dX11_queued_20 : decode cX11_queued 20 = .ok (.iadd, 1) := by decide +kernel
theorem dX11_queued_21 : decode cX11_queued 21 = .ok (.aaload, 1) := by decide +kernel
theorem dX11_queued_22 : decode cX11_queued 22 = .ok (.getfield 133, 3) := by decide +kernel
theorem dX11_queued_25 : decode cX11_queued 25 = .ok (.goto 4, 3) := by decide +kernel
theorem dX11_queued_28 : decode cX11_queued 28 = .ok (.iconst 0, 1) := by decide +kernel
theorem dX11_queued_29 : decode cX11_queued 29 = .ok (.ireturn, 1) := by decide +kernel
set_option maxRecDepth 20000 in
theorem ggX11_flying_X11_hasWay : GoodIn wsX11_flying wsX11_hasWay := goodIn_r _ [6, 7, 8, 9, 10, 5, 11, 12, 13, 14, 15, 16, 17, 18, 19, 20, 21, 22, 23, 24, 25] (by decide +kernel) (by decide +kernel)
set_option maxRecDepth 20000 in
theorem gX11_flying_X11_hasWay : GoodIn wsX11_flying (wsV RX11 125 RX11 yX11_hasWay wsX11_hasWay) := goodIn_app (goodIn_of _ (by decide +kernel)) ggX11_flying_X11_hasWay
theorem dX11_flying_0 : decode cX11_flying 0 = .ok (.aload_n 0, 1) := by decide +kernel
theorem dX11_flying_1 : decode cX11_flying 1 = .ok (.iload_n 1, 1) := by decide +kernel
theorem dX11_flying_2 : decode cX11_flying 2 = .ok (.iload_n 2, 1) := by decide +kernel
theorem dX11_flying_3 : decode cX11_flying 3 = .ok (.invokevirtual 125, 3) := by decide +kernel
theorem dX11_flying_6 : decode cX11_flying 6 = .ok (.ifCond .eq 22, 3) := by decide +kernel
theorem dX11_flying_9 : decode cX11_flying 9 = .ok (.aload_n 0, 1) := by decide +kernel
theorem dX11_flying_10 : decode cX11_flying 10 = .ok (.getfield 27, 3) := by decide +kernel
theorem dX11_flying_13 : decode cX11_flying 13 = .ok (.getfield 138, 3) := by decide +kernel
theorem dX11_flying_16 : decode cX11_flying 16 = .ok (.iconst 2, 1) := by decide +kernel
theorem dX11_flying_17 : decode cX11_flying 17 = .ok (.iload_n 1, 1) := by decide +kernel
theorem dX11_flying_18 : decode cX11_flying 18 = .ok (.imul, 1) := by decide +kernel
theorem dX11_flying_19 : decode cX11_flying 19 = .ok (.iload_n 2, 1) := by decide +kernel
theorem dX11_flying_20 : decode cX11_flying 20 = .ok (.iadd, 1) := by decide +kernel
theorem dX11_flying_21 : decode cX11_flying 21 = .ok (.aaload, 1) := by decide +kernel
theorem dX11_flying_22 : decode cX11_flying 22 = .ok (.getfield 133, 3) := by decide +kernel
theorem dX11_flying_25 : decode cX11_flying 25 = .ok (.goto 4, 3) := by decide +kernel
theorem dX11_flying_28 : decode cX11_flying 28 = .ok (.iconst 0, 1) := by decide +kernel
theorem dX11_flying_29 : decode cX11_flying 29 = .ok (.ireturn, 1) := by decide +kernel
set_option maxRecDepth 20000 in
theorem ggX11_flown_X11_hasWay : GoodIn wsX11_flown wsX11_hasWay := goodIn_r _ [6, 7, 8, 9, 10, 5, 11, 12, 13, 14, 15, 16, 17, 18, 19, 20, 21, 22, 23, 24, 25] (by decide +kernel) (by decide +kernel)
set_option maxRecDepth 20000 in
theorem gX11_flown_X11_hasWay : GoodIn wsX11_flown (wsV RX11 125 RX11 yX11_hasWay wsX11_hasWay) := goodIn_app (goodIn_of _ (by decide +kernel)) ggX11_flown_X11_hasWay
theorem dX11_flown_0 : decode cX11_flown 0 = .ok (.aload_n 0, 1) := by decide +kernel
theorem dX11_flown_1 : decode cX11_flown 1 = .ok (.iload_n 1, 1) := by decide +kernel
theorem dX11_flown_2 : decode cX11_flown 2 = .ok (.iload_n 2, 1) := by decide +kernel
theorem dX11_flown_3 : decode cX11_flown 3 = .ok (.invokevirtual 125, 3) := by decide +kernel
theorem dX11_flown_6 : decode cX11_flown 6 = .ok (.ifCond .eq 19, 3) := by decide +kernel
theorem dX11_flown_9 : decode cX11_flown 9 = .ok (.aload_n 0, 1) := by decide +kernel
theorem dX11_flown_10 : decode cX11_flown 10 = .ok (.getfield 27, 3) := by decide +kernel
theorem dX11_flown_13 : decode cX11_flown 13 = .ok (.getfield 141, 3) := by decide +kernel
theorem dX11_flown_16 : decode cX11_flown 16 = .ok (.iconst 2, 1) := by decide +kernel
theorem dX11_flown_17 : decode cX11_flown 17 = .ok (.iload_n 1, 1) := by decide +kernel
theorem dX11_flown_18 : decode cX11_flown 18 = .ok (.imul, 1) := by decide +kernel
theorem dX11_flown_19 : decode cX11_flown 19 = .ok (.iload_n 2, 1) := by decide +kernel
theorem dX11_flown_20 : decode cX11_flown 20 = .ok (.iadd, 1) := by decide +kernel
theorem dX11_flown_21 : decode cX11_flown 21 = .ok (.iaload, 1) := by decide +kernel
theorem dX11_flown_22 : decode cX11_flown 22 = .ok (.goto 4, 3) := by decide +kernel
theorem dX11_flown_25 : decode cX11_flown 25 = .ok (.iconst 0, 1) := by decide +kernel
theorem dX11_flown_26 : decode cX11_flown 26 = .ok (.ireturn, 1) := by decide +kernel
theorem dX11_lost_0 : decode cX11_lost 0 = .ok (.aload_n 0, 1) := by decide +kernel
theorem dX11_lost_1 : decode cX11_lost 1 = .ok (.iconst 0, 1) := by decide +kernel
theorem dX11_lost_2 : decode cX11_lost 2 = .ok (.putfield 34, 3) := by decide +kernel
theorem dX11_lost_5 : decode cX11_lost 5 = .ok (.aload_n 0, 1) := by decide +kernel
theorem dX11_lost_6 : decode cX11_lost 6 = .ok (.getfield 27, 3) := by decide +kernel
theorem dX11_lost_9 : decode cX11_lost 9 = .ok (.getfield 144, 3) := by decide +kernel
theorem dX11_lost_12 : decode cX11_lost 12 = .ok (.ireturn, 1) := by decide +kernel
set_option maxRecDepth 20000 in
theorem ggX11_underWay_X10_underWay : GoodIn wsX11_underWay wsX10_underWay := goodIn_r _ [7, 8, 9, 10, 21, 22, 23, 24, 25, 26, 27, 28, 29, 30, 31, 32, 33, 11, 12, 13, 14, 15, 16, 17, 18, 19, 20, 34, 35] (by decide +kernel) (by decide +kernel)
set_option maxRecDepth 20000 in
theorem gX11_underWay_X10_underWay : GoodIn wsX11_underWay (wsV RX11 147 RX10 yX10_underWay wsX10_underWay) := goodIn_app (goodIn_of _ (by decide +kernel)) ggX11_underWay_X10_underWay
theorem dX11_underWay_0 : decode cX11_underWay 0 = .ok (.aload_n 0, 1) := by decide +kernel
theorem dX11_underWay_1 : decode cX11_underWay 1 = .ok (.iconst 0, 1) := by decide +kernel
theorem dX11_underWay_2 : decode cX11_underWay 2 = .ok (.putfield 34, 3) := by decide +kernel
theorem dX11_underWay_5 : decode cX11_underWay 5 = .ok (.aload_n 0, 1) := by decide +kernel
theorem dX11_underWay_6 : decode cX11_underWay 6 = .ok (.getfield 27, 3) := by decide +kernel
theorem dX11_underWay_9 : decode cX11_underWay 9 = .ok (.invokevirtual 147, 3) := by decide +kernel
theorem dX11_underWay_12 : decode cX11_underWay 12 = .ok (.ireturn, 1) := by decide +kernel
theorem dX11_connections_0 : decode cX11_connections 0 = .ok (.aload_n 0, 1) := by decide +kernel
theorem dX11_connections_1 : decode cX11_connections 1 = .ok (.iconst 0, 1) := by decide +kernel
theorem dX11_connections_2 : decode cX11_connections 2 = .ok (.putfield 34, 3) := by decide +kernel
theorem dX11_connections_5 : decode cX11_connections 5 = .ok (.aload_n 0, 1) := by decide +kernel
theorem dX11_connections_6 : decode cX11_connections 6 = .ok (.getfield 27, 3) := by decide +kernel
theorem dX11_connections_9 : decode cX11_connections 9 = .ok (.getfield 48, 3) := by decide +kernel
theorem dX11_connections_12 : decode cX11_connections 12 = .ok (.ireturn, 1) := by decide +kernel
set_option maxRecDepth 20000 in
theorem ggX11_of_X11_isCall : GoodIn wsX11_of wsX11_isCall := goodIn_r _ [7, 2, 8, 9, 6, 10, 15, 16, 17, 18, 19, 20, 21, 22, 23, 24, 25, 26, 27, 28, 29, 30, 31, 32, 33, 34, 35, 36, 37] (by decide +kernel) (by decide +kernel)
set_option maxRecDepth 20000 in
theorem gX11_of_X11_isCall : GoodIn wsX11_of (wsV RX11 86 RX11 yX11_isCall wsX11_isCall) := goodIn_app (goodIn_of _ (by decide +kernel)) ggX11_of_X11_isCall
set_option maxRecDepth 20000 in
theorem ggX11_of_X11_refuse : GoodIn wsX11_of wsX11_refuse := goodIn_r _ [14, 1, 15, 16, 17, 18, 19, 20, 21, 22, 23, 24] (by decide +kernel) (by decide +kernel)
set_option maxRecDepth 20000 in
theorem gX11_of_X11_refuse : GoodIn wsX11_of (wsV RX11 51 RX11 yX11_refuse wsX11_refuse) := goodIn_app (goodIn_of _ (by decide +kernel)) ggX11_of_X11_refuse
theorem dX11_of_0 : decode cX11_of 0 = .ok (.aload_n 0, 1) := by decide +kernel
theorem dX11_of_1 : decode cX11_of 1 = .ok (.iconst 0, 1) := by decide +kernel
theorem dX11_of_2 : decode cX11_of 2 = .ok (.putfield 34, 3) := by decide +kernel
theorem dX11_of_5 : decode cX11_of 5 = .ok (.aload_n 0, 1) := by decide +kernel
theorem dX11_of_6 : decode cX11_of 6 = .ok (.iload_n 1, 1) := by decide +kernel
theorem dX11_of_7 : decode cX11_of 7 = .ok (.invokevirtual 86, 3) := by decide +kernel
theorem dX11_of_10 : decode cX11_of 10 = .ok (.ifCond .eq 17, 3) := by decide +kernel
theorem dX11_of_13 : decode cX11_of 13 = .ok (.aload_n 0, 1) := by decide +kernel
theorem dX11_of_14 : decode cX11_of 14 = .ok (.getfield 27, 3) := by decide +kernel
theorem dX11_of_17 : decode cX11_of 17 = .ok (.getfield 79, 3) := by decide +kernel
theorem dX11_of_20 : decode cX11_of 20 = .ok (.iload_n 1, 1) := by decide +kernel
theorem dX11_of_21 : decode cX11_of 21 = .ok (.aaload, 1) := by decide +kernel
theorem dX11_of_22 : decode cX11_of 22 = .ok (.iload_n 2, 1) := by decide +kernel
theorem dX11_of_23 : decode cX11_of 23 = .ok (.iaload, 1) := by decide +kernel
theorem dX11_of_24 : decode cX11_of 24 = .ok (.goto 8, 3) := by decide +kernel
theorem dX11_of_27 : decode cX11_of 27 = .ok (.aload_n 0, 1) := by decide +kernel
theorem dX11_of_28 : decode cX11_of 28 = .ok (.iconst 1, 1) := by decide +kernel
theorem dX11_of_29 : decode cX11_of 29 = .ok (.invokevirtual 51, 3) := by decide +kernel
theorem dX11_of_32 : decode cX11_of 32 = .ok (.ireturn, 1) := by decide +kernel
