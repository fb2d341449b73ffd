theorem dX9_become_0 : decode cX9_become 0 = .ok (.aload_n 0, 1) := by decide +kernel
theorem dX9_become_1 : decode cX9_become 1 = .ok (.getfield 9, 3) := by decide +kernel
theorem dX9_become_4 : decode cX9_become 4 = .ok (.arraylength, 1) := by decide +kernel
theorem dX9_become_5 : decode cX9_become 5 = .ok (.aload_n 1, 1) := by decide +kernel
theorem dX9_become_6 : decode cX9_become 6 = .ok (.getfield 15, 3) := by decide +kernel
theorem dX9_become_9 : decode cX9_become 9 = .ok (.bipush 6, 2) := by decide +kernel
theorem dX9_become_11 : decode cX9_become 11 = .ok (.imul, 1) := by decide +kernel
theorem dX9_become_12 : decode cX9_become 12 = .ok (.if_icmp .ge 14, 3) := by decide +kernel
theorem dX9_become_15 : decode cX9_become 15 = .ok (.aload_n 0, 1) := by decide +kernel
theorem dX9_become_16 : decode cX9_become 16 = .ok (.aload_n 1, 1) := by decide +kernel
theorem dX9_become_17 : decode cX9_become 17 = .ok (.getfield 9, 3) := by decide +kernel
theorem dX9_become_20 : decode cX9_become 20 = .ok (.arraylength, 1) := by decide +kernel
theorem dX9_become_26 : decode cX9_become 26 = .ok (.aload_n 0, 1) := by decide +kernel
theorem dX9_become_27 : decode cX9_become 27 = .ok (.aload_n 1, 1) := by decide +kernel
theorem dX9_become_28 : decode cX9_become 28 = .ok (.getfield 15, 3) := by decide +kernel
theorem dX9_become_31 : decode cX9_become 31 = .ok (.putfield 15, 3) := by decide +kernel
theorem dX9_become_34 : decode cX9_become 34 = .ok (.aload_n 1, 1) := by decide +kernel
theorem dX9_become_35 : decode cX9_become 35 = .ok (.getfield 9, 3) := by decide +kernel
theorem dX9_become_38 : decode cX9_become 38 = .ok (.iconst 0, 1) := by decide +kernel
theorem dX9_become_39 : decode cX9_become 39 = .ok (.aload_n 0, 1) := by decide +kernel
theorem dX9_become_40 : decode cX9_become 40 = .ok (.getfield 9, 3) := by decide +kernel
theorem dX9_become_43 : decode cX9_become 43 = .ok (.iconst 0, 1) := by decide +kernel
theorem dX9_become_44 : decode cX9_become 44 = .ok (.aload_n 0, 1) := by decide +kernel
theorem dX9_become_45 : decode cX9_become 45 = .ok (.getfield 15, 3) := by decide +kernel
theorem dX9_become_48 : decode cX9_become 48 = .ok (.bipush 6, 2) := by decide +kernel
theorem dX9_become_50 : decode cX9_become 50 = .ok (.imul, 1) := by decide +kernel
theorem dX9_become_51 : decode cX9_become 51 = .ok (.invokestatic 25, 3) := by decide +kernel
theorem dX9_become_54 : decode cX9_become 54 = .ok (.return_, 1) := by decide +kernel
set_option maxRecDepth 20000 in
theorem ggX10_become_X9_become : GoodIn wsX10_become wsX9_become := goodIn_r _ [21, 22, 23, 24, 25, 6, 7, 8, 39, 40] (by decide +kernel) (by decide +kernel)
set_option maxRecDepth 20000 in
theorem gX10_become_X9_become : GoodIn wsX10_become (wsV RX10 68 RX9 yX9_become wsX9_become) := goodIn_app (goodIn_of _ (by decide +kernel)) ggX10_become_X9_become
theorem dX10_become_0 : decode cX10_become 0 = .ok (.aload_n 0, 1) := by decide +kernel
theorem dX10_become_1 : decode cX10_become 1 = .ok (.aload_n 1, 1) := by decide +kernel
theorem dX10_become_2 : decode cX10_become 2 = .ok (.getfield 52, 3) := by decide +kernel
theorem dX10_become_5 : decode cX10_become 5 = .ok (.putfield 52, 3) := by decide +kernel
theorem dX10_become_8 : decode cX10_become 8 = .ok (.aload_n 0, 1) := by decide +kernel
theorem dX10_become_9 : decode cX10_become 9 = .ok (.aload_n 1, 1) := by decide +kernel
theorem dX10_become_10 : decode cX10_become 10 = .ok (.getfield 56, 3) := by decide +kernel
theorem dX10_become_13 : decode cX10_become 13 = .ok (.putfield 56, 3) := by decide +kernel
theorem dX10_become_16 : decode cX10_become 16 = .ok (.aload_n 0, 1) := by decide +kernel
theorem dX10_become_17 : decode cX10_become 17 = .ok (.aload_n 1, 1) := by decide +kernel
theorem dX10_become_18 : decode cX10_become 18 = .ok (.getfield 59, 3) := by decide +kernel
theorem dX10_become_21 : decode cX10_become 21 = .ok (.putfield 59, 3) := by decide +kernel
theorem dX10_become_24 : decode cX10_become 24 = .ok (.aload_n 1, 1) := by decide +kernel
theorem dX10_become_25 : decode cX10_become 25 = .ok (.getfield 15, 3) := by decide +kernel
theorem dX10_become_28 : decode cX10_become 28 = .ok (.iconst 0, 1) := by decide +kernel
theorem dX10_become_29 : decode cX10_become 29 = .ok (.aload_n 0, 1) := by decide +kernel
theorem dX10_become_30 : decode cX10_become 30 = .ok (.getfield 15, 3) := by decide +kernel
theorem dX10_become_33 : decode cX10_become 33 = .ok (.iconst 0, 1) := by decide +kernel
theorem dX10_become_34 : decode cX10_become 34 = .ok (.bipush 12, 2) := by decide +kernel
theorem dX10_become_36 : decode cX10_become 36 = .ok (.invokestatic 62, 3) := by decide +kernel
theorem dX10_become_39 : decode cX10_become 39 = .ok (.aload_n 1, 1) := by decide +kernel
theorem dX10_become_40 : decode cX10_become 40 = .ok (.getfield 33, 3) := by decide +kernel
theorem dX10_become_43 : decode cX10_become 43 = .ok (.iconst 0, 1) := by decide +kernel
theorem dX10_become_44 : decode cX10_become 44 = .ok (.aload_n 0, 1) := by decide +kernel
theorem dX10_become_45 : decode cX10_become 45 = .ok (.getfield 33, 3) := by decide +kernel
theorem dX10_become_48 : decode cX10_become 48 = .ok (.iconst 0, 1) := by decide +kernel
theorem dX10_become_49 : decode cX10_become 49 = .ok (.bipush 24, 2) := by decide +kernel
theorem dX10_become_51 : decode cX10_become 51 = .ok (.invokestatic 62, 3) := by decide +kernel
theorem dX10_become_54 : decode cX10_become 54 = .ok (.aload_n 1, 1) := by decide +kernel
theorem dX10_become_55 : decode cX10_become 55 = .ok (.getfield 37, 3) := by decide +kernel
theorem dX10_become_58 : decode cX10_become 58 = .ok (.iconst 0, 1) := by decide +kernel
theorem dX10_become_59 : decode cX10_become 59 = .ok (.aload_n 0, 1) := by decide +kernel
theorem dX10_become_60 : decode cX10_become 60 = .ok (.getfield 37, 3) := by decide +kernel
theorem dX10_become_63 : decode cX10_become 63 = .ok (.iconst 0, 1) := by decide +kernel
theorem dX10_become_64 : decode cX10_become 64 = .ok (.bipush 24, 2) := by decide +kernel
theorem dX10_become_66 : decode cX10_become 66 = .ok (.invokestatic 62, 3) := by decide +kernel
theorem dX10_become_69 : decode cX10_become 69 = .ok (.iconst 0, 1) := by decide +kernel
theorem dX10_become_70 : decode cX10_become 70 = .ok (.istore_n 2, 1) := by decide +kernel
theorem dX10_become_71 : decode cX10_become 71 = .ok (.iload_n 2, 1) := by decide +kernel
theorem dX10_become_72 : decode cX10_become 72 = .ok (.bipush 8, 2) := by decide +kernel
theorem dX10_become_74 : decode cX10_become 74 = .ok (.if_icmp .ge 28, 3) := by decide +kernel
theorem dX10_become_77 : decode cX10_become 77 = .ok (.aload_n 1, 1) := by decide +kernel
theorem dX10_become_78 : decode cX10_become 78 = .ok (.getfield 21, 3) := by decide +kernel
theorem dX10_become_81 : decode cX10_become 81 = .ok (.iload_n 2, 1) := by decide +kernel
theorem dX10_become_82 : decode cX10_become 82 = .ok (.aaload, 1) := by decide +kernel
theorem dX10_become_83 : decode cX10_become 83 = .ok (.iconst 0, 1) := by decide +kernel
theorem dX10_become_84 : decode cX10_become 84 = .ok (.aload_n 0, 1) := by decide +kernel
theorem dX10_become_85 : decode cX10_become 85 = .ok (.getfield 21, 3) := by decide +kernel
theorem dX10_become_88 : decode cX10_become 88 = .ok (.iload_n 2, 1) := by decide +kernel
theorem dX10_become_89 : decode cX10_become 89 = .ok (.aaload, 1) := by decide +kernel
theorem dX10_become_90 : decode cX10_become 90 = .ok (.iconst 0, 1) := by decide +kernel
theorem dX10_become_91 : decode cX10_become 91 = .ok (.bipush 8, 2) := by decide +kernel
theorem dX10_become_93 : decode cX10_become 93 = .ok (.invokestatic 62, 3) := by decide +kernel
theorem dX10_become_96 : decode cX10_become 96 = .ok (.iinc 2 1, 3) := by decide +kernel
theorem dX10_become_99 : decode cX10_become 99 = .ok (.goto (-28), 3) := by decide +kernel
theorem dX10_become_102 : decode cX10_become 102 = .ok (.iconst 0, 1) := by decide +kernel
theorem dX10_become_103 : decode cX10_become 103 = .ok (.istore_n 2, 1) := by decide +kernel
theorem dX10_become_104 : decode cX10_become 104 = .ok (.iload_n 2, 1) := by decide +kernel
theorem dX10_become_105 : decode cX10_become 105 = .ok (.bipush 24, 2) := by decide +kernel
theorem dX10_become_107 : decode cX10_become 107 = .ok (.if_icmp .ge 39, 3) := by decide +kernel
theorem dX10_become_110 : decode cX10_become 110 = .ok (.aload_n 0, 1) := by decide +kernel
theorem dX10_become_111 : decode cX10_become 111 = .ok (.getfield 26, 3) := by decide +kernel
theorem dX10_become_114 : decode cX10_become 114 = .ok (.iload_n 2, 1) := by decide +kernel
theorem dX10_become_115 : decode cX10_become 115 = .ok (.aaload, 1) := by decide +kernel
theorem dX10_become_116 : decode cX10_become 116 = .ok (.aload_n 1, 1) := by decide +kernel
theorem dX10_become_117 : decode cX10_become 117 = .ok (.getfield 26, 3) := by decide +kernel
theorem dX10_become_120 : decode cX10_become 120 = .ok (.iload_n 2, 1) := by decide +kernel
theorem dX10_become_121 : decode cX10_become 121 = .ok (.aaload, 1) := by decide +kernel
theorem dX10_become_122 : decode cX10_become 122 = .ok (.invokevirtual 68, 3) := by decide +kernel
theorem dX10_become_125 : decode cX10_become 125 = .ok (.aload_n 0, 1) := by decide +kernel
theorem dX10_become_126 : decode cX10_become 126 = .ok (.getfield 30, 3) := by decide +kernel
theorem dX10_become_129 : decode cX10_become 129 = .ok (.iload_n 2, 1) := by decide +kernel
theorem dX10_become_130 : decode cX10_become 130 = .ok (.aaload, 1) := by decide +kernel
theorem dX10_become_131 : decode cX10_become 131 = .ok (.aload_n 1, 1) := by decide +kernel
theorem dX10_become_132 : decode cX10_become 132 = .ok (.getfield 30, 3) := by decide +kernel
theorem dX10_become_135 : decode cX10_become 135 = .ok (.iload_n 2, 1) := by decide +kernel
theorem dX10_become_136 : decode cX10_become 136 = .ok (.aaload, 1) := by decide +kernel
theorem dX10_become_137 : decode cX10_become 137 = .ok (.invokevirtual 68, 3) := by decide +kernel
theorem dX10_become_140 : decode cX10_become 140 = .ok (.iinc 2 1, 3) := by decide +kernel
theorem dX10_become_143 : decode cX10_become 143 = .ok (.goto (-39), 3) := by decide +kernel
theorem dX10_become_146 : decode cX10_become 146 = .ok (.iconst 0, 1) := by decide +kernel
theorem dX10_become_147 : decode cX10_become 147 = .ok (.istore_n 2, 1) := by decide +kernel
theorem dX10_become_148 : decode cX10_become 148 = .ok (.iload_n 2, 1) := by decide +kernel
theorem dX10_become_149 : decode cX10_become 149 = .ok (.bipush 6, 2) := by decide +kernel
theorem dX10_become_151 : decode cX10_become 151 = .ok (.if_icmp .ge 68, 3) := by decide +kernel
theorem dX10_become_154 : decode cX10_become 154 = .ok (.aload_n 1, 1) := by decide +kernel
theorem dX10_become_155 : decode cX10_become 155 = .ok (.getfield 40, 3) := by decide +kernel
theorem dX10_become_158 : decode cX10_become 158 = .ok (.iload_n 2, 1) := by decide +kernel
theorem dX10_become_159 : decode cX10_become 159 = .ok (.aaload, 1) := by decide +kernel
theorem dX10_become_160 : decode cX10_become 160 = .ok (.iconst 0, 1) := by decide +kernel
theorem dX10_become_161 : decode cX10_become 161 = .ok (.aload_n 0, 1) := by decide +kernel
theorem dX10_become_162 : decode cX10_become 162 = .ok (.getfield 40, 3) := by decide +kernel
theorem dX10_become_165 : decode cX10_become 165 = .ok (.iload_n 2, 1) := by decide +kernel
theorem dX10_become_166 : decode cX10_become 166 = .ok (.aaload, 1) := by decide +kernel
theorem dX10_become_167 : decode cX10_become 167 = .ok (.iconst 0, 1) := by decide +kernel
theorem dX10_become_168 : decode cX10_become 168 = .ok (.bipush 23, 2) := by decide +kernel
theorem dX10_become_170 : decode cX10_become 170 = .ok (.invokestatic 62, 3) := by decide +kernel
theorem dX10_become_173 : decode cX10_become 173 = .ok (.aload_n 1, 1) := by decide +kernel
theorem dX10_become_174 : decode cX10_become 174 = .ok (.getfield 43, 3) := by decide +kernel
theorem dX10_become_177 : decode cX10_become 177 = .ok (.iload_n 2, 1) := by decide +kernel
theorem dX10_become_178 : decode cX10_become 178 = .ok (.aaload, 1) := by decide +kernel
theorem dX10_become_179 : decode cX10_become 179 = .ok (.iconst 0, 1) := by decide +kernel
theorem dX10_become_180 : decode cX10_become 180 = .ok (.aload_n 0, 1) := by decide +kernel
theorem dX10_become_181 : decode cX10_become 181 = .ok (.getfield 43, 3) := by decide +kernel
theorem dX10_become_184 : decode cX10_become 184 = .ok (.iload_n 2, 1) := by decide +kernel
theorem dX10_become_185 : decode cX10_become 185 = .ok (.aaload, 1) := by decide +kernel
theorem dX10_become_186 : decode cX10_become 186 = .ok (.iconst 0, 1) := by decide +kernel
theorem dX10_become_187 : decode cX10_become 187 = .ok (.sipush 200, 3) := by decide +kernel
theorem dX10_become_190 : decode cX10_become 190 = .ok (.invokestatic 62, 3) := by decide +kernel
theorem dX10_become_193 : decode cX10_become 193 = .ok (.aload_n 1, 1) := by decide +kernel
theorem dX10_become_194 : decode cX10_become 194 = .ok (.getfield 48, 3) := by decide +kernel
theorem dX10_become_197 : decode cX10_become 197 = .ok (.iload_n 2, 1) := by decide +kernel
theorem dX10_become_198 : decode cX10_become 198 = .ok (.aaload, 1) := by decide +kernel
theorem dX10_become_199 : decode cX10_become 199 = .ok (.iconst 0, 1) := by decide +kernel
theorem dX10_become_200 : decode cX10_become 200 = .ok (.aload_n 0, 1) := by decide +kernel
theorem dX10_become_201 : decode cX10_become 201 = .ok (.getfield 48, 3) := by decide +kernel
theorem dX10_become_204 : decode cX10_become 204 = .ok (.iload_n 2, 1) := by decide +kernel
theorem dX10_become_205 : decode cX10_become 205 = .ok (.aaload, 1) := by decide +kernel
theorem dX10_become_206 : decode cX10_become 206 = .ok (.iconst 0, 1) := by decide +kernel
theorem dX10_become_207 : decode cX10_become 207 = .ok (.sipush 202, 3) := by decide +kernel
theorem dX10_become_210 : decode cX10_become 210 = .ok (.invokestatic 62, 3) := by decide +kernel
theorem dX10_become_213 : decode cX10_become 213 = .ok (.iinc 2 1, 3) := by decide +kernel
theorem dX10_become_216 : decode cX10_become 216 = .ok (.goto (-68), 3) := by decide +kernel
theorem dX10_become_219 : decode cX10_become 219 = .ok (.return_, 1) := by decide +kernel
set_option maxRecDepth 20000 in
theorem ggX10_routes_J7_fill_53178 : GoodIn wsX10_routes wsJ7_fill_53178 := goodIn_r _ [12] (by decide +kernel) (by decide +kernel)
set_option maxRecDepth 20000 in
theorem gX10_routes_J7_fill_53178 : GoodIn wsX10_routes (va_wsS RX10 73 yJ7_fill_53178 wsJ7_fill_53178) := goodIn_app (goodIn_of _ (by decide +kernel)) ggX10_routes_J7_fill_53178
theorem dX10_routes_0 : decode cX10_routes 0 = .ok (.aload_n 0, 1) := by decide +kernel
theorem dX10_routes_1 : decode cX10_routes 1 = .ok (.getfield 21, 3) := by decide +kernel
theorem dX10_routes_4 : decode cX10_routes 4 = .ok (.astore_n 2, 1) := by decide +kernel
theorem dX10_routes_5 : decode cX10_routes 5 = .ok (.aload_n 2, 1) := by decide +kernel
theorem dX10_routes_6 : decode cX10_routes 6 = .ok (.arraylength, 1) := by decide +kernel
theorem dX10_routes_7 : decode cX10_routes 7 = .ok (.istore_n 3, 1) := by decide +kernel
theorem dX10_routes_8 : decode cX10_routes 8 = .ok (.iconst 0, 1) := by decide +kernel
theorem dX10_routes_9 : decode cX10_routes 9 = .ok (.istore 4, 2) := by decide +kernel
theorem dX10_routes_11 : decode cX10_routes 11 = .ok (.iload 4, 2) := by decide +kernel
theorem dX10_routes_13 : decode cX10_routes 13 = .ok (.iload_n 3, 1) := by decide +kernel
theorem dX10_routes_14 : decode cX10_routes 14 = .ok (.if_icmp .ge 22, 3) := by decide +kernel
theorem dX10_routes_17 : decode cX10_routes 17 = .ok (.aload_n 2, 1) := by decide +kernel
theorem dX10_routes_18 : decode cX10_routes 18 = .ok (.iload 4, 2) := by decide +kernel
theorem dX10_routes_20 : decode cX10_routes 20 = .ok (.aaload, 1) := by decide +kernel
theorem dX10_routes_21 : decode cX10_routes 21 = .ok (.astore 5, 2) := by decide +kernel
theorem dX10_routes_23 : decode cX10_routes 23 = .ok (.aload 5, 2) := by decide +kernel
theorem dX10_routes_25 : decode cX10_routes 25 = .ok (.ldc 72, 2) := by decide +kernel
theorem dX10_routes_27 : decode cX10_routes 27 = .ok (.invokestatic 73, 3) := by decide +kernel
theorem dX10_routes_30 : decode cX10_routes 30 = .ok (.iinc 4 1, 3) := by decide +kernel
theorem dX10_routes_33 : decode cX10_routes 33 = .ok (.goto (-22), 3) := by decide +kernel
theorem dX10_routes_36 : decode cX10_routes 36 = .ok (.iconst 0, 1) := by decide +kernel
theorem dX10_routes_37 : decode cX10_routes 37 = .ok (.istore_n 2, 1) := by decide +kernel
theorem dX10_routes_38 : decode cX10_routes 38 = .ok (.iload_n 2, 1) := by decide +kernel
theorem dX10_routes_39 : decode cX10_routes 39 = .ok (.aload_n 0, 1) := by decide +kernel
theorem dX10_routes_40 : decode cX10_routes 40 = .ok (.getfield 3, 3) := by decide +kernel
theorem dX10_routes_43 : decode cX10_routes 43 = .ok (.getfield 79, 3) := by decide +kernel
theorem dX10_routes_46 : decode cX10_routes 46 = .ok (.if_icmp .ge 18, 3) := by decide +kernel
theorem dX10_routes_49 : decode cX10_routes 49 = .ok (.aload_n 0, 1) := by decide +kernel
theorem dX10_routes_50 : decode cX10_routes 50 = .ok (.getfield 21, 3) := by decide +kernel
theorem dX10_routes_53 : decode cX10_routes 53 = .ok (.iload_n 2, 1) := by decide +kernel
theorem dX10_routes_54 : decode cX10_routes 54 = .ok (.aaload, 1) := by decide +kernel
theorem dX10_routes_55 : decode cX10_routes 55 = .ok (.iload_n 2, 1) := by decide +kernel
theorem dX10_routes_56 : decode cX10_routes 56 = .ok (.iconst 0, 1) := by decide +kernel
theorem dX10_routes_57 : decode cX10_routes 57 = .ok (.iastore, 1) := by decide +kernel
theorem dX10_routes_58 : decode cX10_routes 58 = .ok (.iinc 2 1, 3) := by decide +kernel
theorem dX10_routes_61 : decode cX10_routes 61 = .ok (.goto (-23), 3) := by decide +kernel
theorem dX10_routes_64 : decode cX10_routes 64 = .ok (.iconst 0, 1) := by decide +kernel
theorem dX10_routes_65 : decode cX10_routes 65 = .ok (.istore_n 2, 1) := by decide +kernel
theorem dX10_routes_66 : decode cX10_routes 66 = .ok (.iload_n 2, 1) := by decide +kernel
theorem dX10_routes_67 : decode cX10_routes 67 = .ok (.aload_n 0, 1) := by decide +kernel
theorem dX10_routes_68 : decode cX10_routes 68 = .ok (.getfield 3, 3) := by decide +kernel
theorem dX10_routes_71 : decode cX10_routes 71 = .ok (.getfield 82, 3) := by decide +kernel
theorem dX10_routes_74 : decode cX10_routes 74 = .ok (.if_icmp .ge 92, 3) := by decide +kernel
theorem dX10_routes_77 : decode cX10_routes 77 = .ok (.aload_n 0, 1) := by decide +kernel
theorem dX10_routes_78 : decode cX10_routes 78 = .ok (.getfield 15, 3) := by decide +kernel
theorem dX10_routes_81 : decode cX10_routes 81 = .ok (.iload_n 2, 1) := by decide +kernel
theorem dX10_routes_82 : decode cX10_routes 82 = .ok (.baload, 1) := by decide +kernel
theorem dX10_routes_83 : decode cX10_routes 83 = .ok (.ifCond .eq 77, 3) := by decide +kernel
theorem dX10_routes_86 : decode cX10_routes 86 = .ok (.iload_n 2, 1) := by decide +kernel
theorem dX10_routes_87 : decode cX10_routes 87 = .ok (.iload_n 1, 1) := by decide +kernel
theorem dX10_routes_88 : decode cX10_routes 88 = .ok (.if_icmp .ne 6, 3) := by decide +kernel
theorem dX10_routes_91 : decode cX10_routes 91 = .ok (.goto 69, 3) := by decide +kernel
theorem dX10_routes_94 : decode cX10_routes 94 = .ok (.aload_n 0, 1) := by decide +kernel
theorem dX10_routes_95 : decode cX10_routes 95 = .ok (.getfield 21, 3) := by decide +kernel
theorem dX10_routes_98 : decode cX10_routes 98 = .ok (.aload_n 0, 1) := by decide +kernel
theorem dX10_routes_99 : decode cX10_routes 99 = .ok (.getfield 3, 3) := by decide +kernel
theorem dX10_routes_102 : decode cX10_routes 102 = .ok (.getfield 85, 3) := by decide +kernel
theorem dX10_routes_105 : decode cX10_routes 105 = .ok (.iload_n 2, 1) := by decide +kernel
theorem dX10_routes_106 : decode cX10_routes 106 = .ok (.iaload, 1) := by decide +kernel
theorem dX10_routes_107 : decode cX10_routes 107 = .ok (.aaload, 1) := by decide +kernel
theorem dX10_routes_108 : decode cX10_routes 108 = .ok (.aload_n 0, 1) := by decide +kernel
theorem dX10_routes_109 : decode cX10_routes 109 = .ok (.getfield 3, 3) := by decide +kernel
theorem dX10_routes_112 : decode cX10_routes 112 = .ok (.getfield 88, 3) := by decide +kernel
theorem dX10_routes_115 : decode cX10_routes 115 = .ok (.iload_n 2, 1) := by decide +kernel
theorem dX10_routes_116 : decode cX10_routes 116 = .ok (.iaload, 1) := by decide +kernel
theorem dX10_routes_117 : decode cX10_routes 117 = .ok (.aload_n 0, 1) := by decide +kernel
theorem dX10_routes_118 : decode cX10_routes 118 = .ok (.getfield 3, 3) := by decide +kernel
theorem dX10_routes_121 : decode cX10_routes 121 = .ok (.getfield 91, 3) := by decide +kernel
theorem dX10_routes_124 : decode cX10_routes 124 = .ok (.iload_n 2, 1) := by decide +kernel
theorem dX10_routes_125 : decode cX10_routes 125 = .ok (.iaload, 1) := by decide +kernel
theorem dX10_routes_126 : decode cX10_routes 126 = .ok (.iastore, 1) := by decide +kernel
theorem dX10_routes_127 : decode cX10_routes 127 = .ok (.aload_n 0, 1) := by decide +kernel
theorem dX10_routes_128 : decode cX10_routes 128 = .ok (.getfield 21, 3) := by decide +kernel
theorem dX10_routes_131 : decode cX10_routes 131 = .ok (.aload_n 0, 1) := by decide +kernel
theorem dX10_routes_132 : decode cX10_routes 132 = .ok (.getfield 3, 3) := by decide +kernel
theorem dX10_routes_135 : decode cX10_routes 135 = .ok (.getfield 88, 3) := by decide +kernel
theorem dX10_routes_138 : decode cX10_routes 138 = .ok (.iload_n 2, 1) := by decide +kernel
theorem dX10_routes_139 : decode cX10_routes 139 = .ok (.iaload, 1) := by decide +kernel
theorem dX10_routes_140 : decode cX10_routes 140 = .ok (.aaload, 1) := by decide +kernel
theorem dX10_routes_141 : decode cX10_routes 141 = .ok (.aload_n 0, 1) := by decide +kernel
theorem dX10_routes_142 : decode cX10_routes 142 = .ok (.getfield 3, 3) := by decide +kernel
theorem dX10_routes_145 : decode cX10_routes 145 = .ok (.getfield 85, 3) := by decide +kernel
theorem dX10_routes_148 : decode cX10_routes 148 = .ok (.iload_n 2, 1) := by decide +kernel
theorem dX10_routes_149 : decode cX10_routes 149 = .ok (.iaload, 1) := by decide +kernel
theorem dX10_routes_150 : decode cX10_routes 150 = .ok (.aload_n 0, 1) := by decide +kernel
theorem dX10_routes_151 : decode cX10_routes 151 = .ok (.getfield 3, 3) := by decide +kernel
theorem dX10_routes_154 : decode cX10_routes 154 = .ok (.getfield 91, 3) := by decide +kernel
theorem dX10_routes_157 : decode cX10_routes 157 = .ok (.iload_n 2, 1) := by decide +kernel
theorem dX10_routes_158 : decode cX10_routes 158 = .ok (.iaload, 1) := by decide +kernel
theorem dX10_routes_159 : decode cX10_routes 159 = .ok (.iastore, 1) := by decide +kernel
theorem dX10_routes_160 : decode cX10_routes 160 = .ok (.iinc 2 1, 3) := by decide +kernel
theorem dX10_routes_163 : decode cX10_routes 163 = .ok (.goto (-97), 3) := by decide +kernel
theorem dX10_routes_166 : decode cX10_routes 166 = .ok (.iconst 0, 1) := by decide +kernel
theorem dX10_routes_167 : decode cX10_routes 167 = .ok (.istore_n 2, 1) := by decide +kernel
theorem dX10_routes_168 : decode cX10_routes 168 = .ok (.iload_n 2, 1) := by decide +kernel
theorem dX10_routes_169 : decode cX10_routes 169 = .ok (.aload_n 0, 1) := by decide +kernel
theorem dX10_routes_170 : decode cX10_routes 170 = .ok (.getfield 3, 3) := by decide +kernel
theorem dX10_routes_173 : decode cX10_routes 173 = .ok (.getfield 79, 3) := by decide +kernel
theorem dX10_routes_176 : decode cX10_routes 176 = .ok (.if_icmp .ge 88, 3) := by decide +kernel
theorem dX10_routes_179 : decode cX10_routes 179 = .ok (.iconst 0, 1) := by decide +kernel
theorem dX10_routes_180 : decode cX10_routes 180 = .ok (.istore_n 3, 1) := by decide +kernel
theorem dX10_routes_181 : decode cX10_routes 181 = .ok (.iload_n 3, 1) := by decide +kernel
theorem dX10_routes_182 : decode cX10_routes 182 = .ok (.aload_n 0, 1) := by decide +kernel
theorem dX10_routes_183 : decode cX10_routes 183 = .ok (.getfield 3, 3) := by decide +kernel
theorem dX10_routes_186 : decode cX10_routes 186 = .ok (.getfield 79, 3) := by decide +kernel
theorem dX10_routes_189 : decode cX10_routes 189 = .ok (.if_icmp .ge 69, 3) := by decide +kernel
theorem dX10_routes_192 : decode cX10_routes 192 = .ok (.iconst 0, 1) := by decide +kernel
theorem dX10_routes_193 : decode cX10_routes 193 = .ok (.istore 4, 2) := by decide +kernel
theorem dX10_routes_195 : decode cX10_routes 195 = .ok (.iload 4, 2) := by decide +kernel
theorem dX10_routes_197 : decode cX10_routes 197 = .ok (.aload_n 0, 1) := by decide +kernel
theorem dX10_routes_198 : decode cX10_routes 198 = .ok (.getfield 3, 3) := by decide +kernel
theorem dX10_routes_201 : decode cX10_routes 201 = .ok (.getfield 79, 3) := by decide +kernel
theorem dX10_routes_204 : decode cX10_routes 204 = .ok (.if_icmp .ge 48, 3) := by decide +kernel
theorem dX10_routes_207 : decode cX10_routes 207 = .ok (.aload_n 0, 1) := by decide +kernel
theorem dX10_routes_208 : decode cX10_routes 208 = .ok (.getfield 21, 3) := by decide +kernel
theorem dX10_routes_211 : decode cX10_routes 211 = .ok (.iload_n 3, 1) := by decide +kernel
theorem dX10_routes_212 : decode cX10_routes 212 = .ok (.aaload, 1) := by decide +kernel
theorem dX10_routes_213 : decode cX10_routes 213 = .ok (.iload 4, 2) := by decide +kernel
theorem dX10_routes_215 : decode cX10_routes 215 = .ok (.aload_n 0, 1) := by decide +kernel
theorem dX10_routes_216 : decode cX10_routes 216 = .ok (.getfield 21, 3) := by decide +kernel
theorem dX10_routes_219 : decode cX10_routes 219 = .ok (.iload_n 3, 1) := by decide +kernel
theorem dX10_routes_220 : decode cX10_routes 220 = .ok (.aaload, 1) := by decide +kernel
theorem dX10_routes_221 : decode cX10_routes 221 = .ok (.iload 4, 2) := by decide +kernel
theorem dX10_routes_223 : decode cX10_routes 223 = .ok (.iaload, 1) := by decide +kernel
theorem dX10_routes_224 : decode cX10_routes 224 = .ok (.aload_n 0, 1) := by decide +kernel
theorem dX10_routes_225 : decode cX10_routes 225 = .ok (.getfield 21, 3) := by decide +kernel
theorem dX10_routes_228 : decode cX10_routes 228 = .ok (.iload_n 3, 1) := by decide +kernel
theorem dX10_routes_229 : decode cX10_routes 229 = .ok (.aaload, 1) := by decide +kernel
theorem dX10_routes_230 : decode cX10_routes 230 = .ok (.iload_n 2, 1) := by decide +kernel
theorem dX10_routes_231 : decode cX10_routes 231 = .ok (.iaload, 1) := by decide +kernel
theorem dX10_routes_232 : decode cX10_routes 232 = .ok (.aload_n 0, 1) := by decide +kernel
theorem dX10_routes_233 : decode cX10_routes 233 = .ok (.getfield 21, 3) := by decide +kernel
theorem dX10_routes_236 : decode cX10_routes 236 = .ok (.iload_n 2, 1) := by decide +kernel
theorem dX10_routes_237 : decode cX10_routes 237 = .ok (.aaload, 1) := by decide +kernel
theorem dX10_routes_238 : decode cX10_routes 238 = .ok (.iload 4, 2) := by decide +kernel
theorem dX10_routes_240 : decode cX10_routes 240 = .ok (.iaload, 1) := by decide +kernel
theorem dX10_routes_241 : decode cX10_routes 241 = .ok (.iadd, 1) := by decide +kernel
theorem dX10_routes_242 : decode cX10_routes 242 = .ok (.invokestatic 94, 3) := by decide +kernel
theorem dX10_routes_245 : decode cX10_routes 245 = .ok (.iastore, 1) := by decide +kernel
theorem dX10_routes_246 : decode cX10_routes 246 = .ok (.iinc 4 1, 3) := by decide +kernel
theorem dX10_routes_249 : decode cX10_routes 249 = .ok (.goto (-54), 3) := by decide +kernel
theorem dX10_routes_252 : decode cX10_routes 252 = .ok (.iinc 3 1, 3) := by decide +kernel
theorem dX10_routes_255 : decode cX10_routes 255 = .ok (.goto (-74), 3) := by decide +kernel
theorem dX10_routes_258 : decode cX10_routes 258 = .ok (.iinc 2 1, 3) := by decide +kernel
theorem dX10_routes_261 : decode cX10_routes 261 = .ok (.goto (-93), 3) := by decide +kernel
theorem dX10_routes_264 : decode cX10_routes 264 = .ok (.return_, 1) := by decide +kernel
theorem dX10_tick_0 : decode cX10_tick 0 = .ok (.aload_n 0, 1) := by decide +kernel
theorem dX10_tick_1 : decode cX10_tick 1 = .ok (.dup, 1) := by decide +kernel
theorem dX10_tick_2 : decode cX10_tick 2 = .ok (.getfield 52, 3) := by decide +kernel
theorem dX10_tick_5 : decode cX10_tick 5 = .ok (.iconst 1, 1) := by decide +kernel
theorem dX10_tick_6 : decode cX10_tick 6 = .ok (.iadd, 1) := by decide +kernel
theorem dX10_tick_7 : decode cX10_tick 7 = .ok (.putfield 52, 3) := by decide +kernel
theorem dX10_tick_10 : decode cX10_tick 10 = .ok (.iconst 0, 1) := by decide +kernel
theorem dX10_tick_11 : decode cX10_tick 11 = .ok (.istore_n 1, 1) := by decide +kernel
theorem dX10_tick_12 : decode cX10_tick 12 = .ok (.iload_n 1, 1) := by decide +kernel
theorem dX10_tick_13 : decode cX10_tick 13 = .ok (.iconst 2, 1) := by decide +kernel
theorem dX10_tick_14 : decode cX10_tick 14 = .ok (.aload_n 0, 1) := by decide +kernel
theorem dX10_tick_15 : decode cX10_tick 15 = .ok (.getfield 3, 3) := by decide +kernel
theorem dX10_tick_18 : decode cX10_tick 18 = .ok (.getfield 82, 3) := by decide +kernel
theorem dX10_tick_21 : decode cX10_tick 21 = .ok (.imul, 1) := by decide +kernel
theorem dX10_tick_22 : decode cX10_tick 22 = .ok (.if_icmp .ge 14, 3) := by decide +kernel
theorem dX10_tick_25 : decode cX10_tick 25 = .ok (.aload_n 0, 1) := by decide +kernel
theorem dX10_tick_26 : decode cX10_tick 26 = .ok (.iload_n 1, 1) := by decide +kernel
theorem dX10_tick_36 : decode cX10_tick 36 = .ok (.iconst 0, 1) := by decide +kernel
theorem dX10_tick_37 : decode cX10_tick 37 = .ok (.istore_n 1, 1) := by decide +kernel
theorem dX10_tick_38 : decode cX10_tick 38 = .ok (.iload_n 1, 1) := by decide +kernel
theorem dX10_tick_39 : decode cX10_tick 39 = .ok (.aload_n 0, 1) := by decide +kernel
theorem dX10_tick_40 : decode cX10_tick 40 = .ok (.getfield 59, 3) := by decide +kernel
theorem dX10_tick_43 : decode cX10_tick 43 = .ok (.if_icmp .ge 30, 3) := by decide +kernel
theorem dX10_tick_46 : decode cX10_tick 46 = .ok (.aload_n 0, 1) := by decide +kernel
theorem dX10_tick_47 : decode cX10_tick 47 = .ok (.getfield 40, 3) := by decide +kernel
theorem dX10_tick_50 : decode cX10_tick 50 = .ok (.iload_n 1, 1) := by decide +kernel
theorem dX10_tick_51 : decode cX10_tick 51 = .ok (.aaload, 1) := by decide +kernel
theorem dX10_tick_52 : decode cX10_tick 52 = .ok (.bipush 16, 2) := by decide +kernel
theorem dX10_tick_54 : decode cX10_tick 54 = .ok (.iaload, 1) := by decide +kernel
theorem dX10_tick_55 : decode cX10_tick 55 = .ok (.aload_n 0, 1) := by decide +kernel
theorem dX10_tick_56 : decode cX10_tick 56 = .ok (.getfield 52, 3) := by decide +kernel
theorem dX10_tick_59 : decode cX10_tick 59 = .ok (.if_icmp .ne 8, 3) := by decide +kernel
theorem dX10_tick_62 : decode cX10_tick 62 = .ok (.aload_n 0, 1) := by decide +kernel
theorem dX10_tick_63 : decode cX10_tick 63 = .ok (.iload_n 1, 1) := by decide +kernel
theorem dX10_tick_67 : decode cX10_tick 67 = .ok (.iinc 1 1, 3) := by decide +kernel
theorem dX10_tick_70 : decode cX10_tick 70 = .ok (.goto (-32), 3) := by decide +kernel
theorem dX10_tick_73 : decode cX10_tick 73 = .ok (.iconst 0, 1) := by decide +kernel
theorem dX10_tick_74 : decode cX10_tick 74 = .ok (.istore_n 1, 1) := by decide +kernel
theorem dX10_tick_75 : decode cX10_tick 75 = .ok (.iload_n 1, 1) := by decide +kernel
theorem dX10_tick_76 : decode cX10_tick 76 = .ok (.aload_n 0, 1) := by decide +kernel
theorem dX10_tick_77 : decode cX10_tick 77 = .ok (.getfield 59, 3) := by decide +kernel
theorem dX10_tick_80 : decode cX10_tick 80 = .ok (.if_icmp .ge 14, 3) := by decide +kernel
theorem dX10_tick_83 : decode cX10_tick 83 = .ok (.aload_n 0, 1) := by decide +kernel
theorem dX10_tick_84 : decode cX10_tick 84 = .ok (.iload_n 1, 1) := by decide +kernel
theorem dX10_tick_94 : decode cX10_tick 94 = .ok (.iconst 0, 1) := by decide +kernel
theorem dX10_tick_95 : decode cX10_tick 95 = .ok (.istore_n 1, 1) := by decide +kernel
theorem dX10_tick_96 : decode cX10_tick 96 = .ok (.iload_n 1, 1) := by decide +kernel
theorem dX10_tick_97 : decode cX10_tick 97 = .ok (.iconst 2, 1) := by decide +kernel
theorem dX10_tick_98 : decode cX10_tick 98 = .ok (.aload_n 0, 1) := by decide +kernel
theorem dX10_tick_99 : decode cX10_tick 99 = .ok (.getfield 3, 3) := by decide +kernel
theorem dX10_tick_102 : decode cX10_tick 102 = .ok (.getfield 82, 3) := by decide +kernel
theorem dX10_tick_105 : decode cX10_tick 105 = .ok (.imul, 1) := by decide +kernel
theorem dX10_tick_106 : decode cX10_tick 106 = .ok (.if_icmp .ge 14, 3) := by decide +kernel
theorem dX10_tick_109 : decode cX10_tick 109 = .ok (.aload_n 0, 1) := by decide +kernel
theorem dX10_tick_110 : decode cX10_tick 110 = .ok (.iload_n 1, 1) := by decide +kernel
theorem dX10_tick_120 : decode cX10_tick 120 = .ok (.return_, 1) := by decide +kernel
theorem dX10_underWay_0 : decode cX10_underWay 0 = .ok (.iconst 0, 1) := by decide +kernel
theorem dX10_underWay_1 : decode cX10_underWay 1 = .ok (.istore_n 1, 1) := by decide +kernel
theorem dX10_underWay_2 : decode cX10_underWay 2 = .ok (.iconst 0, 1) := by decide +kernel
theorem dX10_underWay_3 : decode cX10_underWay 3 = .ok (.istore_n 2, 1) := by decide +kernel
theorem dX10_underWay_4 : decode cX10_underWay 4 = .ok (.iload_n 2, 1) := by decide +kernel
theorem dX10_underWay_5 : decode cX10_underWay 5 = .ok (.iconst 2, 1) := by decide +kernel
theorem dX10_underWay_6 : decode cX10_underWay 6 = .ok (.aload_n 0, 1) := by decide +kernel
theorem dX10_underWay_7 : decode cX10_underWay 7 = .ok (.getfield 3, 3) := by decide +kernel
theorem dX10_underWay_10 : decode cX10_underWay 10 = .ok (.getfield 82, 3) := by decide +kernel
theorem dX10_underWay_13 : decode cX10_underWay 13 = .ok (.imul, 1) := by decide +kernel
theorem dX10_underWay_14 : decode cX10_underWay 14 = .ok (.if_icmp .ge 31, 3) := by decide +kernel
theorem dX10_underWay_17 : decode cX10_underWay 17 = .ok (.iload_n 1, 1) := by decide +kernel
theorem dX10_underWay_18 : decode cX10_underWay 18 = .ok (.aload_n 0, 1) := by decide +kernel
theorem dX10_underWay_19 : decode cX10_underWay 19 = .ok (.getfield 26, 3) := by decide +kernel
theorem dX10_underWay_22 : decode cX10_underWay 22 = .ok (.iload_n 2, 1) := by decide +kernel
theorem dX10_underWay_23 : decode cX10_underWay 23 = .ok (.aaload, 1) := by decide +kernel
theorem dX10_underWay_24 : decode cX10_underWay 24 = .ok (.getfield 103, 3) := by decide +kernel
theorem dX10_underWay_27 : decode cX10_underWay 27 = .ok (.aload_n 0, 1) := by decide +kernel
theorem dX10_underWay_28 : decode cX10_underWay 28 = .ok (.getfield 30, 3) := by decide +kernel
theorem dX10_underWay_31 : decode cX10_underWay 31 = .ok (.iload_n 2, 1) := by decide +kernel
theorem dX10_underWay_32 : decode cX10_underWay 32 = .ok (.aaload, 1) := by decide +kernel
theorem dX10_underWay_33 : decode cX10_underWay 33 = .ok (.getfield 103, 3) := by decide +kernel
theorem dX10_underWay_36 : decode cX10_underWay 36 = .ok (.iadd, 1) := by decide +kernel
theorem dX10_underWay_37 : decode cX10_underWay 37 = .ok (.iadd, 1) := by decide +kernel
theorem dX10_underWay_38 : decode cX10_underWay 38 = .ok (.istore_n 1, 1) := by decide +kernel
theorem dX10_underWay_39 : decode cX10_underWay 39 = .ok (.iinc 2 1, 3) := by decide +kernel
theorem dX10_underWay_42 : decode cX10_underWay 42 = .ok (.goto (-38), 3) := by decide +kernel
theorem dX10_underWay_45 : decode cX10_underWay 45 = .ok (.iload_n 1, 1) := by decide +kernel
theorem dX10_underWay_46 : decode cX10_underWay 46 = .ok (.ireturn, 1) := by decide +kernel
theorem dJ7_fill_53178_0 : decode cJ7_fill_53178 0 = .ok (.iconst 0, 1) := by decide +kernel
theorem dJ7_fill_53178_1 : decode cJ7_fill_53178 1 = .ok (.istore_n 2, 1) := by decide +kernel
theorem dJ7_fill_53178_2 : decode cJ7_fill_53178 2 = .ok (.aload_n 0, 1) := by decide +kernel
theorem dJ7_fill_53178_3 : decode cJ7_fill_53178 3 = .ok (.arraylength, 1) := by decide +kernel
theorem dJ7_fill_53178_4 : decode cJ7_fill_53178 4 = .ok (.istore_n 3, 1) := by decide +kernel
theorem dJ7_fill_53178_5 : decode cJ7_fill_53178 5 = .ok (.iload_n 2, 1) := by decide +kernel
theorem dJ7_fill_53178_6 : decode cJ7_fill_53178 6 = .ok (.iload_n 3, 1) := by decide +kernel
theorem dJ7_fill_53178_7 : decode cJ7_fill_53178 7 = .ok (.if_icmp .ge 13, 3) := by decide +kernel
theorem dJ7_fill_53178_10 : decode cJ7_fill_53178 10 = .ok (.aload_n 0, 1) := by decide +kernel
theorem dJ7_fill_53178_11 : decode cJ7_fill_53178 11 = .ok (.iload_n 2, 1) := by decide +kernel
theorem dJ7_fill_53178_12 : decode cJ7_fill_53178 12 = .ok (.iload_n 1, 1) := by decide +kernel
theorem dJ7_fill_53178_13 : decode cJ7_fill_53178 13 = .ok (.iastore, 1) := by decide +kernel
theorem dJ7_fill_53178_14 : decode cJ7_fill_53178 14 = .ok (.iinc 2 1, 3) := by decide +kernel
theorem dJ7_fill_53178_17 : decode cJ7_fill_53178 17 = .ok (.goto (-12), 3) := by decide +kernel
theorem dJ7_fill_53178_20 : decode cJ7_fill_53178 20 = .ok (.return_, 1) := by decide +kernel
