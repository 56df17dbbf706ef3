theorem dX9_crossings_64 : decode cX9_crossings 64 = .ok (.istore 7, 2) := by decide +kernel
theorem dX9_crossings_66 : decode cX9_crossings 66 = .ok (.iload 7, 2) := by decide +kernel
theorem dX9_crossings_68 : decode cX9_crossings 68 = .ok (.aload_n 0, 1) := by decide +kernel
theorem dX9_crossings_69 : decode cX9_crossings 69 = .ok (.getfield 34, 3) := by decide +kernel
theorem dX9_crossings_72 : decode cX9_crossings 72 = .ok (.iconst 0, 1) := by decide +kernel
theorem dX9_crossings_73 : decode cX9_crossings 73 = .ok (.iaload, 1) := by decide +kernel
theorem dX9_crossings_74 : decode cX9_crossings 74 = .ok (.if_icmp .ge 79, 3) := by decide +kernel
theorem dX9_crossings_77 : decode cX9_crossings 77 = .ok (.aload_n 0, 1) := by decide +kernel
theorem dX9_crossings_78 : decode cX9_crossings 78 = .ok (.iload 6, 2) := by decide +kernel
theorem dX9_crossings_80 : decode cX9_crossings 80 = .ok (.iload 7, 2) := by decide +kernel
theorem dX9_crossings_82 : decode cX9_crossings 82 = .ok (.invokevirtual 309, 3) := by decide +kernel
theorem dX9_crossings_85 : decode cX9_crossings 85 = .ok (.ifCond .eq 62, 3) := by decide +kernel
theorem dX9_crossings_88 : decode cX9_crossings 88 = .ok (.aload_n 0, 1) := by decide +kernel
theorem dX9_crossings_89 : decode cX9_crossings 89 = .ok (.iload 6, 2) := by decide +kernel
theorem dX9_crossings_91 : decode cX9_crossings 91 = .ok (.iload 5, 2) := by decide +kernel
theorem dX9_crossings_93 : decode cX9_crossings 93 = .ok (.invokevirtual 267, 3) := by decide +kernel
theorem dX9_crossings_96 : decode cX9_crossings 96 = .ok (.iload 7, 2) := by decide +kernel
theorem dX9_crossings_98 : decode cX9_crossings 98 = .ok (.if_icmp .ne 49, 3) := by decide +kernel
theorem dX9_crossings_101 : decode cX9_crossings 101 = .ok (.aload_n 0, 1) := by decide +kernel
theorem dX9_crossings_102 : decode cX9_crossings 102 = .ok (.iload 7, 2) := by decide +kernel
theorem dX9_crossings_104 : decode cX9_crossings 104 = .ok (.iload 5, 2) := by decide +kernel
theorem dX9_crossings_106 : decode cX9_crossings 106 = .ok (.invokevirtual 267, 3) := by decide +kernel
theorem dX9_crossings_109 : decode cX9_crossings 109 = .ok (.iload 6, 2) := by decide +kernel
theorem dX9_crossings_111 : decode cX9_crossings 111 = .ok (.if_icmp .eq 6, 3) := by decide +kernel
theorem dX9_crossings_114 : decode cX9_crossings 114 = .ok (.goto 33, 3) := by decide +kernel
theorem dX9_crossings_117 : decode cX9_crossings 117 = .ok (.iinc 3 1, 3) := by decide +kernel
theorem dX9_crossings_120 : decode cX9_crossings 120 = .ok (.iload 4, 2) := by decide +kernel
theorem dX9_crossings_122 : decode cX9_crossings 122 = .ok (.iconst (-1), 1) := by decide +kernel
theorem dX9_crossings_123 : decode cX9_crossings 123 = .ok (.if_icmp .ne 20, 3) := by decide +kernel
theorem dX9_crossings_126 : decode cX9_crossings 126 = .ok (.bipush 100, 2) := by decide +kernel
theorem dX9_crossings_128 : decode cX9_crossings 128 = .ok (.iload 5, 2) := by decide +kernel
theorem dX9_crossings_130 : decode cX9_crossings 130 = .ok (.imul, 1) := by decide +kernel
theorem dX9_crossings_131 : decode cX9_crossings 131 = .ok (.bipush 10, 2) := by decide +kernel
theorem dX9_crossings_133 : decode cX9_crossings 133 = .ok (.iload 6, 2) := by decide +kernel
theorem dX9_crossings_135 : decode cX9_crossings 135 = .ok (.imul, 1) := by decide +kernel
theorem dX9_crossings_136 : decode cX9_crossings 136 = .ok (.iadd, 1) := by decide +kernel
theorem dX9_crossings_137 : decode cX9_crossings 137 = .ok (.iload 7, 2) := by decide +kernel
theorem dX9_crossings_139 : decode cX9_crossings 139 = .ok (.iadd, 1) := by decide +kernel
theorem dX9_crossings_140 : decode cX9_crossings 140 = .ok (.goto 5, 3) := by decide +kernel
theorem dX9_crossings_143 : decode cX9_crossings 143 = .ok (.iload 4, 2) := by decide +kernel
theorem dX9_crossings_145 : decode cX9_crossings 145 = .ok (.istore 4, 2) := by decide +kernel
theorem dX9_crossings_147 : decode cX9_crossings 147 = .ok (.iinc 7 1, 3) := by decide +kernel
theorem dX9_crossings_150 : decode cX9_crossings 150 = .ok (.goto (-84), 3) := by decide +kernel
theorem dX9_crossings_153 : decode cX9_crossings 153 = .ok (.iinc 6 1, 3) := by decide +kernel
theorem dX9_crossings_156 : decode cX9_crossings 156 = .ok (.goto (-107), 3) := by decide +kernel
theorem dX9_crossings_159 : decode cX9_crossings 159 = .ok (.iinc 5 1, 3) := by decide +kernel
theorem dX9_crossings_162 : decode cX9_crossings 162 = .ok (.goto (-122), 3) := by decide +kernel
theorem dX9_crossings_165 : decode cX9_crossings 165 = .ok (.iload_n 1, 1) := by decide +kernel
theorem dX9_crossings_166 : decode cX9_crossings 166 = .ok (.ifCond .ne 7, 3) := by decide +kernel
theorem dX9_crossings_169 : decode cX9_crossings 169 = .ok (.iload_n 3, 1) := by decide +kernel
theorem dX9_crossings_170 : decode cX9_crossings 170 = .ok (.goto 47, 3) := by decide +kernel
theorem dX9_crossings_173 : decode cX9_crossings 173 = .ok (.iload 4, 2) := by decide +kernel
theorem dX9_crossings_175 : decode cX9_crossings 175 = .ok (.iconst (-1), 1) := by decide +kernel
theorem dX9_crossings_176 : decode cX9_crossings 176 = .ok (.if_icmp .ne 7, 3) := by decide +kernel
theorem dX9_crossings_179 : decode cX9_crossings 179 = .ok (.iconst (-1), 1) := by decide +kernel
theorem dX9_crossings_180 : decode cX9_crossings 180 = .ok (.goto 37, 3) := by decide +kernel
theorem dX9_crossings_183 : decode cX9_crossings 183 = .ok (.iload_n 1, 1) := by decide +kernel
theorem dX9_crossings_184 : decode cX9_crossings 184 = .ok (.iconst 1, 1) := by decide +kernel
theorem dX9_crossings_185 : decode cX9_crossings 185 = .ok (.if_icmp .ne 11, 3) := by decide +kernel
theorem dX9_crossings_188 : decode cX9_crossings 188 = .ok (.iload 4, 2) := by decide +kernel
theorem dX9_crossings_190 : decode cX9_crossings 190 = .ok (.bipush 100, 2) := by decide +kernel
theorem dX9_crossings_192 : decode cX9_crossings 192 = .ok (.idiv, 1) := by decide +kernel
theorem dX9_crossings_193 : decode cX9_crossings 193 = .ok (.goto 24, 3) := by decide +kernel
theorem dX9_crossings_196 : decode cX9_crossings 196 = .ok (.iload_n 1, 1) := by decide +kernel
theorem dX9_crossings_197 : decode cX9_crossings 197 = .ok (.iconst 2, 1) := by decide +kernel
theorem dX9_crossings_198 : decode cX9_crossings 198 = .ok (.if_icmp .ne 14, 3) := by decide +kernel
theorem dX9_crossings_201 : decode cX9_crossings 201 = .ok (.iload 4, 2) := by decide +kernel
theorem dX9_crossings_203 : decode cX9_crossings 203 = .ok (.bipush 10, 2) := by decide +kernel
theorem dX9_crossings_205 : decode cX9_crossings 205 = .ok (.idiv, 1) := by decide +kernel
theorem dX9_crossings_206 : decode cX9_crossings 206 = .ok (.bipush 10, 2) := by decide +kernel
theorem dX9_crossings_208 : decode cX9_crossings 208 = .ok (.irem, 1) := by decide +kernel
theorem dX9_crossings_209 : decode cX9_crossings 209 = .ok (.goto 8, 3) := by decide +kernel
theorem dX9_crossings_212 : decode cX9_crossings 212 = .ok (.iload 4, 2) := by decide +kernel
theorem dX9_crossings_214 : decode cX9_crossings 214 = .ok (.bipush 10, 2) := by decide +kernel
theorem dX9_crossings_216 : decode cX9_crossings 216 = .ok (.irem, 1) := by decide +kernel
theorem dX9_crossings_217 : decode cX9_crossings 217 = .ok (.ireturn, 1) := by decide +kernel
theorem dX9_firstHigh_0 : decode cX9_firstHigh 0 = .ok (.iconst 0, 1) := by decide +kernel
theorem dX9_firstHigh_1 : decode cX9_firstHigh 1 = .ok (.istore_n 2, 1) := by decide +kernel
theorem dX9_firstHigh_2 : decode cX9_firstHigh 2 = .ok (.iload_n 2, 1) := by decide +kernel
theorem dX9_firstHigh_3 : decode cX9_firstHigh 3 = .ok (.aload_n 0, 1) := by decide +kernel
theorem dX9_firstHigh_4 : decode cX9_firstHigh 4 = .ok (.getfield 40, 3) := by decide +kernel
theorem dX9_firstHigh_7 : decode cX9_firstHigh 7 = .ok (.iload_n 1, 1) := by decide +kernel
theorem dX9_firstHigh_8 : decode cX9_firstHigh 8 = .ok (.iaload, 1) := by decide +kernel
theorem dX9_firstHigh_9 : decode cX9_firstHigh 9 = .ok (.if_icmp .ge 35, 3) := by decide +kernel
theorem dX9_firstHigh_12 : decode cX9_firstHigh 12 = .ok (.aload_n 0, 1) := by decide +kernel
theorem dX9_firstHigh_13 : decode cX9_firstHigh 13 = .ok (.getfield 43, 3) := by decide +kernel
theorem dX9_firstHigh_16 : decode cX9_firstHigh 16 = .ok (.bipush 8, 2) := by decide +kernel
theorem dX9_firstHigh_18 : decode cX9_firstHigh 18 = .ok (.iload_n 1, 1) := by decide +kernel
theorem dX9_firstHigh_19 : decode cX9_firstHigh 19 = .ok (.imul, 1) := by decide +kernel
theorem dX9_firstHigh_20 : decode cX9_firstHigh 20 = .ok (.iload_n 2, 1) := by decide +kernel
theorem dX9_firstHigh_21 : decode cX9_firstHigh 21 = .ok (.iadd, 1) := by decide +kernel
theorem dX9_firstHigh_22 : decode cX9_firstHigh 22 = .ok (.iaload, 1) := by decide +kernel
theorem dX9_firstHigh_23 : decode cX9_firstHigh 23 = .ok (.ifCond .le 15, 3) := by decide +kernel
theorem dX9_firstHigh_26 : decode cX9_firstHigh 26 = .ok (.aload_n 0, 1) := by decide +kernel
theorem dX9_firstHigh_27 : decode cX9_firstHigh 27 = .ok (.getfield 43, 3) := by decide +kernel
theorem dX9_firstHigh_30 : decode cX9_firstHigh 30 = .ok (.bipush 8, 2) := by decide +kernel
theorem dX9_firstHigh_32 : decode cX9_firstHigh 32 = .ok (.iload_n 1, 1) := by decide +kernel
theorem dX9_firstHigh_33 : decode cX9_firstHigh 33 = .ok (.imul, 1) := by decide +kernel
theorem dX9_firstHigh_34 : decode cX9_firstHigh 34 = .ok (.iload_n 2, 1) := by decide +kernel
theorem dX9_firstHigh_35 : decode cX9_firstHigh 35 = .ok (.iadd, 1) := by decide +kernel
theorem dX9_firstHigh_36 : decode cX9_firstHigh 36 = .ok (.iaload, 1) := by decide +kernel
theorem dX9_firstHigh_37 : decode cX9_firstHigh 37 = .ok (.ireturn, 1) := by decide +kernel
theorem dX9_firstHigh_38 : decode cX9_firstHigh 38 = .ok (.iinc 2 1, 3) := by decide +kernel
theorem dX9_firstHigh_41 : decode cX9_firstHigh 41 = .ok (.goto (-39), 3) := by decide +kernel
theorem dX9_firstHigh_44 : decode cX9_firstHigh 44 = .ok (.iconst 0, 1) := by decide +kernel
theorem dX9_firstHigh_45 : decode cX9_firstHigh 45 = .ok (.ireturn, 1) := by decide +kernel
set_option maxRecDepth 20000 in
theorem ggX9_isUnsuited_X9_highOf : GoodIn wsX9_isUnsuited wsX9_highOf := goodIn_r _ [8, 9, 10, 11, 12, 7, 13, 14, 27, 28, 29, 30, 31, 32, 33, 34, 35, 36, 37, 38, 39, 40, 41, 42, 43, 44, 45, 46, 47, 48, 49, 50, 51, 52, 53, 54, 55, 56, 57, 58, 59, 60, 61, 62, 63, 64, 65, 66, 67, 68, 69, 70, 71, 72] (by decide +kernel) (by decide +kernel)
set_option maxRecDepth 20000 in
theorem gX9_isUnsuited_X9_highOf : GoodIn wsX9_isUnsuited (wsV RX9 264 RX9 yX9_highOf wsX9_highOf) := goodIn_app (goodIn_of _ (by decide +kernel)) ggX9_isUnsuited_X9_highOf
set_option maxRecDepth 20000 in
theorem ggX9_isUnsuited_X9_in : GoodIn wsX9_isUnsuited wsX9_in := goodIn_r _ [17] (by decide +kernel) (by decide +kernel)
set_option maxRecDepth 20000 in
theorem gX9_isUnsuited_X9_in : GoodIn wsX9_isUnsuited (va_wsS RX9 97 yX9_in wsX9_in) := goodIn_app (goodIn_of _ (by decide +kernel)) ggX9_isUnsuited_X9_in
set_option maxRecDepth 20000 in
theorem ggX9_isUnsuited_X9_toOf : GoodIn wsX9_isUnsuited wsX9_toOf := goodIn_r _ [21, 22, 10, 11, 12, 7, 13, 14, 27, 28, 29, 30, 31, 32, 33, 34, 35, 36, 37, 38, 39, 40, 41, 42, 43, 44, 45, 46, 47, 48, 49, 50, 51, 52, 53, 54, 55, 56, 57, 58, 59, 60, 61, 62, 63, 64, 65, 66, 67, 68, 69, 70, 71, 72] (by decide +kernel) (by decide +kernel)
set_option maxRecDepth 20000 in
theorem gX9_isUnsuited_X9_toOf : GoodIn wsX9_isUnsuited (wsV RX9 267 RX9 yX9_toOf wsX9_toOf) := goodIn_app (goodIn_of _ (by decide +kernel)) ggX9_isUnsuited_X9_toOf
set_option maxRecDepth 20000 in
theorem ggX9_isUnsuited_X9_firstHigh : GoodIn wsX9_isUnsuited wsX9_firstHigh := goodIn_r _ [26, 14, 9, 27, 28, 29, 30, 31, 32, 33, 34, 35, 36, 37, 38, 39, 40, 41, 42, 43, 44, 45, 46, 47, 48, 49, 50, 51, 52, 53, 54, 55, 56, 57, 58, 59, 60, 61, 62, 63, 64, 65, 66, 67, 68, 69, 70, 71, 72] (by decide +kernel) (by decide +kernel)
set_option maxRecDepth 20000 in
theorem gX9_isUnsuited_X9_firstHigh : GoodIn wsX9_isUnsuited (wsV RX9 312 RX9 yX9_firstHigh wsX9_firstHigh) := goodIn_app (goodIn_of _ (by decide +kernel)) ggX9_isUnsuited_X9_firstHigh
theorem dX9_isUnsuited_0 : decode cX9_isUnsuited 0 = .ok (.aload_n 0, 1) := by decide +kernel
theorem dX9_isUnsuited_1 : decode cX9_isUnsuited 1 = .ok (.getfield 37, 3) := by decide +kernel
theorem dX9_isUnsuited_4 : decode cX9_isUnsuited 4 = .ok (.iload_n 1, 1) := by decide +kernel
theorem dX9_isUnsuited_5 : decode cX9_isUnsuited 5 = .ok (.iaload, 1) := by decide +kernel
theorem dX9_isUnsuited_6 : decode cX9_isUnsuited 6 = .ok (.iconst 3, 1) := by decide +kernel
theorem dX9_isUnsuited_7 : decode cX9_isUnsuited 7 = .ok (.if_icmp .ne 52, 3) := by decide +kernel
theorem dX9_isUnsuited_10 : decode cX9_isUnsuited 10 = .ok (.iconst 0, 1) := by decide +kernel
theorem dX9_isUnsuited_11 : decode cX9_isUnsuited 11 = .ok (.istore_n 3, 1) := by decide +kernel
theorem dX9_isUnsuited_12 : decode cX9_isUnsuited 12 = .ok (.iload_n 3, 1) := by decide +kernel
theorem dX9_isUnsuited_13 : decode cX9_isUnsuited 13 = .ok (.aload_n 0, 1) := by decide +kernel
theorem dX9_isUnsuited_14 : decode cX9_isUnsuited 14 = .ok (.getfield 34, 3) := by decide +kernel
theorem dX9_isUnsuited_17 : decode cX9_isUnsuited 17 = .ok (.iconst 0, 1) := by decide +kernel
theorem dX9_isUnsuited_18 : decode cX9_isUnsuited 18 = .ok (.iaload, 1) := by decide +kernel
theorem dX9_isUnsuited_19 : decode cX9_isUnsuited 19 = .ok (.if_icmp .ge 38, 3) := by decide +kernel
theorem dX9_isUnsuited_22 : decode cX9_isUnsuited 22 = .ok (.aload_n 0, 1) := by decide +kernel
theorem dX9_isUnsuited_23 : decode cX9_isUnsuited 23 = .ok (.iload_n 3, 1) := by decide +kernel
theorem dX9_isUnsuited_24 : decode cX9_isUnsuited 24 = .ok (.iload_n 2, 1) := by decide +kernel
theorem dX9_isUnsuited_25 : decode cX9_isUnsuited 25 = .ok (.invokevirtual 264, 3) := by decide +kernel
theorem dX9_isUnsuited_28 : decode cX9_isUnsuited 28 = .ok (.i2l, 1) := by decide +kernel
theorem dX9_isUnsuited_29 : decode cX9_isUnsuited 29 = .ok (.lconst 1, 1) := by decide +kernel
theorem dX9_isUnsuited_30 : decode cX9_isUnsuited 30 = .ok (.ldc2_w 262, 3) := by decide +kernel
theorem dX9_isUnsuited_33 : decode cX9_isUnsuited 33 = .ok (.invokestatic 97, 3) := by decide +kernel
theorem dX9_isUnsuited_36 : decode cX9_isUnsuited 36 = .ok (.ifCond .eq 15, 3) := by decide +kernel
theorem dX9_isUnsuited_39 : decode cX9_isUnsuited 39 = .ok (.aload_n 0, 1) := by decide +kernel
theorem dX9_isUnsuited_40 : decode cX9_isUnsuited 40 = .ok (.iload_n 3, 1) := by decide +kernel
theorem dX9_isUnsuited_41 : decode cX9_isUnsuited 41 = .ok (.iload_n 2, 1) := by decide +kernel
theorem dX9_isUnsuited_42 : decode cX9_isUnsuited 42 = .ok (.invokevirtual 267, 3) := by decide +kernel
theorem dX9_isUnsuited_45 : decode cX9_isUnsuited 45 = .ok (.iload_n 1, 1) := by decide +kernel
theorem dX9_isUnsuited_46 : decode cX9_isUnsuited 46 = .ok (.if_icmp .ne 5, 3) := by decide +kernel
theorem dX9_isUnsuited_49 : decode cX9_isUnsuited 49 = .ok (.iconst 1, 1) := by decide +kernel
theorem dX9_isUnsuited_50 : decode cX9_isUnsuited 50 = .ok (.ireturn, 1) := by decide +kernel
theorem dX9_isUnsuited_51 : decode cX9_isUnsuited 51 = .ok (.iinc 3 1, 3) := by decide +kernel
theorem dX9_isUnsuited_54 : decode cX9_isUnsuited 54 = .ok (.goto (-42), 3) := by decide +kernel
theorem dX9_isUnsuited_57 : decode cX9_isUnsuited 57 = .ok (.iconst 0, 1) := by decide +kernel
theorem dX9_isUnsuited_58 : decode cX9_isUnsuited 58 = .ok (.ireturn, 1) := by decide +kernel
theorem dX9_isUnsuited_59 : decode cX9_isUnsuited 59 = .ok (.aload_n 0, 1) := by decide +kernel
theorem dX9_isUnsuited_60 : decode cX9_isUnsuited 60 = .ok (.iload_n 1, 1) := by decide +kernel
theorem dX9_isUnsuited_61 : decode cX9_isUnsuited 61 = .ok (.iload_n 2, 1) := by decide +kernel
theorem dX9_isUnsuited_62 : decode cX9_isUnsuited 62 = .ok (.invokevirtual 264, 3) := by decide +kernel
theorem dX9_isUnsuited_65 : decode cX9_isUnsuited 65 = .ok (.istore_n 3, 1) := by decide +kernel
theorem dX9_isUnsuited_66 : decode cX9_isUnsuited 66 = .ok (.aload_n 0, 1) := by decide +kernel
theorem dX9_isUnsuited_67 : decode cX9_isUnsuited 67 = .ok (.iload_n 1, 1) := by decide +kernel
theorem dX9_isUnsuited_68 : decode cX9_isUnsuited 68 = .ok (.iload_n 2, 1) := by decide +kernel
theorem dX9_isUnsuited_69 : decode cX9_isUnsuited 69 = .ok (.invokevirtual 267, 3) := by decide +kernel
theorem dX9_isUnsuited_72 : decode cX9_isUnsuited 72 = .ok (.iload_n 1, 1) := by decide +kernel
theorem dX9_isUnsuited_73 : decode cX9_isUnsuited 73 = .ok (.if_icmp .eq 10, 3) := by decide +kernel
theorem dX9_isUnsuited_76 : decode cX9_isUnsuited 76 = .ok (.iload_n 2, 1) := by decide +kernel
theorem dX9_isUnsuited_77 : decode cX9_isUnsuited 77 = .ok (.iconst 2, 1) := by decide +kernel
theorem dX9_isUnsuited_78 : decode cX9_isUnsuited 78 = .ok (.irem, 1) := by decide +kernel
theorem dX9_isUnsuited_79 : decode cX9_isUnsuited 79 = .ok (.iconst 1, 1) := by decide +kernel
theorem dX9_isUnsuited_80 : decode cX9_isUnsuited 80 = .ok (.if_icmp .eq 41, 3) := by decide +kernel
theorem dX9_isUnsuited_83 : decode cX9_isUnsuited 83 = .ok (.aload_n 0, 1) := by decide +kernel
theorem dX9_isUnsuited_84 : decode cX9_isUnsuited 84 = .ok (.getfield 37, 3) := by decide +kernel
theorem dX9_isUnsuited_87 : decode cX9_isUnsuited 87 = .ok (.iload_n 1, 1) := by decide +kernel
theorem dX9_isUnsuited_88 : decode cX9_isUnsuited 88 = .ok (.iaload, 1) := by decide +kernel
theorem dX9_isUnsuited_89 : decode cX9_isUnsuited 89 = .ok (.iconst 2, 1) := by decide +kernel
theorem dX9_isUnsuited_90 : decode cX9_isUnsuited 90 = .ok (.if_icmp .ne 8, 3) := by decide +kernel
theorem dX9_isUnsuited_93 : decode cX9_isUnsuited 93 = .ok (.iload_n 3, 1) := by decide +kernel
theorem dX9_isUnsuited_94 : decode cX9_isUnsuited 94 = .ok (.iconst 5, 1) := by decide +kernel
theorem dX9_isUnsuited_95 : decode cX9_isUnsuited 95 = .ok (.if_icmp .gt 26, 3) := by decide +kernel
theorem dX9_isUnsuited_98 : decode cX9_isUnsuited 98 = .ok (.aload_n 0, 1) := by decide +kernel
theorem dX9_isUnsuited_99 : decode cX9_isUnsuited 99 = .ok (.getfield 37, 3) := by decide +kernel
theorem dX9_isUnsuited_102 : decode cX9_isUnsuited 102 = .ok (.iload_n 1, 1) := by decide +kernel
theorem dX9_isUnsuited_103 : decode cX9_isUnsuited 103 = .ok (.iaload, 1) := by decide +kernel
theorem dX9_isUnsuited_104 : decode cX9_isUnsuited 104 = .ok (.iconst 4, 1) := by decide +kernel
theorem dX9_isUnsuited_105 : decode cX9_isUnsuited 105 = .ok (.if_icmp .ne 20, 3) := by decide +kernel
theorem dX9_isUnsuited_108 : decode cX9_isUnsuited 108 = .ok (.iload_n 3, 1) := by decide +kernel
theorem dX9_isUnsuited_109 : decode cX9_isUnsuited 109 = .ok (.ifCond .le 16, 3) := by decide +kernel
theorem dX9_isUnsuited_112 : decode cX9_isUnsuited 112 = .ok (.iload_n 3, 1) := by decide +kernel
theorem dX9_isUnsuited_113 : decode cX9_isUnsuited 113 = .ok (.aload_n 0, 1) := by decide +kernel
theorem dX9_isUnsuited_114 : decode cX9_isUnsuited 114 = .ok (.iload_n 1, 1) := by decide +kernel
theorem dX9_isUnsuited_115 : decode cX9_isUnsuited 115 = .ok (.invokevirtual 312, 3) := by decide +kernel
theorem dX9_isUnsuited_118 : decode cX9_isUnsuited 118 = .ok (.if_icmp .eq 7, 3) := by decide +kernel
theorem dX9_isUnsuited_121 : decode cX9_isUnsuited 121 = .ok (.iconst 1, 1) := by decide +kernel
theorem dX9_isUnsuited_122 : decode cX9_isUnsuited 122 = .ok (.goto 4, 3) := by decide +kernel
theorem dX9_isUnsuited_125 : decode cX9_isUnsuited 125 = .ok (.iconst 0, 1) := by decide +kernel
theorem dX9_isUnsuited_126 : decode cX9_isUnsuited 126 = .ok (.ireturn, 1) := by decide +kernel
set_option maxRecDepth 20000 in
theorem ggX9_unsuitedOf_X9_round : GoodIn wsX9_unsuitedOf wsX9_round := goodIn_r _ [5, 6, 7, 35, 36, 37, 38, 39, 40, 41, 42, 43, 44, 45, 46, 47, 48, 49, 50, 51, 52, 53, 54, 55, 56, 57, 58, 59, 60, 61, 62, 63, 64, 65, 66, 67, 68, 69, 70, 71, 72, 73, 74, 75, 76, 77, 78, 79, 80] (by decide +kernel) (by decide +kernel)
set_option maxRecDepth 20000 in
theorem gX9_unsuitedOf_X9_round : GoodIn wsX9_unsuitedOf (wsV RX9 273 RX9 yX9_round wsX9_round) := goodIn_app (goodIn_of _ (by decide +kernel)) ggX9_unsuitedOf_X9_round
set_option maxRecDepth 20000 in
theorem ggX9_unsuitedOf_X9_isUnsuited : GoodIn wsX9_unsuitedOf wsX9_isUnsuited := goodIn_r _ [11, 12, 6, 13, 14, 15, 16, 4, 17, 18, 19, 20, 21, 22, 7, 23, 24, 25, 26, 27, 28, 29, 30, 31, 32, 33, 34, 35, 36, 37, 38, 39, 40, 41, 42, 43, 44, 45, 46, 47, 48, 49, 50, 51, 52, 53, 54, 55, 56, 57, 58, 59, 60, 61, 62, 63, 64, 65, 66, 67, 68, 69, 70, 71, 72, 73, 74, 75, 76, 77, 78, 79, 80] (by decide +kernel) (by decide +kernel)
set_option maxRecDepth 20000 in
theorem gX9_unsuitedOf_X9_isUnsuited : GoodIn wsX9_unsuitedOf (wsV RX9 315 RX9 yX9_isUnsuited wsX9_isUnsuited) := goodIn_app (goodIn_of _ (by decide +kernel)) ggX9_unsuitedOf_X9_isUnsuited
theorem dX9_unsuitedOf_0 : decode cX9_unsuitedOf 0 = .ok (.iconst 2, 1) := by decide +kernel
theorem dX9_unsuitedOf_1 : decode cX9_unsuitedOf 1 = .ok (.aload_n 0, 1) := by decide +kernel
theorem dX9_unsuitedOf_2 : decode cX9_unsuitedOf 2 = .ok (.invokevirtual 273, 3) := by decide +kernel
theorem dX9_unsuitedOf_5 : decode cX9_unsuitedOf 5 = .ok (.imul, 1) := by decide +kernel
theorem dX9_unsuitedOf_6 : decode cX9_unsuitedOf 6 = .ok (.istore_n 2, 1) := by decide +kernel
theorem dX9_unsuitedOf_7 : decode cX9_unsuitedOf 7 = .ok (.iconst 0, 1) := by decide +kernel
theorem dX9_unsuitedOf_8 : decode cX9_unsuitedOf 8 = .ok (.istore_n 3, 1) := by decide +kernel
theorem dX9_unsuitedOf_9 : decode cX9_unsuitedOf 9 = .ok (.iload_n 3, 1) := by decide +kernel
theorem dX9_unsuitedOf_10 : decode cX9_unsuitedOf 10 = .ok (.iload_n 2, 1) := by decide +kernel
theorem dX9_unsuitedOf_11 : decode cX9_unsuitedOf 11 = .ok (.if_icmp .ge 20, 3) := by decide +kernel
theorem dX9_unsuitedOf_14 : decode cX9_unsuitedOf 14 = .ok (.aload_n 0, 1) := by decide +kernel
theorem dX9_unsuitedOf_15 : decode cX9_unsuitedOf 15 = .ok (.iload_n 1, 1) := by decide +kernel
theorem dX9_unsuitedOf_16 : decode cX9_unsuitedOf 16 = .ok (.iload_n 3, 1) := by decide +kernel
theorem dX9_unsuitedOf_17 : decode cX9_unsuitedOf 17 = .ok (.invokevirtual 315, 3) := by decide +kernel
theorem dX9_unsuitedOf_20 : decode cX9_unsuitedOf 20 = .ok (.ifCond .eq 5, 3) := by decide +kernel
theorem dX9_unsuitedOf_23 : decode cX9_unsuitedOf 23 = .ok (.iload_n 3, 1) := by decide +kernel
theorem dX9_unsuitedOf_24 : decode cX9_unsuitedOf 24 = .ok (.ireturn, 1) := by decide +kernel
theorem dX9_unsuitedOf_25 : decode cX9_unsuitedOf 25 = .ok (.iinc 3 1, 3) := by decide +kernel
theorem dX9_unsuitedOf_28 : decode cX9_unsuitedOf 28 = .ok (.goto (-19), 3) := by decide +kernel
theorem dX9_unsuitedOf_31 : decode cX9_unsuitedOf 31 = .ok (.iconst (-1), 1) := by decide +kernel
theorem dX9_unsuitedOf_32 : decode cX9_unsuitedOf 32 = .ok (.ireturn, 1) := by decide +kernel
set_option maxRecDepth 20000 in
theorem ggX9_suits_X9_isRoof : GoodIn wsX9_suits wsX9_isRoof := goodIn_r _ [6, 7, 8, 9, 5, 10, 44, 45, 46, 47, 48, 49, 50, 51, 52, 53, 54, 55, 56, 57, 58, 59, 60, 61, 62, 63, 64, 65, 66, 67, 68, 69, 70, 71, 72, 73, 74, 75, 76, 77, 78, 79, 80, 81, 82, 83, 84, 85, 86, 87, 88, 89] (by decide +kernel) (by decide +kernel)
set_option maxRecDepth 20000 in
theorem gX9_suits_X9_isRoof : GoodIn wsX9_suits (wsV RX9 256 RX9 yX9_isRoof wsX9_isRoof) := goodIn_app (goodIn_of _ (by decide +kernel)) ggX9_suits_X9_isRoof
set_option maxRecDepth 20000 in
theorem ggX9_suits_X9_unsuitedOf : GoodIn wsX9_suits wsX9_unsuitedOf := goodIn_r _ [14, 15, 16, 17, 5, 18, 7, 19, 20, 21, 22, 23, 24, 25, 26, 27, 28, 29, 30, 31, 32, 33, 34, 8, 9, 10, 35, 36, 37, 38, 39, 40, 41, 42, 43, 44, 45, 46, 47, 48, 49, 50, 51, 52, 53, 54, 55, 56, 57, 58, 59, 60, 61, 62, 63, 64, 65, 66, 67, 68, 69, 70, 71, 72, 73, 74, 75, 76, 77, 78, 79, 80, 81, 82, 83, 84, 85, 86, 87, 88, 89] (by decide +kernel) (by decide +kernel)
set_option maxRecDepth 20000 in
theorem gX9_suits_X9_unsuitedOf : GoodIn wsX9_suits (wsV RX9 318 RX9 yX9_unsuitedOf wsX9_unsuitedOf) := goodIn_app (goodIn_of _ (by decide +kernel)) ggX9_suits_X9_unsuitedOf
theorem dX9_suits_0 : decode cX9_suits 0 = .ok (.aload_n 0, 1) := by decide +kernel
theorem dX9_suits_1 : decode cX9_suits 1 = .ok (.iconst 0, 1) := by decide +kernel
theorem dX9_suits_2 : decode cX9_suits 2 = .ok (.putfield 92, 3) := by decide +kernel
theorem dX9_suits_5 : decode cX9_suits 5 = .ok (.aload_n 0, 1) := by decide +kernel
theorem dX9_suits_6 : decode cX9_suits 6 = .ok (.iload_n 1, 1) := by decide +kernel
theorem dX9_suits_7 : decode cX9_suits 7 = .ok (.invokevirtual 256, 3) := by decide +kernel
theorem dX9_suits_10 : decode cX9_suits 10 = .ok (.ifCond .ne 8, 3) := by decide +kernel
theorem dX9_suits_13 : decode cX9_suits 13 = .ok (.bipush (-2), 2) := by decide +kernel
theorem dX9_suits_15 : decode cX9_suits 15 = .ok (.goto 17, 3) := by decide +kernel
theorem dX9_suits_18 : decode cX9_suits 18 = .ok (.aload_n 0, 1) := by decide +kernel
theorem dX9_suits_19 : decode cX9_suits 19 = .ok (.iload_n 1, 1) := by decide +kernel
theorem dX9_suits_20 : decode cX9_suits 20 = .ok (.invokevirtual 318, 3) := by decide +kernel
theorem dX9_suits_23 : decode cX9_suits 23 = .ok (.iconst (-1), 1) := by decide +kernel
theorem dX9_suits_24 : decode cX9_suits 24 = .ok (.if_icmp .ne 7, 3) := by decide +kernel
theorem dX9_suits_27 : decode cX9_suits 27 = .ok (.iconst 1, 1) := by decide +kernel
theorem dX9_suits_28 : decode cX9_suits 28 = .ok (.goto 4, 3) := by decide +kernel
theorem dX9_suits_31 : decode cX9_suits 31 = .ok (.iconst 0, 1) := by decide +kernel
theorem dX9_suits_32 : decode cX9_suits 32 = .ok (.ireturn, 1) := by decide +kernel
set_option maxRecDepth 20000 in
theorem ggX9_unsuited_X9_isRoof : GoodIn wsX9_unsuited wsX9_isRoof := goodIn_r _ [6, 7, 8, 9, 5, 10, 44, 45, 46, 47, 48, 49, 50, 51, 52, 53, 54, 55, 56, 57, 58, 59, 60, 61, 62, 63, 64, 65, 66, 67, 68, 69, 70, 71, 72, 73, 74, 75, 76, 77, 78, 79, 80, 81, 82, 83, 84, 85, 86, 87, 88, 89] (by decide +kernel) (by decide +kernel)
set_option maxRecDepth 20000 in
theorem gX9_unsuited_X9_isRoof : GoodIn wsX9_unsuited (wsV RX9 256 RX9 yX9_isRoof wsX9_isRoof) := goodIn_app (goodIn_of _ (by decide +kernel)) ggX9_unsuited_X9_isRoof
set_option maxRecDepth 20000 in
theorem ggX9_unsuited_X9_unsuitedOf : GoodIn wsX9_unsuited wsX9_unsuitedOf := goodIn_r _ [14, 15, 16, 17, 5, 18, 7, 19, 20, 21, 22, 23, 24, 25, 26, 27, 28, 29, 30, 31, 32, 33, 34, 8, 9, 10, 35, 36, 37, 38, 39, 40, 41, 42, 43, 44, 45, 46, 47, 48, 49, 50, 51, 52, 53, 54, 55, 56, 57, 58, 59, 60, 61, 62, 63, 64, 65, 66, 67, 68, 69, 70, 71, 72, 73, 74, 75, 76, 77, 78, 79, 80, 81, 82, 83, 84, 85, 86, 87, 88, 89] (by decide +kernel) (by decide +kernel)
set_option maxRecDepth 20000 in
theorem gX9_unsuited_X9_unsuitedOf : GoodIn wsX9_unsuited (wsV RX9 318 RX9 yX9_unsuitedOf wsX9_unsuitedOf) := goodIn_app (goodIn_of _ (by decide +kernel)) ggX9_unsuited_X9_unsuitedOf
theorem dX9_unsuited_0 : decode cX9_unsuited 0 = .ok (.aload_n 0, 1) := by decide +kernel
theorem dX9_unsuited_1 : decode cX9_unsuited 1 = .ok (.iconst 0, 1) := by decide +kernel
theorem dX9_unsuited_2 : decode cX9_unsuited 2 = .ok (.putfield 92, 3) := by decide +kernel
theorem dX9_unsuited_5 : decode cX9_unsuited 5 = .ok (.aload_n 0, 1) := by decide +kernel
theorem dX9_unsuited_6 : decode cX9_unsuited 6 = .ok (.iload_n 1, 1) := by decide +kernel
theorem dX9_unsuited_7 : decode cX9_unsuited 7 = .ok (.invokevirtual 256, 3) := by decide +kernel
theorem dX9_unsuited_10 : decode cX9_unsuited 10 = .ok (.ifCond .eq 11, 3) := by decide +kernel
theorem dX9_unsuited_13 : decode cX9_unsuited 13 = .ok (.aload_n 0, 1) := by decide +kernel
theorem dX9_unsuited_14 : decode cX9_unsuited 14 = .ok (.iload_n 1, 1) := by decide +kernel
theorem dX9_unsuited_15 : decode cX9_unsuited 15 = .ok (.invokevirtual 318, 3) := by decide +kernel
theorem dX9_unsuited_18 : decode cX9_unsuited 18 = .ok (.goto 5, 3) := by decide +kernel
theorem dX9_unsuited_21 : decode cX9_unsuited 21 = .ok (.bipush (-2), 2) := by decide +kernel
theorem dX9_unsuited_23 : decode cX9_unsuited 23 = .ok (.ireturn, 1) := by decide +kernel
set_option maxRecDepth 20000 in
theorem ggX9_wages_X9_isRoof : GoodIn wsX9_wages wsX9_isRoof := goodIn_r _ [9, 10, 11, 12, 8, 13, 29, 30, 31, 32, 33, 34, 35, 36, 37, 38, 39, 40, 41, 42, 43, 44, 45, 46, 47, 48, 49, 50, 51, 52, 53, 54, 55, 56, 57, 58, 59, 60, 61, 62, 63, 64, 65, 66, 67, 68, 69, 70, 71, 72, 73, 74] (by decide +kernel) (by decide +kernel)
set_option maxRecDepth 20000 in
theorem gX9_wages_X9_isRoof : GoodIn wsX9_wages (wsV RX9 256 RX9 yX9_isRoof wsX9_isRoof) := goodIn_app (goodIn_of _ (by decide +kernel)) ggX9_wages_X9_isRoof
set_option maxRecDepth 20000 in
theorem ggX9_wages_X9_in : GoodIn wsX9_wages wsX9_in := goodIn_r _ [13] (by decide +kernel) (by decide +kernel)
set_option maxRecDepth 20000 in
theorem gX9_wages_X9_in : GoodIn wsX9_wages (va_wsS RX9 97 yX9_in wsX9_in) := goodIn_app (goodIn_of _ (by decide +kernel)) ggX9_wages_X9_in
set_option maxRecDepth 20000 in
theorem ggX9_wages_X9_highOf : GoodIn wsX9_wages wsX9_highOf := goodIn_r _ [17, 18, 19, 20, 21, 8, 22, 23, 29, 30, 31, 32, 33, 34, 35, 36, 37, 38, 39, 40, 41, 42, 43, 44, 45, 46, 47, 48, 49, 50, 51, 52, 53, 54, 55, 56, 57, 58, 59, 60, 61, 62, 63, 64, 65, 66, 67, 68, 69, 70, 71, 72, 73, 74] (by decide +kernel) (by decide +kernel)
set_option maxRecDepth 20000 in
theorem gX9_wages_X9_highOf : GoodIn wsX9_wages (wsV RX9 264 RX9 yX9_highOf wsX9_highOf) := goodIn_app (goodIn_of _ (by decide +kernel)) ggX9_wages_X9_highOf
set_option maxRecDepth 20000 in
theorem ggX9_wages_X9_toOf : GoodIn wsX9_wages wsX9_toOf := goodIn_r _ [27, 28, 19, 20, 21, 8, 22, 23, 29, 30, 31, 32, 33, 34, 35, 36, 37, 38, 39, 40, 41, 42, 43, 44, 45, 46, 47, 48, 49, 50, 51, 52, 53, 54, 55, 56, 57, 58, 59, 60, 61, 62, 63, 64, 65, 66, 67, 68, 69, 70, 71, 72, 73, 74] (by decide +kernel) (by decide +kernel)
set_option maxRecDepth 20000 in
theorem gX9_wages_X9_toOf : GoodIn wsX9_wages (wsV RX9 267 RX9 yX9_toOf wsX9_toOf) := goodIn_app (goodIn_of _ (by decide +kernel)) ggX9_wages_X9_toOf
theorem dX9_wages_0 : decode cX9_wages 0 = .ok (.aload_n 0, 1) := by decide +kernel
theorem dX9_wages_1 : decode cX9_wages 1 = .ok (.iconst 0, 1) := by decide +kernel
theorem dX9_wages_2 : decode cX9_wages 2 = .ok (.putfield 92, 3) := by decide +kernel
theorem dX9_wages_5 : decode cX9_wages 5 = .ok (.aload_n 0, 1) := by decide +kernel
theorem dX9_wages_6 : decode cX9_wages 6 = .ok (.iload_n 1, 1) := by decide +kernel
theorem dX9_wages_7 : decode cX9_wages 7 = .ok (.invokevirtual 256, 3) := by decide +kernel
theorem dX9_wages_10 : decode cX9_wages 10 = .ok (.ifCond .eq 15, 3) := by decide +kernel
theorem dX9_wages_13 : decode cX9_wages 13 = .ok (.iload_n 2, 1) := by decide +kernel
theorem dX9_wages_14 : decode cX9_wages 14 = .ok (.i2l, 1) := by decide +kernel
theorem dX9_wages_15 : decode cX9_wages 15 = .ok (.lconst 0, 1) := by decide +kernel
theorem dX9_wages_16 : decode cX9_wages 16 = .ok (.ldc2_w 321, 3) := by decide +kernel
theorem dX9_wages_19 : decode cX9_wages 19 = .ok (.invokestatic 97, 3) := by decide +kernel
theorem dX9_wages_22 : decode cX9_wages 22 = .ok (.ifCond .ne 7, 3) := by decide +kernel
theorem dX9_wages_25 : decode cX9_wages 25 = .ok (.ldc2_w 323, 3) := by decide +kernel
theorem dX9_wages_28 : decode cX9_wages 28 = .ok (.lreturn, 1) := by decide +kernel
theorem dX9_wages_29 : decode cX9_wages 29 = .ok (.lconst 0, 1) := by decide +kernel
theorem dX9_wages_30 : decode cX9_wages 30 = .ok (.lstore_n 3, 1) := by decide +kernel
theorem dX9_wages_31 : decode cX9_wages 31 = .ok (.iconst 0, 1) := by decide +kernel
theorem dX9_wages_32 : decode cX9_wages 32 = .ok (.istore 5, 2) := by decide +kernel
theorem dX9_wages_34 : decode cX9_wages 34 = .ok (.iload 5, 2) := by decide +kernel
theorem dX9_wages_36 : decode cX9_wages 36 = .ok (.iload_n 2, 1) := by decide +kernel
theorem dX9_wages_37 : decode cX9_wages 37 = .ok (.if_icmp .ge 48, 3) := by decide +kernel
theorem dX9_wages_40 : decode cX9_wages 40 = .ok (.lload_n 3, 1) := by decide +kernel
theorem dX9_wages_41 : decode cX9_wages 41 = .ok (.aload_n 0, 1) := by decide +kernel
theorem dX9_wages_42 : decode cX9_wages 42 = .ok (.iload_n 1, 1) := by decide +kernel
theorem dX9_wages_43 : decode cX9_wages 43 = .ok (.iload 5, 2) := by decide +kernel
theorem dX9_wages_45 : decode cX9_wages 45 = .ok (.invokevirtual 264, 3) := by decide +kernel
theorem dX9_wages_48 : decode cX9_wages 48 = .ok (.i2l, 1) := by decide +kernel
theorem dX9_wages_49 : decode cX9_wages 49 = .ok (.aload_n 0, 1) := by decide +kernel
theorem dX9_wages_50 : decode cX9_wages 50 = .ok (.iload_n 1, 1) := by decide +kernel
theorem dX9_wages_51 : decode cX9_wages 51 = .ok (.iload 5, 2) := by decide +kernel
theorem dX9_wages_53 : decode cX9_wages 53 = .ok (.invokevirtual 264, 3) := by decide +kernel
theorem dX9_wages_56 : decode cX9_wages 56 = .ok (.i2l, 1) := by decide +kernel
theorem dX9_wages_57 : decode cX9_wages 57 = .ok (.lmul, 1) := by decide +kernel
theorem dX9_wages_58 : decode cX9_wages 58 = .ok (.aload_n 0, 1) := by decide +kernel
theorem dX9_wages_59 : decode cX9_wages 59 = .ok (.iload_n 1, 1) := by decide +kernel
theorem dX9_wages_60 : decode cX9_wages 60 = .ok (.iload 5, 2) := by decide +kernel
theorem dX9_wages_62 : decode cX9_wages 62 = .ok (.invokevirtual 267, 3) := by decide +kernel
theorem dX9_wages_65 : decode cX9_wages 65 = .ok (.iload_n 1, 1) := by decide +kernel
theorem dX9_wages_66 : decode cX9_wages 66 = .ok (.if_icmp .ne 7, 3) := by decide +kernel
theorem dX9_wages_69 : decode cX9_wages 69 = .ok (.lconst 1, 1) := by decide +kernel
theorem dX9_wages_70 : decode cX9_wages 70 = .ok (.goto 6, 3) := by decide +kernel
theorem dX9_wages_73 : decode cX9_wages 73 = .ok (.ldc2_w 262, 3) := by decide +kernel
theorem dX9_wages_76 : decode cX9_wages 76 = .ok (.lmul, 1) := by decide +kernel
theorem dX9_wages_77 : decode cX9_wages 77 = .ok (.ladd, 1) := by decide +kernel
theorem dX9_wages_78 : decode cX9_wages 78 = .ok (.lstore_n 3, 1) := by decide +kernel
theorem dX9_wages_79 : decode cX9_wages 79 = .ok (.iinc 5 1, 3) := by decide +kernel
theorem dX9_wages_82 : decode cX9_wages 82 = .ok (.goto (-48), 3) := by decide +kernel
theorem dX9_wages_85 : decode cX9_wages 85 = .ok (.lload_n 3, 1) := by decide +kernel
theorem dX9_wages_86 : decode cX9_wages 86 = .ok (.lreturn, 1) := by decide +kernel
set_option maxRecDepth 20000 in
theorem ggX9_carries_X9_isRoof : GoodIn wsX9_carries wsX9_isRoof := goodIn_r _ [6, 7, 8, 9, 5, 10, 30, 31, 32, 33, 34, 35, 36, 37, 38, 39, 40, 41, 42, 43, 44, 45, 46, 47, 48, 49, 50, 51, 52, 53, 54, 55, 56, 57, 58, 59, 60, 61, 62, 63, 64, 65, 66, 67, 68, 69, 70, 71, 72, 73, 74, 75] (by decide +kernel) (by decide +kernel)
set_option maxRecDepth 20000 in
theorem gX9_carries_X9_isRoof : GoodIn wsX9_carries (wsV RX9 256 RX9 yX9_isRoof wsX9_isRoof) := goodIn_app (goodIn_of _ (by decide +kernel)) ggX9_carries_X9_isRoof
set_option maxRecDepth 20000 in
theorem ggX9_carries_X9_round : GoodIn wsX9_carries wsX9_round := goodIn_r _ [14, 7, 15, 30, 31, 32, 33, 34, 35, 36, 37, 38, 39, 40, 41, 42, 43, 44, 45, 46, 47, 48, 49, 50, 51, 52, 53, 54, 55, 56, 57, 58, 59, 60, 61, 62, 63, 64, 65, 66, 67, 68, 69, 70, 71, 72, 73, 74, 75] (by decide +kernel) (by decide +kernel)
set_option maxRecDepth 20000 in
theorem gX9_carries_X9_round : GoodIn wsX9_carries (wsV RX9 273 RX9 yX9_round wsX9_round) := goodIn_app (goodIn_of _ (by decide +kernel)) ggX9_carries_X9_round
set_option maxRecDepth 20000 in
theorem ggX9_carries_X9_highOf : GoodIn wsX9_carries wsX9_highOf := goodIn_r _ [19, 20, 21, 22, 23, 5, 24, 15, 30, 31, 32, 33, 34, 35, 36, 37, 38, 39, 40, 41, 42, 43, 44, 45, 46, 47, 48, 49, 50, 51, 52, 53, 54, 55, 56, 57, 58, 59, 60, 61, 62, 63, 64, 65, 66, 67, 68, 69, 70, 71, 72, 73, 74, 75] (by decide +kernel) (by decide +kernel)
set_option maxRecDepth 20000 in
theorem gX9_carries_X9_highOf : GoodIn wsX9_carries (wsV RX9 264 RX9 yX9_highOf wsX9_highOf) := goodIn_app (goodIn_of _ (by decide +kernel)) ggX9_carries_X9_highOf
set_option maxRecDepth 20000 in
theorem ggX9_carries_X9_toOf : GoodIn wsX9_carries wsX9_toOf := goodIn_r _ [28, 29, 21, 22, 23, 5, 24, 15, 30, 31, 32, 33, 34, 35, 36, 37, 38, 39, 40, 41, 42, 43, 44, 45, 46, 47, 48, 49, 50, 51, 52, 53, 54, 55, 56, 57, 58, 59, 60, 61, 62, 63, 64, 65, 66, 67, 68, 69, 70, 71, 72, 73, 74, 75] (by decide +kernel) (by decide +kernel)
set_option maxRecDepth 20000 in
theorem gX9_carries_X9_toOf : GoodIn wsX9_carries (wsV RX9 267 RX9 yX9_toOf wsX9_toOf) := goodIn_app (goodIn_of _ (by decide +kernel)) ggX9_carries_X9_toOf
theorem dX9_carries_0 : decode cX9_carries 0 = .ok (.aload_n 0, 1) := by decide +kernel
theorem dX9_carries_1 : decode cX9_carries 1 = .ok (.iconst 0, 1) := by decide +kernel
theorem dX9_carries_2 : decode cX9_carries 2 = .ok (.putfield 92, 3) := by decide +kernel
theorem dX9_carries_5 : decode cX9_carries 5 = .ok (.aload_n 0, 1) := by decide +kernel
theorem dX9_carries_6 : decode cX9_carries 6 = .ok (.iload_n 1, 1) := by decide +kernel
theorem dX9_carries_7 : decode cX9_carries 7 = .ok (.invokevirtual 256, 3) := by decide +kernel
theorem dX9_carries_10 : decode cX9_carries 10 = .ok (.ifCond .eq 11, 3) := by decide +kernel
theorem dX9_carries_13 : decode cX9_carries 13 = .ok (.aload_n 0, 1) := by decide +kernel
theorem dX9_carries_14 : decode cX9_carries 14 = .ok (.iload_n 2, 1) := by decide +kernel
theorem dX9_carries_15 : decode cX9_carries 15 = .ok (.invokevirtual 256, 3) := by decide +kernel
theorem dX9_carries_18 : decode cX9_carries 18 = .ok (.ifCond .ne 6, 3) := by decide +kernel
theorem dX9_carries_21 : decode cX9_carries 21 = .ok (.bipush (-2), 2) := by decide +kernel
theorem dX9_carries_23 : decode cX9_carries 23 = .ok (.ireturn, 1) := by decide +kernel
theorem dX9_carries_24 : decode cX9_carries 24 = .ok (.aload_n 0, 1) := by decide +kernel
theorem dX9_carries_25 : decode cX9_carries 25 = .ok (.invokevirtual 273, 3) := by decide +kernel
theorem dX9_carries_28 : decode cX9_carries 28 = .ok (.istore_n 3, 1) := by decide +kernel
theorem dX9_carries_29 : decode cX9_carries 29 = .ok (.iconst 0, 1) := by decide +kernel
theorem dX9_carries_30 : decode cX9_carries 30 = .ok (.istore 4, 2) := by decide +kernel
theorem dX9_carries_32 : decode cX9_carries 32 = .ok (.iconst 0, 1) := by decide +kernel
theorem dX9_carries_33 : decode cX9_carries 33 = .ok (.istore 5, 2) := by decide +kernel
theorem dX9_carries_35 : decode cX9_carries 35 = .ok (.iload 5, 2) := by decide +kernel
theorem dX9_carries_37 : decode cX9_carries 37 = .ok (.iload_n 3, 1) := by decide +kernel
theorem dX9_carries_38 : decode cX9_carries 38 = .ok (.if_icmp .ge 40, 3) := by decide +kernel
theorem dX9_carries_41 : decode cX9_carries 41 = .ok (.iload 4, 2) := by decide +kernel
theorem dX9_carries_43 : decode cX9_carries 43 = .ok (.aload_n 0, 1) := by decide +kernel
theorem dX9_carries_44 : decode cX9_carries 44 = .ok (.iload_n 1, 1) := by decide +kernel
theorem dX9_carries_45 : decode cX9_carries 45 = .ok (.iload 5, 2) := by decide +kernel
theorem dX9_carries_47 : decode cX9_carries 47 = .ok (.invokevirtual 264, 3) := by decide +kernel
theorem dX9_carries_50 : decode cX9_carries 50 = .ok (.ifCond .le 18, 3) := by decide +kernel
theorem dX9_carries_53 : decode cX9_carries 53 = .ok (.aload_n 0, 1) := by decide +kernel
theorem dX9_carries_54 : decode cX9_carries 54 = .ok (.iload_n 1, 1) := by decide +kernel
theorem dX9_carries_55 : decode cX9_carries 55 = .ok (.iload 5, 2) := by decide +kernel
theorem dX9_carries_57 : decode cX9_carries 57 = .ok (.invokevirtual 267, 3) := by decide +kernel
theorem dX9_carries_60 : decode cX9_carries 60 = .ok (.iload_n 2, 1) := by decide +kernel
theorem dX9_carries_61 : decode cX9_carries 61 = .ok (.if_icmp .ne 7, 3) := by decide +kernel
theorem dX9_carries_64 : decode cX9_carries 64 = .ok (.iconst 1, 1) := by decide +kernel
theorem dX9_carries_65 : decode cX9_carries 65 = .ok (.goto 4, 3) := by decide +kernel
theorem dX9_carries_68 : decode cX9_carries 68 = .ok (.iconst 0, 1) := by decide +kernel
theorem dX9_carries_69 : decode cX9_carries 69 = .ok (.iadd, 1) := by decide +kernel
theorem dX9_carries_70 : decode cX9_carries 70 = .ok (.istore 4, 2) := by decide +kernel
theorem dX9_carries_72 : decode cX9_carries 72 = .ok (.iinc 5 1, 3) := by decide +kernel
theorem dX9_carries_75 : decode cX9_carries 75 = .ok (.goto (-40), 3) := by decide +kernel
theorem dX9_carries_78 : decode cX9_carries 78 = .ok (.iload 4, 2) := by decide +kernel
theorem dX9_carries_80 : decode cX9_carries 80 = .ok (.ireturn, 1) := by decide +kernel
set_option maxRecDepth 20000 in
theorem ggX9_isLetter_X9_in : GoodIn wsX9_isLetter wsX9_in := goodIn_r _ [5] (by decide +kernel) (by decide +kernel)
set_option maxRecDepth 20000 in
theorem gX9_isLetter_X9_in : GoodIn wsX9_isLetter (va_wsS RX9 97 yX9_in wsX9_in) := goodIn_app (goodIn_of _ (by decide +kernel)) ggX9_isLetter_X9_in
theorem dX9_isLetter_0 : decode cX9_isLetter 0 = .ok (.iload_n 1, 1) := by decide +kernel
theorem dX9_isLetter_1 : decode cX9_isLetter 1 = .ok (.i2l, 1) := by decide +kernel
theorem dX9_isLetter_2 : decode cX9_isLetter 2 = .ok (.lconst 0, 1) := by decide +kernel
theorem dX9_isLetter_3 : decode cX9_isLetter 3 = .ok (.aload_n 0, 1) := by decide +kernel
theorem dX9_isLetter_4 : decode cX9_isLetter 4 = .ok (.getfield 49, 3) := by decide +kernel
theorem dX9_isLetter_7 : decode cX9_isLetter 7 = .ok (.iconst 1, 1) := by decide +kernel
theorem dX9_isLetter_8 : decode cX9_isLetter 8 = .ok (.iaload, 1) := by decide +kernel
theorem dX9_isLetter_9 : decode cX9_isLetter 9 = .ok (.iconst 1, 1) := by decide +kernel
theorem dX9_isLetter_10 : decode cX9_isLetter 10 = .ok (.isub, 1) := by decide +kernel
theorem dX9_isLetter_11 : decode cX9_isLetter 11 = .ok (.i2l, 1) := by decide +kernel
theorem dX9_isLetter_12 : decode cX9_isLetter 12 = .ok (.invokestatic 97, 3) := by decide +kernel
theorem dX9_isLetter_15 : decode cX9_isLetter 15 = .ok (.ireturn, 1) := by decide +kernel
set_option maxRecDepth 20000 in
theorem ggX9_letter_X9_isLetter : GoodIn wsX9_letter wsX9_isLetter := goodIn_r _ [8, 9, 10, 11, 7, 12, 13, 14, 15, 16, 17, 18, 19, 20, 21, 22, 23, 24, 25, 26, 27, 28, 29, 30, 31, 32, 33, 34, 35, 36, 37, 38, 39, 40, 41, 42, 43, 44, 45, 46, 47, 48, 49, 50, 51, 52, 53, 54, 55, 56, 57, 58] (by decide +kernel) (by decide +kernel)
set_option maxRecDepth 20000 in
theorem gX9_letter_X9_isLetter : GoodIn wsX9_letter (wsV RX9 325 RX9 yX9_isLetter wsX9_isLetter) := goodIn_app (goodIn_of _ (by decide +kernel)) ggX9_letter_X9_isLetter
set_option maxRecDepth 20000 in
theorem ggX9_letter_X9_in : GoodIn wsX9_letter wsX9_in := goodIn_r _ [12] (by decide +kernel) (by decide +kernel)
set_option maxRecDepth 20000 in
theorem gX9_letter_X9_in : GoodIn wsX9_letter (va_wsS RX9 97 yX9_in wsX9_in) := goodIn_app (goodIn_of _ (by decide +kernel)) ggX9_letter_X9_in
theorem dX9_letter_0 : decode cX9_letter 0 = .ok (.aload_n 0, 1) := by decide +kernel
theorem dX9_letter_1 : decode cX9_letter 1 = .ok (.iconst 0, 1) := by decide +kernel
theorem dX9_letter_2 : decode cX9_letter 2 = .ok (.putfield 92, 3) := by decide +kernel
theorem dX9_letter_5 : decode cX9_letter 5 = .ok (.aload_n 0, 1) := by decide +kernel
theorem dX9_letter_6 : decode cX9_letter 6 = .ok (.iload_n 1, 1) := by decide +kernel
theorem dX9_letter_7 : decode cX9_letter 7 = .ok (.invokevirtual 325, 3) := by decide +kernel
theorem dX9_letter_10 : decode cX9_letter 10 = .ok (.ifCond .eq 28, 3) := by decide +kernel
theorem dX9_letter_13 : decode cX9_letter 13 = .ok (.iload_n 2, 1) := by decide +kernel
theorem dX9_letter_14 : decode cX9_letter 14 = .ok (.i2l, 1) := by decide +kernel
theorem dX9_letter_15 : decode cX9_letter 15 = .ok (.lconst 0, 1) := by decide +kernel
theorem dX9_letter_16 : decode cX9_letter 16 = .ok (.ldc2_w 262, 3) := by decide +kernel
theorem dX9_letter_19 : decode cX9_letter 19 = .ok (.invokestatic 97, 3) := by decide +kernel
theorem dX9_letter_22 : decode cX9_letter 22 = .ok (.ifCond .eq 16, 3) := by decide +kernel
theorem dX9_letter_25 : decode cX9_letter 25 = .ok (.aload_n 0, 1) := by decide +kernel
theorem dX9_letter_26 : decode cX9_letter 26 = .ok (.getfield 55, 3) := by decide +kernel
theorem dX9_letter_29 : decode cX9_letter 29 = .ok (.iconst 3, 1) := by decide +kernel
theorem dX9_letter_30 : decode cX9_letter 30 = .ok (.iload_n 1, 1) := by decide +kernel
theorem dX9_letter_31 : decode cX9_letter 31 = .ok (.imul, 1) := by decide +kernel
theorem dX9_letter_32 : decode cX9_letter 32 = .ok (.iload_n 2, 1) := by decide +kernel
theorem dX9_letter_33 : decode cX9_letter 33 = .ok (.iadd, 1) := by decide +kernel
theorem dX9_letter_34 : decode cX9_letter 34 = .ok (.iaload, 1) := by decide +kernel
theorem dX9_letter_35 : decode cX9_letter 35 = .ok (.goto 5, 3) := by decide +kernel
theorem dX9_letter_38 : decode cX9_letter 38 = .ok (.bipush (-2), 2) := by decide +kernel
theorem dX9_letter_40 : decode cX9_letter 40 = .ok (.ireturn, 1) := by decide +kernel
set_option maxRecDepth 20000 in
theorem ggX9_alone_X9_isLetter : GoodIn wsX9_alone wsX9_isLetter := goodIn_r _ [9, 10, 11, 12, 8, 13, 54, 55, 56, 57, 58, 59, 60, 61, 62, 63, 64, 65, 66, 67, 68, 69, 70, 71, 72, 73, 74, 75, 76, 77, 78, 79, 80, 81, 82, 83, 84, 85, 86, 87, 88, 89, 90, 91, 92, 93, 94, 95, 96, 97, 98, 99] (by decide +kernel) (by decide +kernel)
set_option maxRecDepth 20000 in
theorem gX9_alone_X9_isLetter : GoodIn wsX9_alone (wsV RX9 325 RX9 yX9_isLetter wsX9_isLetter) := goodIn_app (goodIn_of _ (by decide +kernel)) ggX9_alone_X9_isLetter
set_option maxRecDepth 20000 in
theorem ggX9_alone_X9_starts : GoodIn wsX9_alone wsX9_starts := goodIn_r _ [17, 3, 4, 18, 19, 20, 8, 21, 22, 23, 24, 25, 26, 27, 28, 29, 30, 31, 32, 33, 34, 35, 36, 37, 38, 39, 40, 41, 42, 43, 44, 45, 46, 47, 48, 49, 54, 55, 56, 57, 58, 59, 60, 61, 62, 63, 64, 65, 66, 67, 68, 69, 70, 71, 72, 73, 74, 75, 76, 77, 78, 79, 80, 81, 82, 83, 84, 85, 86, 87, 88, 89, 90, 91, 92, 93, 94, 95, 96, 97, 98, 99] (by decide +kernel) (by decide +kernel)
set_option maxRecDepth 20000 in
theorem gX9_alone_X9_starts : GoodIn wsX9_alone (wsV RX9 303 RX9 yX9_starts wsX9_starts) := goodIn_app (goodIn_of _ (by decide +kernel)) ggX9_alone_X9_starts
set_option maxRecDepth 20000 in
theorem ggX9_alone_X9_round : GoodIn wsX9_alone wsX9_round := goodIn_r _ [26, 22, 27, 54, 55, 56, 57, 58, 59, 60, 61, 62, 63, 64, 65, 66, 67, 68, 69, 70, 71, 72, 73, 74, 75, 76, 77, 78, 79, 80, 81, 82, 83, 84, 85, 86, 87, 88, 89, 90, 91, 92, 93, 94, 95, 96, 97, 98, 99] (by decide +kernel) (by decide +kernel)
set_option maxRecDepth 20000 in
theorem gX9_alone_X9_round : GoodIn wsX9_alone (wsV RX9 273 RX9 yX9_round wsX9_round) := goodIn_app (goodIn_of _ (by decide +kernel)) ggX9_alone_X9_round
set_option maxRecDepth 20000 in
theorem ggX9_alone_X9_follows : GoodIn wsX9_alone wsX9_follows := goodIn_r _ [53, 3, 4, 36, 37, 38, 8, 39, 40, 41, 42, 43, 44, 27, 45, 46, 47, 48, 49, 54, 55, 56, 57, 58, 59, 60, 61, 62, 63, 64, 65, 66, 67, 68, 69, 70, 71, 72, 73, 74, 75, 76, 77, 78, 79, 80, 81, 82, 83, 84, 85, 86, 87, 88, 89, 90, 91, 92, 93, 94, 95, 96, 97, 98, 99] (by decide +kernel) (by decide +kernel)
set_option maxRecDepth 20000 in
theorem gX9_alone_X9_follows : GoodIn wsX9_alone (wsV RX9 306 RX9 yX9_follows wsX9_follows) := goodIn_app (goodIn_of _ (by decide +kernel)) ggX9_alone_X9_follows
theorem dX9_alone_0 : decode cX9_alone 0 = .ok (.aload_n 0, 1) := by decide +kernel
theorem dX9_alone_1 : decode cX9_alone 1 = .ok (.iconst 0, 1) := by decide +kernel
theorem dX9_alone_2 : decode cX9_alone 2 = .ok (.putfield 92, 3) := by decide +kernel
theorem dX9_alone_5 : decode cX9_alone 5 = .ok (.aload_n 0, 1) := by decide +kernel
theorem dX9_alone_6 : decode cX9_alone 6 = .ok (.iload_n 1, 1) := by decide +kernel
theorem dX9_alone_7 : decode cX9_alone 7 = .ok (.invokevirtual 325, 3) := by decide +kernel
theorem dX9_alone_10 : decode cX9_alone 10 = .ok (.ifCond .ne 6, 3) := by decide +kernel
theorem dX9_alone_13 : decode cX9_alone 13 = .ok (.bipush (-2), 2) := by decide +kernel
theorem dX9_alone_15 : decode cX9_alone 15 = .ok (.ireturn, 1) := by decide +kernel
theorem dX9_alone_16 : decode cX9_alone 16 = .ok (.aload_n 0, 1) := by decide +kernel
theorem dX9_alone_17 : decode cX9_alone 17 = .ok (.getfield 55, 3) := by decide +kernel
theorem dX9_alone_20 : decode cX9_alone 20 = .ok (.iconst 3, 1) := by decide +kernel
theorem dX9_alone_21 : decode cX9_alone 21 = .ok (.iload_n 1, 1) := by decide +kernel
theorem dX9_alone_22 : decode cX9_alone 22 = .ok (.imul, 1) := by decide +kernel
theorem dX9_alone_23 : decode cX9_alone 23 = .ok (.iaload, 1) := by decide +kernel
theorem dX9_alone_24 : decode cX9_alone 24 = .ok (.istore_n 2, 1) := by decide +kernel
theorem dX9_alone_25 : decode cX9_alone 25 = .ok (.aload_n 0, 1) := by decide +kernel
theorem dX9_alone_26 : decode cX9_alone 26 = .ok (.getfield 55, 3) := by decide +kernel
theorem dX9_alone_29 : decode cX9_alone 29 = .ok (.iconst 3, 1) := by decide +kernel
theorem dX9_alone_30 : decode cX9_alone 30 = .ok (.iload_n 1, 1) := by decide +kernel
theorem dX9_alone_31 : decode cX9_alone 31 = .ok (.imul, 1) := by decide +kernel
theorem dX9_alone_32 : decode cX9_alone 32 = .ok (.iconst 1, 1) := by decide +kernel
theorem dX9_alone_33 : decode cX9_alone 33 = .ok (.iadd, 1) := by decide +kernel
theorem dX9_alone_34 : decode cX9_alone 34 = .ok (.iaload, 1) := by decide +kernel
theorem dX9_alone_35 : decode cX9_alone 35 = .ok (.istore_n 3, 1) := by decide +kernel
theorem dX9_alone_36 : decode cX9_alone 36 = .ok (.aload_n 0, 1) := by decide +kernel
theorem dX9_alone_37 : decode cX9_alone 37 = .ok (.iload_n 2, 1) := by decide +kernel
theorem dX9_alone_38 : decode cX9_alone 38 = .ok (.iload_n 3, 1) := by decide +kernel
theorem dX9_alone_39 : decode cX9_alone 39 = .ok (.invokevirtual 303, 3) := by decide +kernel
theorem dX9_alone_42 : decode cX9_alone 42 = .ok (.ifCond .ne 5, 3) := by decide +kernel
theorem dX9_alone_45 : decode cX9_alone 45 = .ok (.iconst (-1), 1) := by decide +kernel
theorem dX9_alone_46 : decode cX9_alone 46 = .ok (.ireturn, 1) := by decide +kernel
theorem dX9_alone_47 : decode cX9_alone 47 = .ok (.aload_n 0, 1) := by decide +kernel
theorem dX9_alone_48 : decode cX9_alone 48 = .ok (.invokevirtual 273, 3) := by decide +kernel
theorem dX9_alone_51 : decode cX9_alone 51 = .ok (.istore 4, 2) := by decide +kernel
theorem dX9_alone_53 : decode cX9_alone 53 = .ok (.aload_n 0, 1) := by decide +kernel
theorem dX9_alone_54 : decode cX9_alone 54 = .ok (.invokevirtual 306, 3) := by decide +kernel
theorem dX9_alone_57 : decode cX9_alone 57 = .ok (.aload_n 0, 1) := by decide +kernel
theorem dX9_alone_58 : decode cX9_alone 58 = .ok (.getfield 292, 3) := by decide +kernel
theorem dX9_alone_61 : decode cX9_alone 61 = .ok (.aload_n 0, 1) := by decide +kernel
theorem dX9_alone_62 : decode cX9_alone 62 = .ok (.getfield 55, 3) := by decide +kernel
theorem dX9_alone_65 : decode cX9_alone 65 = .ok (.iconst 3, 1) := by decide +kernel
theorem dX9_alone_66 : decode cX9_alone 66 = .ok (.iload_n 1, 1) := by decide +kernel
theorem dX9_alone_67 : decode cX9_alone 67 = .ok (.imul, 1) := by decide +kernel
theorem dX9_alone_68 : decode cX9_alone 68 = .ok (.iconst 2, 1) := by decide +kernel
theorem dX9_alone_69 : decode cX9_alone 69 = .ok (.iadd, 1) := by decide +kernel
theorem dX9_alone_70 : decode cX9_alone 70 = .ok (.iaload, 1) := by decide +kernel
theorem dX9_alone_71 : decode cX9_alone 71 = .ok (.if_icmp .ne 8, 3) := by decide +kernel
theorem dX9_alone_74 : decode cX9_alone 74 = .ok (.aload_n 0, 1) := by decide +kernel
theorem dX9_alone_75 : decode cX9_alone 75 = .ok (.getfield 295, 3) := by decide +kernel
theorem dX9_alone_78 : decode cX9_alone 78 = .ok (.ireturn, 1) := by decide +kernel
theorem dX9_alone_79 : decode cX9_alone 79 = .ok (.aload_n 0, 1) := by decide +kernel
theorem dX9_alone_80 : decode cX9_alone 80 = .ok (.getfield 292, 3) := by decide +kernel
theorem dX9_alone_83 : decode cX9_alone 83 = .ok (.iload_n 2, 1) := by decide +kernel
theorem dX9_alone_84 : decode cX9_alone 84 = .ok (.if_icmp .ne (-31), 3) := by decide +kernel
theorem dX9_alone_87 : decode cX9_alone 87 = .ok (.aload_n 0, 1) := by decide +kernel
theorem dX9_alone_88 : decode cX9_alone 88 = .ok (.getfield 295, 3) := by decide +kernel
theorem dX9_alone_91 : decode cX9_alone 91 = .ok (.iload_n 3, 1) := by decide +kernel
theorem dX9_alone_92 : decode cX9_alone 92 = .ok (.isub, 1) := by decide +kernel
theorem dX9_alone_93 : decode cX9_alone 93 = .ok (.iload 4, 2) := by decide +kernel
theorem dX9_alone_95 : decode cX9_alone 95 = .ok (.irem, 1) := by decide +kernel
theorem dX9_alone_96 : decode cX9_alone 96 = .ok (.ifCond .ne (-43), 3) := by decide +kernel
theorem dX9_alone_99 : decode cX9_alone 99 = .ok (.iconst (-1), 1) := by decide +kernel
theorem dX9_alone_100 : decode cX9_alone 100 = .ok (.ireturn, 1) := by decide +kernel
set_option maxRecDepth 20000 in
theorem ggX9_soonestOf_X9_highOf : GoodIn wsX9_soonestOf wsX9_highOf := goodIn_r _ [8, 9, 10, 11, 12, 7, 13, 14, 20, 21, 22, 23, 24, 25, 26, 27, 28, 29, 30, 31, 32, 33, 34, 35, 36, 37, 38, 39, 40, 41, 42, 43, 44, 45, 46, 47, 48, 49, 50, 51, 52, 53, 54, 55, 56, 57, 58, 59, 60, 61, 62, 63, 64, 65] (by decide +kernel) (by decide +kernel)
set_option maxRecDepth 20000 in
theorem gX9_soonestOf_X9_highOf : GoodIn wsX9_soonestOf (wsV RX9 264 RX9 yX9_highOf wsX9_highOf) := goodIn_app (goodIn_of _ (by decide +kernel)) ggX9_soonestOf_X9_highOf
set_option maxRecDepth 20000 in
theorem ggX9_soonestOf_X9_toOf : GoodIn wsX9_soonestOf wsX9_toOf := goodIn_r _ [18, 19, 10, 11, 12, 7, 13, 14, 20, 21, 22, 23, 24, 25, 26, 27, 28, 29, 30, 31, 32, 33, 34, 35, 36, 37, 38, 39, 40, 41, 42, 43, 44, 45, 46, 47, 48, 49, 50, 51, 52, 53, 54, 55, 56, 57, 58, 59, 60, 61, 62, 63, 64, 65] (by decide +kernel) (by decide +kernel)
set_option maxRecDepth 20000 in
theorem gX9_soonestOf_X9_toOf : GoodIn wsX9_soonestOf (wsV RX9 267 RX9 yX9_toOf wsX9_toOf) := goodIn_app (goodIn_of _ (by decide +kernel)) ggX9_soonestOf_X9_toOf
theorem dX9_soonestOf_0 : decode cX9_soonestOf 0 = .ok (.aload_n 0, 1) := by decide +kernel
theorem dX9_soonestOf_1 : decode cX9_soonestOf 1 = .ok (.getfield 55, 3) := by decide +kernel
theorem dX9_soonestOf_4 : decode cX9_soonestOf 4 = .ok (.iconst 3, 1) := by decide +kernel
theorem dX9_soonestOf_5 : decode cX9_soonestOf 5 = .ok (.iload_n 1, 1) := by decide +kernel
theorem dX9_soonestOf_6 : decode cX9_soonestOf 6 = .ok (.imul, 1) := by decide +kernel
theorem dX9_soonestOf_7 : decode cX9_soonestOf 7 = .ok (.iconst 1, 1) := by decide +kernel
theorem dX9_soonestOf_8 : decode cX9_soonestOf 8 = .ok (.iadd, 1) := by decide +kernel
theorem dX9_soonestOf_9 : decode cX9_soonestOf 9 = .ok (.iaload, 1) := by decide +kernel
theorem dX9_soonestOf_10 : decode cX9_soonestOf 10 = .ok (.istore_n 2, 1) := by decide +kernel
theorem dX9_soonestOf_11 : decode cX9_soonestOf 11 = .ok (.iconst 0, 1) := by decide +kernel
theorem dX9_soonestOf_12 : decode cX9_soonestOf 12 = .ok (.istore_n 3, 1) := by decide +kernel
theorem dX9_soonestOf_13 : decode cX9_soonestOf 13 = .ok (.iload_n 3, 1) := by decide +kernel
theorem dX9_soonestOf_14 : decode cX9_soonestOf 14 = .ok (.sipush 32400, 3) := by decide +kernel
theorem dX9_soonestOf_17 : decode cX9_soonestOf 17 = .ok (.if_icmp .ge 16, 3) := by decide +kernel
theorem dX9_soonestOf_20 : decode cX9_soonestOf 20 = .ok (.aload_n 0, 1) := by decide +kernel
theorem dX9_soonestOf_21 : decode cX9_soonestOf 21 = .ok (.getfield 74, 3) := by decide +kernel
theorem dX9_soonestOf_24 : decode cX9_soonestOf 24 = .ok (.iload_n 3, 1) := by decide +kernel
theorem dX9_soonestOf_25 : decode cX9_soonestOf 25 = .ok (.iconst 0, 1) := by decide +kernel
theorem dX9_soonestOf_26 : decode cX9_soonestOf 26 = .ok (.bastore, 1) := by decide +kernel
theorem dX9_soonestOf_27 : decode cX9_soonestOf 27 = .ok (.iinc 3 1, 3) := by decide +kernel
theorem dX9_soonestOf_30 : decode cX9_soonestOf 30 = .ok (.goto (-17), 3) := by decide +kernel
theorem dX9_soonestOf_33 : decode cX9_soonestOf 33 = .ok (.aload_n 0, 1) := by decide +kernel
theorem dX9_soonestOf_34 : decode cX9_soonestOf 34 = .ok (.getfield 74, 3) := by decide +kernel
theorem dX9_soonestOf_37 : decode cX9_soonestOf 37 = .ok (.aload_n 0, 1) := by decide +kernel
theorem dX9_soonestOf_38 : decode cX9_soonestOf 38 = .ok (.getfield 55, 3) := by decide +kernel
theorem dX9_soonestOf_41 : decode cX9_soonestOf 41 = .ok (.iconst 3, 1) := by decide +kernel
theorem dX9_soonestOf_42 : decode cX9_soonestOf 42 = .ok (.iload_n 1, 1) := by decide +kernel
theorem dX9_soonestOf_43 : decode cX9_soonestOf 43 = .ok (.imul, 1) := by decide +kernel
theorem dX9_soonestOf_44 : decode cX9_soonestOf 44 = .ok (.iaload, 1) := by decide +kernel
theorem dX9_soonestOf_45 : decode cX9_soonestOf 45 = .ok (.iconst 1, 1) := by decide +kernel
theorem dX9_soonestOf_46 : decode cX9_soonestOf 46 = .ok (.bastore, 1) := by decide +kernel
theorem dX9_soonestOf_47 : decode cX9_soonestOf 47 = .ok (.iconst 0, 1) := by decide +kernel
theorem dX9_soonestOf_48 : decode cX9_soonestOf 48 = .ok (.istore_n 3, 1) := by decide +kernel
theorem dX9_soonestOf_49 : decode cX9_soonestOf 49 = .ok (.iload_n 3, 1) := by decide +kernel
theorem dX9_soonestOf_50 : decode cX9_soonestOf 50 = .ok (.sipush 5390, 3) := by decide +kernel
theorem dX9_soonestOf_53 : decode cX9_soonestOf 53 = .ok (.if_icmp .ge 117, 3) := by decide +kernel
theorem dX9_soonestOf_56 : decode cX9_soonestOf 56 = .ok (.aload_n 0, 1) := by decide +kernel
theorem dX9_soonestOf_57 : decode cX9_soonestOf 57 = .ok (.getfield 74, 3) := by decide +kernel
theorem dX9_soonestOf_60 : decode cX9_soonestOf 60 = .ok (.bipush 6, 2) := by decide +kernel
theorem dX9_soonestOf_62 : decode cX9_soonestOf 62 = .ok (.iload_n 3, 1) := by decide +kernel
theorem dX9_soonestOf_63 : decode cX9_soonestOf 63 = .ok (.imul, 1) := by decide +kernel
theorem dX9_soonestOf_64 : decode cX9_soonestOf 64 = .ok (.aload_n 0, 1) := by decide +kernel
theorem dX9_soonestOf_65 : decode cX9_soonestOf 65 = .ok (.getfield 55, 3) := by decide +kernel
theorem dX9_soonestOf_68 : decode cX9_soonestOf 68 = .ok (.iconst 3, 1) := by decide +kernel
theorem dX9_soonestOf_69 : decode cX9_soonestOf 69 = .ok (.iload_n 1, 1) := by decide +kernel
theorem dX9_soonestOf_70 : decode cX9_soonestOf 70 = .ok (.imul, 1) := by decide +kernel
theorem dX9_soonestOf_71 : decode cX9_soonestOf 71 = .ok (.iconst 2, 1) := by decide +kernel
theorem dX9_soonestOf_72 : decode cX9_soonestOf 72 = .ok (.iadd, 1) := by decide +kernel
theorem dX9_soonestOf_73 : decode cX9_soonestOf 73 = .ok (.iaload, 1) := by decide +kernel
theorem dX9_soonestOf_74 : decode cX9_soonestOf 74 = .ok (.iadd, 1) := by decide +kernel
theorem dX9_soonestOf_75 : decode cX9_soonestOf 75 = .ok (.baload, 1) := by decide +kernel
theorem dX9_soonestOf_76 : decode cX9_soonestOf 76 = .ok (.ifCond .eq 5, 3) := by decide +kernel
theorem dX9_soonestOf_79 : decode cX9_soonestOf 79 = .ok (.iload_n 3, 1) := by decide +kernel
theorem dX9_soonestOf_80 : decode cX9_soonestOf 80 = .ok (.ireturn, 1) := by decide +kernel
theorem dX9_soonestOf_81 : decode cX9_soonestOf 81 = .ok (.iconst 0, 1) := by decide +kernel
theorem dX9_soonestOf_82 : decode cX9_soonestOf 82 = .ok (.istore 4, 2) := by decide +kernel
theorem dX9_soonestOf_84 : decode cX9_soonestOf 84 = .ok (.iload 4, 2) := by decide +kernel
theorem dX9_soonestOf_86 : decode cX9_soonestOf 86 = .ok (.aload_n 0, 1) := by decide +kernel
theorem dX9_soonestOf_87 : decode cX9_soonestOf 87 = .ok (.getfield 34, 3) := by decide +kernel
theorem dX9_soonestOf_90 : decode cX9_soonestOf 90 = .ok (.iconst 0, 1) := by decide +kernel
theorem dX9_soonestOf_91 : decode cX9_soonestOf 91 = .ok (.iaload, 1) := by decide +kernel
theorem dX9_soonestOf_92 : decode cX9_soonestOf 92 = .ok (.if_icmp .ge 72, 3) := by decide +kernel
theorem dX9_soonestOf_95 : decode cX9_soonestOf 95 = .ok (.aload_n 0, 1) := by decide +kernel
theorem dX9_soonestOf_96 : decode cX9_soonestOf 96 = .ok (.getfield 74, 3) := by decide +kernel
theorem dX9_soonestOf_99 : decode cX9_soonestOf 99 = .ok (.bipush 6, 2) := by decide +kernel
theorem dX9_soonestOf_101 : decode cX9_soonestOf 101 = .ok (.iload_n 3, 1) := by decide +kernel
theorem dX9_soonestOf_102 : decode cX9_soonestOf 102 = .ok (.imul, 1) := by decide +kernel
theorem dX9_soonestOf_103 : decode cX9_soonestOf 103 = .ok (.iload 4, 2) := by decide +kernel
theorem dX9_soonestOf_105 : decode cX9_soonestOf 105 = .ok (.iadd, 1) := by decide +kernel
theorem dX9_soonestOf_106 : decode cX9_soonestOf 106 = .ok (.baload, 1) := by decide +kernel
theorem dX9_soonestOf_107 : decode cX9_soonestOf 107 = .ok (.ifCond .ne 6, 3) := by decide +kernel
theorem dX9_soonestOf_110 : decode cX9_soonestOf 110 = .ok (.goto 48, 3) := by decide +kernel
theorem dX9_soonestOf_113 : decode cX9_soonestOf 113 = .ok (.aload_n 0, 1) := by decide +kernel
theorem dX9_soonestOf_114 : decode cX9_soonestOf 114 = .ok (.getfield 74, 3) := by decide +kernel
theorem dX9_soonestOf_117 : decode cX9_soonestOf 117 = .ok (.bipush 6, 2) := by decide +kernel
theorem dX9_soonestOf_119 : decode cX9_soonestOf 119 = .ok (.iload_n 3, 1) := by decide +kernel
theorem dX9_soonestOf_120 : decode cX9_soonestOf 120 = .ok (.iconst 1, 1) := by decide +kernel
theorem dX9_soonestOf_121 : decode cX9_soonestOf 121 = .ok (.iadd, 1) := by decide +kernel
theorem dX9_soonestOf_122 : decode cX9_soonestOf 122 = .ok (.imul, 1) := by decide +kernel
theorem dX9_soonestOf_123 : decode cX9_soonestOf 123 = .ok (.iload 4, 2) := by decide +kernel
theorem dX9_soonestOf_125 : decode cX9_soonestOf 125 = .ok (.iadd, 1) := by decide +kernel
theorem dX9_soonestOf_126 : decode cX9_soonestOf 126 = .ok (.iconst 1, 1) := by decide +kernel
theorem dX9_soonestOf_127 : decode cX9_soonestOf 127 = .ok (.bastore, 1) := by decide +kernel
theorem dX9_soonestOf_128 : decode cX9_soonestOf 128 = .ok (.aload_n 0, 1) := by decide +kernel
theorem dX9_soonestOf_129 : decode cX9_soonestOf 129 = .ok (.getfield 74, 3) := by decide +kernel
theorem dX9_soonestOf_132 : decode cX9_soonestOf 132 = .ok (.bipush 6, 2) := by decide +kernel
theorem dX9_soonestOf_134 : decode cX9_soonestOf 134 = .ok (.iload_n 3, 1) := by decide +kernel
theorem dX9_soonestOf_135 : decode cX9_soonestOf 135 = .ok (.aload_n 0, 1) := by decide +kernel
theorem dX9_soonestOf_136 : decode cX9_soonestOf 136 = .ok (.iload 4, 2) := by decide +kernel
theorem dX9_soonestOf_138 : decode cX9_soonestOf 138 = .ok (.iload_n 2, 1) := by decide +kernel
theorem dX9_soonestOf_139 : decode cX9_soonestOf 139 = .ok (.iload_n 3, 1) := by decide +kernel
theorem dX9_soonestOf_140 : decode cX9_soonestOf 140 = .ok (.iadd, 1) := by decide +kernel
theorem dX9_soonestOf_141 : decode cX9_soonestOf 141 = .ok (.invokevirtual 264, 3) := by decide +kernel
theorem dX9_soonestOf_144 : decode cX9_soonestOf 144 = .ok (.iadd, 1) := by decide +kernel
theorem dX9_soonestOf_145 : decode cX9_soonestOf 145 = .ok (.imul, 1) := by decide +kernel
theorem dX9_soonestOf_146 : decode cX9_soonestOf 146 = .ok (.aload_n 0, 1) := by decide +kernel
theorem dX9_soonestOf_147 : decode cX9_soonestOf 147 = .ok (.iload 4, 2) := by decide +kernel
theorem dX9_soonestOf_149 : decode cX9_soonestOf 149 = .ok (.iload_n 2, 1) := by decide +kernel
theorem dX9_soonestOf_150 : decode cX9_soonestOf 150 = .ok (.iload_n 3, 1) := by decide +kernel
theorem dX9_soonestOf_151 : decode cX9_soonestOf 151 = .ok (.iadd, 1) := by decide +kernel
theorem dX9_soonestOf_152 : decode cX9_soonestOf 152 = .ok (.invokevirtual 267, 3) := by decide +kernel
theorem dX9_soonestOf_155 : decode cX9_soonestOf 155 = .ok (.iadd, 1) := by decide +kernel
theorem dX9_soonestOf_156 : decode cX9_soonestOf 156 = .ok (.iconst 1, 1) := by decide +kernel
theorem dX9_soonestOf_157 : decode cX9_soonestOf 157 = .ok (.bastore, 1) := by decide +kernel
theorem dX9_soonestOf_158 : decode cX9_soonestOf 158 = .ok (.iinc 4 1, 3) := by decide +kernel
theorem dX9_soonestOf_161 : decode cX9_soonestOf 161 = .ok (.goto (-77), 3) := by decide +kernel
theorem dX9_soonestOf_164 : decode cX9_soonestOf 164 = .ok (.iinc 3 1, 3) := by decide +kernel
theorem dX9_soonestOf_167 : decode cX9_soonestOf 167 = .ok (.goto (-118), 3) := by decide +kernel
theorem dX9_soonestOf_170 : decode cX9_soonestOf 170 = .ok (.iconst (-1), 1) := by decide +kernel
theorem dX9_soonestOf_171 : decode cX9_soonestOf 171 = .ok (.ireturn, 1) := by decide +kernel
set_option maxRecDepth 20000 in
theorem ggX9_goesSoonest_X9_soonestOf : GoodIn wsX9_goesSoonest wsX9_soonestOf := goodIn_r _ [13, 1, 14, 3, 15, 16, 17, 12, 18, 19, 20, 21, 22, 23, 24, 25, 26, 27, 28, 29, 30, 31, 32, 33, 34, 35, 36, 37, 38, 39, 40, 41, 42, 43, 44, 45, 46, 47, 48, 49, 50, 51, 52, 53, 54, 55, 56, 57, 58, 59, 60, 61, 62, 63, 64, 65, 66, 67, 68, 69, 70, 71, 72, 73, 74, 75] (by decide +kernel) (by decide +kernel)
set_option maxRecDepth 20000 in
theorem gX9_goesSoonest_X9_soonestOf : GoodIn wsX9_goesSoonest (wsV RX9 328 RX9 yX9_soonestOf wsX9_soonestOf) := goodIn_app (goodIn_of _ (by decide +kernel)) ggX9_goesSoonest_X9_soonestOf
set_option maxRecDepth 20000 in
theorem ggX9_goesSoonest_X9_highOf : GoodIn wsX9_goesSoonest wsX9_highOf := goodIn_r _ [18, 19, 20, 21, 22, 12, 23, 24, 30, 31, 32, 33, 34, 35, 36, 37, 38, 39, 40, 41, 42, 43, 44, 45, 46, 47, 48, 49, 50, 51, 52, 53, 54, 55, 56, 57, 58, 59, 60, 61, 62, 63, 64, 65, 66, 67, 68, 69, 70, 71, 72, 73, 74, 75] (by decide +kernel) (by decide +kernel)
set_option maxRecDepth 20000 in
theorem gX9_goesSoonest_X9_highOf : GoodIn wsX9_goesSoonest (wsV RX9 264 RX9 yX9_highOf wsX9_highOf) := goodIn_app (goodIn_of _ (by decide +kernel)) ggX9_goesSoonest_X9_highOf
set_option maxRecDepth 20000 in
theorem ggX9_goesSoonest_X9_toOf : GoodIn wsX9_goesSoonest wsX9_toOf := goodIn_r _ [28, 29, 20, 21, 22, 12, 23, 24, 30, 31, 32, 33, 34, 35, 36, 37, 38, 39, 40, 41, 42, 43, 44, 45, 46, 47, 48, 49, 50, 51, 52, 53, 54, 55, 56, 57, 58, 59, 60, 61, 62, 63, 64, 65, 66, 67, 68, 69, 70, 71, 72, 73, 74, 75] (by decide +kernel) (by decide +kernel)
set_option maxRecDepth 20000 in
theorem gX9_goesSoonest_X9_toOf : GoodIn wsX9_goesSoonest (wsV RX9 267 RX9 yX9_toOf wsX9_toOf) := goodIn_app (goodIn_of _ (by decide +kernel)) ggX9_goesSoonest_X9_toOf
theorem dX9_goesSoonest_0 : decode cX9_goesSoonest 0 = .ok (.aload_n 0, 1) := by decide +kernel
theorem dX9_goesSoonest_1 : decode cX9_goesSoonest 1 = .ok (.getfield 55, 3) := by decide +kernel
theorem dX9_goesSoonest_4 : decode cX9_goesSoonest 4 = .ok (.iconst 3, 1) := by decide +kernel
theorem dX9_goesSoonest_5 : decode cX9_goesSoonest 5 = .ok (.iload_n 1, 1) := by decide +kernel
theorem dX9_goesSoonest_6 : decode cX9_goesSoonest 6 = .ok (.imul, 1) := by decide +kernel
theorem dX9_goesSoonest_7 : decode cX9_goesSoonest 7 = .ok (.iconst 1, 1) := by decide +kernel
theorem dX9_goesSoonest_8 : decode cX9_goesSoonest 8 = .ok (.iadd, 1) := by decide +kernel
theorem dX9_goesSoonest_9 : decode cX9_goesSoonest 9 = .ok (.iaload, 1) := by decide +kernel
theorem dX9_goesSoonest_10 : decode cX9_goesSoonest 10 = .ok (.istore_n 2, 1) := by decide +kernel
theorem dX9_goesSoonest_11 : decode cX9_goesSoonest 11 = .ok (.aload_n 0, 1) := by decide +kernel
theorem dX9_goesSoonest_12 : decode cX9_goesSoonest 12 = .ok (.getfield 55, 3) := by decide +kernel
theorem dX9_goesSoonest_15 : decode cX9_goesSoonest 15 = .ok (.iconst 3, 1) := by decide +kernel
theorem dX9_goesSoonest_16 : decode cX9_goesSoonest 16 = .ok (.iload_n 1, 1) := by decide +kernel
theorem dX9_goesSoonest_17 : decode cX9_goesSoonest 17 = .ok (.imul, 1) := by decide +kernel
theorem dX9_goesSoonest_18 : decode cX9_goesSoonest 18 = .ok (.iconst 2, 1) := by decide +kernel
theorem dX9_goesSoonest_19 : decode cX9_goesSoonest 19 = .ok (.iadd, 1) := by decide +kernel
theorem dX9_goesSoonest_20 : decode cX9_goesSoonest 20 = .ok (.iaload, 1) := by decide +kernel
theorem dX9_goesSoonest_21 : decode cX9_goesSoonest 21 = .ok (.istore_n 3, 1) := by decide +kernel
theorem dX9_goesSoonest_22 : decode cX9_goesSoonest 22 = .ok (.aload_n 0, 1) := by decide +kernel
theorem dX9_goesSoonest_23 : decode cX9_goesSoonest 23 = .ok (.aload_n 0, 1) := by decide +kernel
theorem dX9_goesSoonest_24 : decode cX9_goesSoonest 24 = .ok (.iload_n 1, 1) := by decide +kernel
theorem dX9_goesSoonest_25 : decode cX9_goesSoonest 25 = .ok (.invokevirtual 328, 3) := by decide +kernel
theorem dX9_goesSoonest_28 : decode cX9_goesSoonest 28 = .ok (.putfield 331, 3) := by decide +kernel
theorem dX9_goesSoonest_31 : decode cX9_goesSoonest 31 = .ok (.aload_n 0, 1) := by decide +kernel
theorem dX9_goesSoonest_32 : decode cX9_goesSoonest 32 = .ok (.getfield 331, 3) := by decide +kernel
theorem dX9_goesSoonest_35 : decode cX9_goesSoonest 35 = .ok (.iconst (-1), 1) := by decide +kernel
theorem dX9_goesSoonest_36 : decode cX9_goesSoonest 36 = .ok (.if_icmp .ne 5, 3) := by decide +kernel
theorem dX9_goesSoonest_39 : decode cX9_goesSoonest 39 = .ok (.iconst 0, 1) := by decide +kernel
theorem dX9_goesSoonest_40 : decode cX9_goesSoonest 40 = .ok (.ireturn, 1) := by decide +kernel
theorem dX9_goesSoonest_41 : decode cX9_goesSoonest 41 = .ok (.aload_n 0, 1) := by decide +kernel
theorem dX9_goesSoonest_42 : decode cX9_goesSoonest 42 = .ok (.getfield 331, 3) := by decide +kernel
theorem dX9_goesSoonest_45 : decode cX9_goesSoonest 45 = .ok (.istore 4, 2) := by decide +kernel
theorem dX9_goesSoonest_47 : decode cX9_goesSoonest 47 = .ok (.iload 4, 2) := by decide +kernel
theorem dX9_goesSoonest_49 : decode cX9_goesSoonest 49 = .ok (.ifCond .lt 158, 3) := by decide +kernel
theorem dX9_goesSoonest_52 : decode cX9_goesSoonest 52 = .ok (.iconst 0, 1) := by decide +kernel
theorem dX9_goesSoonest_53 : decode cX9_goesSoonest 53 = .ok (.istore 5, 2) := by decide +kernel
theorem dX9_goesSoonest_55 : decode cX9_goesSoonest 55 = .ok (.iload 5, 2) := by decide +kernel
theorem dX9_goesSoonest_57 : decode cX9_goesSoonest 57 = .ok (.aload_n 0, 1) := by decide +kernel
theorem dX9_goesSoonest_58 : decode cX9_goesSoonest 58 = .ok (.getfield 34, 3) := by decide +kernel
theorem dX9_goesSoonest_61 : decode cX9_goesSoonest 61 = .ok (.iconst 0, 1) := by decide +kernel
theorem dX9_goesSoonest_62 : decode cX9_goesSoonest 62 = .ok (.iaload, 1) := by decide +kernel
theorem dX9_goesSoonest_63 : decode cX9_goesSoonest 63 = .ok (.if_icmp .ge 138, 3) := by decide +kernel
theorem dX9_goesSoonest_66 : decode cX9_goesSoonest 66 = .ok (.iload 4, 2) := by decide +kernel
theorem dX9_goesSoonest_68 : decode cX9_goesSoonest 68 = .ok (.aload_n 0, 1) := by decide +kernel
theorem dX9_goesSoonest_69 : decode cX9_goesSoonest 69 = .ok (.getfield 331, 3) := by decide +kernel
theorem dX9_goesSoonest_72 : decode cX9_goesSoonest 72 = .ok (.if_icmp .ne 18, 3) := by decide +kernel
theorem dX9_goesSoonest_75 : decode cX9_goesSoonest 75 = .ok (.iload 5, 2) := by decide +kernel
theorem dX9_goesSoonest_77 : decode cX9_goesSoonest 77 = .ok (.iload_n 3, 1) := by decide +kernel
theorem dX9_goesSoonest_78 : decode cX9_goesSoonest 78 = .ok (.if_icmp .ne 7, 3) := by decide +kernel
theorem dX9_goesSoonest_81 : decode cX9_goesSoonest 81 = .ok (.iconst 0, 1) := by decide +kernel
theorem dX9_goesSoonest_82 : decode cX9_goesSoonest 82 = .ok (.goto 23, 3) := by decide +kernel
theorem dX9_goesSoonest_85 : decode cX9_goesSoonest 85 = .ok (.ldc 143, 2) := by decide +kernel
theorem dX9_goesSoonest_87 : decode cX9_goesSoonest 87 = .ok (.goto 18, 3) := by decide +kernel
theorem dX9_goesSoonest_90 : decode cX9_goesSoonest 90 = .ok (.aload_n 0, 1) := by decide +kernel
theorem dX9_goesSoonest_91 : decode cX9_goesSoonest 91 = .ok (.getfield 77, 3) := by decide +kernel
theorem dX9_goesSoonest_94 : decode cX9_goesSoonest 94 = .ok (.bipush 6, 2) := by decide +kernel
theorem dX9_goesSoonest_96 : decode cX9_goesSoonest 96 = .ok (.iload 4, 2) := by decide +kernel
theorem dX9_goesSoonest_98 : decode cX9_goesSoonest 98 = .ok (.iconst 1, 1) := by decide +kernel
theorem dX9_goesSoonest_99 : decode cX9_goesSoonest 99 = .ok (.iadd, 1) := by decide +kernel
theorem dX9_goesSoonest_100 : decode cX9_goesSoonest 100 = .ok (.imul, 1) := by decide +kernel
theorem dX9_goesSoonest_101 : decode cX9_goesSoonest 101 = .ok (.iload 5, 2) := by decide +kernel
theorem dX9_goesSoonest_103 : decode cX9_goesSoonest 103 = .ok (.iadd, 1) := by decide +kernel
theorem dX9_goesSoonest_104 : decode cX9_goesSoonest 104 = .ok (.iaload, 1) := by decide +kernel
theorem dX9_goesSoonest_105 : decode cX9_goesSoonest 105 = .ok (.istore 6, 2) := by decide +kernel
theorem dX9_goesSoonest_107 : decode cX9_goesSoonest 107 = .ok (.aload_n 0, 1) := by decide +kernel
theorem dX9_goesSoonest_108 : decode cX9_goesSoonest 108 = .ok (.iload 5, 2) := by decide +kernel
theorem dX9_goesSoonest_110 : decode cX9_goesSoonest 110 = .ok (.iload_n 2, 1) := by decide +kernel
theorem dX9_goesSoonest_111 : decode cX9_goesSoonest 111 = .ok (.iload 4, 2) := by decide +kernel
theorem dX9_goesSoonest_113 : decode cX9_goesSoonest 113 = .ok (.iadd, 1) := by decide +kernel
theorem dX9_goesSoonest_114 : decode cX9_goesSoonest 114 = .ok (.invokevirtual 264, 3) := by decide +kernel
theorem dX9_goesSoonest_117 : decode cX9_goesSoonest 117 = .ok (.istore 7, 2) := by decide +kernel
theorem dX9_goesSoonest_119 : decode cX9_goesSoonest 119 = .ok (.iload 7, 2) := by decide +kernel
theorem dX9_goesSoonest_121 : decode cX9_goesSoonest 121 = .ok (.ifCond .le 59, 3) := by decide +kernel
theorem dX9_goesSoonest_124 : decode cX9_goesSoonest 124 = .ok (.iload 4, 2) := by decide +kernel
theorem dX9_goesSoonest_126 : decode cX9_goesSoonest 126 = .ok (.iload 7, 2) := by decide +kernel
theorem dX9_goesSoonest_128 : decode cX9_goesSoonest 128 = .ok (.iadd, 1) := by decide +kernel
theorem dX9_goesSoonest_129 : decode cX9_goesSoonest 129 = .ok (.aload_n 0, 1) := by decide +kernel
theorem dX9_goesSoonest_130 : decode cX9_goesSoonest 130 = .ok (.getfield 331, 3) := by decide +kernel
theorem dX9_goesSoonest_133 : decode cX9_goesSoonest 133 = .ok (.if_icmp .gt 47, 3) := by decide +kernel
theorem dX9_goesSoonest_136 : decode cX9_goesSoonest 136 = .ok (.iconst 1, 1) := by decide +kernel
theorem dX9_goesSoonest_137 : decode cX9_goesSoonest 137 = .ok (.aload_n 0, 1) := by decide +kernel
theorem dX9_goesSoonest_138 : decode cX9_goesSoonest 138 = .ok (.getfield 77, 3) := by decide +kernel
theorem dX9_goesSoonest_141 : decode cX9_goesSoonest 141 = .ok (.bipush 6, 2) := by decide +kernel
theorem dX9_goesSoonest_143 : decode cX9_goesSoonest 143 = .ok (.iload 4, 2) := by decide +kernel
theorem dX9_goesSoonest_145 : decode cX9_goesSoonest 145 = .ok (.iload 7, 2) := by decide +kernel
theorem dX9_goesSoonest_147 : decode cX9_goesSoonest 147 = .ok (.iadd, 1) := by decide +kernel
theorem dX9_goesSoonest_148 : decode cX9_goesSoonest 148 = .ok (.imul, 1) := by decide +kernel
theorem dX9_goesSoonest_149 : decode cX9_goesSoonest 149 = .ok (.aload_n 0, 1) := by decide +kernel
theorem dX9_goesSoonest_150 : decode cX9_goesSoonest 150 = .ok (.iload 5, 2) := by decide +kernel
theorem dX9_goesSoonest_152 : decode cX9_goesSoonest 152 = .ok (.iload_n 2, 1) := by decide +kernel
theorem dX9_goesSoonest_153 : decode cX9_goesSoonest 153 = .ok (.iload 4, 2) := by decide +kernel
theorem dX9_goesSoonest_155 : decode cX9_goesSoonest 155 = .ok (.iadd, 1) := by decide +kernel
theorem dX9_goesSoonest_156 : decode cX9_goesSoonest 156 = .ok (.invokevirtual 267, 3) := by decide +kernel
theorem dX9_goesSoonest_159 : decode cX9_goesSoonest 159 = .ok (.iadd, 1) := by decide +kernel
theorem dX9_goesSoonest_160 : decode cX9_goesSoonest 160 = .ok (.iaload, 1) := by decide +kernel
theorem dX9_goesSoonest_161 : decode cX9_goesSoonest 161 = .ok (.iadd, 1) := by decide +kernel
theorem dX9_goesSoonest_162 : decode cX9_goesSoonest 162 = .ok (.istore 8, 2) := by decide +kernel
theorem dX9_goesSoonest_164 : decode cX9_goesSoonest 164 = .ok (.iload 8, 2) := by decide +kernel
theorem dX9_goesSoonest_166 : decode cX9_goesSoonest 166 = .ok (.iload 6, 2) := by decide +kernel
theorem dX9_goesSoonest_168 : decode cX9_goesSoonest 168 = .ok (.if_icmp .ge 8, 3) := by decide +kernel
theorem dX9_goesSoonest_171 : decode cX9_goesSoonest 171 = .ok (.iload 8, 2) := by decide +kernel
theorem dX9_goesSoonest_173 : decode cX9_goesSoonest 173 = .ok (.goto 5, 3) := by decide +kernel
theorem dX9_goesSoonest_176 : decode cX9_goesSoonest 176 = .ok (.iload 6, 2) := by decide +kernel
theorem dX9_goesSoonest_178 : decode cX9_goesSoonest 178 = .ok (.istore 6, 2) := by decide +kernel
theorem dX9_goesSoonest_180 : decode cX9_goesSoonest 180 = .ok (.aload_n 0, 1) := by decide +kernel
theorem dX9_goesSoonest_181 : decode cX9_goesSoonest 181 = .ok (.getfield 77, 3) := by decide +kernel
theorem dX9_goesSoonest_184 : decode cX9_goesSoonest 184 = .ok (.bipush 6, 2) := by decide +kernel
theorem dX9_goesSoonest_186 : decode cX9_goesSoonest 186 = .ok (.iload 4, 2) := by decide +kernel
theorem dX9_goesSoonest_188 : decode cX9_goesSoonest 188 = .ok (.imul, 1) := by decide +kernel
theorem dX9_goesSoonest_189 : decode cX9_goesSoonest 189 = .ok (.iload 5, 2) := by decide +kernel
theorem dX9_goesSoonest_191 : decode cX9_goesSoonest 191 = .ok (.iadd, 1) := by decide +kernel
theorem dX9_goesSoonest_192 : decode cX9_goesSoonest 192 = .ok (.iload 6, 2) := by decide +kernel
theorem dX9_goesSoonest_194 : decode cX9_goesSoonest 194 = .ok (.iastore, 1) := by decide +kernel
theorem dX9_goesSoonest_195 : decode cX9_goesSoonest 195 = .ok (.iinc 5 1, 3) := by decide +kernel
theorem dX9_goesSoonest_198 : decode cX9_goesSoonest 198 = .ok (.goto (-143), 3) := by decide +kernel
theorem dX9_goesSoonest_201 : decode cX9_goesSoonest 201 = .ok (.iinc 4 (-1), 3) := by decide +kernel
theorem dX9_goesSoonest_204 : decode cX9_goesSoonest 204 = .ok (.goto (-157), 3) := by decide +kernel
theorem dX9_goesSoonest_207 : decode cX9_goesSoonest 207 = .ok (.aload_n 0, 1) := by decide +kernel
theorem dX9_goesSoonest_208 : decode cX9_goesSoonest 208 = .ok (.iconst 0, 1) := by decide +kernel
theorem dX9_goesSoonest_209 : decode cX9_goesSoonest 209 = .ok (.putfield 334, 3) := by decide +kernel
theorem dX9_goesSoonest_212 : decode cX9_goesSoonest 212 = .ok (.aload_n 0, 1) := by decide +kernel
theorem dX9_goesSoonest_213 : decode cX9_goesSoonest 213 = .ok (.iconst 0, 1) := by decide +kernel
theorem dX9_goesSoonest_214 : decode cX9_goesSoonest 214 = .ok (.putfield 337, 3) := by decide +kernel
theorem dX9_goesSoonest_217 : decode cX9_goesSoonest 217 = .ok (.aload_n 0, 1) := by decide +kernel
theorem dX9_goesSoonest_218 : decode cX9_goesSoonest 218 = .ok (.getfield 55, 3) := by decide +kernel
theorem dX9_goesSoonest_221 : decode cX9_goesSoonest 221 = .ok (.iconst 3, 1) := by decide +kernel
theorem dX9_goesSoonest_222 : decode cX9_goesSoonest 222 = .ok (.iload_n 1, 1) := by decide +kernel
theorem dX9_goesSoonest_223 : decode cX9_goesSoonest 223 = .ok (.imul, 1) := by decide +kernel
theorem dX9_goesSoonest_224 : decode cX9_goesSoonest 224 = .ok (.iaload, 1) := by decide +kernel
theorem dX9_goesSoonest_225 : decode cX9_goesSoonest 225 = .ok (.istore 4, 2) := by decide +kernel
theorem dX9_goesSoonest_227 : decode cX9_goesSoonest 227 = .ok (.iconst 0, 1) := by decide +kernel
theorem dX9_goesSoonest_228 : decode cX9_goesSoonest 228 = .ok (.istore 5, 2) := by decide +kernel
theorem dX9_goesSoonest_230 : decode cX9_goesSoonest 230 = .ok (.iload 5, 2) := by decide +kernel
theorem dX9_goesSoonest_232 : decode cX9_goesSoonest 232 = .ok (.aload_n 0, 1) := by decide +kernel
theorem dX9_goesSoonest_233 : decode cX9_goesSoonest 233 = .ok (.getfield 331, 3) := by decide +kernel
theorem dX9_goesSoonest_236 : decode cX9_goesSoonest 236 = .ok (.if_icmp .ge 162, 3) := by decide +kernel
theorem dX9_goesSoonest_239 : decode cX9_goesSoonest 239 = .ok (.aload_n 0, 1) := by decide +kernel
theorem dX9_goesSoonest_240 : decode cX9_goesSoonest 240 = .ok (.iload 4, 2) := by decide +kernel
theorem dX9_goesSoonest_242 : decode cX9_goesSoonest 242 = .ok (.iload_n 2, 1) := by decide +kernel
theorem dX9_goesSoonest_243 : decode cX9_goesSoonest 243 = .ok (.iload 5, 2) := by decide +kernel
theorem dX9_goesSoonest_245 : decode cX9_goesSoonest 245 = .ok (.iadd, 1) := by decide +kernel
theorem dX9_goesSoonest_246 : decode cX9_goesSoonest 246 = .ok (.invokevirtual 264, 3) := by decide +kernel
theorem dX9_goesSoonest_249 : decode cX9_goesSoonest 249 = .ok (.istore 6, 2) := by decide +kernel
theorem dX9_goesSoonest_251 : decode cX9_goesSoonest 251 = .ok (.iload 6, 2) := by decide +kernel
theorem dX9_goesSoonest_253 : decode cX9_goesSoonest 253 = .ok (.ifCond .le 61, 3) := by decide +kernel
theorem dX9_goesSoonest_256 : decode cX9_goesSoonest 256 = .ok (.iload 5, 2) := by decide +kernel
theorem dX9_goesSoonest_258 : decode cX9_goesSoonest 258 = .ok (.iload 6, 2) := by decide +kernel
theorem dX9_goesSoonest_260 : decode cX9_goesSoonest 260 = .ok (.iadd, 1) := by decide +kernel
theorem dX9_goesSoonest_261 : decode cX9_goesSoonest 261 = .ok (.aload_n 0, 1) := by decide +kernel
theorem dX9_goesSoonest_262 : decode cX9_goesSoonest 262 = .ok (.getfield 331, 3) := by decide +kernel
theorem dX9_goesSoonest_265 : decode cX9_goesSoonest 265 = .ok (.if_icmp .gt 49, 3) := by decide +kernel
theorem dX9_goesSoonest_268 : decode cX9_goesSoonest 268 = .ok (.iconst 1, 1) := by decide +kernel
theorem dX9_goesSoonest_269 : decode cX9_goesSoonest 269 = .ok (.aload_n 0, 1) := by decide +kernel
theorem dX9_goesSoonest_270 : decode cX9_goesSoonest 270 = .ok (.getfield 77, 3) := by decide +kernel
theorem dX9_goesSoonest_273 : decode cX9_goesSoonest 273 = .ok (.bipush 6, 2) := by decide +kernel
theorem dX9_goesSoonest_275 : decode cX9_goesSoonest 275 = .ok (.iload 5, 2) := by decide +kernel
theorem dX9_goesSoonest_277 : decode cX9_goesSoonest 277 = .ok (.iload 6, 2) := by decide +kernel
theorem dX9_goesSoonest_279 : decode cX9_goesSoonest 279 = .ok (.iadd, 1) := by decide +kernel
theorem dX9_goesSoonest_280 : decode cX9_goesSoonest 280 = .ok (.imul, 1) := by decide +kernel
theorem dX9_goesSoonest_281 : decode cX9_goesSoonest 281 = .ok (.aload_n 0, 1) := by decide +kernel
theorem dX9_goesSoonest_282 : decode cX9_goesSoonest 282 = .ok (.iload 4, 2) := by decide +kernel
theorem dX9_goesSoonest_284 : decode cX9_goesSoonest 284 = .ok (.iload_n 2, 1) := by decide +kernel
theorem dX9_goesSoonest_285 : decode cX9_goesSoonest 285 = .ok (.iload 5, 2) := by decide +kernel
theorem dX9_goesSoonest_287 : decode cX9_goesSoonest 287 = .ok (.iadd, 1) := by decide +kernel
theorem dX9_goesSoonest_288 : decode cX9_goesSoonest 288 = .ok (.invokevirtual 267, 3) := by decide +kernel
theorem dX9_goesSoonest_291 : decode cX9_goesSoonest 291 = .ok (.iadd, 1) := by decide +kernel
theorem dX9_goesSoonest_292 : decode cX9_goesSoonest 292 = .ok (.iaload, 1) := by decide +kernel
theorem dX9_goesSoonest_293 : decode cX9_goesSoonest 293 = .ok (.iadd, 1) := by decide +kernel
theorem dX9_goesSoonest_294 : decode cX9_goesSoonest 294 = .ok (.aload_n 0, 1) := by decide +kernel
theorem dX9_goesSoonest_295 : decode cX9_goesSoonest 295 = .ok (.getfield 77, 3) := by decide +kernel
theorem dX9_goesSoonest_298 : decode cX9_goesSoonest 298 = .ok (.bipush 6, 2) := by decide +kernel
theorem dX9_goesSoonest_300 : decode cX9_goesSoonest 300 = .ok (.iload 5, 2) := by decide +kernel
theorem dX9_goesSoonest_302 : decode cX9_goesSoonest 302 = .ok (.imul, 1) := by decide +kernel
theorem dX9_goesSoonest_303 : decode cX9_goesSoonest 303 = .ok (.iload 4, 2) := by decide +kernel
theorem dX9_goesSoonest_305 : decode cX9_goesSoonest 305 = .ok (.iadd, 1) := by decide +kernel
theorem dX9_goesSoonest_306 : decode cX9_goesSoonest 306 = .ok (.iaload, 1) := by decide +kernel
theorem dX9_goesSoonest_307 : decode cX9_goesSoonest 307 = .ok (.if_icmp .ne 7, 3) := by decide +kernel
theorem dX9_goesSoonest_310 : decode cX9_goesSoonest 310 = .ok (.iconst 1, 1) := by decide +kernel
theorem dX9_goesSoonest_311 : decode cX9_goesSoonest 311 = .ok (.goto 4, 3) := by decide +kernel
theorem dX9_goesSoonest_314 : decode cX9_goesSoonest 314 = .ok (.iconst 0, 1) := by decide +kernel
theorem dX9_goesSoonest_315 : decode cX9_goesSoonest 315 = .ok (.istore 7, 2) := by decide +kernel
theorem dX9_goesSoonest_317 : decode cX9_goesSoonest 317 = .ok (.iload 7, 2) := by decide +kernel
theorem dX9_goesSoonest_319 : decode cX9_goesSoonest 319 = .ok (.ifCond .ne 19, 3) := by decide +kernel
theorem dX9_goesSoonest_322 : decode cX9_goesSoonest 322 = .ok (.aload_n 0, 1) := by decide +kernel
theorem dX9_goesSoonest_323 : decode cX9_goesSoonest 323 = .ok (.dup, 1) := by decide +kernel
theorem dX9_goesSoonest_324 : decode cX9_goesSoonest 324 = .ok (.getfield 337, 3) := by decide +kernel
theorem dX9_goesSoonest_327 : decode cX9_goesSoonest 327 = .ok (.iconst 1, 1) := by decide +kernel
theorem dX9_goesSoonest_328 : decode cX9_goesSoonest 328 = .ok (.iadd, 1) := by decide +kernel
theorem dX9_goesSoonest_329 : decode cX9_goesSoonest 329 = .ok (.putfield 337, 3) := by decide +kernel
theorem dX9_goesSoonest_332 : decode cX9_goesSoonest 332 = .ok (.iinc 5 1, 3) := by decide +kernel
theorem dX9_goesSoonest_335 : decode cX9_goesSoonest 335 = .ok (.goto (-105), 3) := by decide +kernel
theorem dX9_goesSoonest_338 : decode cX9_goesSoonest 338 = .ok (.aload_n 0, 1) := by decide +kernel
theorem dX9_goesSoonest_339 : decode cX9_goesSoonest 339 = .ok (.getfield 334, 3) := by decide +kernel
theorem dX9_goesSoonest_342 : decode cX9_goesSoonest 342 = .ok (.bipush 100, 2) := by decide +kernel
theorem dX9_goesSoonest_344 : decode cX9_goesSoonest 344 = .ok (.if_icmp .ge 22, 3) := by decide +kernel
theorem dX9_goesSoonest_347 : decode cX9_goesSoonest 347 = .ok (.aload_n 0, 1) := by decide +kernel
theorem dX9_goesSoonest_348 : decode cX9_goesSoonest 348 = .ok (.getfield 80, 3) := by decide +kernel
theorem dX9_goesSoonest_351 : decode cX9_goesSoonest 351 = .ok (.aload_n 0, 1) := by decide +kernel
theorem dX9_goesSoonest_352 : decode cX9_goesSoonest 352 = .ok (.getfield 334, 3) := by decide +kernel
theorem dX9_goesSoonest_355 : decode cX9_goesSoonest 355 = .ok (.bipush 10, 2) := by decide +kernel
theorem dX9_goesSoonest_357 : decode cX9_goesSoonest 357 = .ok (.iload_n 2, 1) := by decide +kernel
theorem dX9_goesSoonest_358 : decode cX9_goesSoonest 358 = .ok (.iload 5, 2) := by decide +kernel
theorem dX9_goesSoonest_360 : decode cX9_goesSoonest 360 = .ok (.iadd, 1) := by decide +kernel
theorem dX9_goesSoonest_361 : decode cX9_goesSoonest 361 = .ok (.imul, 1) := by decide +kernel
theorem dX9_goesSoonest_362 : decode cX9_goesSoonest 362 = .ok (.iload 4, 2) := by decide +kernel
theorem dX9_goesSoonest_364 : decode cX9_goesSoonest 364 = .ok (.iadd, 1) := by decide +kernel
theorem dX9_goesSoonest_365 : decode cX9_goesSoonest 365 = .ok (.iastore, 1) := by decide +kernel
theorem dX9_goesSoonest_366 : decode cX9_goesSoonest 366 = .ok (.aload_n 0, 1) := by decide +kernel
theorem dX9_goesSoonest_367 : decode cX9_goesSoonest 367 = .ok (.dup, 1) := by decide +kernel
theorem dX9_goesSoonest_368 : decode cX9_goesSoonest 368 = .ok (.getfield 334, 3) := by decide +kernel
theorem dX9_goesSoonest_371 : decode cX9_goesSoonest 371 = .ok (.iconst 1, 1) := by decide +kernel
theorem dX9_goesSoonest_372 : decode cX9_goesSoonest 372 = .ok (.iadd, 1) := by decide +kernel
theorem dX9_goesSoonest_373 : decode cX9_goesSoonest 373 = .ok (.putfield 334, 3) := by decide +kernel
theorem dX9_goesSoonest_376 : decode cX9_goesSoonest 376 = .ok (.aload_n 0, 1) := by decide +kernel
theorem dX9_goesSoonest_377 : decode cX9_goesSoonest 377 = .ok (.iload 4, 2) := by decide +kernel
theorem dX9_goesSoonest_379 : decode cX9_goesSoonest 379 = .ok (.iload_n 2, 1) := by decide +kernel
theorem dX9_goesSoonest_380 : decode cX9_goesSoonest 380 = .ok (.iload 5, 2) := by decide +kernel
theorem dX9_goesSoonest_382 : decode cX9_goesSoonest 382 = .ok (.iadd, 1) := by decide +kernel
theorem dX9_goesSoonest_383 : decode cX9_goesSoonest 383 = .ok (.invokevirtual 267, 3) := by decide +kernel
theorem dX9_goesSoonest_386 : decode cX9_goesSoonest 386 = .ok (.istore 4, 2) := by decide +kernel
theorem dX9_goesSoonest_388 : decode cX9_goesSoonest 388 = .ok (.iload 5, 2) := by decide +kernel
theorem dX9_goesSoonest_390 : decode cX9_goesSoonest 390 = .ok (.iload 6, 2) := by decide +kernel
theorem dX9_goesSoonest_392 : decode cX9_goesSoonest 392 = .ok (.iadd, 1) := by decide +kernel
theorem dX9_goesSoonest_393 : decode cX9_goesSoonest 393 = .ok (.istore 5, 2) := by decide +kernel
theorem dX9_goesSoonest_395 : decode cX9_goesSoonest 395 = .ok (.goto (-165), 3) := by decide +kernel
theorem dX9_goesSoonest_398 : decode cX9_goesSoonest 398 = .ok (.iconst 1, 1) := by decide +kernel
theorem dX9_goesSoonest_399 : decode cX9_goesSoonest 399 = .ok (.ireturn, 1) := by decide +kernel
set_option maxRecDepth 20000 in
theorem ggX9_soonest_X9_isLetter : GoodIn wsX9_soonest wsX9_isLetter := goodIn_r _ [11, 12, 13, 14, 10, 15, 44, 45, 46, 47, 48, 49, 50, 51, 52, 53, 54, 55, 56, 57, 58, 59, 60, 61, 62, 63, 64, 65, 66, 67, 68, 69, 70, 71, 72, 73, 74, 75, 76, 77, 78, 79, 80, 81, 82, 83, 84, 85, 86, 87, 88, 89] (by decide +kernel) (by decide +kernel)
set_option maxRecDepth 20000 in
theorem gX9_soonest_X9_isLetter : GoodIn wsX9_soonest (wsV RX9 325 RX9 yX9_isLetter wsX9_isLetter) := goodIn_app (goodIn_of _ (by decide +kernel)) ggX9_soonest_X9_isLetter
set_option maxRecDepth 20000 in
theorem ggX9_soonest_X9_in : GoodIn wsX9_soonest wsX9_in := goodIn_r _ [15] (by decide +kernel) (by decide +kernel)
set_option maxRecDepth 20000 in
theorem gX9_soonest_X9_in : GoodIn wsX9_soonest (va_wsS RX9 97 yX9_in wsX9_in) := goodIn_app (goodIn_of _ (by decide +kernel)) ggX9_soonest_X9_in
set_option maxRecDepth 20000 in
theorem ggX9_soonest_X9_goesSoonest : GoodIn wsX9_soonest wsX9_goesSoonest := goodIn_r _ [19, 3, 4, 20, 21, 22, 5, 6, 23, 24, 25, 26, 10, 27, 28, 29, 30, 31, 32, 33, 34, 35, 36, 37, 38, 39, 40, 41, 42, 43, 44, 45, 46, 47, 48, 49, 50, 51, 52, 53, 54, 55, 56, 57, 58, 59, 60, 61, 62, 63, 64, 65, 66, 67, 68, 69, 70, 71, 72, 73, 74, 75, 76, 77, 78, 79, 80, 81, 82, 83, 84, 85, 86, 87, 88, 89] (by decide +kernel) (by decide +kernel)
set_option maxRecDepth 20000 in
theorem gX9_soonest_X9_goesSoonest : GoodIn wsX9_soonest (wsV RX9 340 RX9 yX9_goesSoonest wsX9_goesSoonest) := goodIn_app (goodIn_of _ (by decide +kernel)) ggX9_soonest_X9_goesSoonest
theorem dX9_soonest_0 : decode cX9_soonest 0 = .ok (.aload_n 0, 1) := by decide +kernel
theorem dX9_soonest_1 : decode cX9_soonest 1 = .ok (.iconst 0, 1) := by decide +kernel
theorem dX9_soonest_2 : decode cX9_soonest 2 = .ok (.putfield 92, 3) := by decide +kernel
theorem dX9_soonest_5 : decode cX9_soonest 5 = .ok (.aload_n 0, 1) := by decide +kernel
theorem dX9_soonest_6 : decode cX9_soonest 6 = .ok (.iload_n 1, 1) := by decide +kernel
theorem dX9_soonest_7 : decode cX9_soonest 7 = .ok (.invokevirtual 325, 3) := by decide +kernel
theorem dX9_soonest_10 : decode cX9_soonest 10 = .ok (.ifCond .eq 15, 3) := by decide +kernel
theorem dX9_soonest_13 : decode cX9_soonest 13 = .ok (.iload_n 2, 1) := by decide +kernel
theorem dX9_soonest_14 : decode cX9_soonest 14 = .ok (.i2l, 1) := by decide +kernel
theorem dX9_soonest_15 : decode cX9_soonest 15 = .ok (.lconst 0, 1) := by decide +kernel
theorem dX9_soonest_16 : decode cX9_soonest 16 = .ok (.ldc2_w 262, 3) := by decide +kernel
theorem dX9_soonest_19 : decode cX9_soonest 19 = .ok (.invokestatic 97, 3) := by decide +kernel
theorem dX9_soonest_22 : decode cX9_soonest 22 = .ok (.ifCond .ne 6, 3) := by decide +kernel
theorem dX9_soonest_25 : decode cX9_soonest 25 = .ok (.bipush (-2), 2) := by decide +kernel
theorem dX9_soonest_27 : decode cX9_soonest 27 = .ok (.ireturn, 1) := by decide +kernel
theorem dX9_soonest_28 : decode cX9_soonest 28 = .ok (.aload_n 0, 1) := by decide +kernel
theorem dX9_soonest_29 : decode cX9_soonest 29 = .ok (.iload_n 1, 1) := by decide +kernel
theorem dX9_soonest_30 : decode cX9_soonest 30 = .ok (.invokevirtual 340, 3) := by decide +kernel
theorem dX9_soonest_33 : decode cX9_soonest 33 = .ok (.ifCond .ne 5, 3) := by decide +kernel
theorem dX9_soonest_36 : decode cX9_soonest 36 = .ok (.iconst (-1), 1) := by decide +kernel
theorem dX9_soonest_37 : decode cX9_soonest 37 = .ok (.ireturn, 1) := by decide +kernel
theorem dX9_soonest_38 : decode cX9_soonest 38 = .ok (.iload_n 2, 1) := by decide +kernel
theorem dX9_soonest_39 : decode cX9_soonest 39 = .ok (.ifCond .ne 21, 3) := by decide +kernel
theorem dX9_soonest_42 : decode cX9_soonest 42 = .ok (.aload_n 0, 1) := by decide +kernel
theorem dX9_soonest_43 : decode cX9_soonest 43 = .ok (.getfield 55, 3) := by decide +kernel
theorem dX9_soonest_46 : decode cX9_soonest 46 = .ok (.iconst 3, 1) := by decide +kernel
theorem dX9_soonest_47 : decode cX9_soonest 47 = .ok (.iload_n 1, 1) := by decide +kernel
theorem dX9_soonest_48 : decode cX9_soonest 48 = .ok (.imul, 1) := by decide +kernel
theorem dX9_soonest_49 : decode cX9_soonest 49 = .ok (.iconst 1, 1) := by decide +kernel
theorem dX9_soonest_50 : decode cX9_soonest 50 = .ok (.iadd, 1) := by decide +kernel
theorem dX9_soonest_51 : decode cX9_soonest 51 = .ok (.iaload, 1) := by decide +kernel
theorem dX9_soonest_52 : decode cX9_soonest 52 = .ok (.aload_n 0, 1) := by decide +kernel
theorem dX9_soonest_53 : decode cX9_soonest 53 = .ok (.getfield 331, 3) := by decide +kernel
theorem dX9_soonest_56 : decode cX9_soonest 56 = .ok (.iadd, 1) := by decide +kernel
theorem dX9_soonest_57 : decode cX9_soonest 57 = .ok (.goto 19, 3) := by decide +kernel
theorem dX9_soonest_60 : decode cX9_soonest 60 = .ok (.iload_n 2, 1) := by decide +kernel
theorem dX9_soonest_61 : decode cX9_soonest 61 = .ok (.iconst 1, 1) := by decide +kernel
theorem dX9_soonest_62 : decode cX9_soonest 62 = .ok (.if_icmp .ne 10, 3) := by decide +kernel
theorem dX9_soonest_65 : decode cX9_soonest 65 = .ok (.aload_n 0, 1) := by decide +kernel
theorem dX9_soonest_66 : decode cX9_soonest 66 = .ok (.getfield 334, 3) := by decide +kernel
theorem dX9_soonest_69 : decode cX9_soonest 69 = .ok (.goto 7, 3) := by decide +kernel
theorem dX9_soonest_72 : decode cX9_soonest 72 = .ok (.aload_n 0, 1) := by decide +kernel
theorem dX9_soonest_73 : decode cX9_soonest 73 = .ok (.getfield 337, 3) := by decide +kernel
theorem dX9_soonest_76 : decode cX9_soonest 76 = .ok (.ireturn, 1) := by decide +kernel
set_option maxRecDepth 20000 in
theorem ggX9_way_X9_isLetter : GoodIn wsX9_way wsX9_isLetter := goodIn_r _ [8, 9, 10, 11, 7, 12, 43, 44, 45, 46, 47, 48, 49, 50, 51, 52, 53, 54, 55, 56, 57, 58, 59, 60, 61, 62, 63, 64, 65, 66, 67, 68, 69, 70, 71, 72, 73, 74, 75, 76, 77, 78, 79, 80, 81, 82, 83, 84, 85, 86, 87, 88] (by decide +kernel) (by decide +kernel)
set_option maxRecDepth 20000 in
theorem gX9_way_X9_isLetter : GoodIn wsX9_way (wsV RX9 325 RX9 yX9_isLetter wsX9_isLetter) := goodIn_app (goodIn_of _ (by decide +kernel)) ggX9_way_X9_isLetter
set_option maxRecDepth 20000 in
theorem ggX9_way_X9_goesSoonest : GoodIn wsX9_way wsX9_goesSoonest := goodIn_r _ [16, 17, 18, 19, 20, 21, 2, 22, 3, 23, 24, 25, 7, 26, 27, 28, 29, 30, 31, 32, 33, 34, 35, 36, 37, 38, 39, 40, 41, 42, 43, 44, 45, 46, 47, 48, 49, 50, 51, 52, 53, 54, 55, 56, 57, 58, 59, 60, 61, 62, 63, 64, 65, 66, 67, 68, 69, 70, 71, 72, 73, 74, 75, 76, 77, 78, 79, 80, 81, 82, 83, 84, 85, 86, 87, 88] (by decide +kernel) (by decide +kernel)
set_option maxRecDepth 20000 in
theorem gX9_way_X9_goesSoonest : GoodIn wsX9_way (wsV RX9 340 RX9 yX9_goesSoonest wsX9_goesSoonest) := goodIn_app (goodIn_of _ (by decide +kernel)) ggX9_way_X9_goesSoonest
set_option maxRecDepth 20000 in
theorem ggX9_way_X9_in : GoodIn wsX9_way wsX9_in := goodIn_r _ [12] (by decide +kernel) (by decide +kernel)
set_option maxRecDepth 20000 in
theorem gX9_way_X9_in : GoodIn wsX9_way (va_wsS RX9 97 yX9_in wsX9_in) := goodIn_app (goodIn_of _ (by decide +kernel)) ggX9_way_X9_in
theorem dX9_way_0 : decode cX9_way 0 = .ok (.aload_n 0, 1) := by decide +kernel
theorem dX9_way_1 : decode cX9_way 1 = .ok (.iconst 0, 1) := by decide +kernel
theorem dX9_way_2 : decode cX9_way 2 = .ok (.putfield 92, 3) := by decide +kernel
theorem dX9_way_5 : decode cX9_way 5 = .ok (.aload_n 0, 1) := by decide +kernel
theorem dX9_way_6 : decode cX9_way 6 = .ok (.iload_n 1, 1) := by decide +kernel
theorem dX9_way_7 : decode cX9_way 7 = .ok (.invokevirtual 325, 3) := by decide +kernel
theorem dX9_way_10 : decode cX9_way 10 = .ok (.ifCond .ne 6, 3) := by decide +kernel
theorem dX9_way_13 : decode cX9_way 13 = .ok (.bipush (-2), 2) := by decide +kernel
theorem dX9_way_15 : decode cX9_way 15 = .ok (.ireturn, 1) := by decide +kernel
theorem dX9_way_16 : decode cX9_way 16 = .ok (.aload_n 0, 1) := by decide +kernel
theorem dX9_way_17 : decode cX9_way 17 = .ok (.iload_n 1, 1) := by decide +kernel
theorem dX9_way_18 : decode cX9_way 18 = .ok (.invokevirtual 340, 3) := by decide +kernel
theorem dX9_way_21 : decode cX9_way 21 = .ok (.ifCond .eq 28, 3) := by decide +kernel
theorem dX9_way_24 : decode cX9_way 24 = .ok (.iload_n 2, 1) := by decide +kernel
theorem dX9_way_25 : decode cX9_way 25 = .ok (.i2l, 1) := by decide +kernel
theorem dX9_way_26 : decode cX9_way 26 = .ok (.lconst 0, 1) := by decide +kernel
theorem dX9_way_27 : decode cX9_way 27 = .ok (.aload_n 0, 1) := by decide +kernel
theorem dX9_way_28 : decode cX9_way 28 = .ok (.getfield 334, 3) := by decide +kernel
theorem dX9_way_31 : decode cX9_way 31 = .ok (.iconst 1, 1) := by decide +kernel
theorem dX9_way_32 : decode cX9_way 32 = .ok (.isub, 1) := by decide +kernel
theorem dX9_way_33 : decode cX9_way 33 = .ok (.i2l, 1) := by decide +kernel
theorem dX9_way_34 : decode cX9_way 34 = .ok (.invokestatic 97, 3) := by decide +kernel
theorem dX9_way_37 : decode cX9_way 37 = .ok (.ifCond .eq 12, 3) := by decide +kernel
theorem dX9_way_40 : decode cX9_way 40 = .ok (.aload_n 0, 1) := by decide +kernel
theorem dX9_way_41 : decode cX9_way 41 = .ok (.getfield 80, 3) := by decide +kernel
theorem dX9_way_44 : decode cX9_way 44 = .ok (.iload_n 2, 1) := by decide +kernel
theorem dX9_way_45 : decode cX9_way 45 = .ok (.iaload, 1) := by decide +kernel
theorem dX9_way_46 : decode cX9_way 46 = .ok (.goto 4, 3) := by decide +kernel
theorem dX9_way_49 : decode cX9_way 49 = .ok (.iconst (-1), 1) := by decide +kernel
theorem dX9_way_50 : decode cX9_way 50 = .ok (.ireturn, 1) := by decide +kernel
set_option maxRecDepth 20000 in
theorem ggX9_readers_X9_isLetter : GoodIn wsX9_readers wsX9_isLetter := goodIn_r _ [9, 10, 11, 12, 8, 13, 58, 59, 60, 61, 62, 63, 64, 65, 66, 67, 68, 69, 70, 71, 72, 73, 74, 75, 76, 77, 78, 79, 80, 81, 82, 83, 84, 85, 86, 87, 88, 89, 90, 91, 92, 93, 94, 95, 96, 97, 98, 99, 100, 101, 102, 103] (by decide +kernel) (by decide +kernel)
set_option maxRecDepth 20000 in
theorem gX9_readers_X9_isLetter : GoodIn wsX9_readers (wsV RX9 325 RX9 yX9_isLetter wsX9_isLetter) := goodIn_app (goodIn_of _ (by decide +kernel)) ggX9_readers_X9_isLetter
set_option maxRecDepth 20000 in
theorem ggX9_readers_X9_isBeat : GoodIn wsX9_readers wsX9_isBeat := goodIn_r _ [16, 17, 11, 12, 8, 13] (by decide +kernel) (by decide +kernel)
set_option maxRecDepth 20000 in
theorem gX9_readers_X9_isBeat : GoodIn wsX9_readers (va_wsS RX9 259 yX9_isBeat wsX9_isBeat) := goodIn_app (goodIn_of _ (by decide +kernel)) ggX9_readers_X9_isBeat
set_option maxRecDepth 20000 in
theorem ggX9_readers_X9_starts : GoodIn wsX9_readers wsX9_starts := goodIn_r _ [21, 4, 3, 22, 23, 24, 8, 25, 26, 27, 28, 29, 30, 31, 32, 33, 34, 35, 36, 37, 38, 39, 40, 41, 42, 43, 44, 45, 46, 47, 48, 49, 50, 51, 52, 53, 58, 59, 60, 61, 62, 63, 64, 65, 66, 67, 68, 69, 70, 71, 72, 73, 74, 75, 76, 77, 78, 79, 80, 81, 82, 83, 84, 85, 86, 87, 88, 89, 90, 91, 92, 93, 94, 95, 96, 97, 98, 99, 100, 101, 102, 103] (by decide +kernel) (by decide +kernel)
set_option maxRecDepth 20000 in
theorem gX9_readers_X9_starts : GoodIn wsX9_readers (wsV RX9 303 RX9 yX9_starts wsX9_starts) := goodIn_app (goodIn_of _ (by decide +kernel)) ggX9_readers_X9_starts
set_option maxRecDepth 20000 in
theorem ggX9_readers_X9_follows : GoodIn wsX9_readers wsX9_follows := goodIn_r _ [57, 4, 3, 40, 41, 42, 8, 43, 44, 45, 46, 47, 48, 31, 49, 50, 51, 52, 53, 58, 59, 60, 61, 62, 63, 64, 65, 66, 67, 68, 69, 70, 71, 72, 73, 74, 75, 76, 77, 78, 79, 80, 81, 82, 83, 84, 85, 86, 87, 88, 89, 90, 91, 92, 93, 94, 95, 96, 97, 98, 99, 100, 101, 102, 103] (by decide +kernel) (by decide +kernel)
set_option maxRecDepth 20000 in
theorem gX9_readers_X9_follows : GoodIn wsX9_readers (wsV RX9 306 RX9 yX9_follows wsX9_follows) := goodIn_app (goodIn_of _ (by decide +kernel)) ggX9_readers_X9_follows
theorem dX9_readers_0 : decode cX9_readers 0 = .ok (.aload_n 0, 1) := by decide +kernel
theorem dX9_readers_1 : decode cX9_readers 1 = .ok (.iconst 0, 1) := by decide +kernel
theorem dX9_readers_2 : decode cX9_readers 2 = .ok (.putfield 92, 3) := by decide +kernel
theorem dX9_readers_5 : decode cX9_readers 5 = .ok (.aload_n 0, 1) := by decide +kernel
theorem dX9_readers_6 : decode cX9_readers 6 = .ok (.iload_n 1, 1) := by decide +kernel
theorem dX9_readers_7 : decode cX9_readers 7 = .ok (.invokevirtual 325, 3) := by decide +kernel
theorem dX9_readers_10 : decode cX9_readers 10 = .ok (.ifCond .eq 10, 3) := by decide +kernel
theorem dX9_readers_13 : decode cX9_readers 13 = .ok (.iload_n 2, 1) := by decide +kernel
theorem dX9_readers_14 : decode cX9_readers 14 = .ok (.invokestatic 259, 3) := by decide +kernel
theorem dX9_readers_17 : decode cX9_readers 17 = .ok (.ifCond .ne 6, 3) := by decide +kernel
theorem dX9_readers_20 : decode cX9_readers 20 = .ok (.bipush (-2), 2) := by decide +kernel
theorem dX9_readers_22 : decode cX9_readers 22 = .ok (.ireturn, 1) := by decide +kernel
theorem dX9_readers_23 : decode cX9_readers 23 = .ok (.aload_n 0, 1) := by decide +kernel
theorem dX9_readers_24 : decode cX9_readers 24 = .ok (.aload_n 0, 1) := by decide +kernel
theorem dX9_readers_25 : decode cX9_readers 25 = .ok (.getfield 55, 3) := by decide +kernel
theorem dX9_readers_28 : decode cX9_readers 28 = .ok (.iconst 3, 1) := by decide +kernel
theorem dX9_readers_29 : decode cX9_readers 29 = .ok (.iload_n 1, 1) := by decide +kernel
theorem dX9_readers_30 : decode cX9_readers 30 = .ok (.imul, 1) := by decide +kernel
theorem dX9_readers_31 : decode cX9_readers 31 = .ok (.iaload, 1) := by decide +kernel
theorem dX9_readers_32 : decode cX9_readers 32 = .ok (.aload_n 0, 1) := by decide +kernel
theorem dX9_readers_33 : decode cX9_readers 33 = .ok (.getfield 55, 3) := by decide +kernel
theorem dX9_readers_36 : decode cX9_readers 36 = .ok (.iconst 3, 1) := by decide +kernel
theorem dX9_readers_37 : decode cX9_readers 37 = .ok (.iload_n 1, 1) := by decide +kernel
theorem dX9_readers_38 : decode cX9_readers 38 = .ok (.imul, 1) := by decide +kernel
theorem dX9_readers_39 : decode cX9_readers 39 = .ok (.iconst 1, 1) := by decide +kernel
theorem dX9_readers_40 : decode cX9_readers 40 = .ok (.iadd, 1) := by decide +kernel
theorem dX9_readers_41 : decode cX9_readers 41 = .ok (.iaload, 1) := by decide +kernel
theorem dX9_readers_42 : decode cX9_readers 42 = .ok (.invokevirtual 303, 3) := by decide +kernel
theorem dX9_readers_45 : decode cX9_readers 45 = .ok (.ifCond .ne 5, 3) := by decide +kernel
theorem dX9_readers_48 : decode cX9_readers 48 = .ok (.iconst (-1), 1) := by decide +kernel
theorem dX9_readers_49 : decode cX9_readers 49 = .ok (.ireturn, 1) := by decide +kernel
theorem dX9_readers_50 : decode cX9_readers 50 = .ok (.iconst 0, 1) := by decide +kernel
theorem dX9_readers_51 : decode cX9_readers 51 = .ok (.istore_n 3, 1) := by decide +kernel
theorem dX9_readers_52 : decode cX9_readers 52 = .ok (.aload_n 0, 1) := by decide +kernel
theorem dX9_readers_53 : decode cX9_readers 53 = .ok (.getfield 295, 3) := by decide +kernel
theorem dX9_readers_56 : decode cX9_readers 56 = .ok (.iload_n 2, 1) := by decide +kernel
theorem dX9_readers_57 : decode cX9_readers 57 = .ok (.if_icmp .gt 19, 3) := by decide +kernel
theorem dX9_readers_60 : decode cX9_readers 60 = .ok (.iload_n 3, 1) := by decide +kernel
theorem dX9_readers_61 : decode cX9_readers 61 = .ok (.iconst 1, 1) := by decide +kernel
theorem dX9_readers_62 : decode cX9_readers 62 = .ok (.aload_n 0, 1) := by decide +kernel
theorem dX9_readers_63 : decode cX9_readers 63 = .ok (.getfield 292, 3) := by decide +kernel
theorem dX9_readers_66 : decode cX9_readers 66 = .ok (.ishl, 1) := by decide +kernel
theorem dX9_readers_67 : decode cX9_readers 67 = .ok (.ior, 1) := by decide +kernel
theorem dX9_readers_68 : decode cX9_readers 68 = .ok (.istore_n 3, 1) := by decide +kernel
theorem dX9_readers_69 : decode cX9_readers 69 = .ok (.aload_n 0, 1) := by decide +kernel
theorem dX9_readers_70 : decode cX9_readers 70 = .ok (.invokevirtual 306, 3) := by decide +kernel
theorem dX9_readers_73 : decode cX9_readers 73 = .ok (.goto (-21), 3) := by decide +kernel
theorem dX9_readers_76 : decode cX9_readers 76 = .ok (.iload_n 3, 1) := by decide +kernel
theorem dX9_readers_77 : decode cX9_readers 77 = .ok (.ireturn, 1) := by decide +kernel
set_option maxRecDepth 20000 in
theorem ggX9_misses_X9_isToss : GoodIn wsX9_misses wsX9_isToss := goodIn_r _ [8, 9, 10, 11, 7, 12, 13, 14, 15, 16, 17, 18, 19, 20, 60, 61, 62, 63, 64, 65, 66, 67, 68, 69, 70, 71, 72, 73, 74, 75, 76, 77, 78, 79, 80, 81, 82, 83, 84, 85, 86, 87, 88, 89, 90, 91, 92, 93, 94, 95, 96, 97, 98, 99, 100, 101, 102, 103, 104, 105] (by decide +kernel) (by decide +kernel)
set_option maxRecDepth 20000 in
theorem gX9_misses_X9_isToss : GoodIn wsX9_misses (wsV RX9 298 RX9 yX9_isToss wsX9_isToss) := goodIn_app (goodIn_of _ (by decide +kernel)) ggX9_misses_X9_isToss
set_option maxRecDepth 20000 in
theorem ggX9_misses_X9_isRoof : GoodIn wsX9_misses wsX9_isRoof := goodIn_r _ [12, 13, 14, 15, 7, 16, 60, 61, 62, 63, 64, 65, 66, 67, 68, 69, 70, 71, 72, 73, 74, 75, 76, 77, 78, 79, 80, 81, 82, 83, 84, 85, 86, 87, 88, 89, 90, 91, 92, 93, 94, 95, 96, 97, 98, 99, 100, 101, 102, 103, 104, 105] (by decide +kernel) (by decide +kernel)
set_option maxRecDepth 20000 in
theorem gX9_misses_X9_isRoof : GoodIn wsX9_misses (wsV RX9 256 RX9 yX9_isRoof wsX9_isRoof) := goodIn_app (goodIn_of _ (by decide +kernel)) ggX9_misses_X9_isRoof
set_option maxRecDepth 20000 in
theorem ggX9_misses_X9_starts : GoodIn wsX9_misses wsX9_starts := goodIn_r _ [24, 2, 3, 25, 26, 27, 7, 28, 13, 29, 30, 31, 32, 33, 34, 35, 36, 37, 38, 39, 40, 41, 42, 43, 44, 45, 46, 47, 48, 49, 50, 51, 52, 53, 54, 55, 60, 61, 62, 63, 64, 65, 66, 67, 68, 69, 70, 71, 72, 73, 74, 75, 76, 77, 78, 79, 80, 81, 82, 83, 84, 85, 86, 87, 88, 89, 90, 91, 92, 93, 94, 95, 96, 97, 98, 99, 100, 101, 102, 103, 104, 105] (by decide +kernel) (by decide +kernel)
set_option maxRecDepth 20000 in
theorem gX9_misses_X9_starts : GoodIn wsX9_misses (wsV RX9 303 RX9 yX9_starts wsX9_starts) := goodIn_app (goodIn_of _ (by decide +kernel)) ggX9_misses_X9_starts
set_option maxRecDepth 20000 in
theorem ggX9_misses_X9_round : GoodIn wsX9_misses wsX9_round := goodIn_r _ [32, 13, 33, 60, 61, 62, 63, 64, 65, 66, 67, 68, 69, 70, 71, 72, 73, 74, 75, 76, 77, 78, 79, 80, 81, 82, 83, 84, 85, 86, 87, 88, 89, 90, 91, 92, 93, 94, 95, 96, 97, 98, 99, 100, 101, 102, 103, 104, 105] (by decide +kernel) (by decide +kernel)
set_option maxRecDepth 20000 in
theorem gX9_misses_X9_round : GoodIn wsX9_misses (wsV RX9 273 RX9 yX9_round wsX9_round) := goodIn_app (goodIn_of _ (by decide +kernel)) ggX9_misses_X9_round
set_option maxRecDepth 20000 in
theorem ggX9_misses_X9_follows : GoodIn wsX9_misses wsX9_follows := goodIn_r _ [59, 2, 3, 42, 43, 44, 7, 45, 46, 47, 48, 49, 50, 33, 51, 52, 53, 54, 55, 60, 61, 62, 63, 64, 65, 66, 67, 68, 69, 70, 71, 72, 73, 74, 75, 76, 77, 78, 79, 80, 81, 82, 83, 84, 85, 86, 87, 88, 89, 90, 91, 92, 93, 94, 95, 96, 97, 98, 99, 100, 101, 102, 103, 104, 105] (by decide +kernel) (by decide +kernel)
set_option maxRecDepth 20000 in
theorem gX9_misses_X9_follows : GoodIn wsX9_misses (wsV RX9 306 RX9 yX9_follows wsX9_follows) := goodIn_app (goodIn_of _ (by decide +kernel)) ggX9_misses_X9_follows
theorem dX9_misses_0 : decode cX9_misses 0 = .ok (.aload_n 0, 1) := by decide +kernel
theorem dX9_misses_1 : decode cX9_misses 1 = .ok (.iconst 0, 1) := by decide +kernel
theorem dX9_misses_2 : decode cX9_misses 2 = .ok (.putfield 92, 3) := by decide +kernel
theorem dX9_misses_5 : decode cX9_misses 5 = .ok (.aload_n 0, 1) := by decide +kernel
theorem dX9_misses_6 : decode cX9_misses 6 = .ok (.iload_n 1, 1) := by decide +kernel
theorem dX9_misses_7 : decode cX9_misses 7 = .ok (.iload_n 2, 1) := by decide +kernel
theorem dX9_misses_8 : decode cX9_misses 8 = .ok (.invokevirtual 298, 3) := by decide +kernel
theorem dX9_misses_11 : decode cX9_misses 11 = .ok (.ifCond .eq 11, 3) := by decide +kernel
theorem dX9_misses_14 : decode cX9_misses 14 = .ok (.aload_n 0, 1) := by decide +kernel
theorem dX9_misses_15 : decode cX9_misses 15 = .ok (.iload_n 3, 1) := by decide +kernel
theorem dX9_misses_16 : decode cX9_misses 16 = .ok (.invokevirtual 256, 3) := by decide +kernel
theorem dX9_misses_19 : decode cX9_misses 19 = .ok (.ifCond .ne 6, 3) := by decide +kernel
theorem dX9_misses_22 : decode cX9_misses 22 = .ok (.bipush (-2), 2) := by decide +kernel
theorem dX9_misses_24 : decode cX9_misses 24 = .ok (.ireturn, 1) := by decide +kernel
theorem dX9_misses_25 : decode cX9_misses 25 = .ok (.aload_n 0, 1) := by decide +kernel
theorem dX9_misses_26 : decode cX9_misses 26 = .ok (.iload_n 1, 1) := by decide +kernel
theorem dX9_misses_27 : decode cX9_misses 27 = .ok (.iload_n 2, 1) := by decide +kernel
theorem dX9_misses_28 : decode cX9_misses 28 = .ok (.invokevirtual 303, 3) := by decide +kernel
theorem dX9_misses_31 : decode cX9_misses 31 = .ok (.ifCond .ne 5, 3) := by decide +kernel
theorem dX9_misses_34 : decode cX9_misses 34 = .ok (.iconst (-1), 1) := by decide +kernel
theorem dX9_misses_35 : decode cX9_misses 35 = .ok (.ireturn, 1) := by decide +kernel
theorem dX9_misses_36 : decode cX9_misses 36 = .ok (.aload_n 0, 1) := by decide +kernel
theorem dX9_misses_37 : decode cX9_misses 37 = .ok (.invokevirtual 273, 3) := by decide +kernel
theorem dX9_misses_40 : decode cX9_misses 40 = .ok (.istore 4, 2) := by decide +kernel
theorem dX9_misses_42 : decode cX9_misses 42 = .ok (.aload_n 0, 1) := by decide +kernel
theorem dX9_misses_43 : decode cX9_misses 43 = .ok (.invokevirtual 306, 3) := by decide +kernel
theorem dX9_misses_46 : decode cX9_misses 46 = .ok (.aload_n 0, 1) := by decide +kernel
theorem dX9_misses_47 : decode cX9_misses 47 = .ok (.getfield 292, 3) := by decide +kernel
theorem dX9_misses_50 : decode cX9_misses 50 = .ok (.iload_n 3, 1) := by decide +kernel
theorem dX9_misses_51 : decode cX9_misses 51 = .ok (.if_icmp .ne 8, 3) := by decide +kernel
theorem dX9_misses_54 : decode cX9_misses 54 = .ok (.aload_n 0, 1) := by decide +kernel
theorem dX9_misses_55 : decode cX9_misses 55 = .ok (.getfield 295, 3) := by decide +kernel
theorem dX9_misses_58 : decode cX9_misses 58 = .ok (.ireturn, 1) := by decide +kernel
theorem dX9_misses_59 : decode cX9_misses 59 = .ok (.aload_n 0, 1) := by decide +kernel
theorem dX9_misses_60 : decode cX9_misses 60 = .ok (.getfield 292, 3) := by decide +kernel
theorem dX9_misses_63 : decode cX9_misses 63 = .ok (.iload_n 1, 1) := by decide +kernel
theorem dX9_misses_64 : decode cX9_misses 64 = .ok (.if_icmp .ne (-22), 3) := by decide +kernel
theorem dX9_misses_67 : decode cX9_misses 67 = .ok (.aload_n 0, 1) := by decide +kernel
theorem dX9_misses_68 : decode cX9_misses 68 = .ok (.getfield 295, 3) := by decide +kernel
theorem dX9_misses_71 : decode cX9_misses 71 = .ok (.iload_n 2, 1) := by decide +kernel
theorem dX9_misses_72 : decode cX9_misses 72 = .ok (.isub, 1) := by decide +kernel
theorem dX9_misses_73 : decode cX9_misses 73 = .ok (.iload 4, 2) := by decide +kernel
theorem dX9_misses_75 : decode cX9_misses 75 = .ok (.irem, 1) := by decide +kernel
theorem dX9_misses_76 : decode cX9_misses 76 = .ok (.ifCond .ne (-34), 3) := by decide +kernel
theorem dX9_misses_79 : decode cX9_misses 79 = .ok (.iconst (-1), 1) := by decide +kernel
theorem dX9_misses_80 : decode cX9_misses 80 = .ok (.ireturn, 1) := by decide +kernel
set_option maxRecDepth 20000 in
theorem ggX9_missed_X9_isToss : GoodIn wsX9_missed wsX9_isToss := goodIn_r _ [9, 10, 11, 12, 8, 13, 14, 15, 16, 17, 18, 19, 20, 21, 61, 62, 63, 64, 65, 66, 67, 68, 69, 70, 71, 72, 73, 74, 75, 76, 77, 78, 79, 80, 81, 82, 83, 84, 85, 86, 87, 88, 89, 90, 91, 92, 93, 94, 95, 96, 97, 98, 99, 100, 101, 102, 103, 104, 105, 106] (by decide +kernel) (by decide +kernel)
set_option maxRecDepth 20000 in
theorem gX9_missed_X9_isToss : GoodIn wsX9_missed (wsV RX9 298 RX9 yX9_isToss wsX9_isToss) := goodIn_app (goodIn_of _ (by decide +kernel)) ggX9_missed_X9_isToss
set_option maxRecDepth 20000 in
theorem ggX9_missed_X9_isRoof : GoodIn wsX9_missed wsX9_isRoof := goodIn_r _ [13, 14, 15, 16, 8, 17, 61, 62, 63, 64, 65, 66, 67, 68, 69, 70, 71, 72, 73, 74, 75, 76, 77, 78, 79, 80, 81, 82, 83, 84, 85, 86, 87, 88, 89, 90, 91, 92, 93, 94, 95, 96, 97, 98, 99, 100, 101, 102, 103, 104, 105, 106] (by decide +kernel) (by decide +kernel)
set_option maxRecDepth 20000 in
theorem gX9_missed_X9_isRoof : GoodIn wsX9_missed (wsV RX9 256 RX9 yX9_isRoof wsX9_isRoof) := goodIn_app (goodIn_of _ (by decide +kernel)) ggX9_missed_X9_isRoof
set_option maxRecDepth 20000 in
theorem ggX9_missed_X9_in : GoodIn wsX9_missed wsX9_in := goodIn_r _ [17] (by decide +kernel) (by decide +kernel)
set_option maxRecDepth 20000 in
theorem gX9_missed_X9_in : GoodIn wsX9_missed (va_wsS RX9 97 yX9_in wsX9_in) := goodIn_app (goodIn_of _ (by decide +kernel)) ggX9_missed_X9_in
set_option maxRecDepth 20000 in
theorem ggX9_missed_X9_starts : GoodIn wsX9_missed wsX9_starts := goodIn_r _ [25, 4, 3, 26, 27, 28, 8, 29, 14, 30, 31, 32, 33, 34, 35, 36, 37, 38, 39, 40, 41, 42, 43, 44, 45, 46, 47, 48, 49, 50, 51, 52, 53, 54, 55, 56, 61, 62, 63, 64, 65, 66, 67, 68, 69, 70, 71, 72, 73, 74, 75, 76, 77, 78, 79, 80, 81, 82, 83, 84, 85, 86, 87, 88, 89, 90, 91, 92, 93, 94, 95, 96, 97, 98, 99, 100, 101, 102, 103, 104, 105, 106] (by decide +kernel) (by decide +kernel)
set_option maxRecDepth 20000 in
theorem gX9_missed_X9_starts : GoodIn wsX9_missed (wsV RX9 303 RX9 yX9_starts wsX9_starts) := goodIn_app (goodIn_of _ (by decide +kernel)) ggX9_missed_X9_starts
set_option maxRecDepth 20000 in
theorem ggX9_missed_X9_follows : GoodIn wsX9_missed wsX9_follows := goodIn_r _ [60, 4, 3, 43, 44, 45, 8, 46, 47, 48, 49, 50, 51, 34, 52, 53, 54, 55, 56, 61, 62, 63, 64, 65, 66, 67, 68, 69, 70, 71, 72, 73, 74, 75, 76, 77, 78, 79, 80, 81, 82, 83, 84, 85, 86, 87, 88, 89, 90, 91, 92, 93, 94, 95, 96, 97, 98, 99, 100, 101, 102, 103, 104, 105, 106] (by decide +kernel) (by decide +kernel)
set_option maxRecDepth 20000 in
theorem gX9_missed_X9_follows : GoodIn wsX9_missed (wsV RX9 306 RX9 yX9_follows wsX9_follows) := goodIn_app (goodIn_of _ (by decide +kernel)) ggX9_missed_X9_follows
theorem dX9_missed_0 : decode cX9_missed 0 = .ok (.aload_n 0, 1) := by decide +kernel
theorem dX9_missed_1 : decode cX9_missed 1 = .ok (.iconst 0, 1) := by decide +kernel
theorem dX9_missed_2 : decode cX9_missed 2 = .ok (.putfield 92, 3) := by decide +kernel
theorem dX9_missed_5 : decode cX9_missed 5 = .ok (.aload_n 0, 1) := by decide +kernel
theorem dX9_missed_6 : decode cX9_missed 6 = .ok (.iload_n 1, 1) := by decide +kernel
theorem dX9_missed_7 : decode cX9_missed 7 = .ok (.iload_n 2, 1) := by decide +kernel
theorem dX9_missed_8 : decode cX9_missed 8 = .ok (.invokevirtual 298, 3) := by decide +kernel
theorem dX9_missed_11 : decode cX9_missed 11 = .ok (.ifCond .eq 24, 3) := by decide +kernel
theorem dX9_missed_14 : decode cX9_missed 14 = .ok (.aload_n 0, 1) := by decide +kernel
theorem dX9_missed_15 : decode cX9_missed 15 = .ok (.iload_n 3, 1) := by decide +kernel
theorem dX9_missed_16 : decode cX9_missed 16 = .ok (.invokevirtual 256, 3) := by decide +kernel
theorem dX9_missed_19 : decode cX9_missed 19 = .ok (.ifCond .eq 16, 3) := by decide +kernel
theorem dX9_missed_22 : decode cX9_missed 22 = .ok (.iload 4, 2) := by decide +kernel
theorem dX9_missed_24 : decode cX9_missed 24 = .ok (.i2l, 1) := by decide +kernel
theorem dX9_missed_25 : decode cX9_missed 25 = .ok (.lconst 0, 1) := by decide +kernel
theorem dX9_missed_26 : decode cX9_missed 26 = .ok (.ldc2_w 321, 3) := by decide +kernel
theorem dX9_missed_29 : decode cX9_missed 29 = .ok (.invokestatic 97, 3) := by decide +kernel
theorem dX9_missed_32 : decode cX9_missed 32 = .ok (.ifCond .ne 6, 3) := by decide +kernel
theorem dX9_missed_35 : decode cX9_missed 35 = .ok (.bipush (-2), 2) := by decide +kernel
theorem dX9_missed_37 : decode cX9_missed 37 = .ok (.ireturn, 1) := by decide +kernel
theorem dX9_missed_38 : decode cX9_missed 38 = .ok (.aload_n 0, 1) := by decide +kernel
theorem dX9_missed_39 : decode cX9_missed 39 = .ok (.iload_n 1, 1) := by decide +kernel
theorem dX9_missed_40 : decode cX9_missed 40 = .ok (.iload_n 2, 1) := by decide +kernel
theorem dX9_missed_41 : decode cX9_missed 41 = .ok (.invokevirtual 303, 3) := by decide +kernel
theorem dX9_missed_44 : decode cX9_missed 44 = .ok (.ifCond .ne 5, 3) := by decide +kernel
theorem dX9_missed_47 : decode cX9_missed 47 = .ok (.iconst (-1), 1) := by decide +kernel
theorem dX9_missed_48 : decode cX9_missed 48 = .ok (.ireturn, 1) := by decide +kernel
theorem dX9_missed_49 : decode cX9_missed 49 = .ok (.iconst 0, 1) := by decide +kernel
theorem dX9_missed_50 : decode cX9_missed 50 = .ok (.istore 5, 2) := by decide +kernel
theorem dX9_missed_52 : decode cX9_missed 52 = .ok (.aload_n 0, 1) := by decide +kernel
theorem dX9_missed_53 : decode cX9_missed 53 = .ok (.invokevirtual 306, 3) := by decide +kernel
theorem dX9_missed_56 : decode cX9_missed 56 = .ok (.aload_n 0, 1) := by decide +kernel
theorem dX9_missed_57 : decode cX9_missed 57 = .ok (.getfield 295, 3) := by decide +kernel
theorem dX9_missed_60 : decode cX9_missed 60 = .ok (.iload_n 2, 1) := by decide +kernel
theorem dX9_missed_61 : decode cX9_missed 61 = .ok (.iload 4, 2) := by decide +kernel
theorem dX9_missed_63 : decode cX9_missed 63 = .ok (.iadd, 1) := by decide +kernel
theorem dX9_missed_64 : decode cX9_missed 64 = .ok (.if_icmp .gt 28, 3) := by decide +kernel
theorem dX9_missed_67 : decode cX9_missed 67 = .ok (.iload 5, 2) := by decide +kernel
theorem dX9_missed_69 : decode cX9_missed 69 = .ok (.aload_n 0, 1) := by decide +kernel
theorem dX9_missed_70 : decode cX9_missed 70 = .ok (.getfield 292, 3) := by decide +kernel
theorem dX9_missed_73 : decode cX9_missed 73 = .ok (.iload_n 3, 1) := by decide +kernel
theorem dX9_missed_74 : decode cX9_missed 74 = .ok (.if_icmp .ne 7, 3) := by decide +kernel
theorem dX9_missed_77 : decode cX9_missed 77 = .ok (.iconst 1, 1) := by decide +kernel
theorem dX9_missed_78 : decode cX9_missed 78 = .ok (.goto 4, 3) := by decide +kernel
theorem dX9_missed_81 : decode cX9_missed 81 = .ok (.iconst 0, 1) := by decide +kernel
theorem dX9_missed_82 : decode cX9_missed 82 = .ok (.iadd, 1) := by decide +kernel
theorem dX9_missed_83 : decode cX9_missed 83 = .ok (.istore 5, 2) := by decide +kernel
theorem dX9_missed_85 : decode cX9_missed 85 = .ok (.aload_n 0, 1) := by decide +kernel
theorem dX9_missed_86 : decode cX9_missed 86 = .ok (.invokevirtual 306, 3) := by decide +kernel
theorem dX9_missed_89 : decode cX9_missed 89 = .ok (.goto (-33), 3) := by decide +kernel
theorem dX9_missed_92 : decode cX9_missed 92 = .ok (.iload 5, 2) := by decide +kernel
theorem dX9_missed_94 : decode cX9_missed 94 = .ok (.ireturn, 1) := by decide +kernel
set_option maxRecDepth 20000 in
theorem ggX9_isSolo_X9_highOf : GoodIn wsX9_isSolo wsX9_highOf := goodIn_r _ [7, 8, 9, 10, 11, 6, 12, 1, 13, 14, 15, 16, 17, 18, 19, 20, 21, 22, 23, 24, 25, 26, 27, 28, 29, 30, 31, 32, 33, 34, 35, 36, 37, 38, 39, 40, 41, 42, 43, 44, 45, 46, 47, 48, 49, 50, 51, 52, 53, 54, 55, 56, 57, 58] (by decide +kernel) (by decide +kernel)
set_option maxRecDepth 20000 in
theorem gX9_isSolo_X9_highOf : GoodIn wsX9_isSolo (wsV RX9 264 RX9 yX9_highOf wsX9_highOf) := goodIn_app (goodIn_of _ (by decide +kernel)) ggX9_isSolo_X9_highOf
theorem dX9_isSolo_0 : decode cX9_isSolo 0 = .ok (.iconst 0, 1) := by decide +kernel
theorem dX9_isSolo_1 : decode cX9_isSolo 1 = .ok (.istore_n 2, 1) := by decide +kernel
theorem dX9_isSolo_2 : decode cX9_isSolo 2 = .ok (.iload_n 2, 1) := by decide +kernel
theorem dX9_isSolo_3 : decode cX9_isSolo 3 = .ok (.aload_n 0, 1) := by decide +kernel
theorem dX9_isSolo_4 : decode cX9_isSolo 4 = .ok (.getfield 40, 3) := by decide +kernel
theorem dX9_isSolo_7 : decode cX9_isSolo 7 = .ok (.iload_n 1, 1) := by decide +kernel
theorem dX9_isSolo_8 : decode cX9_isSolo 8 = .ok (.iaload, 1) := by decide +kernel
theorem dX9_isSolo_9 : decode cX9_isSolo 9 = .ok (.if_icmp .ge 26, 3) := by decide +kernel
theorem dX9_isSolo_12 : decode cX9_isSolo 12 = .ok (.aload_n 0, 1) := by decide +kernel
theorem dX9_isSolo_13 : decode cX9_isSolo 13 = .ok (.getfield 46, 3) := by decide +kernel
theorem dX9_isSolo_16 : decode cX9_isSolo 16 = .ok (.bipush 8, 2) := by decide +kernel
theorem dX9_isSolo_18 : decode cX9_isSolo 18 = .ok (.iload_n 1, 1) := by decide +kernel
theorem dX9_isSolo_19 : decode cX9_isSolo 19 = .ok (.imul, 1) := by decide +kernel
theorem dX9_isSolo_20 : decode cX9_isSolo 20 = .ok (.iload_n 2, 1) := by decide +kernel
theorem dX9_isSolo_21 : decode cX9_isSolo 21 = .ok (.iadd, 1) := by decide +kernel
theorem dX9_isSolo_22 : decode cX9_isSolo 22 = .ok (.iaload, 1) := by decide +kernel
theorem dX9_isSolo_23 : decode cX9_isSolo 23 = .ok (.iload_n 1, 1) := by decide +kernel
theorem dX9_isSolo_24 : decode cX9_isSolo 24 = .ok (.if_icmp .eq 5, 3) := by decide +kernel
theorem dX9_isSolo_27 : decode cX9_isSolo 27 = .ok (.iconst 0, 1) := by decide +kernel
theorem dX9_isSolo_28 : decode cX9_isSolo 28 = .ok (.ireturn, 1) := by decide +kernel
theorem dX9_isSolo_29 : decode cX9_isSolo 29 = .ok (.iinc 2 1, 3) := by decide +kernel
theorem dX9_isSolo_32 : decode cX9_isSolo 32 = .ok (.goto (-30), 3) := by decide +kernel
theorem dX9_isSolo_35 : decode cX9_isSolo 35 = .ok (.iconst 0, 1) := by decide +kernel
theorem dX9_isSolo_36 : decode cX9_isSolo 36 = .ok (.istore_n 2, 1) := by decide +kernel
theorem dX9_isSolo_37 : decode cX9_isSolo 37 = .ok (.iload_n 2, 1) := by decide +kernel
theorem dX9_isSolo_38 : decode cX9_isSolo 38 = .ok (.aload_n 0, 1) := by decide +kernel
theorem dX9_isSolo_39 : decode cX9_isSolo 39 = .ok (.getfield 40, 3) := by decide +kernel
theorem dX9_isSolo_42 : decode cX9_isSolo 42 = .ok (.iload_n 1, 1) := by decide +kernel
theorem dX9_isSolo_43 : decode cX9_isSolo 43 = .ok (.iaload, 1) := by decide +kernel
theorem dX9_isSolo_44 : decode cX9_isSolo 44 = .ok (.if_icmp .ge 69, 3) := by decide +kernel
theorem dX9_isSolo_47 : decode cX9_isSolo 47 = .ok (.iconst 0, 1) := by decide +kernel
theorem dX9_isSolo_48 : decode cX9_isSolo 48 = .ok (.istore_n 3, 1) := by decide +kernel
theorem dX9_isSolo_49 : decode cX9_isSolo 49 = .ok (.iconst 1, 1) := by decide +kernel
theorem dX9_isSolo_50 : decode cX9_isSolo 50 = .ok (.istore 4, 2) := by decide +kernel
theorem dX9_isSolo_52 : decode cX9_isSolo 52 = .ok (.iload 4, 2) := by decide +kernel
theorem dX9_isSolo_54 : decode cX9_isSolo 54 = .ok (.bipush 9, 2) := by decide +kernel
theorem dX9_isSolo_56 : decode cX9_isSolo 56 = .ok (.if_icmp .gt 31, 3) := by decide +kernel
theorem dX9_isSolo_59 : decode cX9_isSolo 59 = .ok (.iload_n 3, 1) := by decide +kernel
theorem dX9_isSolo_60 : decode cX9_isSolo 60 = .ok (.aload_n 0, 1) := by decide +kernel
theorem dX9_isSolo_61 : decode cX9_isSolo 61 = .ok (.iload_n 1, 1) := by decide +kernel
theorem dX9_isSolo_62 : decode cX9_isSolo 62 = .ok (.iload_n 2, 1) := by decide +kernel
theorem dX9_isSolo_63 : decode cX9_isSolo 63 = .ok (.iload 4, 2) := by decide +kernel
theorem dX9_isSolo_65 : decode cX9_isSolo 65 = .ok (.isub, 1) := by decide +kernel
theorem dX9_isSolo_66 : decode cX9_isSolo 66 = .ok (.invokevirtual 264, 3) := by decide +kernel
theorem dX9_isSolo_69 : decode cX9_isSolo 69 = .ok (.iload 4, 2) := by decide +kernel
theorem dX9_isSolo_71 : decode cX9_isSolo 71 = .ok (.if_icmp .ne 7, 3) := by decide +kernel
theorem dX9_isSolo_74 : decode cX9_isSolo 74 = .ok (.iconst 1, 1) := by decide +kernel
theorem dX9_isSolo_75 : decode cX9_isSolo 75 = .ok (.goto 4, 3) := by decide +kernel
theorem dX9_isSolo_78 : decode cX9_isSolo 78 = .ok (.iconst 0, 1) := by decide +kernel
theorem dX9_isSolo_79 : decode cX9_isSolo 79 = .ok (.iadd, 1) := by decide +kernel
theorem dX9_isSolo_80 : decode cX9_isSolo 80 = .ok (.istore_n 3, 1) := by decide +kernel
theorem dX9_isSolo_81 : decode cX9_isSolo 81 = .ok (.iinc 4 1, 3) := by decide +kernel
theorem dX9_isSolo_84 : decode cX9_isSolo 84 = .ok (.goto (-32), 3) := by decide +kernel
theorem dX9_isSolo_87 : decode cX9_isSolo 87 = .ok (.iload_n 3, 1) := by decide +kernel
theorem dX9_isSolo_88 : decode cX9_isSolo 88 = .ok (.aload_n 0, 1) := by decide +kernel
theorem dX9_isSolo_89 : decode cX9_isSolo 89 = .ok (.iload_n 1, 1) := by decide +kernel
theorem dX9_isSolo_90 : decode cX9_isSolo 90 = .ok (.iload_n 2, 1) := by decide +kernel
theorem dX9_isSolo_91 : decode cX9_isSolo 91 = .ok (.invokevirtual 264, 3) := by decide +kernel
theorem dX9_isSolo_94 : decode cX9_isSolo 94 = .ok (.ifCond .le 7, 3) := by decide +kernel
theorem dX9_isSolo_97 : decode cX9_isSolo 97 = .ok (.iconst 1, 1) := by decide +kernel
theorem dX9_isSolo_98 : decode cX9_isSolo 98 = .ok (.goto 4, 3) := by decide +kernel
theorem dX9_isSolo_101 : decode cX9_isSolo 101 = .ok (.iconst 0, 1) := by decide +kernel
theorem dX9_isSolo_102 : decode cX9_isSolo 102 = .ok (.if_icmp .eq 5, 3) := by decide +kernel
theorem dX9_isSolo_105 : decode cX9_isSolo 105 = .ok (.iconst 0, 1) := by decide +kernel
theorem dX9_isSolo_106 : decode cX9_isSolo 106 = .ok (.ireturn, 1) := by decide +kernel
theorem dX9_isSolo_107 : decode cX9_isSolo 107 = .ok (.iinc 2 1, 3) := by decide +kernel
theorem dX9_isSolo_110 : decode cX9_isSolo 110 = .ok (.goto (-73), 3) := by decide +kernel
theorem dX9_isSolo_113 : decode cX9_isSolo 113 = .ok (.iconst 1, 1) := by decide +kernel
theorem dX9_isSolo_114 : decode cX9_isSolo 114 = .ok (.ireturn, 1) := by decide +kernel
set_option maxRecDepth 20000 in
theorem ggX9_stateOf_X9_highOf : GoodIn wsX9_stateOf wsX9_highOf := goodIn_r _ [5, 6, 7, 8, 9, 4, 10, 11, 12, 13, 14, 15, 16, 17, 18, 19, 20, 21, 22, 23, 24, 25, 26, 27, 28, 29, 30, 31, 32, 33, 34, 35, 36, 37, 38, 39, 40, 41, 42, 43, 44, 45, 46, 47, 48, 49, 50, 51, 52, 53, 54, 55, 56, 57] (by decide +kernel) (by decide +kernel)
set_option maxRecDepth 20000 in
theorem gX9_stateOf_X9_highOf : GoodIn wsX9_stateOf (wsV RX9 264 RX9 yX9_highOf wsX9_highOf) := goodIn_app (goodIn_of _ (by decide +kernel)) ggX9_stateOf_X9_highOf
theorem dX9_stateOf_0 : decode cX9_stateOf 0 = .ok (.iconst 0, 1) := by decide +kernel
theorem dX9_stateOf_1 : decode cX9_stateOf 1 = .ok (.istore_n 3, 1) := by decide +kernel
theorem dX9_stateOf_2 : decode cX9_stateOf 2 = .ok (.iload_n 2, 1) := by decide +kernel
theorem dX9_stateOf_3 : decode cX9_stateOf 3 = .ok (.bipush 9, 2) := by decide +kernel
theorem dX9_stateOf_5 : decode cX9_stateOf 5 = .ok (.isub, 1) := by decide +kernel
theorem dX9_stateOf_6 : decode cX9_stateOf 6 = .ok (.istore 4, 2) := by decide +kernel
theorem dX9_stateOf_8 : decode cX9_stateOf 8 = .ok (.iload 4, 2) := by decide +kernel
theorem dX9_stateOf_10 : decode cX9_stateOf 10 = .ok (.iload_n 2, 1) := by decide +kernel
theorem dX9_stateOf_11 : decode cX9_stateOf 11 = .ok (.if_icmp .ge 50, 3) := by decide +kernel
theorem dX9_stateOf_14 : decode cX9_stateOf 14 = .ok (.aload_n 0, 1) := by decide +kernel
theorem dX9_stateOf_15 : decode cX9_stateOf 15 = .ok (.iload_n 1, 1) := by decide +kernel
theorem dX9_stateOf_16 : decode cX9_stateOf 16 = .ok (.iload 4, 2) := by decide +kernel
theorem dX9_stateOf_18 : decode cX9_stateOf 18 = .ok (.invokevirtual 264, 3) := by decide +kernel
theorem dX9_stateOf_21 : decode cX9_stateOf 21 = .ok (.ifCond .le 34, 3) := by decide +kernel
theorem dX9_stateOf_24 : decode cX9_stateOf 24 = .ok (.iload 4, 2) := by decide +kernel
theorem dX9_stateOf_26 : decode cX9_stateOf 26 = .ok (.aload_n 0, 1) := by decide +kernel
theorem dX9_stateOf_27 : decode cX9_stateOf 27 = .ok (.iload_n 1, 1) := by decide +kernel
theorem dX9_stateOf_28 : decode cX9_stateOf 28 = .ok (.iload 4, 2) := by decide +kernel
theorem dX9_stateOf_30 : decode cX9_stateOf 30 = .ok (.invokevirtual 264, 3) := by decide +kernel
theorem dX9_stateOf_33 : decode cX9_stateOf 33 = .ok (.iadd, 1) := by decide +kernel
theorem dX9_stateOf_34 : decode cX9_stateOf 34 = .ok (.iload_n 2, 1) := by decide +kernel
theorem dX9_stateOf_35 : decode cX9_stateOf 35 = .ok (.if_icmp .lt 20, 3) := by decide +kernel
theorem dX9_stateOf_38 : decode cX9_stateOf 38 = .ok (.iload_n 3, 1) := by decide +kernel
theorem dX9_stateOf_39 : decode cX9_stateOf 39 = .ok (.iconst 1, 1) := by decide +kernel
theorem dX9_stateOf_40 : decode cX9_stateOf 40 = .ok (.iload 4, 2) := by decide +kernel
theorem dX9_stateOf_42 : decode cX9_stateOf 42 = .ok (.aload_n 0, 1) := by decide +kernel
theorem dX9_stateOf_43 : decode cX9_stateOf 43 = .ok (.iload_n 1, 1) := by decide +kernel
theorem dX9_stateOf_44 : decode cX9_stateOf 44 = .ok (.iload 4, 2) := by decide +kernel
theorem dX9_stateOf_46 : decode cX9_stateOf 46 = .ok (.invokevirtual 264, 3) := by decide +kernel
theorem dX9_stateOf_49 : decode cX9_stateOf 49 = .ok (.iadd, 1) := by decide +kernel
theorem dX9_stateOf_50 : decode cX9_stateOf 50 = .ok (.iload_n 2, 1) := by decide +kernel
theorem dX9_stateOf_51 : decode cX9_stateOf 51 = .ok (.isub, 1) := by decide +kernel
theorem dX9_stateOf_52 : decode cX9_stateOf 52 = .ok (.ishl, 1) := by decide +kernel
theorem dX9_stateOf_53 : decode cX9_stateOf 53 = .ok (.ior, 1) := by decide +kernel
theorem dX9_stateOf_54 : decode cX9_stateOf 54 = .ok (.istore_n 3, 1) := by decide +kernel
theorem dX9_stateOf_55 : decode cX9_stateOf 55 = .ok (.iinc 4 1, 3) := by decide +kernel
theorem dX9_stateOf_58 : decode cX9_stateOf 58 = .ok (.goto (-50), 3) := by decide +kernel
theorem dX9_stateOf_61 : decode cX9_stateOf 61 = .ok (.iload_n 3, 1) := by decide +kernel
theorem dX9_stateOf_62 : decode cX9_stateOf 62 = .ok (.ireturn, 1) := by decide +kernel
set_option maxRecDepth 20000 in
theorem ggX9_state_X9_isThrow : GoodIn wsX9_state wsX9_isThrow := goodIn_r _ [6, 7, 8, 9, 10, 5, 11, 12, 13, 14, 15, 34, 35, 36, 37, 38, 39, 40, 41, 42, 43, 44, 45, 46, 47, 48, 49, 50, 51, 52, 53, 54, 55, 56, 57, 58, 59, 60, 61, 62, 63, 64, 65, 66, 67, 68, 69, 70, 71, 72, 73, 74, 75, 76, 77, 78, 79] (by decide +kernel) (by decide +kernel)
set_option maxRecDepth 20000 in
theorem gX9_state_X9_isThrow : GoodIn wsX9_state (wsV RX9 276 RX9 yX9_isThrow wsX9_isThrow) := goodIn_app (goodIn_of _ (by decide +kernel)) ggX9_state_X9_isThrow
set_option maxRecDepth 20000 in
theorem ggX9_state_X9_isSolo : GoodIn wsX9_state wsX9_isSolo := goodIn_r _ [19, 7, 20, 21, 22, 23, 5, 24, 25, 26, 27, 28, 29, 34, 35, 36, 37, 38, 39, 40, 41, 42, 43, 44, 45, 46, 47, 48, 49, 50, 51, 52, 53, 54, 55, 56, 57, 58, 59, 60, 61, 62, 63, 64, 65, 66, 67, 68, 69, 70, 71, 72, 73, 74, 75, 76, 77, 78, 79] (by decide +kernel) (by decide +kernel)
set_option maxRecDepth 20000 in
theorem gX9_state_X9_isSolo : GoodIn wsX9_state (wsV RX9 343 RX9 yX9_isSolo wsX9_isSolo) := goodIn_app (goodIn_of _ (by decide +kernel)) ggX9_state_X9_isSolo
set_option maxRecDepth 20000 in
theorem ggX9_state_X9_stateOf : GoodIn wsX9_state wsX9_stateOf := goodIn_r _ [33, 21, 22, 23, 5, 24, 25, 26, 27, 28, 29, 7, 34, 35, 36, 37, 38, 39, 40, 41, 42, 43, 44, 45, 46, 47, 48, 49, 50, 51, 52, 53, 54, 55, 56, 57, 58, 59, 60, 61, 62, 63, 64, 65, 66, 67, 68, 69, 70, 71, 72, 73, 74, 75, 76, 77, 78, 79] (by decide +kernel) (by decide +kernel)
set_option maxRecDepth 20000 in
theorem gX9_state_X9_stateOf : GoodIn wsX9_state (wsV RX9 346 RX9 yX9_stateOf wsX9_stateOf) := goodIn_app (goodIn_of _ (by decide +kernel)) ggX9_state_X9_stateOf
theorem dX9_state_0 : decode cX9_state 0 = .ok (.aload_n 0, 1) := by decide +kernel
theorem dX9_state_1 : decode cX9_state 1 = .ok (.iconst 0, 1) := by decide +kernel
theorem dX9_state_2 : decode cX9_state 2 = .ok (.putfield 92, 3) := by decide +kernel
theorem dX9_state_5 : decode cX9_state 5 = .ok (.aload_n 0, 1) := by decide +kernel
theorem dX9_state_6 : decode cX9_state 6 = .ok (.iload_n 1, 1) := by decide +kernel
theorem dX9_state_7 : decode cX9_state 7 = .ok (.iload_n 2, 1) := by decide +kernel
theorem dX9_state_8 : decode cX9_state 8 = .ok (.invokevirtual 276, 3) := by decide +kernel
theorem dX9_state_11 : decode cX9_state 11 = .ok (.ifCond .ne 8, 3) := by decide +kernel
theorem dX9_state_14 : decode cX9_state 14 = .ok (.bipush (-2), 2) := by decide +kernel
theorem dX9_state_16 : decode cX9_state 16 = .ok (.goto 21, 3) := by decide +kernel
theorem dX9_state_19 : decode cX9_state 19 = .ok (.aload_n 0, 1) := by decide +kernel
theorem dX9_state_20 : decode cX9_state 20 = .ok (.iload_n 1, 1) := by decide +kernel
theorem dX9_state_21 : decode cX9_state 21 = .ok (.invokevirtual 343, 3) := by decide +kernel
theorem dX9_state_24 : decode cX9_state 24 = .ok (.ifCond .eq 12, 3) := by decide +kernel
theorem dX9_state_27 : decode cX9_state 27 = .ok (.aload_n 0, 1) := by decide +kernel
theorem dX9_state_28 : decode cX9_state 28 = .ok (.iload_n 1, 1) := by decide +kernel
theorem dX9_state_29 : decode cX9_state 29 = .ok (.iload_n 2, 1) := by decide +kernel
theorem dX9_state_30 : decode cX9_state 30 = .ok (.invokevirtual 346, 3) := by decide +kernel
theorem dX9_state_33 : decode cX9_state 33 = .ok (.goto 4, 3) := by decide +kernel
theorem dX9_state_36 : decode cX9_state 36 = .ok (.iconst (-1), 1) := by decide +kernel
theorem dX9_state_37 : decode cX9_state 37 = .ok (.ireturn, 1) := by decide +kernel
theorem dX9_behind_0 : decode cX9_behind 0 = .ok (.iload_n 0, 1) := by decide +kernel
theorem dX9_behind_1 : decode cX9_behind 1 = .ok (.iconst 1, 1) := by decide +kernel
theorem dX9_behind_2 : decode cX9_behind 2 = .ok (.iand, 1) := by decide +kernel
theorem dX9_behind_3 : decode cX9_behind 3 = .ok (.ifCond .ne 15, 3) := by decide +kernel
theorem dX9_behind_6 : decode cX9_behind 6 = .ok (.iload_n 1, 1) := by decide +kernel
theorem dX9_behind_7 : decode cX9_behind 7 = .ok (.ifCond .ne 9, 3) := by decide +kernel
theorem dX9_behind_10 : decode cX9_behind 10 = .ok (.iload_n 0, 1) := by decide +kernel
theorem dX9_behind_11 : decode cX9_behind 11 = .ok (.iconst 1, 1) := by decide +kernel
theorem dX9_behind_12 : decode cX9_behind 12 = .ok (.ishr, 1) := by decide +kernel
theorem dX9_behind_13 : decode cX9_behind 13 = .ok (.goto 4, 3) := by decide +kernel
theorem dX9_behind_16 : decode cX9_behind 16 = .ok (.iconst (-1), 1) := by decide +kernel
theorem dX9_behind_17 : decode cX9_behind 17 = .ok (.ireturn, 1) := by decide +kernel
theorem dX9_behind_18 : decode cX9_behind 18 = .ok (.iload_n 1, 1) := by decide +kernel
theorem dX9_behind_19 : decode cX9_behind 19 = .ok (.ifCond .eq 12, 3) := by decide +kernel
theorem dX9_behind_22 : decode cX9_behind 22 = .ok (.iload_n 0, 1) := by decide +kernel
theorem dX9_behind_23 : decode cX9_behind 23 = .ok (.iload_n 1, 1) := by decide +kernel
theorem dX9_behind_24 : decode cX9_behind 24 = .ok (.ishr, 1) := by decide +kernel
theorem dX9_behind_25 : decode cX9_behind 25 = .ok (.iconst 1, 1) := by decide +kernel
theorem dX9_behind_26 : decode cX9_behind 26 = .ok (.iand, 1) := by decide +kernel
theorem dX9_behind_27 : decode cX9_behind 27 = .ok (.iconst 1, 1) := by decide +kernel
theorem dX9_behind_28 : decode cX9_behind 28 = .ok (.if_icmp .ne 7, 3) := by decide +kernel
theorem dX9_behind_31 : decode cX9_behind 31 = .ok (.iconst (-1), 1) := by decide +kernel
theorem dX9_behind_32 : decode cX9_behind 32 = .ok (.goto 12, 3) := by decide +kernel
theorem dX9_behind_35 : decode cX9_behind 35 = .ok (.iload_n 0, 1) := by decide +kernel
theorem dX9_behind_36 : decode cX9_behind 36 = .ok (.iconst 1, 1) := by decide +kernel
theorem dX9_behind_37 : decode cX9_behind 37 = .ok (.ishr, 1) := by decide +kernel
theorem dX9_behind_38 : decode cX9_behind 38 = .ok (.iconst 1, 1) := by decide +kernel
theorem dX9_behind_39 : decode cX9_behind 39 = .ok (.iload_n 1, 1) := by decide +kernel
theorem dX9_behind_40 : decode cX9_behind 40 = .ok (.iconst 1, 1) := by decide +kernel
theorem dX9_behind_41 : decode cX9_behind 41 = .ok (.isub, 1) := by decide +kernel
theorem dX9_behind_42 : decode cX9_behind 42 = .ok (.ishl, 1) := by decide +kernel
theorem dX9_behind_43 : decode cX9_behind 43 = .ok (.ior, 1) := by decide +kernel
theorem dX9_behind_44 : decode cX9_behind 44 = .ok (.ireturn, 1) := by decide +kernel
set_option maxRecDepth 20000 in
theorem ggX9_laysChange_X9_behind : GoodIn wsX9_laysChange wsX9_behind := goodIn_r _ [6] (by decide +kernel) (by decide +kernel)
set_option maxRecDepth 20000 in
theorem gX9_laysChange_X9_behind : GoodIn wsX9_laysChange (va_wsS RX9 349 yX9_behind wsX9_behind) := goodIn_app (goodIn_of _ (by decide +kernel)) ggX9_laysChange_X9_behind
theorem dX9_laysChange_0 : decode cX9_laysChange 0 = .ok (.iconst 0, 1) := by decide +kernel
theorem dX9_laysChange_1 : decode cX9_laysChange 1 = .ok (.istore_n 2, 1) := by decide +kernel
theorem dX9_laysChange_2 : decode cX9_laysChange 2 = .ok (.iload_n 2, 1) := by decide +kernel
theorem dX9_laysChange_3 : decode cX9_laysChange 3 = .ok (.sipush 512, 3) := by decide +kernel
theorem dX9_laysChange_6 : decode cX9_laysChange 6 = .ok (.if_icmp .ge 26, 3) := by decide +kernel
theorem dX9_laysChange_9 : decode cX9_laysChange 9 = .ok (.aload_n 0, 1) := by decide +kernel
theorem dX9_laysChange_10 : decode cX9_laysChange 10 = .ok (.getfield 83, 3) := by decide +kernel
theorem dX9_laysChange_13 : decode cX9_laysChange 13 = .ok (.iload_n 2, 1) := by decide +kernel
theorem dX9_laysChange_14 : decode cX9_laysChange 14 = .ok (.iload_n 2, 1) := by decide +kernel
theorem dX9_laysChange_15 : decode cX9_laysChange 15 = .ok (.iload_n 1, 1) := by decide +kernel
theorem dX9_laysChange_16 : decode cX9_laysChange 16 = .ok (.if_icmp .ne 7, 3) := by decide +kernel
theorem dX9_laysChange_19 : decode cX9_laysChange 19 = .ok (.iconst 0, 1) := by decide +kernel
theorem dX9_laysChange_20 : decode cX9_laysChange 20 = .ok (.goto 5, 3) := by decide +kernel
theorem dX9_laysChange_23 : decode cX9_laysChange 23 = .ok (.ldc 143, 2) := by decide +kernel
theorem dX9_laysChange_25 : decode cX9_laysChange 25 = .ok (.iastore, 1) := by decide +kernel
theorem dX9_laysChange_26 : decode cX9_laysChange 26 = .ok (.iinc 2 1, 3) := by decide +kernel
theorem dX9_laysChange_29 : decode cX9_laysChange 29 = .ok (.goto (-27), 3) := by decide +kernel
theorem dX9_laysChange_32 : decode cX9_laysChange 32 = .ok (.iconst 1, 1) := by decide +kernel
theorem dX9_laysChange_33 : decode cX9_laysChange 33 = .ok (.istore_n 2, 1) := by decide +kernel
theorem dX9_laysChange_34 : decode cX9_laysChange 34 = .ok (.iload_n 2, 1) := by decide +kernel
theorem dX9_laysChange_35 : decode cX9_laysChange 35 = .ok (.ifCond .eq 91, 3) := by decide +kernel
theorem dX9_laysChange_38 : decode cX9_laysChange 38 = .ok (.iconst 0, 1) := by decide +kernel
theorem dX9_laysChange_39 : decode cX9_laysChange 39 = .ok (.istore_n 2, 1) := by decide +kernel
theorem dX9_laysChange_40 : decode cX9_laysChange 40 = .ok (.iconst 0, 1) := by decide +kernel
theorem dX9_laysChange_41 : decode cX9_laysChange 41 = .ok (.istore_n 3, 1) := by decide +kernel
theorem dX9_laysChange_42 : decode cX9_laysChange 42 = .ok (.iload_n 3, 1) := by decide +kernel
theorem dX9_laysChange_43 : decode cX9_laysChange 43 = .ok (.sipush 512, 3) := by decide +kernel
theorem dX9_laysChange_46 : decode cX9_laysChange 46 = .ok (.if_icmp .ge 77, 3) := by decide +kernel
theorem dX9_laysChange_49 : decode cX9_laysChange 49 = .ok (.iconst 0, 1) := by decide +kernel
theorem dX9_laysChange_50 : decode cX9_laysChange 50 = .ok (.istore 4, 2) := by decide +kernel
theorem dX9_laysChange_52 : decode cX9_laysChange 52 = .ok (.iload 4, 2) := by decide +kernel
theorem dX9_laysChange_54 : decode cX9_laysChange 54 = .ok (.bipush 9, 2) := by decide +kernel
theorem dX9_laysChange_56 : decode cX9_laysChange 56 = .ok (.if_icmp .gt 61, 3) := by decide +kernel
theorem dX9_laysChange_59 : decode cX9_laysChange 59 = .ok (.iload_n 3, 1) := by decide +kernel
theorem dX9_laysChange_60 : decode cX9_laysChange 60 = .ok (.iload 4, 2) := by decide +kernel
theorem dX9_laysChange_62 : decode cX9_laysChange 62 = .ok (.invokestatic 349, 3) := by decide +kernel
theorem dX9_laysChange_65 : decode cX9_laysChange 65 = .ok (.istore 5, 2) := by decide +kernel
theorem dX9_laysChange_67 : decode cX9_laysChange 67 = .ok (.iload 5, 2) := by decide +kernel
theorem dX9_laysChange_69 : decode cX9_laysChange 69 = .ok (.iconst (-1), 1) := by decide +kernel
theorem dX9_laysChange_70 : decode cX9_laysChange 70 = .ok (.if_icmp .eq 41, 3) := by decide +kernel
theorem dX9_laysChange_73 : decode cX9_laysChange 73 = .ok (.aload_n 0, 1) := by decide +kernel
theorem dX9_laysChange_74 : decode cX9_laysChange 74 = .ok (.getfield 83, 3) := by decide +kernel
theorem dX9_laysChange_77 : decode cX9_laysChange 77 = .ok (.iload 5, 2) := by decide +kernel
theorem dX9_laysChange_79 : decode cX9_laysChange 79 = .ok (.iaload, 1) := by decide +kernel
theorem dX9_laysChange_80 : decode cX9_laysChange 80 = .ok (.iconst 1, 1) := by decide +kernel
theorem dX9_laysChange_81 : decode cX9_laysChange 81 = .ok (.iadd, 1) := by decide +kernel
theorem dX9_laysChange_82 : decode cX9_laysChange 82 = .ok (.aload_n 0, 1) := by decide +kernel
theorem dX9_laysChange_83 : decode cX9_laysChange 83 = .ok (.getfield 83, 3) := by decide +kernel
theorem dX9_laysChange_86 : decode cX9_laysChange 86 = .ok (.iload_n 3, 1) := by decide +kernel
theorem dX9_laysChange_87 : decode cX9_laysChange 87 = .ok (.iaload, 1) := by decide +kernel
theorem dX9_laysChange_88 : decode cX9_laysChange 88 = .ok (.if_icmp .lt 6, 3) := by decide +kernel
theorem dX9_laysChange_91 : decode cX9_laysChange 91 = .ok (.goto 20, 3) := by decide +kernel
theorem dX9_laysChange_94 : decode cX9_laysChange 94 = .ok (.aload_n 0, 1) := by decide +kernel
theorem dX9_laysChange_95 : decode cX9_laysChange 95 = .ok (.getfield 83, 3) := by decide +kernel
theorem dX9_laysChange_98 : decode cX9_laysChange 98 = .ok (.iload_n 3, 1) := by decide +kernel
theorem dX9_laysChange_99 : decode cX9_laysChange 99 = .ok (.aload_n 0, 1) := by decide +kernel
theorem dX9_laysChange_100 : decode cX9_laysChange 100 = .ok (.getfield 83, 3) := by decide +kernel
theorem dX9_laysChange_103 : decode cX9_laysChange 103 = .ok (.iload 5, 2) := by decide +kernel
theorem dX9_laysChange_105 : decode cX9_laysChange 105 = .ok (.iaload, 1) := by decide +kernel
theorem dX9_laysChange_106 : decode cX9_laysChange 106 = .ok (.iconst 1, 1) := by decide +kernel
theorem dX9_laysChange_107 : decode cX9_laysChange 107 = .ok (.iadd, 1) := by decide +kernel
theorem dX9_laysChange_108 : decode cX9_laysChange 108 = .ok (.iastore, 1) := by decide +kernel
theorem dX9_laysChange_109 : decode cX9_laysChange 109 = .ok (.iconst 1, 1) := by decide +kernel
theorem dX9_laysChange_110 : decode cX9_laysChange 110 = .ok (.istore_n 2, 1) := by decide +kernel
theorem dX9_laysChange_111 : decode cX9_laysChange 111 = .ok (.iinc 4 1, 3) := by decide +kernel
theorem dX9_laysChange_114 : decode cX9_laysChange 114 = .ok (.goto (-62), 3) := by decide +kernel
theorem dX9_laysChange_117 : decode cX9_laysChange 117 = .ok (.iinc 3 1, 3) := by decide +kernel
theorem dX9_laysChange_120 : decode cX9_laysChange 120 = .ok (.goto (-78), 3) := by decide +kernel
theorem dX9_laysChange_123 : decode cX9_laysChange 123 = .ok (.goto (-89), 3) := by decide +kernel
theorem dX9_laysChange_126 : decode cX9_laysChange 126 = .ok (.return_, 1) := by decide +kernel
set_option maxRecDepth 20000 in
theorem ggX9_isChange_X9_isThrow : GoodIn wsX9_isChange wsX9_isThrow := goodIn_r _ [5, 6, 7, 8, 9, 4, 10, 11, 12, 13, 14, 15, 16, 17, 18, 19, 20, 21, 22, 23, 24, 25, 26, 27, 28, 29, 30, 31, 32, 33, 34, 35, 36, 37, 38, 39, 40, 41, 42, 43, 44, 45, 46, 47, 48, 49, 50, 51, 52, 53, 54, 55, 56, 57, 58, 59, 60] (by decide +kernel) (by decide +kernel)
set_option maxRecDepth 20000 in
theorem gX9_isChange_X9_isThrow : GoodIn wsX9_isChange (wsV RX9 276 RX9 yX9_isThrow wsX9_isThrow) := goodIn_app (goodIn_of _ (by decide +kernel)) ggX9_isChange_X9_isThrow
theorem dX9_isChange_0 : decode cX9_isChange 0 = .ok (.aload_n 0, 1) := by decide +kernel
theorem dX9_isChange_1 : decode cX9_isChange 1 = .ok (.iload_n 1, 1) := by decide +kernel
theorem dX9_isChange_2 : decode cX9_isChange 2 = .ok (.iload_n 2, 1) := by decide +kernel
theorem dX9_isChange_3 : decode cX9_isChange 3 = .ok (.invokevirtual 276, 3) := by decide +kernel
theorem dX9_isChange_6 : decode cX9_isChange 6 = .ok (.ifCond .eq 17, 3) := by decide +kernel
theorem dX9_isChange_9 : decode cX9_isChange 9 = .ok (.aload_n 0, 1) := by decide +kernel
theorem dX9_isChange_10 : decode cX9_isChange 10 = .ok (.iload_n 3, 1) := by decide +kernel
theorem dX9_isChange_11 : decode cX9_isChange 11 = .ok (.iload 4, 2) := by decide +kernel
theorem dX9_isChange_13 : decode cX9_isChange 13 = .ok (.invokevirtual 276, 3) := by decide +kernel
theorem dX9_isChange_16 : decode cX9_isChange 16 = .ok (.ifCond .eq 7, 3) := by decide +kernel
theorem dX9_isChange_19 : decode cX9_isChange 19 = .ok (.iconst 1, 1) := by decide +kernel
theorem dX9_isChange_20 : decode cX9_isChange 20 = .ok (.goto 4, 3) := by decide +kernel
theorem dX9_isChange_23 : decode cX9_isChange 23 = .ok (.iconst 0, 1) := by decide +kernel
theorem dX9_isChange_24 : decode cX9_isChange 24 = .ok (.ireturn, 1) := by decide +kernel
set_option maxRecDepth 20000 in
theorem ggX9_canChange_X9_isSolo : GoodIn wsX9_canChange wsX9_isSolo := goodIn_r _ [7, 8, 9, 10, 11, 12, 6, 13, 14, 15, 16, 17, 18, 30, 31, 32, 33, 34, 35, 36, 37, 38, 39, 40, 41, 42, 43, 44, 45, 46, 47, 48, 49, 50, 51, 52, 53, 54, 55, 56, 57, 58, 59, 60, 61, 62, 63, 64, 65, 66, 67, 68, 69, 70, 71, 72, 73, 74, 75] (by decide +kernel) (by decide +kernel)
set_option maxRecDepth 20000 in
theorem gX9_canChange_X9_isSolo : GoodIn wsX9_canChange (wsV RX9 343 RX9 yX9_isSolo wsX9_isSolo) := goodIn_app (goodIn_of _ (by decide +kernel)) ggX9_canChange_X9_isSolo
set_option maxRecDepth 20000 in
theorem ggX9_canChange_X9_stateOf : GoodIn wsX9_canChange wsX9_stateOf := goodIn_r _ [22, 10, 11, 12, 6, 13, 14, 15, 16, 17, 18, 8, 30, 31, 32, 33, 34, 35, 36, 37, 38, 39, 40, 41, 42, 43, 44, 45, 46, 47, 48, 49, 50, 51, 52, 53, 54, 55, 56, 57, 58, 59, 60, 61, 62, 63, 64, 65, 66, 67, 68, 69, 70, 71, 72, 73, 74, 75] (by decide +kernel) (by decide +kernel)
set_option maxRecDepth 20000 in
theorem gX9_canChange_X9_stateOf : GoodIn wsX9_canChange (wsV RX9 346 RX9 yX9_stateOf wsX9_stateOf) := goodIn_app (goodIn_of _ (by decide +kernel)) ggX9_canChange_X9_stateOf
set_option maxRecDepth 20000 in
theorem ggX9_canChange_X9_laysChange : GoodIn wsX9_canChange wsX9_laysChange := goodIn_r _ [26, 1, 2, 27, 28, 6, 29, 30, 31, 32, 33, 34, 35, 36, 37, 38, 39, 40, 41, 42, 43, 44, 45, 46, 47, 48, 49, 50, 51, 52, 53, 54, 55, 56, 57, 58, 59, 60, 61, 62, 63, 64, 65, 66, 67, 68, 69, 70, 71, 72, 73, 74, 75] (by decide +kernel) (by decide +kernel)
set_option maxRecDepth 20000 in
theorem gX9_canChange_X9_laysChange : GoodIn wsX9_canChange (wsV RX9 352 RX9 yX9_laysChange wsX9_laysChange) := goodIn_app (goodIn_of _ (by decide +kernel)) ggX9_canChange_X9_laysChange
theorem dX9_canChange_0 : decode cX9_canChange 0 = .ok (.aload_n 0, 1) := by decide +kernel
theorem dX9_canChange_1 : decode cX9_canChange 1 = .ok (.iload_n 1, 1) := by decide +kernel
theorem dX9_canChange_2 : decode cX9_canChange 2 = .ok (.invokevirtual 343, 3) := by decide +kernel
theorem dX9_canChange_5 : decode cX9_canChange 5 = .ok (.ifCond .eq 11, 3) := by decide +kernel
theorem dX9_canChange_8 : decode cX9_canChange 8 = .ok (.aload_n 0, 1) := by decide +kernel
theorem dX9_canChange_9 : decode cX9_canChange 9 = .ok (.iload_n 3, 1) := by decide +kernel
theorem dX9_canChange_10 : decode cX9_canChange 10 = .ok (.invokevirtual 343, 3) := by decide +kernel
theorem dX9_canChange_13 : decode cX9_canChange 13 = .ok (.ifCond .ne 5, 3) := by decide +kernel
theorem dX9_canChange_16 : decode cX9_canChange 16 = .ok (.iconst 0, 1) := by decide +kernel
theorem dX9_canChange_17 : decode cX9_canChange 17 = .ok (.ireturn, 1) := by decide +kernel
theorem dX9_canChange_18 : decode cX9_canChange 18 = .ok (.aload_n 0, 1) := by decide +kernel
theorem dX9_canChange_19 : decode cX9_canChange 19 = .ok (.aload_n 0, 1) := by decide +kernel
theorem dX9_canChange_20 : decode cX9_canChange 20 = .ok (.iload_n 3, 1) := by decide +kernel
theorem dX9_canChange_21 : decode cX9_canChange 21 = .ok (.iload 4, 2) := by decide +kernel
theorem dX9_canChange_23 : decode cX9_canChange 23 = .ok (.invokevirtual 346, 3) := by decide +kernel
theorem dX9_canChange_26 : decode cX9_canChange 26 = .ok (.invokevirtual 352, 3) := by decide +kernel
theorem dX9_canChange_29 : decode cX9_canChange 29 = .ok (.aload_n 0, 1) := by decide +kernel
theorem dX9_canChange_30 : decode cX9_canChange 30 = .ok (.getfield 83, 3) := by decide +kernel
theorem dX9_canChange_33 : decode cX9_canChange 33 = .ok (.aload_n 0, 1) := by decide +kernel
theorem dX9_canChange_34 : decode cX9_canChange 34 = .ok (.iload_n 1, 1) := by decide +kernel
theorem dX9_canChange_35 : decode cX9_canChange 35 = .ok (.iload_n 2, 1) := by decide +kernel
theorem dX9_canChange_36 : decode cX9_canChange 36 = .ok (.invokevirtual 346, 3) := by decide +kernel
theorem dX9_canChange_39 : decode cX9_canChange 39 = .ok (.iaload, 1) := by decide +kernel
theorem dX9_canChange_40 : decode cX9_canChange 40 = .ok (.ldc 143, 2) := by decide +kernel
theorem dX9_canChange_42 : decode cX9_canChange 42 = .ok (.if_icmp .ge 7, 3) := by decide +kernel
theorem dX9_canChange_45 : decode cX9_canChange 45 = .ok (.iconst 1, 1) := by decide +kernel
theorem dX9_canChange_46 : decode cX9_canChange 46 = .ok (.goto 4, 3) := by decide +kernel
theorem dX9_canChange_49 : decode cX9_canChange 49 = .ok (.iconst 0, 1) := by decide +kernel
theorem dX9_canChange_50 : decode cX9_canChange 50 = .ok (.ireturn, 1) := by decide +kernel
set_option maxRecDepth 20000 in
theorem ggX9_change_X9_isChange : GoodIn wsX9_change wsX9_isChange := goodIn_r _ [7, 8, 9, 10, 6, 11, 12, 13, 14, 15, 16, 17, 18, 19, 20, 51, 52, 53, 54, 55, 56, 57, 58, 59, 60, 61, 62, 63, 64, 65, 66, 67, 68, 69, 70, 71, 72, 73, 74, 75, 76, 77, 78, 79, 80, 81, 82, 83, 84, 85, 86, 87, 88, 89, 90, 91, 92, 93, 94, 95, 96] (by decide +kernel) (by decide +kernel)
set_option maxRecDepth 20000 in
theorem gX9_change_X9_isChange : GoodIn wsX9_change (wsV RX9 355 RX9 yX9_isChange wsX9_isChange) := goodIn_app (goodIn_of _ (by decide +kernel)) ggX9_change_X9_isChange
set_option maxRecDepth 20000 in
theorem ggX9_change_X9_canChange : GoodIn wsX9_change wsX9_canChange := goodIn_r _ [24, 2, 25, 26, 27, 28, 6, 29, 12, 30, 31, 32, 33, 34, 35, 36, 37, 38, 39, 40, 41, 42, 43, 44, 45, 46, 47, 48, 49, 50, 51, 52, 53, 54, 55, 56, 57, 58, 59, 60, 61, 62, 63, 64, 65, 66, 67, 68, 69, 70, 71, 72, 73, 74, 75, 76, 77, 78, 79, 80, 81, 82, 83, 84, 85, 86, 87, 88, 89, 90, 91, 92, 93, 94, 95, 96] (by decide +kernel) (by decide +kernel)
set_option maxRecDepth 20000 in
theorem gX9_change_X9_canChange : GoodIn wsX9_change (wsV RX9 359 RX9 yX9_canChange wsX9_canChange) := goodIn_app (goodIn_of _ (by decide +kernel)) ggX9_change_X9_canChange
set_option maxRecDepth 20000 in
theorem ggX9_change_X9_stateOf : GoodIn wsX9_change wsX9_stateOf := goodIn_r _ [43, 31, 32, 33, 6, 34, 35, 36, 37, 38, 39, 12, 51, 52, 53, 54, 55, 56, 57, 58, 59, 60, 61, 62, 63, 64, 65, 66, 67, 68, 69, 70, 71, 72, 73, 74, 75, 76, 77, 78, 79, 80, 81, 82, 83, 84, 85, 86, 87, 88, 89, 90, 91, 92, 93, 94, 95, 96] (by decide +kernel) (by decide +kernel)
set_option maxRecDepth 20000 in
theorem gX9_change_X9_stateOf : GoodIn wsX9_change (wsV RX9 346 RX9 yX9_stateOf wsX9_stateOf) := goodIn_app (goodIn_of _ (by decide +kernel)) ggX9_change_X9_stateOf
theorem dX9_change_0 : decode cX9_change 0 = .ok (.aload_n 0, 1) := by decide +kernel
theorem dX9_change_1 : decode cX9_change 1 = .ok (.iconst 0, 1) := by decide +kernel
theorem dX9_change_2 : decode cX9_change 2 = .ok (.putfield 92, 3) := by decide +kernel
theorem dX9_change_5 : decode cX9_change 5 = .ok (.aload_n 0, 1) := by decide +kernel
theorem dX9_change_6 : decode cX9_change 6 = .ok (.iload_n 1, 1) := by decide +kernel
theorem dX9_change_7 : decode cX9_change 7 = .ok (.iload_n 2, 1) := by decide +kernel
theorem dX9_change_8 : decode cX9_change 8 = .ok (.iload_n 3, 1) := by decide +kernel
theorem dX9_change_9 : decode cX9_change 9 = .ok (.iload 4, 2) := by decide +kernel
theorem dX9_change_11 : decode cX9_change 11 = .ok (.invokevirtual 355, 3) := by decide +kernel
theorem dX9_change_14 : decode cX9_change 14 = .ok (.ifCond .ne 6, 3) := by decide +kernel
theorem dX9_change_17 : decode cX9_change 17 = .ok (.bipush (-2), 2) := by decide +kernel
theorem dX9_change_19 : decode cX9_change 19 = .ok (.ireturn, 1) := by decide +kernel
theorem dX9_change_20 : decode cX9_change 20 = .ok (.aload_n 0, 1) := by decide +kernel
theorem dX9_change_21 : decode cX9_change 21 = .ok (.iload_n 1, 1) := by decide +kernel
theorem dX9_change_22 : decode cX9_change 22 = .ok (.iload_n 2, 1) := by decide +kernel
theorem dX9_change_23 : decode cX9_change 23 = .ok (.iload_n 3, 1) := by decide +kernel
theorem dX9_change_24 : decode cX9_change 24 = .ok (.iload 4, 2) := by decide +kernel
theorem dX9_change_26 : decode cX9_change 26 = .ok (.invokevirtual 359, 3) := by decide +kernel
theorem dX9_change_29 : decode cX9_change 29 = .ok (.ifCond .eq 17, 3) := by decide +kernel
theorem dX9_change_32 : decode cX9_change 32 = .ok (.aload_n 0, 1) := by decide +kernel
theorem dX9_change_33 : decode cX9_change 33 = .ok (.getfield 83, 3) := by decide +kernel
theorem dX9_change_36 : decode cX9_change 36 = .ok (.aload_n 0, 1) := by decide +kernel
theorem dX9_change_37 : decode cX9_change 37 = .ok (.iload_n 1, 1) := by decide +kernel
theorem dX9_change_38 : decode cX9_change 38 = .ok (.iload_n 2, 1) := by decide +kernel
theorem dX9_change_39 : decode cX9_change 39 = .ok (.invokevirtual 346, 3) := by decide +kernel
theorem dX9_change_42 : decode cX9_change 42 = .ok (.iaload, 1) := by decide +kernel
theorem dX9_change_43 : decode cX9_change 43 = .ok (.goto 4, 3) := by decide +kernel
theorem dX9_change_46 : decode cX9_change 46 = .ok (.iconst (-1), 1) := by decide +kernel
theorem dX9_change_47 : decode cX9_change 47 = .ok (.ireturn, 1) := by decide +kernel
set_option maxRecDepth 20000 in
theorem ggX9_changes_X9_isChange : GoodIn wsX9_changes wsX9_isChange := goodIn_r _ [7, 8, 9, 10, 6, 11, 12, 13, 14, 15, 16, 17, 18, 19, 20, 51, 52, 53, 54, 55, 56, 57, 58, 59, 60, 61, 62, 63, 64, 65, 66, 67, 68, 69, 70, 71, 72, 73, 74, 75, 76, 77, 78, 79, 80, 81, 82, 83, 84, 85, 86, 87, 88, 89, 90, 91, 92, 93, 94, 95, 96] (by decide +kernel) (by decide +kernel)
set_option maxRecDepth 20000 in
theorem gX9_changes_X9_isChange : GoodIn wsX9_changes (wsV RX9 355 RX9 yX9_isChange wsX9_isChange) := goodIn_app (goodIn_of _ (by decide +kernel)) ggX9_changes_X9_isChange
set_option maxRecDepth 20000 in
theorem ggX9_changes_X9_canChange : GoodIn wsX9_changes wsX9_canChange := goodIn_r _ [24, 2, 25, 26, 27, 28, 6, 29, 12, 30, 31, 32, 33, 34, 35, 36, 37, 38, 39, 40, 41, 42, 43, 44, 45, 46, 47, 48, 49, 50, 51, 52, 53, 54, 55, 56, 57, 58, 59, 60, 61, 62, 63, 64, 65, 66, 67, 68, 69, 70, 71, 72, 73, 74, 75, 76, 77, 78, 79, 80, 81, 82, 83, 84, 85, 86, 87, 88, 89, 90, 91, 92, 93, 94, 95, 96] (by decide +kernel) (by decide +kernel)
set_option maxRecDepth 20000 in
theorem gX9_changes_X9_canChange : GoodIn wsX9_changes (wsV RX9 359 RX9 yX9_canChange wsX9_canChange) := goodIn_app (goodIn_of _ (by decide +kernel)) ggX9_changes_X9_canChange
set_option maxRecDepth 20000 in
theorem ggX9_changes_X9_stateOf : GoodIn wsX9_changes wsX9_stateOf := goodIn_r _ [43, 31, 32, 33, 6, 34, 35, 36, 37, 38, 39, 12, 51, 52, 53, 54, 55, 56, 57, 58, 59, 60, 61, 62, 63, 64, 65, 66, 67, 68, 69, 70, 71, 72, 73, 74, 75, 76, 77, 78, 79, 80, 81, 82, 83, 84, 85, 86, 87, 88, 89, 90, 91, 92, 93, 94, 95, 96] (by decide +kernel) (by decide +kernel)
set_option maxRecDepth 20000 in
theorem gX9_changes_X9_stateOf : GoodIn wsX9_changes (wsV RX9 346 RX9 yX9_stateOf wsX9_stateOf) := goodIn_app (goodIn_of _ (by decide +kernel)) ggX9_changes_X9_stateOf
set_option maxRecDepth 20000 in
theorem ggX9_changes_X9_in : GoodIn wsX9_changes wsX9_in := goodIn_r _ [20] (by decide +kernel) (by decide +kernel)
set_option maxRecDepth 20000 in
theorem gX9_changes_X9_in : GoodIn wsX9_changes (va_wsS RX9 97 yX9_in wsX9_in) := goodIn_app (goodIn_of _ (by decide +kernel)) ggX9_changes_X9_in
set_option maxRecDepth 20000 in
theorem ggX9_changes_X9_behind : GoodIn wsX9_changes wsX9_behind := goodIn_r _ [50] (by decide +kernel) (by decide +kernel)
set_option maxRecDepth 20000 in
theorem gX9_changes_X9_behind : GoodIn wsX9_changes (va_wsS RX9 349 yX9_behind wsX9_behind) := goodIn_app (goodIn_of _ (by decide +kernel)) ggX9_changes_X9_behind
theorem dX9_changes_0 : decode cX9_changes 0 = .ok (.aload_n 0, 1) := by decide +kernel
theorem dX9_changes_1 : decode cX9_changes 1 = .ok (.iconst 0, 1) := by decide +kernel
theorem dX9_changes_2 : decode cX9_changes 2 = .ok (.putfield 92, 3) := by decide +kernel
theorem dX9_changes_5 : decode cX9_changes 5 = .ok (.aload_n 0, 1) := by decide +kernel
theorem dX9_changes_6 : decode cX9_changes 6 = .ok (.iload_n 1, 1) := by decide +kernel
theorem dX9_changes_7 : decode cX9_changes 7 = .ok (.iload_n 2, 1) := by decide +kernel
theorem dX9_changes_8 : decode cX9_changes 8 = .ok (.iload_n 3, 1) := by decide +kernel
theorem dX9_changes_9 : decode cX9_changes 9 = .ok (.iload 4, 2) := by decide +kernel
theorem dX9_changes_11 : decode cX9_changes 11 = .ok (.invokevirtual 355, 3) := by decide +kernel
theorem dX9_changes_14 : decode cX9_changes 14 = .ok (.ifCond .ne 6, 3) := by decide +kernel
theorem dX9_changes_17 : decode cX9_changes 17 = .ok (.bipush (-2), 2) := by decide +kernel
theorem dX9_changes_19 : decode cX9_changes 19 = .ok (.ireturn, 1) := by decide +kernel
theorem dX9_changes_20 : decode cX9_changes 20 = .ok (.aload_n 0, 1) := by decide +kernel
theorem dX9_changes_21 : decode cX9_changes 21 = .ok (.iload_n 1, 1) := by decide +kernel
theorem dX9_changes_22 : decode cX9_changes 22 = .ok (.iload_n 2, 1) := by decide +kernel
theorem dX9_changes_23 : decode cX9_changes 23 = .ok (.iload_n 3, 1) := by decide +kernel
theorem dX9_changes_24 : decode cX9_changes 24 = .ok (.iload 4, 2) := by decide +kernel
theorem dX9_changes_26 : decode cX9_changes 26 = .ok (.invokevirtual 359, 3) := by decide +kernel
theorem dX9_changes_29 : decode cX9_changes 29 = .ok (.ifCond .ne 5, 3) := by decide +kernel
theorem dX9_changes_32 : decode cX9_changes 32 = .ok (.iconst (-1), 1) := by decide +kernel
theorem dX9_changes_33 : decode cX9_changes 33 = .ok (.ireturn, 1) := by decide +kernel
theorem dX9_changes_34 : decode cX9_changes 34 = .ok (.aload_n 0, 1) := by decide +kernel
theorem dX9_changes_35 : decode cX9_changes 35 = .ok (.iload_n 1, 1) := by decide +kernel
theorem dX9_changes_36 : decode cX9_changes 36 = .ok (.iload_n 2, 1) := by decide +kernel
theorem dX9_changes_37 : decode cX9_changes 37 = .ok (.invokevirtual 346, 3) := by decide +kernel
theorem dX9_changes_40 : decode cX9_changes 40 = .ok (.istore 6, 2) := by decide +kernel
theorem dX9_changes_42 : decode cX9_changes 42 = .ok (.iload 5, 2) := by decide +kernel
theorem dX9_changes_44 : decode cX9_changes 44 = .ok (.i2l, 1) := by decide +kernel
theorem dX9_changes_45 : decode cX9_changes 45 = .ok (.lconst 0, 1) := by decide +kernel
theorem dX9_changes_46 : decode cX9_changes 46 = .ok (.aload_n 0, 1) := by decide +kernel
theorem dX9_changes_47 : decode cX9_changes 47 = .ok (.getfield 83, 3) := by decide +kernel
theorem dX9_changes_50 : decode cX9_changes 50 = .ok (.iload 6, 2) := by decide +kernel
theorem dX9_changes_52 : decode cX9_changes 52 = .ok (.iaload, 1) := by decide +kernel
theorem dX9_changes_53 : decode cX9_changes 53 = .ok (.iconst 1, 1) := by decide +kernel
theorem dX9_changes_54 : decode cX9_changes 54 = .ok (.isub, 1) := by decide +kernel
theorem dX9_changes_55 : decode cX9_changes 55 = .ok (.i2l, 1) := by decide +kernel
theorem dX9_changes_56 : decode cX9_changes 56 = .ok (.invokestatic 97, 3) := by decide +kernel
theorem dX9_changes_59 : decode cX9_changes 59 = .ok (.ifCond .ne 5, 3) := by decide +kernel
theorem dX9_changes_62 : decode cX9_changes 62 = .ok (.iconst (-1), 1) := by decide +kernel
theorem dX9_changes_63 : decode cX9_changes 63 = .ok (.ireturn, 1) := by decide +kernel
theorem dX9_changes_64 : decode cX9_changes 64 = .ok (.iconst (-1), 1) := by decide +kernel
theorem dX9_changes_65 : decode cX9_changes 65 = .ok (.istore 7, 2) := by decide +kernel
theorem dX9_changes_67 : decode cX9_changes 67 = .ok (.iconst 0, 1) := by decide +kernel
theorem dX9_changes_68 : decode cX9_changes 68 = .ok (.istore 8, 2) := by decide +kernel
theorem dX9_changes_70 : decode cX9_changes 70 = .ok (.iload 8, 2) := by decide +kernel
theorem dX9_changes_72 : decode cX9_changes 72 = .ok (.iload 5, 2) := by decide +kernel
theorem dX9_changes_74 : decode cX9_changes 74 = .ok (.if_icmp .gt 62, 3) := by decide +kernel
theorem dX9_changes_77 : decode cX9_changes 77 = .ok (.iconst 0, 1) := by decide +kernel
theorem dX9_changes_78 : decode cX9_changes 78 = .ok (.istore 7, 2) := by decide +kernel
theorem dX9_changes_80 : decode cX9_changes 80 = .ok (.iload 6, 2) := by decide +kernel
theorem dX9_changes_82 : decode cX9_changes 82 = .ok (.iload 7, 2) := by decide +kernel
theorem dX9_changes_84 : decode cX9_changes 84 = .ok (.invokestatic 349, 3) := by decide +kernel
theorem dX9_changes_87 : decode cX9_changes 87 = .ok (.iconst (-1), 1) := by decide +kernel
theorem dX9_changes_88 : decode cX9_changes 88 = .ok (.if_icmp .eq 27, 3) := by decide +kernel
theorem dX9_changes_91 : decode cX9_changes 91 = .ok (.aload_n 0, 1) := by decide +kernel
theorem dX9_changes_92 : decode cX9_changes 92 = .ok (.getfield 83, 3) := by decide +kernel
theorem dX9_changes_95 : decode cX9_changes 95 = .ok (.iload 6, 2) := by decide +kernel
theorem dX9_changes_97 : decode cX9_changes 97 = .ok (.iload 7, 2) := by decide +kernel
theorem dX9_changes_99 : decode cX9_changes 99 = .ok (.invokestatic 349, 3) := by decide +kernel
theorem dX9_changes_102 : decode cX9_changes 102 = .ok (.iaload, 1) := by decide +kernel
theorem dX9_changes_103 : decode cX9_changes 103 = .ok (.aload_n 0, 1) := by decide +kernel
theorem dX9_changes_104 : decode cX9_changes 104 = .ok (.getfield 83, 3) := by decide +kernel
theorem dX9_changes_107 : decode cX9_changes 107 = .ok (.iload 6, 2) := by decide +kernel
theorem dX9_changes_109 : decode cX9_changes 109 = .ok (.iaload, 1) := by decide +kernel
theorem dX9_changes_110 : decode cX9_changes 110 = .ok (.iconst 1, 1) := by decide +kernel
theorem dX9_changes_111 : decode cX9_changes 111 = .ok (.isub, 1) := by decide +kernel
theorem dX9_changes_112 : decode cX9_changes 112 = .ok (.if_icmp .eq 9, 3) := by decide +kernel
theorem dX9_changes_115 : decode cX9_changes 115 = .ok (.iinc 7 1, 3) := by decide +kernel
theorem dX9_changes_118 : decode cX9_changes 118 = .ok (.goto (-38), 3) := by decide +kernel
theorem dX9_changes_121 : decode cX9_changes 121 = .ok (.iload 6, 2) := by decide +kernel
theorem dX9_changes_123 : decode cX9_changes 123 = .ok (.iload 7, 2) := by decide +kernel
theorem dX9_changes_125 : decode cX9_changes 125 = .ok (.invokestatic 349, 3) := by decide +kernel
theorem dX9_changes_128 : decode cX9_changes 128 = .ok (.istore 6, 2) := by decide +kernel
