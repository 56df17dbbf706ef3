theorem dX9_changes_130 : decode cX9_changes 130 = .ok (.iinc 8 1, 3) := by decide +kernel
theorem dX9_changes_133 : decode cX9_changes 133 = .ok (.goto (-63), 3) := by decide +kernel
theorem dX9_changes_136 : decode cX9_changes 136 = .ok (.iload 7, 2) := by decide +kernel
theorem dX9_changes_138 : decode cX9_changes 138 = .ok (.ireturn, 1) := by decide +kernel
theorem dX9_at_0 : decode cX9_at 0 = .ok (.bipush 73, 2) := by decide +kernel
theorem dX9_at_2 : decode cX9_at 2 = .ok (.iload_n 0, 1) := by decide +kernel
theorem dX9_at_3 : decode cX9_at 3 = .ok (.imul, 1) := by decide +kernel
theorem dX9_at_4 : decode cX9_at 4 = .ok (.iload_n 1, 1) := by decide +kernel
theorem dX9_at_5 : decode cX9_at 5 = .ok (.iadd, 1) := by decide +kernel
theorem dX9_at_6 : decode cX9_at 6 = .ok (.ireturn, 1) := by decide +kernel
set_option maxRecDepth 20000 in
theorem ggX9_laysRows_X9_bitsOf : GoodIn wsX9_laysRows wsX9_bitsOf := goodIn_r _ [5] (by decide +kernel) (by decide +kernel)
set_option maxRecDepth 20000 in
theorem gX9_laysRows_X9_bitsOf : GoodIn wsX9_laysRows (va_wsS RX9 362 yX9_bitsOf wsX9_bitsOf) := goodIn_app (goodIn_of _ (by decide +kernel)) ggX9_laysRows_X9_bitsOf
set_option maxRecDepth 20000 in
theorem ggX9_laysRows_X9_at : GoodIn wsX9_laysRows wsX9_at := goodIn_r _ [8] (by decide +kernel) (by decide +kernel)
set_option maxRecDepth 20000 in
theorem gX9_laysRows_X9_at : GoodIn wsX9_laysRows (va_wsS RX9 365 yX9_at wsX9_at) := goodIn_app (goodIn_of _ (by decide +kernel)) ggX9_laysRows_X9_at
theorem dX9_laysRows_0 : decode cX9_laysRows 0 = .ok (.iconst 1, 1) := by decide +kernel
theorem dX9_laysRows_1 : decode cX9_laysRows 1 = .ok (.iload_n 1, 1) := by decide +kernel
theorem dX9_laysRows_2 : decode cX9_laysRows 2 = .ok (.ishl, 1) := by decide +kernel
theorem dX9_laysRows_3 : decode cX9_laysRows 3 = .ok (.iconst 1, 1) := by decide +kernel
theorem dX9_laysRows_4 : decode cX9_laysRows 4 = .ok (.isub, 1) := by decide +kernel
theorem dX9_laysRows_5 : decode cX9_laysRows 5 = .ok (.istore 4, 2) := by decide +kernel
theorem dX9_laysRows_7 : decode cX9_laysRows 7 = .ok (.iload 4, 2) := by decide +kernel
theorem dX9_laysRows_9 : decode cX9_laysRows 9 = .ok (.istore 5, 2) := by decide +kernel
theorem dX9_laysRows_11 : decode cX9_laysRows 11 = .ok (.iload 5, 2) := by decide +kernel
theorem dX9_laysRows_13 : decode cX9_laysRows 13 = .ok (.ifCond .lt 137, 3) := by decide +kernel
theorem dX9_laysRows_16 : decode cX9_laysRows 16 = .ok (.iload 5, 2) := by decide +kernel
theorem dX9_laysRows_18 : decode cX9_laysRows 18 = .ok (.invokestatic 362, 3) := by decide +kernel
theorem dX9_laysRows_21 : decode cX9_laysRows 21 = .ok (.istore 6, 2) := by decide +kernel
theorem dX9_laysRows_23 : decode cX9_laysRows 23 = .ok (.iconst 0, 1) := by decide +kernel
theorem dX9_laysRows_24 : decode cX9_laysRows 24 = .ok (.istore 7, 2) := by decide +kernel
theorem dX9_laysRows_26 : decode cX9_laysRows 26 = .ok (.iload 7, 2) := by decide +kernel
theorem dX9_laysRows_28 : decode cX9_laysRows 28 = .ok (.iload_n 1, 1) := by decide +kernel
theorem dX9_laysRows_29 : decode cX9_laysRows 29 = .ok (.iload_n 2, 1) := by decide +kernel
theorem dX9_laysRows_30 : decode cX9_laysRows 30 = .ok (.imul, 1) := by decide +kernel
theorem dX9_laysRows_31 : decode cX9_laysRows 31 = .ok (.if_icmp .gt 113, 3) := by decide +kernel
theorem dX9_laysRows_34 : decode cX9_laysRows 34 = .ok (.iload 5, 2) := by decide +kernel
theorem dX9_laysRows_36 : decode cX9_laysRows 36 = .ok (.iload 4, 2) := by decide +kernel
theorem dX9_laysRows_38 : decode cX9_laysRows 38 = .ok (.if_icmp .ne 12, 3) := by decide +kernel
theorem dX9_laysRows_41 : decode cX9_laysRows 41 = .ok (.iload 7, 2) := by decide +kernel
theorem dX9_laysRows_43 : decode cX9_laysRows 43 = .ok (.ifCond .ne 7, 3) := by decide +kernel
theorem dX9_laysRows_46 : decode cX9_laysRows 46 = .ok (.lconst 1, 1) := by decide +kernel
theorem dX9_laysRows_47 : decode cX9_laysRows 47 = .ok (.goto 4, 3) := by decide +kernel
theorem dX9_laysRows_50 : decode cX9_laysRows 50 = .ok (.lconst 0, 1) := by decide +kernel
theorem dX9_laysRows_51 : decode cX9_laysRows 51 = .ok (.lstore 8, 2) := by decide +kernel
theorem dX9_laysRows_53 : decode cX9_laysRows 53 = .ok (.iconst 0, 1) := by decide +kernel
theorem dX9_laysRows_54 : decode cX9_laysRows 54 = .ok (.istore 10, 2) := by decide +kernel
theorem dX9_laysRows_56 : decode cX9_laysRows 56 = .ok (.iload 10, 2) := by decide +kernel
theorem dX9_laysRows_58 : decode cX9_laysRows 58 = .ok (.iload_n 3, 1) := by decide +kernel
theorem dX9_laysRows_59 : decode cX9_laysRows 59 = .ok (.if_icmp .gt 65, 3) := by decide +kernel
theorem dX9_laysRows_62 : decode cX9_laysRows 62 = .ok (.iload 10, 2) := by decide +kernel
theorem dX9_laysRows_64 : decode cX9_laysRows 64 = .ok (.iload 7, 2) := by decide +kernel
theorem dX9_laysRows_66 : decode cX9_laysRows 66 = .ok (.if_icmp .gt 58, 3) := by decide +kernel
theorem dX9_laysRows_69 : decode cX9_laysRows 69 = .ok (.iload 5, 2) := by decide +kernel
theorem dX9_laysRows_71 : decode cX9_laysRows 71 = .ok (.iload 4, 2) := by decide +kernel
theorem dX9_laysRows_73 : decode cX9_laysRows 73 = .ok (.if_icmp .eq 51, 3) := by decide +kernel
theorem dX9_laysRows_76 : decode cX9_laysRows 76 = .ok (.iconst 1, 1) := by decide +kernel
theorem dX9_laysRows_77 : decode cX9_laysRows 77 = .ok (.iload 6, 2) := by decide +kernel
theorem dX9_laysRows_79 : decode cX9_laysRows 79 = .ok (.iload 10, 2) := by decide +kernel
theorem dX9_laysRows_81 : decode cX9_laysRows 81 = .ok (.iadd, 1) := by decide +kernel
theorem dX9_laysRows_82 : decode cX9_laysRows 82 = .ok (.iload_n 1, 1) := by decide +kernel
theorem dX9_laysRows_83 : decode cX9_laysRows 83 = .ok (.irem, 1) := by decide +kernel
theorem dX9_laysRows_84 : decode cX9_laysRows 84 = .ok (.ishl, 1) := by decide +kernel
theorem dX9_laysRows_85 : decode cX9_laysRows 85 = .ok (.istore 11, 2) := by decide +kernel
theorem dX9_laysRows_87 : decode cX9_laysRows 87 = .ok (.iload 5, 2) := by decide +kernel
theorem dX9_laysRows_89 : decode cX9_laysRows 89 = .ok (.iload 11, 2) := by decide +kernel
theorem dX9_laysRows_91 : decode cX9_laysRows 91 = .ok (.iand, 1) := by decide +kernel
theorem dX9_laysRows_92 : decode cX9_laysRows 92 = .ok (.ifCond .ne 26, 3) := by decide +kernel
theorem dX9_laysRows_95 : decode cX9_laysRows 95 = .ok (.lload 8, 2) := by decide +kernel
theorem dX9_laysRows_97 : decode cX9_laysRows 97 = .ok (.aload_n 0, 1) := by decide +kernel
theorem dX9_laysRows_98 : decode cX9_laysRows 98 = .ok (.getfield 86, 3) := by decide +kernel
theorem dX9_laysRows_101 : decode cX9_laysRows 101 = .ok (.iload 5, 2) := by decide +kernel
theorem dX9_laysRows_103 : decode cX9_laysRows 103 = .ok (.iload 11, 2) := by decide +kernel
theorem dX9_laysRows_105 : decode cX9_laysRows 105 = .ok (.ior, 1) := by decide +kernel
theorem dX9_laysRows_106 : decode cX9_laysRows 106 = .ok (.iload 7, 2) := by decide +kernel
theorem dX9_laysRows_108 : decode cX9_laysRows 108 = .ok (.iload 10, 2) := by decide +kernel
theorem dX9_laysRows_110 : decode cX9_laysRows 110 = .ok (.isub, 1) := by decide +kernel
theorem dX9_laysRows_111 : decode cX9_laysRows 111 = .ok (.invokestatic 365, 3) := by decide +kernel
theorem dX9_laysRows_114 : decode cX9_laysRows 114 = .ok (.laload, 1) := by decide +kernel
theorem dX9_laysRows_115 : decode cX9_laysRows 115 = .ok (.ladd, 1) := by decide +kernel
theorem dX9_laysRows_116 : decode cX9_laysRows 116 = .ok (.lstore 8, 2) := by decide +kernel
theorem dX9_laysRows_118 : decode cX9_laysRows 118 = .ok (.iinc 10 1, 3) := by decide +kernel
theorem dX9_laysRows_121 : decode cX9_laysRows 121 = .ok (.goto (-65), 3) := by decide +kernel
theorem dX9_laysRows_124 : decode cX9_laysRows 124 = .ok (.aload_n 0, 1) := by decide +kernel
theorem dX9_laysRows_125 : decode cX9_laysRows 125 = .ok (.getfield 86, 3) := by decide +kernel
theorem dX9_laysRows_128 : decode cX9_laysRows 128 = .ok (.iload 5, 2) := by decide +kernel
theorem dX9_laysRows_130 : decode cX9_laysRows 130 = .ok (.iload 7, 2) := by decide +kernel
theorem dX9_laysRows_132 : decode cX9_laysRows 132 = .ok (.invokestatic 365, 3) := by decide +kernel
theorem dX9_laysRows_135 : decode cX9_laysRows 135 = .ok (.lload 8, 2) := by decide +kernel
theorem dX9_laysRows_137 : decode cX9_laysRows 137 = .ok (.lastore, 1) := by decide +kernel
theorem dX9_laysRows_138 : decode cX9_laysRows 138 = .ok (.iinc 7 1, 3) := by decide +kernel
theorem dX9_laysRows_141 : decode cX9_laysRows 141 = .ok (.goto (-115), 3) := by decide +kernel
theorem dX9_laysRows_144 : decode cX9_laysRows 144 = .ok (.iinc 5 (-1), 3) := by decide +kernel
theorem dX9_laysRows_147 : decode cX9_laysRows 147 = .ok (.goto (-136), 3) := by decide +kernel
theorem dX9_laysRows_150 : decode cX9_laysRows 150 = .ok (.return_, 1) := by decide +kernel
theorem dX9_bitsOf_0 : decode cX9_bitsOf 0 = .ok (.iconst 0, 1) := by decide +kernel
theorem dX9_bitsOf_1 : decode cX9_bitsOf 1 = .ok (.istore_n 1, 1) := by decide +kernel
theorem dX9_bitsOf_2 : decode cX9_bitsOf 2 = .ok (.iload_n 0, 1) := by decide +kernel
theorem dX9_bitsOf_3 : decode cX9_bitsOf 3 = .ok (.istore_n 2, 1) := by decide +kernel
theorem dX9_bitsOf_4 : decode cX9_bitsOf 4 = .ok (.iload_n 2, 1) := by decide +kernel
theorem dX9_bitsOf_5 : decode cX9_bitsOf 5 = .ok (.ifCond .eq 15, 3) := by decide +kernel
theorem dX9_bitsOf_8 : decode cX9_bitsOf 8 = .ok (.iinc 1 1, 3) := by decide +kernel
theorem dX9_bitsOf_11 : decode cX9_bitsOf 11 = .ok (.iload_n 2, 1) := by decide +kernel
theorem dX9_bitsOf_12 : decode cX9_bitsOf 12 = .ok (.iload_n 2, 1) := by decide +kernel
theorem dX9_bitsOf_13 : decode cX9_bitsOf 13 = .ok (.iconst 1, 1) := by decide +kernel
theorem dX9_bitsOf_14 : decode cX9_bitsOf 14 = .ok (.isub, 1) := by decide +kernel
theorem dX9_bitsOf_15 : decode cX9_bitsOf 15 = .ok (.iand, 1) := by decide +kernel
theorem dX9_bitsOf_16 : decode cX9_bitsOf 16 = .ok (.istore_n 2, 1) := by decide +kernel
theorem dX9_bitsOf_17 : decode cX9_bitsOf 17 = .ok (.goto (-13), 3) := by decide +kernel
theorem dX9_bitsOf_20 : decode cX9_bitsOf 20 = .ok (.iload_n 1, 1) := by decide +kernel
theorem dX9_bitsOf_21 : decode cX9_bitsOf 21 = .ok (.ireturn, 1) := by decide +kernel
set_option maxRecDepth 20000 in
theorem ggX9_areRows_X9_in : GoodIn wsX9_areRows wsX9_in := goodIn_r _ [6] (by decide +kernel) (by decide +kernel)
set_option maxRecDepth 20000 in
theorem gX9_areRows_X9_in : GoodIn wsX9_areRows (va_wsS RX9 97 yX9_in wsX9_in) := goodIn_app (goodIn_of _ (by decide +kernel)) ggX9_areRows_X9_in
theorem dX9_areRows_0 : decode cX9_areRows 0 = .ok (.iload_n 0, 1) := by decide +kernel
theorem dX9_areRows_1 : decode cX9_areRows 1 = .ok (.i2l, 1) := by decide +kernel
theorem dX9_areRows_2 : decode cX9_areRows 2 = .ok (.lconst 1, 1) := by decide +kernel
theorem dX9_areRows_3 : decode cX9_areRows 3 = .ok (.ldc2_w 367, 3) := by decide +kernel
theorem dX9_areRows_6 : decode cX9_areRows 6 = .ok (.invokestatic 97, 3) := by decide +kernel
theorem dX9_areRows_9 : decode cX9_areRows 9 = .ok (.ifCond .eq 31, 3) := by decide +kernel
theorem dX9_areRows_12 : decode cX9_areRows 12 = .ok (.iload_n 1, 1) := by decide +kernel
theorem dX9_areRows_13 : decode cX9_areRows 13 = .ok (.i2l, 1) := by decide +kernel
theorem dX9_areRows_14 : decode cX9_areRows 14 = .ok (.lconst 0, 1) := by decide +kernel
theorem dX9_areRows_15 : decode cX9_areRows 15 = .ok (.ldc2_w 182, 3) := by decide +kernel
theorem dX9_areRows_18 : decode cX9_areRows 18 = .ok (.invokestatic 97, 3) := by decide +kernel
theorem dX9_areRows_21 : decode cX9_areRows 21 = .ok (.ifCond .eq 19, 3) := by decide +kernel
theorem dX9_areRows_24 : decode cX9_areRows 24 = .ok (.iload_n 2, 1) := by decide +kernel
theorem dX9_areRows_25 : decode cX9_areRows 25 = .ok (.i2l, 1) := by decide +kernel
theorem dX9_areRows_26 : decode cX9_areRows 26 = .ok (.lconst 0, 1) := by decide +kernel
theorem dX9_areRows_27 : decode cX9_areRows 27 = .ok (.ldc2_w 182, 3) := by decide +kernel
theorem dX9_areRows_30 : decode cX9_areRows 30 = .ok (.invokestatic 97, 3) := by decide +kernel
theorem dX9_areRows_33 : decode cX9_areRows 33 = .ok (.ifCond .eq 7, 3) := by decide +kernel
theorem dX9_areRows_36 : decode cX9_areRows 36 = .ok (.iconst 1, 1) := by decide +kernel
theorem dX9_areRows_37 : decode cX9_areRows 37 = .ok (.goto 4, 3) := by decide +kernel
theorem dX9_areRows_40 : decode cX9_areRows 40 = .ok (.iconst 0, 1) := by decide +kernel
theorem dX9_areRows_41 : decode cX9_areRows 41 = .ok (.ireturn, 1) := by decide +kernel
set_option maxRecDepth 20000 in
theorem ggX9_rows_X9_areRows : GoodIn wsX9_rows wsX9_areRows := goodIn_r _ [7, 8, 9, 10, 11, 6, 12] (by decide +kernel) (by decide +kernel)
set_option maxRecDepth 20000 in
theorem gX9_rows_X9_areRows : GoodIn wsX9_rows (va_wsS RX9 369 yX9_areRows wsX9_areRows) := goodIn_app (goodIn_of _ (by decide +kernel)) ggX9_rows_X9_areRows
set_option maxRecDepth 20000 in
theorem ggX9_rows_X9_laysRows : GoodIn wsX9_rows wsX9_laysRows := goodIn_r _ [16, 3, 17, 18, 6, 19, 20, 21, 22, 23, 24, 25, 26, 27, 28, 29, 30, 31, 32, 33, 34, 35, 36, 37, 38, 39, 40, 41, 42, 43, 44, 45, 46, 47, 48, 49, 50, 51, 52, 53, 54, 55, 56, 57, 58, 59, 60, 61, 62, 63, 64, 65, 66, 67, 68] (by decide +kernel) (by decide +kernel)
set_option maxRecDepth 20000 in
theorem gX9_rows_X9_laysRows : GoodIn wsX9_rows (wsV RX9 372 RX9 yX9_laysRows wsX9_laysRows) := goodIn_app (goodIn_of _ (by decide +kernel)) ggX9_rows_X9_laysRows
set_option maxRecDepth 20000 in
theorem ggX9_rows_X9_at : GoodIn wsX9_rows wsX9_at := goodIn_r _ [22] (by decide +kernel) (by decide +kernel)
set_option maxRecDepth 20000 in
theorem gX9_rows_X9_at : GoodIn wsX9_rows (va_wsS RX9 365 yX9_at wsX9_at) := goodIn_app (goodIn_of _ (by decide +kernel)) ggX9_rows_X9_at
theorem dX9_rows_0 : decode cX9_rows 0 = .ok (.aload_n 0, 1) := by decide +kernel
theorem dX9_rows_1 : decode cX9_rows 1 = .ok (.iconst 0, 1) := by decide +kernel
theorem dX9_rows_2 : decode cX9_rows 2 = .ok (.putfield 92, 3) := by decide +kernel
theorem dX9_rows_5 : decode cX9_rows 5 = .ok (.iload_n 1, 1) := by decide +kernel
theorem dX9_rows_6 : decode cX9_rows 6 = .ok (.iload_n 2, 1) := by decide +kernel
theorem dX9_rows_7 : decode cX9_rows 7 = .ok (.iload_n 3, 1) := by decide +kernel
theorem dX9_rows_8 : decode cX9_rows 8 = .ok (.invokestatic 369, 3) := by decide +kernel
theorem dX9_rows_11 : decode cX9_rows 11 = .ok (.ifCond .ne 7, 3) := by decide +kernel
theorem dX9_rows_14 : decode cX9_rows 14 = .ok (.ldc2_w 323, 3) := by decide +kernel
theorem dX9_rows_17 : decode cX9_rows 17 = .ok (.lreturn, 1) := by decide +kernel
theorem dX9_rows_18 : decode cX9_rows 18 = .ok (.aload_n 0, 1) := by decide +kernel
theorem dX9_rows_19 : decode cX9_rows 19 = .ok (.iload_n 1, 1) := by decide +kernel
theorem dX9_rows_20 : decode cX9_rows 20 = .ok (.iload_n 2, 1) := by decide +kernel
theorem dX9_rows_21 : decode cX9_rows 21 = .ok (.iload_n 3, 1) := by decide +kernel
theorem dX9_rows_22 : decode cX9_rows 22 = .ok (.invokevirtual 372, 3) := by decide +kernel
theorem dX9_rows_25 : decode cX9_rows 25 = .ok (.aload_n 0, 1) := by decide +kernel
theorem dX9_rows_26 : decode cX9_rows 26 = .ok (.getfield 86, 3) := by decide +kernel
theorem dX9_rows_29 : decode cX9_rows 29 = .ok (.iconst 0, 1) := by decide +kernel
theorem dX9_rows_30 : decode cX9_rows 30 = .ok (.iload_n 1, 1) := by decide +kernel
theorem dX9_rows_31 : decode cX9_rows 31 = .ok (.iload_n 2, 1) := by decide +kernel
theorem dX9_rows_32 : decode cX9_rows 32 = .ok (.imul, 1) := by decide +kernel
theorem dX9_rows_33 : decode cX9_rows 33 = .ok (.invokestatic 365, 3) := by decide +kernel
theorem dX9_rows_36 : decode cX9_rows 36 = .ok (.laload, 1) := by decide +kernel
theorem dX9_rows_37 : decode cX9_rows 37 = .ok (.lreturn, 1) := by decide +kernel
set_option maxRecDepth 20000 in
theorem ggX9_least_X9_areRows : GoodIn wsX9_least wsX9_areRows := goodIn_r _ [6, 7, 8, 9, 10, 5, 11] (by decide +kernel) (by decide +kernel)
set_option maxRecDepth 20000 in
theorem gX9_least_X9_areRows : GoodIn wsX9_least (va_wsS RX9 369 yX9_areRows wsX9_areRows) := goodIn_app (goodIn_of _ (by decide +kernel)) ggX9_least_X9_areRows
set_option maxRecDepth 20000 in
theorem ggX9_least_X9_in : GoodIn wsX9_least wsX9_in := goodIn_r _ [11] (by decide +kernel) (by decide +kernel)
set_option maxRecDepth 20000 in
theorem gX9_least_X9_in : GoodIn wsX9_least (va_wsS RX9 97 yX9_in wsX9_in) := goodIn_app (goodIn_of _ (by decide +kernel)) ggX9_least_X9_in
set_option maxRecDepth 20000 in
theorem ggX9_least_X9_laysRows : GoodIn wsX9_least wsX9_laysRows := goodIn_r _ [15, 2, 16, 17, 5, 18, 19, 20, 21, 22, 23, 24, 25, 26, 27, 28, 29, 30, 31, 32, 33, 34, 35, 36, 37, 38, 39, 40, 41, 42, 43, 44, 45, 46, 47, 48, 49, 50, 51, 52, 53, 54, 55, 56, 57, 58, 59, 60, 61, 62, 63, 64, 65, 66, 67] (by decide +kernel) (by decide +kernel)
set_option maxRecDepth 20000 in
theorem gX9_least_X9_laysRows : GoodIn wsX9_least (wsV RX9 372 RX9 yX9_laysRows wsX9_laysRows) := goodIn_app (goodIn_of _ (by decide +kernel)) ggX9_least_X9_laysRows
set_option maxRecDepth 20000 in
theorem ggX9_least_X9_at : GoodIn wsX9_least wsX9_at := goodIn_r _ [21] (by decide +kernel) (by decide +kernel)
set_option maxRecDepth 20000 in
theorem gX9_least_X9_at : GoodIn wsX9_least (va_wsS RX9 365 yX9_at wsX9_at) := goodIn_app (goodIn_of _ (by decide +kernel)) ggX9_least_X9_at
theorem dX9_least_0 : decode cX9_least 0 = .ok (.aload_n 0, 1) := by decide +kernel
theorem dX9_least_1 : decode cX9_least 1 = .ok (.iconst 0, 1) := by decide +kernel
theorem dX9_least_2 : decode cX9_least 2 = .ok (.putfield 92, 3) := by decide +kernel
theorem dX9_least_5 : decode cX9_least 5 = .ok (.iload_n 1, 1) := by decide +kernel
theorem dX9_least_6 : decode cX9_least 6 = .ok (.iload_n 2, 1) := by decide +kernel
theorem dX9_least_7 : decode cX9_least 7 = .ok (.iload_n 3, 1) := by decide +kernel
theorem dX9_least_8 : decode cX9_least 8 = .ok (.invokestatic 369, 3) := by decide +kernel
theorem dX9_least_11 : decode cX9_least 11 = .ok (.ifCond .eq 17, 3) := by decide +kernel
theorem dX9_least_14 : decode cX9_least 14 = .ok (.iload 4, 2) := by decide +kernel
theorem dX9_least_16 : decode cX9_least 16 = .ok (.i2l, 1) := by decide +kernel
theorem dX9_least_17 : decode cX9_least 17 = .ok (.lconst 0, 1) := by decide +kernel
theorem dX9_least_18 : decode cX9_least 18 = .ok (.iload_n 1, 1) := by decide +kernel
theorem dX9_least_19 : decode cX9_least 19 = .ok (.iconst 1, 1) := by decide +kernel
theorem dX9_least_20 : decode cX9_least 20 = .ok (.isub, 1) := by decide +kernel
theorem dX9_least_21 : decode cX9_least 21 = .ok (.i2l, 1) := by decide +kernel
theorem dX9_least_22 : decode cX9_least 22 = .ok (.invokestatic 97, 3) := by decide +kernel
theorem dX9_least_25 : decode cX9_least 25 = .ok (.ifCond .ne 6, 3) := by decide +kernel
theorem dX9_least_28 : decode cX9_least 28 = .ok (.bipush (-2), 2) := by decide +kernel
theorem dX9_least_30 : decode cX9_least 30 = .ok (.ireturn, 1) := by decide +kernel
theorem dX9_least_31 : decode cX9_least 31 = .ok (.aload_n 0, 1) := by decide +kernel
theorem dX9_least_32 : decode cX9_least 32 = .ok (.iload_n 1, 1) := by decide +kernel
theorem dX9_least_33 : decode cX9_least 33 = .ok (.iload_n 2, 1) := by decide +kernel
theorem dX9_least_34 : decode cX9_least 34 = .ok (.iload_n 3, 1) := by decide +kernel
theorem dX9_least_35 : decode cX9_least 35 = .ok (.invokevirtual 372, 3) := by decide +kernel
theorem dX9_least_38 : decode cX9_least 38 = .ok (.aload_n 0, 1) := by decide +kernel
theorem dX9_least_39 : decode cX9_least 39 = .ok (.getfield 86, 3) := by decide +kernel
theorem dX9_least_42 : decode cX9_least 42 = .ok (.iconst 0, 1) := by decide +kernel
theorem dX9_least_43 : decode cX9_least 43 = .ok (.iload_n 1, 1) := by decide +kernel
theorem dX9_least_44 : decode cX9_least 44 = .ok (.iload_n 2, 1) := by decide +kernel
theorem dX9_least_45 : decode cX9_least 45 = .ok (.imul, 1) := by decide +kernel
theorem dX9_least_46 : decode cX9_least 46 = .ok (.invokestatic 365, 3) := by decide +kernel
theorem dX9_least_49 : decode cX9_least 49 = .ok (.laload, 1) := by decide +kernel
theorem dX9_least_50 : decode cX9_least 50 = .ok (.lconst 0, 1) := by decide +kernel
theorem dX9_least_51 : decode cX9_least 51 = .ok (.lcmp, 1) := by decide +kernel
theorem dX9_least_52 : decode cX9_least 52 = .ok (.ifCond .ne 5, 3) := by decide +kernel
theorem dX9_least_55 : decode cX9_least 55 = .ok (.iconst (-1), 1) := by decide +kernel
theorem dX9_least_56 : decode cX9_least 56 = .ok (.ireturn, 1) := by decide +kernel
theorem dX9_least_57 : decode cX9_least 57 = .ok (.iconst 0, 1) := by decide +kernel
theorem dX9_least_58 : decode cX9_least 58 = .ok (.istore 5, 2) := by decide +kernel
theorem dX9_least_60 : decode cX9_least 60 = .ok (.iload_n 1, 1) := by decide +kernel
theorem dX9_least_61 : decode cX9_least 61 = .ok (.iload_n 2, 1) := by decide +kernel
theorem dX9_least_62 : decode cX9_least 62 = .ok (.imul, 1) := by decide +kernel
theorem dX9_least_63 : decode cX9_least 63 = .ok (.istore 6, 2) := by decide +kernel
theorem dX9_least_65 : decode cX9_least 65 = .ok (.iconst 0, 1) := by decide +kernel
theorem dX9_least_66 : decode cX9_least 66 = .ok (.istore 7, 2) := by decide +kernel
theorem dX9_least_68 : decode cX9_least 68 = .ok (.iconst 0, 1) := by decide +kernel
theorem dX9_least_69 : decode cX9_least 69 = .ok (.istore 8, 2) := by decide +kernel
theorem dX9_least_71 : decode cX9_least 71 = .ok (.iload 8, 2) := by decide +kernel
theorem dX9_least_73 : decode cX9_least 73 = .ok (.iload 4, 2) := by decide +kernel
theorem dX9_least_75 : decode cX9_least 75 = .ok (.if_icmp .gt 85, 3) := by decide +kernel
theorem dX9_least_78 : decode cX9_least 78 = .ok (.iconst 0, 1) := by decide +kernel
theorem dX9_least_79 : decode cX9_least 79 = .ok (.istore 7, 2) := by decide +kernel
theorem dX9_least_81 : decode cX9_least 81 = .ok (.iload 5, 2) := by decide +kernel
theorem dX9_least_83 : decode cX9_least 83 = .ok (.iload 8, 2) := by decide +kernel
theorem dX9_least_85 : decode cX9_least 85 = .ok (.iload 7, 2) := by decide +kernel
theorem dX9_least_87 : decode cX9_least 87 = .ok (.iadd, 1) := by decide +kernel
theorem dX9_least_88 : decode cX9_least 88 = .ok (.iload_n 1, 1) := by decide +kernel
theorem dX9_least_89 : decode cX9_least 89 = .ok (.irem, 1) := by decide +kernel
theorem dX9_least_90 : decode cX9_least 90 = .ok (.ishr, 1) := by decide +kernel
theorem dX9_least_91 : decode cX9_least 91 = .ok (.iconst 1, 1) := by decide +kernel
theorem dX9_least_92 : decode cX9_least 92 = .ok (.iand, 1) := by decide +kernel
theorem dX9_least_93 : decode cX9_least 93 = .ok (.iconst 1, 1) := by decide +kernel
theorem dX9_least_94 : decode cX9_least 94 = .ok (.if_icmp .eq 33, 3) := by decide +kernel
theorem dX9_least_97 : decode cX9_least 97 = .ok (.aload_n 0, 1) := by decide +kernel
theorem dX9_least_98 : decode cX9_least 98 = .ok (.getfield 86, 3) := by decide +kernel
theorem dX9_least_101 : decode cX9_least 101 = .ok (.iload 5, 2) := by decide +kernel
theorem dX9_least_103 : decode cX9_least 103 = .ok (.iconst 1, 1) := by decide +kernel
theorem dX9_least_104 : decode cX9_least 104 = .ok (.iload 8, 2) := by decide +kernel
theorem dX9_least_106 : decode cX9_least 106 = .ok (.iload 7, 2) := by decide +kernel
theorem dX9_least_108 : decode cX9_least 108 = .ok (.iadd, 1) := by decide +kernel
theorem dX9_least_109 : decode cX9_least 109 = .ok (.iload_n 1, 1) := by decide +kernel
theorem dX9_least_110 : decode cX9_least 110 = .ok (.irem, 1) := by decide +kernel
theorem dX9_least_111 : decode cX9_least 111 = .ok (.ishl, 1) := by decide +kernel
theorem dX9_least_112 : decode cX9_least 112 = .ok (.ior, 1) := by decide +kernel
theorem dX9_least_113 : decode cX9_least 113 = .ok (.iload 6, 2) := by decide +kernel
theorem dX9_least_115 : decode cX9_least 115 = .ok (.iload 7, 2) := by decide +kernel
theorem dX9_least_117 : decode cX9_least 117 = .ok (.isub, 1) := by decide +kernel
theorem dX9_least_118 : decode cX9_least 118 = .ok (.invokestatic 365, 3) := by decide +kernel
theorem dX9_least_121 : decode cX9_least 121 = .ok (.laload, 1) := by decide +kernel
theorem dX9_least_122 : decode cX9_least 122 = .ok (.lconst 0, 1) := by decide +kernel
theorem dX9_least_123 : decode cX9_least 123 = .ok (.lcmp, 1) := by decide +kernel
theorem dX9_least_124 : decode cX9_least 124 = .ok (.ifCond .ne 9, 3) := by decide +kernel
theorem dX9_least_127 : decode cX9_least 127 = .ok (.iinc 7 1, 3) := by decide +kernel
theorem dX9_least_130 : decode cX9_least 130 = .ok (.goto (-49), 3) := by decide +kernel
theorem dX9_least_133 : decode cX9_least 133 = .ok (.iload 5, 2) := by decide +kernel
theorem dX9_least_135 : decode cX9_least 135 = .ok (.iconst 1, 1) := by decide +kernel
theorem dX9_least_136 : decode cX9_least 136 = .ok (.iload 8, 2) := by decide +kernel
theorem dX9_least_138 : decode cX9_least 138 = .ok (.iload 7, 2) := by decide +kernel
theorem dX9_least_140 : decode cX9_least 140 = .ok (.iadd, 1) := by decide +kernel
theorem dX9_least_141 : decode cX9_least 141 = .ok (.iload_n 1, 1) := by decide +kernel
theorem dX9_least_142 : decode cX9_least 142 = .ok (.irem, 1) := by decide +kernel
theorem dX9_least_143 : decode cX9_least 143 = .ok (.ishl, 1) := by decide +kernel
theorem dX9_least_144 : decode cX9_least 144 = .ok (.ior, 1) := by decide +kernel
theorem dX9_least_145 : decode cX9_least 145 = .ok (.istore 5, 2) := by decide +kernel
theorem dX9_least_147 : decode cX9_least 147 = .ok (.iload 6, 2) := by decide +kernel
theorem dX9_least_149 : decode cX9_least 149 = .ok (.iload 7, 2) := by decide +kernel
theorem dX9_least_151 : decode cX9_least 151 = .ok (.isub, 1) := by decide +kernel
theorem dX9_least_152 : decode cX9_least 152 = .ok (.istore 6, 2) := by decide +kernel
theorem dX9_least_154 : decode cX9_least 154 = .ok (.iinc 8 1, 3) := by decide +kernel
theorem dX9_least_157 : decode cX9_least 157 = .ok (.goto (-86), 3) := by decide +kernel
theorem dX9_least_160 : decode cX9_least 160 = .ok (.iload 7, 2) := by decide +kernel
theorem dX9_least_162 : decode cX9_least 162 = .ok (.ireturn, 1) := by decide +kernel
set_option maxRecDepth 20000 in
theorem ggX9_exchange_X9_isThrow : GoodIn wsX9_exchange wsX9_isThrow := goodIn_r _ [10, 3, 11, 12, 13, 9, 14, 15, 16, 17, 18, 19, 20, 21, 22, 23, 24, 25, 26, 27, 28, 29, 30, 31, 32, 33, 34, 35, 36, 37, 38, 39, 40, 41, 42, 43, 44, 45, 46, 47, 48, 49, 50, 51, 52, 53, 54, 55, 56, 57, 58, 59, 60, 61, 62, 63, 64] (by decide +kernel) (by decide +kernel)
set_option maxRecDepth 20000 in
theorem gX9_exchange_X9_isThrow : GoodIn wsX9_exchange (wsV RX9 276 RX9 yX9_isThrow wsX9_isThrow) := goodIn_app (goodIn_of _ (by decide +kernel)) ggX9_exchange_X9_isThrow
set_option maxRecDepth 20000 in
theorem ggX9_exchange_X9_in : GoodIn wsX9_exchange wsX9_in := goodIn_r _ [18] (by decide +kernel) (by decide +kernel)
set_option maxRecDepth 20000 in
theorem gX9_exchange_X9_in : GoodIn wsX9_exchange (va_wsS RX9 97 yX9_in wsX9_in) := goodIn_app (goodIn_of _ (by decide +kernel)) ggX9_exchange_X9_in
theorem dX9_exchange_0 : decode cX9_exchange 0 = .ok (.aload_n 0, 1) := by decide +kernel
theorem dX9_exchange_1 : decode cX9_exchange 1 = .ok (.iconst 0, 1) := by decide +kernel
theorem dX9_exchange_2 : decode cX9_exchange 2 = .ok (.putfield 92, 3) := by decide +kernel
theorem dX9_exchange_5 : decode cX9_exchange 5 = .ok (.aload_n 0, 1) := by decide +kernel
theorem dX9_exchange_6 : decode cX9_exchange 6 = .ok (.iload_n 1, 1) := by decide +kernel
theorem dX9_exchange_7 : decode cX9_exchange 7 = .ok (.iload_n 2, 1) := by decide +kernel
theorem dX9_exchange_8 : decode cX9_exchange 8 = .ok (.invokevirtual 276, 3) := by decide +kernel
theorem dX9_exchange_11 : decode cX9_exchange 11 = .ok (.ifCond .eq 18, 3) := by decide +kernel
theorem dX9_exchange_14 : decode cX9_exchange 14 = .ok (.aload_n 0, 1) := by decide +kernel
theorem dX9_exchange_15 : decode cX9_exchange 15 = .ok (.iload_n 3, 1) := by decide +kernel
theorem dX9_exchange_16 : decode cX9_exchange 16 = .ok (.iload 4, 2) := by decide +kernel
theorem dX9_exchange_18 : decode cX9_exchange 18 = .ok (.invokevirtual 276, 3) := by decide +kernel
theorem dX9_exchange_21 : decode cX9_exchange 21 = .ok (.ifCond .eq 8, 3) := by decide +kernel
theorem dX9_exchange_24 : decode cX9_exchange 24 = .ok (.iload_n 1, 1) := by decide +kernel
theorem dX9_exchange_25 : decode cX9_exchange 25 = .ok (.iload_n 3, 1) := by decide +kernel
theorem dX9_exchange_26 : decode cX9_exchange 26 = .ok (.if_icmp .ne 6, 3) := by decide +kernel
theorem dX9_exchange_29 : decode cX9_exchange 29 = .ok (.bipush (-2), 2) := by decide +kernel
theorem dX9_exchange_31 : decode cX9_exchange 31 = .ok (.ireturn, 1) := by decide +kernel
theorem dX9_exchange_32 : decode cX9_exchange 32 = .ok (.bipush 8, 2) := by decide +kernel
theorem dX9_exchange_34 : decode cX9_exchange 34 = .ok (.iload_n 1, 1) := by decide +kernel
theorem dX9_exchange_35 : decode cX9_exchange 35 = .ok (.imul, 1) := by decide +kernel
theorem dX9_exchange_36 : decode cX9_exchange 36 = .ok (.iload_n 2, 1) := by decide +kernel
theorem dX9_exchange_37 : decode cX9_exchange 37 = .ok (.iadd, 1) := by decide +kernel
theorem dX9_exchange_38 : decode cX9_exchange 38 = .ok (.istore 5, 2) := by decide +kernel
theorem dX9_exchange_40 : decode cX9_exchange 40 = .ok (.bipush 8, 2) := by decide +kernel
theorem dX9_exchange_42 : decode cX9_exchange 42 = .ok (.iload_n 3, 1) := by decide +kernel
theorem dX9_exchange_43 : decode cX9_exchange 43 = .ok (.imul, 1) := by decide +kernel
theorem dX9_exchange_44 : decode cX9_exchange 44 = .ok (.iload 4, 2) := by decide +kernel
theorem dX9_exchange_46 : decode cX9_exchange 46 = .ok (.iadd, 1) := by decide +kernel
theorem dX9_exchange_47 : decode cX9_exchange 47 = .ok (.istore 6, 2) := by decide +kernel
theorem dX9_exchange_49 : decode cX9_exchange 49 = .ok (.aload_n 0, 1) := by decide +kernel
theorem dX9_exchange_50 : decode cX9_exchange 50 = .ok (.getfield 43, 3) := by decide +kernel
theorem dX9_exchange_53 : decode cX9_exchange 53 = .ok (.iload 6, 2) := by decide +kernel
theorem dX9_exchange_55 : decode cX9_exchange 55 = .ok (.iaload, 1) := by decide +kernel
theorem dX9_exchange_56 : decode cX9_exchange 56 = .ok (.iload 4, 2) := by decide +kernel
theorem dX9_exchange_58 : decode cX9_exchange 58 = .ok (.iadd, 1) := by decide +kernel
theorem dX9_exchange_59 : decode cX9_exchange 59 = .ok (.iload_n 2, 1) := by decide +kernel
theorem dX9_exchange_60 : decode cX9_exchange 60 = .ok (.isub, 1) := by decide +kernel
theorem dX9_exchange_61 : decode cX9_exchange 61 = .ok (.istore 7, 2) := by decide +kernel
theorem dX9_exchange_63 : decode cX9_exchange 63 = .ok (.aload_n 0, 1) := by decide +kernel
theorem dX9_exchange_64 : decode cX9_exchange 64 = .ok (.getfield 43, 3) := by decide +kernel
theorem dX9_exchange_67 : decode cX9_exchange 67 = .ok (.iload 5, 2) := by decide +kernel
theorem dX9_exchange_69 : decode cX9_exchange 69 = .ok (.iaload, 1) := by decide +kernel
theorem dX9_exchange_70 : decode cX9_exchange 70 = .ok (.iload_n 2, 1) := by decide +kernel
theorem dX9_exchange_71 : decode cX9_exchange 71 = .ok (.iadd, 1) := by decide +kernel
theorem dX9_exchange_72 : decode cX9_exchange 72 = .ok (.iload 4, 2) := by decide +kernel
theorem dX9_exchange_74 : decode cX9_exchange 74 = .ok (.isub, 1) := by decide +kernel
theorem dX9_exchange_75 : decode cX9_exchange 75 = .ok (.istore 8, 2) := by decide +kernel
theorem dX9_exchange_77 : decode cX9_exchange 77 = .ok (.aload_n 0, 1) := by decide +kernel
theorem dX9_exchange_78 : decode cX9_exchange 78 = .ok (.getfield 40, 3) := by decide +kernel
theorem dX9_exchange_81 : decode cX9_exchange 81 = .ok (.iload_n 1, 1) := by decide +kernel
theorem dX9_exchange_82 : decode cX9_exchange 82 = .ok (.iaload, 1) := by decide +kernel
theorem dX9_exchange_83 : decode cX9_exchange 83 = .ok (.aload_n 0, 1) := by decide +kernel
theorem dX9_exchange_84 : decode cX9_exchange 84 = .ok (.getfield 40, 3) := by decide +kernel
theorem dX9_exchange_87 : decode cX9_exchange 87 = .ok (.iload_n 3, 1) := by decide +kernel
theorem dX9_exchange_88 : decode cX9_exchange 88 = .ok (.iaload, 1) := by decide +kernel
theorem dX9_exchange_89 : decode cX9_exchange 89 = .ok (.if_icmp .ne 49, 3) := by decide +kernel
theorem dX9_exchange_92 : decode cX9_exchange 92 = .ok (.aload_n 0, 1) := by decide +kernel
theorem dX9_exchange_93 : decode cX9_exchange 93 = .ok (.getfield 43, 3) := by decide +kernel
theorem dX9_exchange_96 : decode cX9_exchange 96 = .ok (.iload 5, 2) := by decide +kernel
theorem dX9_exchange_98 : decode cX9_exchange 98 = .ok (.iaload, 1) := by decide +kernel
theorem dX9_exchange_99 : decode cX9_exchange 99 = .ok (.ifCond .eq 39, 3) := by decide +kernel
theorem dX9_exchange_102 : decode cX9_exchange 102 = .ok (.aload_n 0, 1) := by decide +kernel
theorem dX9_exchange_103 : decode cX9_exchange 103 = .ok (.getfield 43, 3) := by decide +kernel
theorem dX9_exchange_106 : decode cX9_exchange 106 = .ok (.iload 6, 2) := by decide +kernel
theorem dX9_exchange_108 : decode cX9_exchange 108 = .ok (.iaload, 1) := by decide +kernel
theorem dX9_exchange_109 : decode cX9_exchange 109 = .ok (.ifCond .eq 29, 3) := by decide +kernel
theorem dX9_exchange_112 : decode cX9_exchange 112 = .ok (.iload 7, 2) := by decide +kernel
theorem dX9_exchange_114 : decode cX9_exchange 114 = .ok (.i2l, 1) := by decide +kernel
theorem dX9_exchange_115 : decode cX9_exchange 115 = .ok (.lconst 1, 1) := by decide +kernel
theorem dX9_exchange_116 : decode cX9_exchange 116 = .ok (.ldc2_w 182, 3) := by decide +kernel
theorem dX9_exchange_119 : decode cX9_exchange 119 = .ok (.invokestatic 97, 3) := by decide +kernel
theorem dX9_exchange_122 : decode cX9_exchange 122 = .ok (.ifCond .eq 16, 3) := by decide +kernel
theorem dX9_exchange_125 : decode cX9_exchange 125 = .ok (.iload 8, 2) := by decide +kernel
theorem dX9_exchange_127 : decode cX9_exchange 127 = .ok (.i2l, 1) := by decide +kernel
theorem dX9_exchange_128 : decode cX9_exchange 128 = .ok (.lconst 1, 1) := by decide +kernel
theorem dX9_exchange_129 : decode cX9_exchange 129 = .ok (.ldc2_w 182, 3) := by decide +kernel
theorem dX9_exchange_132 : decode cX9_exchange 132 = .ok (.invokestatic 97, 3) := by decide +kernel
theorem dX9_exchange_135 : decode cX9_exchange 135 = .ok (.ifCond .ne 6, 3) := by decide +kernel
theorem dX9_exchange_138 : decode cX9_exchange 138 = .ok (.bipush (-5), 2) := by decide +kernel
theorem dX9_exchange_140 : decode cX9_exchange 140 = .ok (.ireturn, 1) := by decide +kernel
theorem dX9_exchange_141 : decode cX9_exchange 141 = .ok (.aload_n 0, 1) := by decide +kernel
theorem dX9_exchange_142 : decode cX9_exchange 142 = .ok (.getfield 43, 3) := by decide +kernel
theorem dX9_exchange_145 : decode cX9_exchange 145 = .ok (.iload 5, 2) := by decide +kernel
theorem dX9_exchange_147 : decode cX9_exchange 147 = .ok (.iload 7, 2) := by decide +kernel
theorem dX9_exchange_149 : decode cX9_exchange 149 = .ok (.iastore, 1) := by decide +kernel
theorem dX9_exchange_150 : decode cX9_exchange 150 = .ok (.aload_n 0, 1) := by decide +kernel
theorem dX9_exchange_151 : decode cX9_exchange 151 = .ok (.getfield 43, 3) := by decide +kernel
theorem dX9_exchange_154 : decode cX9_exchange 154 = .ok (.iload 6, 2) := by decide +kernel
theorem dX9_exchange_156 : decode cX9_exchange 156 = .ok (.iload 8, 2) := by decide +kernel
theorem dX9_exchange_158 : decode cX9_exchange 158 = .ok (.iastore, 1) := by decide +kernel
theorem dX9_exchange_159 : decode cX9_exchange 159 = .ok (.aload_n 0, 1) := by decide +kernel
theorem dX9_exchange_160 : decode cX9_exchange 160 = .ok (.getfield 46, 3) := by decide +kernel
theorem dX9_exchange_163 : decode cX9_exchange 163 = .ok (.iload 5, 2) := by decide +kernel
theorem dX9_exchange_165 : decode cX9_exchange 165 = .ok (.iaload, 1) := by decide +kernel
theorem dX9_exchange_166 : decode cX9_exchange 166 = .ok (.istore 9, 2) := by decide +kernel
theorem dX9_exchange_168 : decode cX9_exchange 168 = .ok (.aload_n 0, 1) := by decide +kernel
theorem dX9_exchange_169 : decode cX9_exchange 169 = .ok (.getfield 46, 3) := by decide +kernel
theorem dX9_exchange_172 : decode cX9_exchange 172 = .ok (.iload 5, 2) := by decide +kernel
theorem dX9_exchange_174 : decode cX9_exchange 174 = .ok (.aload_n 0, 1) := by decide +kernel
theorem dX9_exchange_175 : decode cX9_exchange 175 = .ok (.getfield 46, 3) := by decide +kernel
theorem dX9_exchange_178 : decode cX9_exchange 178 = .ok (.iload 6, 2) := by decide +kernel
theorem dX9_exchange_180 : decode cX9_exchange 180 = .ok (.iaload, 1) := by decide +kernel
theorem dX9_exchange_181 : decode cX9_exchange 181 = .ok (.iastore, 1) := by decide +kernel
theorem dX9_exchange_182 : decode cX9_exchange 182 = .ok (.aload_n 0, 1) := by decide +kernel
theorem dX9_exchange_183 : decode cX9_exchange 183 = .ok (.getfield 46, 3) := by decide +kernel
theorem dX9_exchange_186 : decode cX9_exchange 186 = .ok (.iload 6, 2) := by decide +kernel
theorem dX9_exchange_188 : decode cX9_exchange 188 = .ok (.iload 9, 2) := by decide +kernel
theorem dX9_exchange_190 : decode cX9_exchange 190 = .ok (.iastore, 1) := by decide +kernel
theorem dX9_exchange_191 : decode cX9_exchange 191 = .ok (.iconst 0, 1) := by decide +kernel
theorem dX9_exchange_192 : decode cX9_exchange 192 = .ok (.ireturn, 1) := by decide +kernel
set_option maxRecDepth 20000 in
theorem ggX9_backwards_X9_isCity : GoodIn wsX9_backwards wsX9_isCity := goodIn_r _ [10, 2, 52, 53, 54, 55, 56, 57, 58, 59, 60, 61, 62, 63, 64, 65, 66, 67, 68, 69, 70, 71, 72, 73, 74, 75, 76, 77, 78, 79, 80, 81, 82, 83, 84, 85, 86, 87, 88, 89, 90, 91, 92, 93, 94, 95, 96, 97] (by decide +kernel) (by decide +kernel)
set_option maxRecDepth 20000 in
theorem gX9_backwards_X9_isCity : GoodIn wsX9_backwards (wsV RX9 270 RX9 yX9_isCity wsX9_isCity) := goodIn_app (goodIn_of _ (by decide +kernel)) ggX9_backwards_X9_isCity
set_option maxRecDepth 20000 in
theorem ggX9_backwards_X9_isUp : GoodIn wsX9_backwards wsX9_isUp := goodIn_r _ [14, 2, 15, 16, 17, 9, 18, 5, 19, 20, 21, 22, 23, 24, 25, 26, 27, 28, 29, 30, 3, 31, 32, 33, 34, 35, 36, 37, 38, 4, 52, 53, 54, 55, 56, 57, 58, 59, 60, 61, 62, 63, 64, 65, 66, 67, 68, 69, 70, 71, 72, 73, 74, 75, 76, 77, 78, 79, 80, 81, 82, 83, 84, 85, 86, 87, 88, 89, 90, 91, 92, 93, 94, 95, 96, 97] (by decide +kernel) (by decide +kernel)
set_option maxRecDepth 20000 in
theorem gX9_backwards_X9_isUp : GoodIn wsX9_backwards (wsV RX9 286 RX9 yX9_isUp wsX9_isUp) := goodIn_app (goodIn_of _ (by decide +kernel)) ggX9_backwards_X9_isUp
set_option maxRecDepth 20000 in
theorem ggX9_backwards_X9_round : GoodIn wsX9_backwards wsX9_round := goodIn_r _ [18, 2, 5, 52, 53, 54, 55, 56, 57, 58, 59, 60, 61, 62, 63, 64, 65, 66, 67, 68, 69, 70, 71, 72, 73, 74, 75, 76, 77, 78, 79, 80, 81, 82, 83, 84, 85, 86, 87, 88, 89, 90, 91, 92, 93, 94, 95, 96, 97] (by decide +kernel) (by decide +kernel)
set_option maxRecDepth 20000 in
theorem gX9_backwards_X9_round : GoodIn wsX9_backwards (wsV RX9 273 RX9 yX9_round wsX9_round) := goodIn_app (goodIn_of _ (by decide +kernel)) ggX9_backwards_X9_round
set_option maxRecDepth 20000 in
theorem ggX9_backwards_X9_copyCity : GoodIn wsX9_backwards wsX9_copyCity := goodIn_r _ [42, 43, 2, 44, 5, 3, 4, 45, 46, 47, 48, 49, 50, 9, 51, 52, 53, 54, 55, 56, 57, 58, 59, 60, 61, 62, 63, 64, 65, 66, 67, 68, 69, 70, 71, 72, 73, 74, 75, 76, 77, 78, 79, 80, 81, 82, 83, 84, 85, 86, 87, 88, 89, 90, 91, 92, 93, 94, 95, 96, 97] (by decide +kernel) (by decide +kernel)
set_option maxRecDepth 20000 in
theorem gX9_backwards_X9_copyCity : GoodIn wsX9_backwards (wsV RX9 243 RX9 yX9_copyCity wsX9_copyCity) := goodIn_app (goodIn_of _ (by decide +kernel)) ggX9_backwards_X9_copyCity
set_option maxRecDepth 20000 in
theorem ggX9_backwards_X9_highOf : GoodIn wsX9_backwards wsX9_highOf := goodIn_r _ [30, 3, 31, 32, 33, 9, 34, 5, 52, 53, 54, 55, 56, 57, 58, 59, 60, 61, 62, 63, 64, 65, 66, 67, 68, 69, 70, 71, 72, 73, 74, 75, 76, 77, 78, 79, 80, 81, 82, 83, 84, 85, 86, 87, 88, 89, 90, 91, 92, 93, 94, 95, 96, 97] (by decide +kernel) (by decide +kernel)
set_option maxRecDepth 20000 in
theorem gX9_backwards_X9_highOf : GoodIn wsX9_backwards (wsV RX9 264 RX9 yX9_highOf wsX9_highOf) := goodIn_app (goodIn_of _ (by decide +kernel)) ggX9_backwards_X9_highOf
set_option maxRecDepth 20000 in
theorem ggX9_backwards_X9_toOf : GoodIn wsX9_backwards wsX9_toOf := goodIn_r _ [38, 4, 31, 32, 33, 9, 34, 5, 52, 53, 54, 55, 56, 57, 58, 59, 60, 61, 62, 63, 64, 65, 66, 67, 68, 69, 70, 71, 72, 73, 74, 75, 76, 77, 78, 79, 80, 81, 82, 83, 84, 85, 86, 87, 88, 89, 90, 91, 92, 93, 94, 95, 96, 97] (by decide +kernel) (by decide +kernel)
set_option maxRecDepth 20000 in
theorem gX9_backwards_X9_toOf : GoodIn wsX9_backwards (wsV RX9 267 RX9 yX9_toOf wsX9_toOf) := goodIn_app (goodIn_of _ (by decide +kernel)) ggX9_backwards_X9_toOf
theorem dX9_backwards_0 : decode cX9_backwards 0 = .ok (.aload_n 0, 1) := by decide +kernel
theorem dX9_backwards_1 : decode cX9_backwards 1 = .ok (.iconst 0, 1) := by decide +kernel
theorem dX9_backwards_2 : decode cX9_backwards 2 = .ok (.putfield 92, 3) := by decide +kernel
theorem dX9_backwards_5 : decode cX9_backwards 5 = .ok (.aload_n 0, 1) := by decide +kernel
theorem dX9_backwards_6 : decode cX9_backwards 6 = .ok (.invokevirtual 270, 3) := by decide +kernel
theorem dX9_backwards_9 : decode cX9_backwards 9 = .ok (.ifCond .ne 6, 3) := by decide +kernel
theorem dX9_backwards_12 : decode cX9_backwards 12 = .ok (.bipush (-2), 2) := by decide +kernel
theorem dX9_backwards_14 : decode cX9_backwards 14 = .ok (.ireturn, 1) := by decide +kernel
theorem dX9_backwards_15 : decode cX9_backwards 15 = .ok (.aload_n 0, 1) := by decide +kernel
theorem dX9_backwards_16 : decode cX9_backwards 16 = .ok (.invokevirtual 286, 3) := by decide +kernel
theorem dX9_backwards_19 : decode cX9_backwards 19 = .ok (.ifCond .ne 5, 3) := by decide +kernel
theorem dX9_backwards_22 : decode cX9_backwards 22 = .ok (.iconst (-1), 1) := by decide +kernel
theorem dX9_backwards_23 : decode cX9_backwards 23 = .ok (.ireturn, 1) := by decide +kernel
theorem dX9_backwards_24 : decode cX9_backwards 24 = .ok (.aload_n 0, 1) := by decide +kernel
theorem dX9_backwards_25 : decode cX9_backwards 25 = .ok (.invokevirtual 273, 3) := by decide +kernel
theorem dX9_backwards_28 : decode cX9_backwards 28 = .ok (.istore_n 1, 1) := by decide +kernel
theorem dX9_backwards_29 : decode cX9_backwards 29 = .ok (.iload_n 1, 1) := by decide +kernel
theorem dX9_backwards_30 : decode cX9_backwards 30 = .ok (.bipush 8, 2) := by decide +kernel
theorem dX9_backwards_32 : decode cX9_backwards 32 = .ok (.if_icmp .le 6, 3) := by decide +kernel
theorem dX9_backwards_35 : decode cX9_backwards 35 = .ok (.bipush (-5), 2) := by decide +kernel
theorem dX9_backwards_37 : decode cX9_backwards 37 = .ok (.ireturn, 1) := by decide +kernel
theorem dX9_backwards_38 : decode cX9_backwards 38 = .ok (.aload_n 0, 1) := by decide +kernel
theorem dX9_backwards_39 : decode cX9_backwards 39 = .ok (.iconst 0, 1) := by decide +kernel
theorem dX9_backwards_40 : decode cX9_backwards 40 = .ok (.iconst 5, 1) := by decide +kernel
theorem dX9_backwards_41 : decode cX9_backwards 41 = .ok (.invokevirtual 243, 3) := by decide +kernel
theorem dX9_backwards_44 : decode cX9_backwards 44 = .ok (.iconst 0, 1) := by decide +kernel
theorem dX9_backwards_45 : decode cX9_backwards 45 = .ok (.istore_n 2, 1) := by decide +kernel
theorem dX9_backwards_46 : decode cX9_backwards 46 = .ok (.iload_n 2, 1) := by decide +kernel
theorem dX9_backwards_47 : decode cX9_backwards 47 = .ok (.aload_n 0, 1) := by decide +kernel
theorem dX9_backwards_48 : decode cX9_backwards 48 = .ok (.getfield 34, 3) := by decide +kernel
theorem dX9_backwards_51 : decode cX9_backwards 51 = .ok (.iconst 0, 1) := by decide +kernel
theorem dX9_backwards_52 : decode cX9_backwards 52 = .ok (.iaload, 1) := by decide +kernel
theorem dX9_backwards_53 : decode cX9_backwards 53 = .ok (.if_icmp .ge 149, 3) := by decide +kernel
theorem dX9_backwards_56 : decode cX9_backwards 56 = .ok (.iconst 0, 1) := by decide +kernel
theorem dX9_backwards_57 : decode cX9_backwards 57 = .ok (.istore_n 3, 1) := by decide +kernel
theorem dX9_backwards_58 : decode cX9_backwards 58 = .ok (.iload_n 3, 1) := by decide +kernel
theorem dX9_backwards_59 : decode cX9_backwards 59 = .ok (.iload_n 1, 1) := by decide +kernel
theorem dX9_backwards_60 : decode cX9_backwards 60 = .ok (.if_icmp .ge 126, 3) := by decide +kernel
theorem dX9_backwards_63 : decode cX9_backwards 63 = .ok (.bipush 8, 2) := by decide +kernel
theorem dX9_backwards_65 : decode cX9_backwards 65 = .ok (.bipush 30, 2) := by decide +kernel
theorem dX9_backwards_67 : decode cX9_backwards 67 = .ok (.iload_n 2, 1) := by decide +kernel
theorem dX9_backwards_68 : decode cX9_backwards 68 = .ok (.iadd, 1) := by decide +kernel
theorem dX9_backwards_69 : decode cX9_backwards 69 = .ok (.imul, 1) := by decide +kernel
theorem dX9_backwards_70 : decode cX9_backwards 70 = .ok (.iload_n 3, 1) := by decide +kernel
theorem dX9_backwards_71 : decode cX9_backwards 71 = .ok (.iadd, 1) := by decide +kernel
theorem dX9_backwards_72 : decode cX9_backwards 72 = .ok (.istore 4, 2) := by decide +kernel
theorem dX9_backwards_74 : decode cX9_backwards 74 = .ok (.aload_n 0, 1) := by decide +kernel
theorem dX9_backwards_75 : decode cX9_backwards 75 = .ok (.getfield 43, 3) := by decide +kernel
theorem dX9_backwards_78 : decode cX9_backwards 78 = .ok (.iload 4, 2) := by decide +kernel
theorem dX9_backwards_80 : decode cX9_backwards 80 = .ok (.iconst 0, 1) := by decide +kernel
theorem dX9_backwards_81 : decode cX9_backwards 81 = .ok (.iastore, 1) := by decide +kernel
theorem dX9_backwards_82 : decode cX9_backwards 82 = .ok (.aload_n 0, 1) := by decide +kernel
theorem dX9_backwards_83 : decode cX9_backwards 83 = .ok (.getfield 46, 3) := by decide +kernel
theorem dX9_backwards_86 : decode cX9_backwards 86 = .ok (.iload 4, 2) := by decide +kernel
theorem dX9_backwards_88 : decode cX9_backwards 88 = .ok (.iload_n 2, 1) := by decide +kernel
theorem dX9_backwards_89 : decode cX9_backwards 89 = .ok (.iastore, 1) := by decide +kernel
theorem dX9_backwards_90 : decode cX9_backwards 90 = .ok (.iconst 0, 1) := by decide +kernel
theorem dX9_backwards_91 : decode cX9_backwards 91 = .ok (.istore 5, 2) := by decide +kernel
theorem dX9_backwards_93 : decode cX9_backwards 93 = .ok (.iload 5, 2) := by decide +kernel
theorem dX9_backwards_95 : decode cX9_backwards 95 = .ok (.aload_n 0, 1) := by decide +kernel
theorem dX9_backwards_96 : decode cX9_backwards 96 = .ok (.getfield 34, 3) := by decide +kernel
theorem dX9_backwards_99 : decode cX9_backwards 99 = .ok (.iconst 0, 1) := by decide +kernel
theorem dX9_backwards_100 : decode cX9_backwards 100 = .ok (.iaload, 1) := by decide +kernel
theorem dX9_backwards_101 : decode cX9_backwards 101 = .ok (.if_icmp .ge 79, 3) := by decide +kernel
theorem dX9_backwards_104 : decode cX9_backwards 104 = .ok (.iconst 1, 1) := by decide +kernel
theorem dX9_backwards_105 : decode cX9_backwards 105 = .ok (.istore 6, 2) := by decide +kernel
theorem dX9_backwards_107 : decode cX9_backwards 107 = .ok (.iload 6, 2) := by decide +kernel
theorem dX9_backwards_109 : decode cX9_backwards 109 = .ok (.bipush 9, 2) := by decide +kernel
theorem dX9_backwards_111 : decode cX9_backwards 111 = .ok (.if_icmp .gt 63, 3) := by decide +kernel
theorem dX9_backwards_114 : decode cX9_backwards 114 = .ok (.aload_n 0, 1) := by decide +kernel
theorem dX9_backwards_115 : decode cX9_backwards 115 = .ok (.iload 5, 2) := by decide +kernel
theorem dX9_backwards_117 : decode cX9_backwards 117 = .ok (.iload_n 1, 1) := by decide +kernel
theorem dX9_backwards_118 : decode cX9_backwards 118 = .ok (.iload_n 3, 1) := by decide +kernel
theorem dX9_backwards_119 : decode cX9_backwards 119 = .ok (.isub, 1) := by decide +kernel
theorem dX9_backwards_120 : decode cX9_backwards 120 = .ok (.iload 6, 2) := by decide +kernel
theorem dX9_backwards_122 : decode cX9_backwards 122 = .ok (.isub, 1) := by decide +kernel
theorem dX9_backwards_123 : decode cX9_backwards 123 = .ok (.invokevirtual 264, 3) := by decide +kernel
theorem dX9_backwards_126 : decode cX9_backwards 126 = .ok (.iload 6, 2) := by decide +kernel
theorem dX9_backwards_128 : decode cX9_backwards 128 = .ok (.if_icmp .ne 40, 3) := by decide +kernel
theorem dX9_backwards_131 : decode cX9_backwards 131 = .ok (.aload_n 0, 1) := by decide +kernel
theorem dX9_backwards_132 : decode cX9_backwards 132 = .ok (.iload 5, 2) := by decide +kernel
theorem dX9_backwards_134 : decode cX9_backwards 134 = .ok (.iload_n 1, 1) := by decide +kernel
theorem dX9_backwards_135 : decode cX9_backwards 135 = .ok (.iload_n 3, 1) := by decide +kernel
theorem dX9_backwards_136 : decode cX9_backwards 136 = .ok (.isub, 1) := by decide +kernel
theorem dX9_backwards_137 : decode cX9_backwards 137 = .ok (.iload 6, 2) := by decide +kernel
theorem dX9_backwards_139 : decode cX9_backwards 139 = .ok (.isub, 1) := by decide +kernel
theorem dX9_backwards_140 : decode cX9_backwards 140 = .ok (.invokevirtual 267, 3) := by decide +kernel
theorem dX9_backwards_143 : decode cX9_backwards 143 = .ok (.iload_n 2, 1) := by decide +kernel
theorem dX9_backwards_144 : decode cX9_backwards 144 = .ok (.if_icmp .eq 6, 3) := by decide +kernel
theorem dX9_backwards_147 : decode cX9_backwards 147 = .ok (.goto 21, 3) := by decide +kernel
theorem dX9_backwards_150 : decode cX9_backwards 150 = .ok (.aload_n 0, 1) := by decide +kernel
theorem dX9_backwards_151 : decode cX9_backwards 151 = .ok (.getfield 43, 3) := by decide +kernel
theorem dX9_backwards_154 : decode cX9_backwards 154 = .ok (.iload 4, 2) := by decide +kernel
theorem dX9_backwards_156 : decode cX9_backwards 156 = .ok (.iload 6, 2) := by decide +kernel
theorem dX9_backwards_158 : decode cX9_backwards 158 = .ok (.iastore, 1) := by decide +kernel
theorem dX9_backwards_159 : decode cX9_backwards 159 = .ok (.aload_n 0, 1) := by decide +kernel
theorem dX9_backwards_160 : decode cX9_backwards 160 = .ok (.getfield 46, 3) := by decide +kernel
theorem dX9_backwards_163 : decode cX9_backwards 163 = .ok (.iload 4, 2) := by decide +kernel
theorem dX9_backwards_165 : decode cX9_backwards 165 = .ok (.iload 5, 2) := by decide +kernel
theorem dX9_backwards_167 : decode cX9_backwards 167 = .ok (.iastore, 1) := by decide +kernel
theorem dX9_backwards_168 : decode cX9_backwards 168 = .ok (.iinc 6 1, 3) := by decide +kernel
theorem dX9_backwards_171 : decode cX9_backwards 171 = .ok (.goto (-64), 3) := by decide +kernel
theorem dX9_backwards_174 : decode cX9_backwards 174 = .ok (.iinc 5 1, 3) := by decide +kernel
theorem dX9_backwards_177 : decode cX9_backwards 177 = .ok (.goto (-84), 3) := by decide +kernel
theorem dX9_backwards_180 : decode cX9_backwards 180 = .ok (.iinc 3 1, 3) := by decide +kernel
theorem dX9_backwards_183 : decode cX9_backwards 183 = .ok (.goto (-125), 3) := by decide +kernel
theorem dX9_backwards_186 : decode cX9_backwards 186 = .ok (.aload_n 0, 1) := by decide +kernel
theorem dX9_backwards_187 : decode cX9_backwards 187 = .ok (.getfield 40, 3) := by decide +kernel
theorem dX9_backwards_190 : decode cX9_backwards 190 = .ok (.bipush 30, 2) := by decide +kernel
theorem dX9_backwards_192 : decode cX9_backwards 192 = .ok (.iload_n 2, 1) := by decide +kernel
theorem dX9_backwards_193 : decode cX9_backwards 193 = .ok (.iadd, 1) := by decide +kernel
theorem dX9_backwards_194 : decode cX9_backwards 194 = .ok (.iload_n 1, 1) := by decide +kernel
theorem dX9_backwards_195 : decode cX9_backwards 195 = .ok (.iastore, 1) := by decide +kernel
theorem dX9_backwards_196 : decode cX9_backwards 196 = .ok (.iinc 2 1, 3) := by decide +kernel
theorem dX9_backwards_199 : decode cX9_backwards 199 = .ok (.goto (-153), 3) := by decide +kernel
theorem dX9_backwards_202 : decode cX9_backwards 202 = .ok (.aload_n 0, 1) := by decide +kernel
theorem dX9_backwards_203 : decode cX9_backwards 203 = .ok (.iconst 5, 1) := by decide +kernel
theorem dX9_backwards_204 : decode cX9_backwards 204 = .ok (.iconst 0, 1) := by decide +kernel
theorem dX9_backwards_205 : decode cX9_backwards 205 = .ok (.invokevirtual 243, 3) := by decide +kernel
theorem dX9_backwards_208 : decode cX9_backwards 208 = .ok (.iload_n 1, 1) := by decide +kernel
theorem dX9_backwards_209 : decode cX9_backwards 209 = .ok (.ireturn, 1) := by decide +kernel
set_option maxRecDepth 20000 in
theorem ggX9_ground_X9_isThrow : GoodIn wsX9_ground wsX9_isThrow := goodIn_r _ [7, 8, 9, 10, 11, 6, 12, 13, 14, 15, 16, 46, 47, 48, 49, 50, 51, 52, 53, 54, 55, 56, 57, 58, 59, 60, 61, 62, 63, 64, 65, 66, 67, 68, 69, 70, 71, 72, 73, 74, 75, 76, 77, 78, 79, 80, 81, 82, 83, 84, 85, 86, 87, 88, 89, 90, 91] (by decide +kernel) (by decide +kernel)
set_option maxRecDepth 20000 in
theorem gX9_ground_X9_isThrow : GoodIn wsX9_ground (wsV RX9 276 RX9 yX9_isThrow wsX9_isThrow) := goodIn_app (goodIn_of _ (by decide +kernel)) ggX9_ground_X9_isThrow
set_option maxRecDepth 20000 in
theorem ggX9_ground_X9_isSolo : GoodIn wsX9_ground wsX9_isSolo := goodIn_r _ [20, 8, 21, 22, 23, 24, 6, 25, 26, 27, 28, 29, 30, 46, 47, 48, 49, 50, 51, 52, 53, 54, 55, 56, 57, 58, 59, 60, 61, 62, 63, 64, 65, 66, 67, 68, 69, 70, 71, 72, 73, 74, 75, 76, 77, 78, 79, 80, 81, 82, 83, 84, 85, 86, 87, 88, 89, 90, 91] (by decide +kernel) (by decide +kernel)
set_option maxRecDepth 20000 in
theorem gX9_ground_X9_isSolo : GoodIn wsX9_ground (wsV RX9 343 RX9 yX9_isSolo wsX9_isSolo) := goodIn_app (goodIn_of _ (by decide +kernel)) ggX9_ground_X9_isSolo
set_option maxRecDepth 20000 in
theorem ggX9_ground_X9_stateOf : GoodIn wsX9_ground wsX9_stateOf := goodIn_r _ [34, 22, 23, 24, 6, 25, 26, 27, 28, 29, 30, 8, 46, 47, 48, 49, 50, 51, 52, 53, 54, 55, 56, 57, 58, 59, 60, 61, 62, 63, 64, 65, 66, 67, 68, 69, 70, 71, 72, 73, 74, 75, 76, 77, 78, 79, 80, 81, 82, 83, 84, 85, 86, 87, 88, 89, 90, 91] (by decide +kernel) (by decide +kernel)
set_option maxRecDepth 20000 in
theorem gX9_ground_X9_stateOf : GoodIn wsX9_ground (wsV RX9 346 RX9 yX9_stateOf wsX9_stateOf) := goodIn_app (goodIn_of _ (by decide +kernel)) ggX9_ground_X9_stateOf
set_option maxRecDepth 20000 in
theorem ggX9_ground_X9_bitsOf : GoodIn wsX9_ground wsX9_bitsOf := goodIn_r _ [37] (by decide +kernel) (by decide +kernel)
set_option maxRecDepth 20000 in
theorem gX9_ground_X9_bitsOf : GoodIn wsX9_ground (va_wsS RX9 362 yX9_bitsOf wsX9_bitsOf) := goodIn_app (goodIn_of _ (by decide +kernel)) ggX9_ground_X9_bitsOf
set_option maxRecDepth 20000 in
theorem ggX9_ground_X9_laysChange : GoodIn wsX9_ground wsX9_laysChange := goodIn_r _ [41, 2, 42, 43, 44, 6, 45, 46, 47, 48, 49, 50, 51, 52, 53, 54, 55, 56, 57, 58, 59, 60, 61, 62, 63, 64, 65, 66, 67, 68, 69, 70, 71, 72, 73, 74, 75, 76, 77, 78, 79, 80, 81, 82, 83, 84, 85, 86, 87, 88, 89, 90, 91] (by decide +kernel) (by decide +kernel)
set_option maxRecDepth 20000 in
theorem gX9_ground_X9_laysChange : GoodIn wsX9_ground (wsV RX9 352 RX9 yX9_laysChange wsX9_laysChange) := goodIn_app (goodIn_of _ (by decide +kernel)) ggX9_ground_X9_laysChange
theorem dX9_ground_0 : decode cX9_ground 0 = .ok (.aload_n 0, 1) := by decide +kernel
theorem dX9_ground_1 : decode cX9_ground 1 = .ok (.iconst 0, 1) := by decide +kernel
theorem dX9_ground_2 : decode cX9_ground 2 = .ok (.putfield 92, 3) := by decide +kernel
theorem dX9_ground_5 : decode cX9_ground 5 = .ok (.aload_n 0, 1) := by decide +kernel
theorem dX9_ground_6 : decode cX9_ground 6 = .ok (.iload_n 1, 1) := by decide +kernel
theorem dX9_ground_7 : decode cX9_ground 7 = .ok (.iload_n 2, 1) := by decide +kernel
theorem dX9_ground_8 : decode cX9_ground 8 = .ok (.invokevirtual 276, 3) := by decide +kernel
theorem dX9_ground_11 : decode cX9_ground 11 = .ok (.ifCond .ne 6, 3) := by decide +kernel
theorem dX9_ground_14 : decode cX9_ground 14 = .ok (.bipush (-2), 2) := by decide +kernel
theorem dX9_ground_16 : decode cX9_ground 16 = .ok (.ireturn, 1) := by decide +kernel
theorem dX9_ground_17 : decode cX9_ground 17 = .ok (.aload_n 0, 1) := by decide +kernel
theorem dX9_ground_18 : decode cX9_ground 18 = .ok (.iload_n 1, 1) := by decide +kernel
theorem dX9_ground_19 : decode cX9_ground 19 = .ok (.invokevirtual 343, 3) := by decide +kernel
theorem dX9_ground_22 : decode cX9_ground 22 = .ok (.ifCond .ne 5, 3) := by decide +kernel
theorem dX9_ground_25 : decode cX9_ground 25 = .ok (.iconst (-1), 1) := by decide +kernel
theorem dX9_ground_26 : decode cX9_ground 26 = .ok (.ireturn, 1) := by decide +kernel
theorem dX9_ground_27 : decode cX9_ground 27 = .ok (.aload_n 0, 1) := by decide +kernel
theorem dX9_ground_28 : decode cX9_ground 28 = .ok (.iload_n 1, 1) := by decide +kernel
theorem dX9_ground_29 : decode cX9_ground 29 = .ok (.iload_n 2, 1) := by decide +kernel
theorem dX9_ground_30 : decode cX9_ground 30 = .ok (.invokevirtual 346, 3) := by decide +kernel
theorem dX9_ground_33 : decode cX9_ground 33 = .ok (.istore_n 3, 1) := by decide +kernel
theorem dX9_ground_34 : decode cX9_ground 34 = .ok (.aload_n 0, 1) := by decide +kernel
theorem dX9_ground_35 : decode cX9_ground 35 = .ok (.iconst 1, 1) := by decide +kernel
theorem dX9_ground_36 : decode cX9_ground 36 = .ok (.iload_n 3, 1) := by decide +kernel
theorem dX9_ground_37 : decode cX9_ground 37 = .ok (.invokestatic 362, 3) := by decide +kernel
theorem dX9_ground_40 : decode cX9_ground 40 = .ok (.ishl, 1) := by decide +kernel
theorem dX9_ground_41 : decode cX9_ground 41 = .ok (.iconst 1, 1) := by decide +kernel
theorem dX9_ground_42 : decode cX9_ground 42 = .ok (.isub, 1) := by decide +kernel
theorem dX9_ground_43 : decode cX9_ground 43 = .ok (.invokevirtual 352, 3) := by decide +kernel
theorem dX9_ground_46 : decode cX9_ground 46 = .ok (.aload_n 0, 1) := by decide +kernel
theorem dX9_ground_47 : decode cX9_ground 47 = .ok (.getfield 83, 3) := by decide +kernel
theorem dX9_ground_50 : decode cX9_ground 50 = .ok (.iload_n 3, 1) := by decide +kernel
theorem dX9_ground_51 : decode cX9_ground 51 = .ok (.iaload, 1) := by decide +kernel
theorem dX9_ground_52 : decode cX9_ground 52 = .ok (.ireturn, 1) := by decide +kernel
set_option maxRecDepth 20000 in
theorem ggX9_latest_X9_isLetter : GoodIn wsX9_latest wsX9_isLetter := goodIn_r _ [9, 10, 11, 12, 8, 13, 33, 34, 35, 36, 37, 38, 39, 40, 41, 42, 43, 44, 45, 46, 47, 48, 49, 50, 51, 52, 53, 54, 55, 56, 57, 58, 59, 60, 61, 62, 63, 64, 65, 66, 67, 68, 69, 70, 71, 72, 73, 74, 75, 76, 77, 78] (by decide +kernel) (by decide +kernel)
set_option maxRecDepth 20000 in
theorem gX9_latest_X9_isLetter : GoodIn wsX9_latest (wsV RX9 325 RX9 yX9_isLetter wsX9_isLetter) := goodIn_app (goodIn_of _ (by decide +kernel)) ggX9_latest_X9_isLetter
set_option maxRecDepth 20000 in
theorem ggX9_latest_X9_isBeat : GoodIn wsX9_latest wsX9_isBeat := goodIn_r _ [16, 17, 11, 12, 8, 13] (by decide +kernel) (by decide +kernel)
set_option maxRecDepth 20000 in
theorem gX9_latest_X9_isBeat : GoodIn wsX9_latest (va_wsS RX9 259 yX9_isBeat wsX9_isBeat) := goodIn_app (goodIn_of _ (by decide +kernel)) ggX9_latest_X9_isBeat
set_option maxRecDepth 20000 in
theorem ggX9_latest_X9_highOf : GoodIn wsX9_latest wsX9_highOf := goodIn_r _ [21, 22, 23, 24, 25, 8, 26, 27, 33, 34, 35, 36, 37, 38, 39, 40, 41, 42, 43, 44, 45, 46, 47, 48, 49, 50, 51, 52, 53, 54, 55, 56, 57, 58, 59, 60, 61, 62, 63, 64, 65, 66, 67, 68, 69, 70, 71, 72, 73, 74, 75, 76, 77, 78] (by decide +kernel) (by decide +kernel)
set_option maxRecDepth 20000 in
theorem gX9_latest_X9_highOf : GoodIn wsX9_latest (wsV RX9 264 RX9 yX9_highOf wsX9_highOf) := goodIn_app (goodIn_of _ (by decide +kernel)) ggX9_latest_X9_highOf
set_option maxRecDepth 20000 in
theorem ggX9_latest_X9_toOf : GoodIn wsX9_latest wsX9_toOf := goodIn_r _ [31, 32, 23, 24, 25, 8, 26, 27, 33, 34, 35, 36, 37, 38, 39, 40, 41, 42, 43, 44, 45, 46, 47, 48, 49, 50, 51, 52, 53, 54, 55, 56, 57, 58, 59, 60, 61, 62, 63, 64, 65, 66, 67, 68, 69, 70, 71, 72, 73, 74, 75, 76, 77, 78] (by decide +kernel) (by decide +kernel)
set_option maxRecDepth 20000 in
theorem gX9_latest_X9_toOf : GoodIn wsX9_latest (wsV RX9 267 RX9 yX9_toOf wsX9_toOf) := goodIn_app (goodIn_of _ (by decide +kernel)) ggX9_latest_X9_toOf
theorem dX9_latest_0 : decode cX9_latest 0 = .ok (.aload_n 0, 1) := by decide +kernel
theorem dX9_latest_1 : decode cX9_latest 1 = .ok (.iconst 0, 1) := by decide +kernel
theorem dX9_latest_2 : decode cX9_latest 2 = .ok (.putfield 92, 3) := by decide +kernel
theorem dX9_latest_5 : decode cX9_latest 5 = .ok (.aload_n 0, 1) := by decide +kernel
theorem dX9_latest_6 : decode cX9_latest 6 = .ok (.iload_n 1, 1) := by decide +kernel
theorem dX9_latest_7 : decode cX9_latest 7 = .ok (.invokevirtual 325, 3) := by decide +kernel
theorem dX9_latest_10 : decode cX9_latest 10 = .ok (.ifCond .eq 10, 3) := by decide +kernel
theorem dX9_latest_13 : decode cX9_latest 13 = .ok (.iload_n 2, 1) := by decide +kernel
theorem dX9_latest_14 : decode cX9_latest 14 = .ok (.invokestatic 259, 3) := by decide +kernel
theorem dX9_latest_17 : decode cX9_latest 17 = .ok (.ifCond .ne 6, 3) := by decide +kernel
theorem dX9_latest_20 : decode cX9_latest 20 = .ok (.bipush (-2), 2) := by decide +kernel
theorem dX9_latest_22 : decode cX9_latest 22 = .ok (.ireturn, 1) := by decide +kernel
theorem dX9_latest_23 : decode cX9_latest 23 = .ok (.aload_n 0, 1) := by decide +kernel
theorem dX9_latest_24 : decode cX9_latest 24 = .ok (.getfield 55, 3) := by decide +kernel
theorem dX9_latest_27 : decode cX9_latest 27 = .ok (.iconst 3, 1) := by decide +kernel
theorem dX9_latest_28 : decode cX9_latest 28 = .ok (.iload_n 1, 1) := by decide +kernel
theorem dX9_latest_29 : decode cX9_latest 29 = .ok (.imul, 1) := by decide +kernel
theorem dX9_latest_30 : decode cX9_latest 30 = .ok (.iconst 2, 1) := by decide +kernel
theorem dX9_latest_31 : decode cX9_latest 31 = .ok (.iadd, 1) := by decide +kernel
theorem dX9_latest_32 : decode cX9_latest 32 = .ok (.iaload, 1) := by decide +kernel
theorem dX9_latest_33 : decode cX9_latest 33 = .ok (.istore_n 3, 1) := by decide +kernel
theorem dX9_latest_34 : decode cX9_latest 34 = .ok (.iconst 0, 1) := by decide +kernel
theorem dX9_latest_35 : decode cX9_latest 35 = .ok (.istore 4, 2) := by decide +kernel
theorem dX9_latest_37 : decode cX9_latest 37 = .ok (.iload 4, 2) := by decide +kernel
theorem dX9_latest_39 : decode cX9_latest 39 = .ok (.sipush 5400, 3) := by decide +kernel
theorem dX9_latest_42 : decode cX9_latest 42 = .ok (.if_icmp .ge 171, 3) := by decide +kernel
theorem dX9_latest_45 : decode cX9_latest 45 = .ok (.iload_n 2, 1) := by decide +kernel
theorem dX9_latest_46 : decode cX9_latest 46 = .ok (.iload 4, 2) := by decide +kernel
theorem dX9_latest_48 : decode cX9_latest 48 = .ok (.isub, 1) := by decide +kernel
theorem dX9_latest_49 : decode cX9_latest 49 = .ok (.aload_n 0, 1) := by decide +kernel
theorem dX9_latest_50 : decode cX9_latest 50 = .ok (.getfield 55, 3) := by decide +kernel
theorem dX9_latest_53 : decode cX9_latest 53 = .ok (.iconst 3, 1) := by decide +kernel
theorem dX9_latest_54 : decode cX9_latest 54 = .ok (.iload_n 1, 1) := by decide +kernel
theorem dX9_latest_55 : decode cX9_latest 55 = .ok (.imul, 1) := by decide +kernel
theorem dX9_latest_56 : decode cX9_latest 56 = .ok (.iconst 1, 1) := by decide +kernel
theorem dX9_latest_57 : decode cX9_latest 57 = .ok (.iadd, 1) := by decide +kernel
theorem dX9_latest_58 : decode cX9_latest 58 = .ok (.iaload, 1) := by decide +kernel
theorem dX9_latest_59 : decode cX9_latest 59 = .ok (.if_icmp .lt 154, 3) := by decide +kernel
theorem dX9_latest_62 : decode cX9_latest 62 = .ok (.iconst 0, 1) := by decide +kernel
theorem dX9_latest_63 : decode cX9_latest 63 = .ok (.istore 5, 2) := by decide +kernel
theorem dX9_latest_65 : decode cX9_latest 65 = .ok (.iload 5, 2) := by decide +kernel
theorem dX9_latest_67 : decode cX9_latest 67 = .ok (.aload_n 0, 1) := by decide +kernel
theorem dX9_latest_68 : decode cX9_latest 68 = .ok (.getfield 34, 3) := by decide +kernel
theorem dX9_latest_71 : decode cX9_latest 71 = .ok (.iconst 0, 1) := by decide +kernel
theorem dX9_latest_72 : decode cX9_latest 72 = .ok (.iaload, 1) := by decide +kernel
theorem dX9_latest_73 : decode cX9_latest 73 = .ok (.if_icmp .ge 107, 3) := by decide +kernel
theorem dX9_latest_76 : decode cX9_latest 76 = .ok (.aload_n 0, 1) := by decide +kernel
theorem dX9_latest_77 : decode cX9_latest 77 = .ok (.iload 5, 2) := by decide +kernel
theorem dX9_latest_79 : decode cX9_latest 79 = .ok (.iload_n 2, 1) := by decide +kernel
theorem dX9_latest_80 : decode cX9_latest 80 = .ok (.iload 4, 2) := by decide +kernel
theorem dX9_latest_82 : decode cX9_latest 82 = .ok (.isub, 1) := by decide +kernel
theorem dX9_latest_83 : decode cX9_latest 83 = .ok (.invokevirtual 264, 3) := by decide +kernel
theorem dX9_latest_86 : decode cX9_latest 86 = .ok (.istore 6, 2) := by decide +kernel
theorem dX9_latest_88 : decode cX9_latest 88 = .ok (.aload_n 0, 1) := by decide +kernel
theorem dX9_latest_89 : decode cX9_latest 89 = .ok (.getfield 74, 3) := by decide +kernel
theorem dX9_latest_92 : decode cX9_latest 92 = .ok (.bipush 6, 2) := by decide +kernel
theorem dX9_latest_94 : decode cX9_latest 94 = .ok (.iload 4, 2) := by decide +kernel
theorem dX9_latest_96 : decode cX9_latest 96 = .ok (.imul, 1) := by decide +kernel
theorem dX9_latest_97 : decode cX9_latest 97 = .ok (.iload 5, 2) := by decide +kernel
theorem dX9_latest_99 : decode cX9_latest 99 = .ok (.iadd, 1) := by decide +kernel
theorem dX9_latest_100 : decode cX9_latest 100 = .ok (.iload 5, 2) := by decide +kernel
theorem dX9_latest_102 : decode cX9_latest 102 = .ok (.iload_n 3, 1) := by decide +kernel
theorem dX9_latest_103 : decode cX9_latest 103 = .ok (.if_icmp .eq 65, 3) := by decide +kernel
theorem dX9_latest_106 : decode cX9_latest 106 = .ok (.iload 4, 2) := by decide +kernel
theorem dX9_latest_108 : decode cX9_latest 108 = .ok (.ifCond .le 21, 3) := by decide +kernel
theorem dX9_latest_111 : decode cX9_latest 111 = .ok (.aload_n 0, 1) := by decide +kernel
theorem dX9_latest_112 : decode cX9_latest 112 = .ok (.getfield 74, 3) := by decide +kernel
theorem dX9_latest_115 : decode cX9_latest 115 = .ok (.bipush 6, 2) := by decide +kernel
theorem dX9_latest_117 : decode cX9_latest 117 = .ok (.iload 4, 2) := by decide +kernel
theorem dX9_latest_119 : decode cX9_latest 119 = .ok (.iconst 1, 1) := by decide +kernel
theorem dX9_latest_120 : decode cX9_latest 120 = .ok (.isub, 1) := by decide +kernel
theorem dX9_latest_121 : decode cX9_latest 121 = .ok (.imul, 1) := by decide +kernel
theorem dX9_latest_122 : decode cX9_latest 122 = .ok (.iload 5, 2) := by decide +kernel
theorem dX9_latest_124 : decode cX9_latest 124 = .ok (.iadd, 1) := by decide +kernel
theorem dX9_latest_125 : decode cX9_latest 125 = .ok (.baload, 1) := by decide +kernel
theorem dX9_latest_126 : decode cX9_latest 126 = .ok (.ifCond .ne 42, 3) := by decide +kernel
theorem dX9_latest_129 : decode cX9_latest 129 = .ok (.iload 6, 2) := by decide +kernel
theorem dX9_latest_131 : decode cX9_latest 131 = .ok (.ifCond .le 41, 3) := by decide +kernel
theorem dX9_latest_134 : decode cX9_latest 134 = .ok (.iload 6, 2) := by decide +kernel
theorem dX9_latest_136 : decode cX9_latest 136 = .ok (.iload 4, 2) := by decide +kernel
theorem dX9_latest_138 : decode cX9_latest 138 = .ok (.if_icmp .gt 34, 3) := by decide +kernel
theorem dX9_latest_141 : decode cX9_latest 141 = .ok (.aload_n 0, 1) := by decide +kernel
theorem dX9_latest_142 : decode cX9_latest 142 = .ok (.getfield 74, 3) := by decide +kernel
theorem dX9_latest_145 : decode cX9_latest 145 = .ok (.bipush 6, 2) := by decide +kernel
theorem dX9_latest_147 : decode cX9_latest 147 = .ok (.iload 4, 2) := by decide +kernel
theorem dX9_latest_149 : decode cX9_latest 149 = .ok (.iload 6, 2) := by decide +kernel
theorem dX9_latest_151 : decode cX9_latest 151 = .ok (.isub, 1) := by decide +kernel
theorem dX9_latest_152 : decode cX9_latest 152 = .ok (.imul, 1) := by decide +kernel
theorem dX9_latest_153 : decode cX9_latest 153 = .ok (.aload_n 0, 1) := by decide +kernel
theorem dX9_latest_154 : decode cX9_latest 154 = .ok (.iload 5, 2) := by decide +kernel
theorem dX9_latest_156 : decode cX9_latest 156 = .ok (.iload_n 2, 1) := by decide +kernel
theorem dX9_latest_157 : decode cX9_latest 157 = .ok (.iload 4, 2) := by decide +kernel
theorem dX9_latest_159 : decode cX9_latest 159 = .ok (.isub, 1) := by decide +kernel
theorem dX9_latest_160 : decode cX9_latest 160 = .ok (.invokevirtual 267, 3) := by decide +kernel
theorem dX9_latest_163 : decode cX9_latest 163 = .ok (.iadd, 1) := by decide +kernel
theorem dX9_latest_164 : decode cX9_latest 164 = .ok (.baload, 1) := by decide +kernel
theorem dX9_latest_165 : decode cX9_latest 165 = .ok (.ifCond .eq 7, 3) := by decide +kernel
theorem dX9_latest_168 : decode cX9_latest 168 = .ok (.iconst 1, 1) := by decide +kernel
theorem dX9_latest_169 : decode cX9_latest 169 = .ok (.goto 4, 3) := by decide +kernel
theorem dX9_latest_172 : decode cX9_latest 172 = .ok (.iconst 0, 1) := by decide +kernel
theorem dX9_latest_173 : decode cX9_latest 173 = .ok (.bastore, 1) := by decide +kernel
theorem dX9_latest_174 : decode cX9_latest 174 = .ok (.iinc 5 1, 3) := by decide +kernel
theorem dX9_latest_177 : decode cX9_latest 177 = .ok (.goto (-112), 3) := by decide +kernel
theorem dX9_latest_180 : decode cX9_latest 180 = .ok (.aload_n 0, 1) := by decide +kernel
theorem dX9_latest_181 : decode cX9_latest 181 = .ok (.getfield 74, 3) := by decide +kernel
theorem dX9_latest_184 : decode cX9_latest 184 = .ok (.bipush 6, 2) := by decide +kernel
theorem dX9_latest_186 : decode cX9_latest 186 = .ok (.iload 4, 2) := by decide +kernel
theorem dX9_latest_188 : decode cX9_latest 188 = .ok (.imul, 1) := by decide +kernel
theorem dX9_latest_189 : decode cX9_latest 189 = .ok (.aload_n 0, 1) := by decide +kernel
theorem dX9_latest_190 : decode cX9_latest 190 = .ok (.getfield 55, 3) := by decide +kernel
theorem dX9_latest_193 : decode cX9_latest 193 = .ok (.iconst 3, 1) := by decide +kernel
theorem dX9_latest_194 : decode cX9_latest 194 = .ok (.iload_n 1, 1) := by decide +kernel
theorem dX9_latest_195 : decode cX9_latest 195 = .ok (.imul, 1) := by decide +kernel
theorem dX9_latest_196 : decode cX9_latest 196 = .ok (.iaload, 1) := by decide +kernel
theorem dX9_latest_197 : decode cX9_latest 197 = .ok (.iadd, 1) := by decide +kernel
theorem dX9_latest_198 : decode cX9_latest 198 = .ok (.baload, 1) := by decide +kernel
theorem dX9_latest_199 : decode cX9_latest 199 = .ok (.ifCond .eq 8, 3) := by decide +kernel
theorem dX9_latest_202 : decode cX9_latest 202 = .ok (.iload_n 2, 1) := by decide +kernel
theorem dX9_latest_203 : decode cX9_latest 203 = .ok (.iload 4, 2) := by decide +kernel
theorem dX9_latest_205 : decode cX9_latest 205 = .ok (.isub, 1) := by decide +kernel
theorem dX9_latest_206 : decode cX9_latest 206 = .ok (.ireturn, 1) := by decide +kernel
theorem dX9_latest_207 : decode cX9_latest 207 = .ok (.iinc 4 1, 3) := by decide +kernel
theorem dX9_latest_210 : decode cX9_latest 210 = .ok (.goto (-173), 3) := by decide +kernel
theorem dX9_latest_213 : decode cX9_latest 213 = .ok (.iconst (-1), 1) := by decide +kernel
theorem dX9_latest_214 : decode cX9_latest 214 = .ok (.ireturn, 1) := by decide +kernel
set_option maxRecDepth 20000 in
theorem ggX9_throwers_X9_highOf : GoodIn wsX9_throwers wsX9_highOf := goodIn_r _ [6, 7, 8, 9, 10, 5, 11, 12, 13, 14, 15, 16, 17, 18, 19, 20, 21, 22, 23, 24, 25, 26, 27, 28, 29, 30, 31, 32, 33, 34, 35, 36, 37, 38, 39, 40, 41, 42, 43, 44, 45, 46, 47, 48, 49, 50, 51, 52, 53, 54, 55, 56, 57, 58] (by decide +kernel) (by decide +kernel)
set_option maxRecDepth 20000 in
theorem gX9_throwers_X9_highOf : GoodIn wsX9_throwers (wsV RX9 264 RX9 yX9_highOf wsX9_highOf) := goodIn_app (goodIn_of _ (by decide +kernel)) ggX9_throwers_X9_highOf
theorem dX9_throwers_0 : decode cX9_throwers 0 = .ok (.iconst 0, 1) := by decide +kernel
theorem dX9_throwers_1 : decode cX9_throwers 1 = .ok (.istore_n 2, 1) := by decide +kernel
theorem dX9_throwers_2 : decode cX9_throwers 2 = .ok (.iconst 0, 1) := by decide +kernel
theorem dX9_throwers_3 : decode cX9_throwers 3 = .ok (.istore_n 3, 1) := by decide +kernel
theorem dX9_throwers_4 : decode cX9_throwers 4 = .ok (.iload_n 3, 1) := by decide +kernel
theorem dX9_throwers_5 : decode cX9_throwers 5 = .ok (.aload_n 0, 1) := by decide +kernel
theorem dX9_throwers_6 : decode cX9_throwers 6 = .ok (.getfield 34, 3) := by decide +kernel
theorem dX9_throwers_9 : decode cX9_throwers 9 = .ok (.iconst 0, 1) := by decide +kernel
theorem dX9_throwers_10 : decode cX9_throwers 10 = .ok (.iaload, 1) := by decide +kernel
theorem dX9_throwers_11 : decode cX9_throwers 11 = .ok (.if_icmp .ge 26, 3) := by decide +kernel
theorem dX9_throwers_14 : decode cX9_throwers 14 = .ok (.iload_n 2, 1) := by decide +kernel
theorem dX9_throwers_15 : decode cX9_throwers 15 = .ok (.aload_n 0, 1) := by decide +kernel
theorem dX9_throwers_16 : decode cX9_throwers 16 = .ok (.iload_n 3, 1) := by decide +kernel
theorem dX9_throwers_17 : decode cX9_throwers 17 = .ok (.iload_n 1, 1) := by decide +kernel
theorem dX9_throwers_18 : decode cX9_throwers 18 = .ok (.invokevirtual 264, 3) := by decide +kernel
theorem dX9_throwers_21 : decode cX9_throwers 21 = .ok (.ifCond .le 7, 3) := by decide +kernel
theorem dX9_throwers_24 : decode cX9_throwers 24 = .ok (.iconst 1, 1) := by decide +kernel
theorem dX9_throwers_25 : decode cX9_throwers 25 = .ok (.goto 4, 3) := by decide +kernel
theorem dX9_throwers_28 : decode cX9_throwers 28 = .ok (.iconst 0, 1) := by decide +kernel
theorem dX9_throwers_29 : decode cX9_throwers 29 = .ok (.iadd, 1) := by decide +kernel
theorem dX9_throwers_30 : decode cX9_throwers 30 = .ok (.istore_n 2, 1) := by decide +kernel
theorem dX9_throwers_31 : decode cX9_throwers 31 = .ok (.iinc 3 1, 3) := by decide +kernel
theorem dX9_throwers_34 : decode cX9_throwers 34 = .ok (.goto (-30), 3) := by decide +kernel
theorem dX9_throwers_37 : decode cX9_throwers 37 = .ok (.iload_n 2, 1) := by decide +kernel
theorem dX9_throwers_38 : decode cX9_throwers 38 = .ok (.ireturn, 1) := by decide +kernel
set_option maxRecDepth 20000 in
theorem ggX9_busiest_X9_isCity : GoodIn wsX9_busiest wsX9_isCity := goodIn_r _ [6, 7, 29, 30, 31, 32, 33, 34, 35, 36, 37, 38, 39, 40, 41, 42, 43, 44, 45, 46, 47, 48, 49, 50, 51, 52, 53, 54, 55, 56, 57, 58, 59, 60, 61, 62, 63, 64, 65, 66, 67, 68, 69, 70, 71, 72, 73, 74] (by decide +kernel) (by decide +kernel)
set_option maxRecDepth 20000 in
theorem gX9_busiest_X9_isCity : GoodIn wsX9_busiest (wsV RX9 270 RX9 yX9_isCity wsX9_isCity) := goodIn_app (goodIn_of _ (by decide +kernel)) ggX9_busiest_X9_isCity
set_option maxRecDepth 20000 in
theorem ggX9_busiest_X9_in : GoodIn wsX9_busiest wsX9_in := goodIn_r _ [10] (by decide +kernel) (by decide +kernel)
set_option maxRecDepth 20000 in
theorem gX9_busiest_X9_in : GoodIn wsX9_busiest (va_wsS RX9 97 yX9_in wsX9_in) := goodIn_app (goodIn_of _ (by decide +kernel)) ggX9_busiest_X9_in
set_option maxRecDepth 20000 in
theorem ggX9_busiest_X9_round : GoodIn wsX9_busiest wsX9_round := goodIn_r _ [14, 7, 15, 29, 30, 31, 32, 33, 34, 35, 36, 37, 38, 39, 40, 41, 42, 43, 44, 45, 46, 47, 48, 49, 50, 51, 52, 53, 54, 55, 56, 57, 58, 59, 60, 61, 62, 63, 64, 65, 66, 67, 68, 69, 70, 71, 72, 73, 74] (by decide +kernel) (by decide +kernel)
set_option maxRecDepth 20000 in
theorem gX9_busiest_X9_round : GoodIn wsX9_busiest (wsV RX9 273 RX9 yX9_round wsX9_round) := goodIn_app (goodIn_of _ (by decide +kernel)) ggX9_busiest_X9_round
set_option maxRecDepth 20000 in
theorem ggX9_busiest_X9_throwers : GoodIn wsX9_busiest wsX9_throwers := goodIn_r _ [19, 7, 20, 21, 22, 5, 23, 24, 25, 26, 27, 28, 15, 29, 30, 31, 32, 33, 34, 35, 36, 37, 38, 39, 40, 41, 42, 43, 44, 45, 46, 47, 48, 49, 50, 51, 52, 53, 54, 55, 56, 57, 58, 59, 60, 61, 62, 63, 64, 65, 66, 67, 68, 69, 70, 71, 72, 73, 74] (by decide +kernel) (by decide +kernel)
set_option maxRecDepth 20000 in
theorem gX9_busiest_X9_throwers : GoodIn wsX9_busiest (wsV RX9 376 RX9 yX9_throwers wsX9_throwers) := goodIn_app (goodIn_of _ (by decide +kernel)) ggX9_busiest_X9_throwers
theorem dX9_busiest_0 : decode cX9_busiest 0 = .ok (.aload_n 0, 1) := by decide +kernel
theorem dX9_busiest_1 : decode cX9_busiest 1 = .ok (.iconst 0, 1) := by decide +kernel
theorem dX9_busiest_2 : decode cX9_busiest 2 = .ok (.putfield 92, 3) := by decide +kernel
theorem dX9_busiest_5 : decode cX9_busiest 5 = .ok (.aload_n 0, 1) := by decide +kernel
theorem dX9_busiest_6 : decode cX9_busiest 6 = .ok (.invokevirtual 270, 3) := by decide +kernel
theorem dX9_busiest_9 : decode cX9_busiest 9 = .ok (.ifCond .eq 13, 3) := by decide +kernel
theorem dX9_busiest_12 : decode cX9_busiest 12 = .ok (.iload_n 1, 1) := by decide +kernel
theorem dX9_busiest_13 : decode cX9_busiest 13 = .ok (.i2l, 1) := by decide +kernel
theorem dX9_busiest_14 : decode cX9_busiest 14 = .ok (.lconst 0, 1) := by decide +kernel
theorem dX9_busiest_15 : decode cX9_busiest 15 = .ok (.lconst 1, 1) := by decide +kernel
theorem dX9_busiest_16 : decode cX9_busiest 16 = .ok (.invokestatic 97, 3) := by decide +kernel
theorem dX9_busiest_19 : decode cX9_busiest 19 = .ok (.ifCond .ne 6, 3) := by decide +kernel
theorem dX9_busiest_22 : decode cX9_busiest 22 = .ok (.bipush (-2), 2) := by decide +kernel
theorem dX9_busiest_24 : decode cX9_busiest 24 = .ok (.ireturn, 1) := by decide +kernel
theorem dX9_busiest_25 : decode cX9_busiest 25 = .ok (.aload_n 0, 1) := by decide +kernel
theorem dX9_busiest_26 : decode cX9_busiest 26 = .ok (.invokevirtual 273, 3) := by decide +kernel
theorem dX9_busiest_29 : decode cX9_busiest 29 = .ok (.istore_n 2, 1) := by decide +kernel
theorem dX9_busiest_30 : decode cX9_busiest 30 = .ok (.iconst 0, 1) := by decide +kernel
theorem dX9_busiest_31 : decode cX9_busiest 31 = .ok (.istore_n 3, 1) := by decide +kernel
theorem dX9_busiest_32 : decode cX9_busiest 32 = .ok (.iconst 1, 1) := by decide +kernel
theorem dX9_busiest_33 : decode cX9_busiest 33 = .ok (.istore 4, 2) := by decide +kernel
theorem dX9_busiest_35 : decode cX9_busiest 35 = .ok (.iload 4, 2) := by decide +kernel
theorem dX9_busiest_37 : decode cX9_busiest 37 = .ok (.iload_n 2, 1) := by decide +kernel
theorem dX9_busiest_38 : decode cX9_busiest 38 = .ok (.if_icmp .ge 26, 3) := by decide +kernel
theorem dX9_busiest_41 : decode cX9_busiest 41 = .ok (.aload_n 0, 1) := by decide +kernel
theorem dX9_busiest_42 : decode cX9_busiest 42 = .ok (.iload 4, 2) := by decide +kernel
theorem dX9_busiest_44 : decode cX9_busiest 44 = .ok (.invokevirtual 376, 3) := by decide +kernel
theorem dX9_busiest_47 : decode cX9_busiest 47 = .ok (.aload_n 0, 1) := by decide +kernel
theorem dX9_busiest_48 : decode cX9_busiest 48 = .ok (.iload_n 3, 1) := by decide +kernel
theorem dX9_busiest_49 : decode cX9_busiest 49 = .ok (.invokevirtual 376, 3) := by decide +kernel
theorem dX9_busiest_52 : decode cX9_busiest 52 = .ok (.if_icmp .le 6, 3) := by decide +kernel
theorem dX9_busiest_55 : decode cX9_busiest 55 = .ok (.iload 4, 2) := by decide +kernel
theorem dX9_busiest_57 : decode cX9_busiest 57 = .ok (.istore_n 3, 1) := by decide +kernel
theorem dX9_busiest_58 : decode cX9_busiest 58 = .ok (.iinc 4 1, 3) := by decide +kernel
theorem dX9_busiest_61 : decode cX9_busiest 61 = .ok (.goto (-26), 3) := by decide +kernel
theorem dX9_busiest_64 : decode cX9_busiest 64 = .ok (.iload_n 1, 1) := by decide +kernel
theorem dX9_busiest_65 : decode cX9_busiest 65 = .ok (.ifCond .ne 7, 3) := by decide +kernel
theorem dX9_busiest_68 : decode cX9_busiest 68 = .ok (.iload_n 3, 1) := by decide +kernel
theorem dX9_busiest_69 : decode cX9_busiest 69 = .ok (.goto 8, 3) := by decide +kernel
theorem dX9_busiest_72 : decode cX9_busiest 72 = .ok (.aload_n 0, 1) := by decide +kernel
theorem dX9_busiest_73 : decode cX9_busiest 73 = .ok (.iload_n 3, 1) := by decide +kernel
theorem dX9_busiest_74 : decode cX9_busiest 74 = .ok (.invokevirtual 376, 3) := by decide +kernel
theorem dX9_busiest_77 : decode cX9_busiest 77 = .ok (.ireturn, 1) := by decide +kernel
set_option maxRecDepth 20000 in
theorem ggX9_silent_X9_isRoof : GoodIn wsX9_silent wsX9_isRoof := goodIn_r _ [6, 7, 8, 9, 5, 10, 25, 26, 27, 28, 29, 30, 31, 32, 33, 34, 35, 36, 37, 38, 39, 40, 41, 42, 43, 44, 45, 46, 47, 48, 49, 50, 51, 52, 53, 54, 55, 56, 57, 58, 59, 60, 61, 62, 63, 64, 65, 66, 67, 68, 69, 70] (by decide +kernel) (by decide +kernel)
set_option maxRecDepth 20000 in
theorem gX9_silent_X9_isRoof : GoodIn wsX9_silent (wsV RX9 256 RX9 yX9_isRoof wsX9_isRoof) := goodIn_app (goodIn_of _ (by decide +kernel)) ggX9_silent_X9_isRoof
set_option maxRecDepth 20000 in
theorem ggX9_silent_X9_round : GoodIn wsX9_silent wsX9_round := goodIn_r _ [14, 7, 15, 25, 26, 27, 28, 29, 30, 31, 32, 33, 34, 35, 36, 37, 38, 39, 40, 41, 42, 43, 44, 45, 46, 47, 48, 49, 50, 51, 52, 53, 54, 55, 56, 57, 58, 59, 60, 61, 62, 63, 64, 65, 66, 67, 68, 69, 70] (by decide +kernel) (by decide +kernel)
set_option maxRecDepth 20000 in
theorem gX9_silent_X9_round : GoodIn wsX9_silent (wsV RX9 273 RX9 yX9_round wsX9_round) := goodIn_app (goodIn_of _ (by decide +kernel)) ggX9_silent_X9_round
set_option maxRecDepth 20000 in
theorem ggX9_silent_X9_highOf : GoodIn wsX9_silent wsX9_highOf := goodIn_r _ [19, 20, 21, 22, 23, 5, 24, 15, 25, 26, 27, 28, 29, 30, 31, 32, 33, 34, 35, 36, 37, 38, 39, 40, 41, 42, 43, 44, 45, 46, 47, 48, 49, 50, 51, 52, 53, 54, 55, 56, 57, 58, 59, 60, 61, 62, 63, 64, 65, 66, 67, 68, 69, 70] (by decide +kernel) (by decide +kernel)
set_option maxRecDepth 20000 in
theorem gX9_silent_X9_highOf : GoodIn wsX9_silent (wsV RX9 264 RX9 yX9_highOf wsX9_highOf) := goodIn_app (goodIn_of _ (by decide +kernel)) ggX9_silent_X9_highOf
theorem dX9_silent_0 : decode cX9_silent 0 = .ok (.aload_n 0, 1) := by decide +kernel
theorem dX9_silent_1 : decode cX9_silent 1 = .ok (.iconst 0, 1) := by decide +kernel
theorem dX9_silent_2 : decode cX9_silent 2 = .ok (.putfield 92, 3) := by decide +kernel
theorem dX9_silent_5 : decode cX9_silent 5 = .ok (.aload_n 0, 1) := by decide +kernel
theorem dX9_silent_6 : decode cX9_silent 6 = .ok (.iload_n 1, 1) := by decide +kernel
theorem dX9_silent_7 : decode cX9_silent 7 = .ok (.invokevirtual 256, 3) := by decide +kernel
theorem dX9_silent_10 : decode cX9_silent 10 = .ok (.ifCond .ne 6, 3) := by decide +kernel
theorem dX9_silent_13 : decode cX9_silent 13 = .ok (.bipush (-2), 2) := by decide +kernel
theorem dX9_silent_15 : decode cX9_silent 15 = .ok (.ireturn, 1) := by decide +kernel
theorem dX9_silent_16 : decode cX9_silent 16 = .ok (.aload_n 0, 1) := by decide +kernel
theorem dX9_silent_17 : decode cX9_silent 17 = .ok (.invokevirtual 273, 3) := by decide +kernel
theorem dX9_silent_20 : decode cX9_silent 20 = .ok (.istore_n 2, 1) := by decide +kernel
theorem dX9_silent_21 : decode cX9_silent 21 = .ok (.iconst 0, 1) := by decide +kernel
theorem dX9_silent_22 : decode cX9_silent 22 = .ok (.istore_n 3, 1) := by decide +kernel
theorem dX9_silent_23 : decode cX9_silent 23 = .ok (.iconst 0, 1) := by decide +kernel
theorem dX9_silent_24 : decode cX9_silent 24 = .ok (.istore 4, 2) := by decide +kernel
theorem dX9_silent_26 : decode cX9_silent 26 = .ok (.iload 4, 2) := by decide +kernel
theorem dX9_silent_28 : decode cX9_silent 28 = .ok (.iload_n 2, 1) := by decide +kernel
theorem dX9_silent_29 : decode cX9_silent 29 = .ok (.if_icmp .ge 27, 3) := by decide +kernel
theorem dX9_silent_32 : decode cX9_silent 32 = .ok (.iload_n 3, 1) := by decide +kernel
theorem dX9_silent_33 : decode cX9_silent 33 = .ok (.aload_n 0, 1) := by decide +kernel
theorem dX9_silent_34 : decode cX9_silent 34 = .ok (.iload_n 1, 1) := by decide +kernel
theorem dX9_silent_35 : decode cX9_silent 35 = .ok (.iload 4, 2) := by decide +kernel
theorem dX9_silent_37 : decode cX9_silent 37 = .ok (.invokevirtual 264, 3) := by decide +kernel
theorem dX9_silent_40 : decode cX9_silent 40 = .ok (.ifCond .ne 7, 3) := by decide +kernel
theorem dX9_silent_43 : decode cX9_silent 43 = .ok (.iconst 1, 1) := by decide +kernel
theorem dX9_silent_44 : decode cX9_silent 44 = .ok (.goto 4, 3) := by decide +kernel
theorem dX9_silent_47 : decode cX9_silent 47 = .ok (.iconst 0, 1) := by decide +kernel
theorem dX9_silent_48 : decode cX9_silent 48 = .ok (.iadd, 1) := by decide +kernel
theorem dX9_silent_49 : decode cX9_silent 49 = .ok (.istore_n 3, 1) := by decide +kernel
theorem dX9_silent_50 : decode cX9_silent 50 = .ok (.iinc 4 1, 3) := by decide +kernel
theorem dX9_silent_53 : decode cX9_silent 53 = .ok (.goto (-27), 3) := by decide +kernel
theorem dX9_silent_56 : decode cX9_silent 56 = .ok (.iload_n 3, 1) := by decide +kernel
theorem dX9_silent_57 : decode cX9_silent 57 = .ok (.ireturn, 1) := by decide +kernel
set_option maxRecDepth 20000 in
theorem ggX9_blows_X9_blowsAt : GoodIn wsX9_blows wsX9_blowsAt := goodIn_r _ [11, 5, 12, 13, 1, 14, 15, 16, 17, 2, 3, 4, 18, 19, 20, 10, 21, 22, 23, 24, 25, 26, 27, 28, 29, 30, 31, 32, 33, 34, 35, 36, 37, 38, 39, 40, 41, 42, 43, 44, 45, 46, 47, 48, 49, 50, 51, 52, 53, 54, 55, 56, 57, 58, 59, 60, 61, 62, 63, 64, 65, 66, 67, 68, 69, 70, 71, 72, 73, 74, 75, 76, 77, 78] (by decide +kernel) (by decide +kernel)
set_option maxRecDepth 20000 in
theorem gX9_blows_X9_blowsAt : GoodIn wsX9_blows (wsV RX9 391 RX9 yX9_blowsAt wsX9_blowsAt) := goodIn_app (goodIn_of _ (by decide +kernel)) ggX9_blows_X9_blowsAt
theorem dX9_blows_0 : decode cX9_blows 0 = .ok (.aload_n 0, 1) := by decide +kernel
theorem dX9_blows_1 : decode cX9_blows 1 = .ok (.lload_n 1, 1) := by decide +kernel
theorem dX9_blows_2 : decode cX9_blows 2 = .ok (.putfield 379, 3) := by decide +kernel
theorem dX9_blows_5 : decode cX9_blows 5 = .ok (.aload_n 0, 1) := by decide +kernel
theorem dX9_blows_6 : decode cX9_blows 6 = .ok (.iconst 0, 1) := by decide +kernel
theorem dX9_blows_7 : decode cX9_blows 7 = .ok (.putfield 382, 3) := by decide +kernel
theorem dX9_blows_10 : decode cX9_blows 10 = .ok (.aload_n 0, 1) := by decide +kernel
theorem dX9_blows_11 : decode cX9_blows 11 = .ok (.iconst (-1), 1) := by decide +kernel
theorem dX9_blows_12 : decode cX9_blows 12 = .ok (.putfield 385, 3) := by decide +kernel
theorem dX9_blows_15 : decode cX9_blows 15 = .ok (.aload_n 0, 1) := by decide +kernel
theorem dX9_blows_16 : decode cX9_blows 16 = .ok (.iconst (-1), 1) := by decide +kernel
theorem dX9_blows_17 : decode cX9_blows 17 = .ok (.putfield 388, 3) := by decide +kernel
theorem dX9_blows_20 : decode cX9_blows 20 = .ok (.iconst 0, 1) := by decide +kernel
theorem dX9_blows_21 : decode cX9_blows 21 = .ok (.istore 4, 2) := by decide +kernel
theorem dX9_blows_23 : decode cX9_blows 23 = .ok (.iload 4, 2) := by decide +kernel
theorem dX9_blows_25 : decode cX9_blows 25 = .ok (.bipush 96, 2) := by decide +kernel
theorem dX9_blows_27 : decode cX9_blows 27 = .ok (.if_icmp .ge 17, 3) := by decide +kernel
theorem dX9_blows_30 : decode cX9_blows 30 = .ok (.aload_n 0, 1) := by decide +kernel
theorem dX9_blows_31 : decode cX9_blows 31 = .ok (.getfield 89, 3) := by decide +kernel
theorem dX9_blows_34 : decode cX9_blows 34 = .ok (.iload 4, 2) := by decide +kernel
theorem dX9_blows_36 : decode cX9_blows 36 = .ok (.iconst 0, 1) := by decide +kernel
theorem dX9_blows_37 : decode cX9_blows 37 = .ok (.bastore, 1) := by decide +kernel
theorem dX9_blows_38 : decode cX9_blows 38 = .ok (.iinc 4 1, 3) := by decide +kernel
theorem dX9_blows_41 : decode cX9_blows 41 = .ok (.goto (-18), 3) := by decide +kernel
theorem dX9_blows_44 : decode cX9_blows 44 = .ok (.iconst 0, 1) := by decide +kernel
theorem dX9_blows_45 : decode cX9_blows 45 = .ok (.istore 4, 2) := by decide +kernel
theorem dX9_blows_47 : decode cX9_blows 47 = .ok (.iload 4, 2) := by decide +kernel
theorem dX9_blows_49 : decode cX9_blows 49 = .ok (.iload_n 3, 1) := by decide +kernel
theorem dX9_blows_50 : decode cX9_blows 50 = .ok (.if_icmp .ge 37, 3) := by decide +kernel
theorem dX9_blows_53 : decode cX9_blows 53 = .ok (.iconst 0, 1) := by decide +kernel
theorem dX9_blows_54 : decode cX9_blows 54 = .ok (.istore 5, 2) := by decide +kernel
theorem dX9_blows_56 : decode cX9_blows 56 = .ok (.iload 5, 2) := by decide +kernel
theorem dX9_blows_58 : decode cX9_blows 58 = .ok (.aload_n 0, 1) := by decide +kernel
theorem dX9_blows_59 : decode cX9_blows 59 = .ok (.getfield 34, 3) := by decide +kernel
theorem dX9_blows_62 : decode cX9_blows 62 = .ok (.iconst 0, 1) := by decide +kernel
theorem dX9_blows_63 : decode cX9_blows 63 = .ok (.iaload, 1) := by decide +kernel
theorem dX9_blows_64 : decode cX9_blows 64 = .ok (.if_icmp .ge 17, 3) := by decide +kernel
theorem dX9_blows_67 : decode cX9_blows 67 = .ok (.aload_n 0, 1) := by decide +kernel
theorem dX9_blows_68 : decode cX9_blows 68 = .ok (.iload 5, 2) := by decide +kernel
theorem dX9_blows_70 : decode cX9_blows 70 = .ok (.iload 4, 2) := by decide +kernel
theorem dX9_blows_72 : decode cX9_blows 72 = .ok (.invokevirtual 391, 3) := by decide +kernel
theorem dX9_blows_75 : decode cX9_blows 75 = .ok (.iinc 5 1, 3) := by decide +kernel
theorem dX9_blows_78 : decode cX9_blows 78 = .ok (.goto (-22), 3) := by decide +kernel
theorem dX9_blows_81 : decode cX9_blows 81 = .ok (.iinc 4 1, 3) := by decide +kernel
theorem dX9_blows_84 : decode cX9_blows 84 = .ok (.goto (-37), 3) := by decide +kernel
theorem dX9_blows_87 : decode cX9_blows 87 = .ok (.return_, 1) := by decide +kernel
set_option maxRecDepth 20000 in
theorem ggX9_blowsAt_X9_highOf : GoodIn wsX9_blowsAt wsX9_highOf := goodIn_r _ [16, 17, 18, 19, 20, 15, 21, 22, 28, 29, 30, 31, 32, 33, 34, 35, 36, 37, 38, 39, 40, 41, 42, 43, 44, 45, 46, 47, 48, 49, 50, 51, 52, 53, 54, 55, 56, 57, 58, 59, 60, 61, 62, 63, 64, 65, 66, 67, 68, 69, 70, 71, 72, 73] (by decide +kernel) (by decide +kernel)
set_option maxRecDepth 20000 in
theorem gX9_blowsAt_X9_highOf : GoodIn wsX9_blowsAt (wsV RX9 264 RX9 yX9_highOf wsX9_highOf) := goodIn_app (goodIn_of _ (by decide +kernel)) ggX9_blowsAt_X9_highOf
set_option maxRecDepth 20000 in
theorem ggX9_blowsAt_X9_toOf : GoodIn wsX9_blowsAt wsX9_toOf := goodIn_r _ [26, 27, 18, 19, 20, 15, 21, 22, 28, 29, 30, 31, 32, 33, 34, 35, 36, 37, 38, 39, 40, 41, 42, 43, 44, 45, 46, 47, 48, 49, 50, 51, 52, 53, 54, 55, 56, 57, 58, 59, 60, 61, 62, 63, 64, 65, 66, 67, 68, 69, 70, 71, 72, 73] (by decide +kernel) (by decide +kernel)
set_option maxRecDepth 20000 in
theorem gX9_blowsAt_X9_toOf : GoodIn wsX9_blowsAt (wsV RX9 267 RX9 yX9_toOf wsX9_toOf) := goodIn_app (goodIn_of _ (by decide +kernel)) ggX9_blowsAt_X9_toOf
theorem dX9_blowsAt_0 : decode cX9_blowsAt 0 = .ok (.aload_n 0, 1) := by decide +kernel
theorem dX9_blowsAt_1 : decode cX9_blowsAt 1 = .ok (.iload_n 1, 1) := by decide +kernel
theorem dX9_blowsAt_2 : decode cX9_blowsAt 2 = .ok (.iload_n 2, 1) := by decide +kernel
theorem dX9_blowsAt_3 : decode cX9_blowsAt 3 = .ok (.invokevirtual 264, 3) := by decide +kernel
theorem dX9_blowsAt_6 : decode cX9_blowsAt 6 = .ok (.istore_n 3, 1) := by decide +kernel
theorem dX9_blowsAt_7 : decode cX9_blowsAt 7 = .ok (.iload_n 3, 1) := by decide +kernel
theorem dX9_blowsAt_8 : decode cX9_blowsAt 8 = .ok (.ifCond .ne 4, 3) := by decide +kernel
theorem dX9_blowsAt_11 : decode cX9_blowsAt 11 = .ok (.return_, 1) := by decide +kernel
theorem dX9_blowsAt_12 : decode cX9_blowsAt 12 = .ok (.aload_n 0, 1) := by decide +kernel
theorem dX9_blowsAt_13 : decode cX9_blowsAt 13 = .ok (.getfield 89, 3) := by decide +kernel
theorem dX9_blowsAt_16 : decode cX9_blowsAt 16 = .ok (.bipush 16, 2) := by decide +kernel
theorem dX9_blowsAt_18 : decode cX9_blowsAt 18 = .ok (.iload_n 1, 1) := by decide +kernel
theorem dX9_blowsAt_19 : decode cX9_blowsAt 19 = .ok (.imul, 1) := by decide +kernel
theorem dX9_blowsAt_20 : decode cX9_blowsAt 20 = .ok (.iload_n 2, 1) := by decide +kernel
theorem dX9_blowsAt_21 : decode cX9_blowsAt 21 = .ok (.bipush 16, 2) := by decide +kernel
theorem dX9_blowsAt_23 : decode cX9_blowsAt 23 = .ok (.irem, 1) := by decide +kernel
theorem dX9_blowsAt_24 : decode cX9_blowsAt 24 = .ok (.iadd, 1) := by decide +kernel
theorem dX9_blowsAt_25 : decode cX9_blowsAt 25 = .ok (.baload, 1) := by decide +kernel
theorem dX9_blowsAt_26 : decode cX9_blowsAt 26 = .ok (.istore 4, 2) := by decide +kernel
theorem dX9_blowsAt_28 : decode cX9_blowsAt 28 = .ok (.aload_n 0, 1) := by decide +kernel
theorem dX9_blowsAt_29 : decode cX9_blowsAt 29 = .ok (.getfield 89, 3) := by decide +kernel
theorem dX9_blowsAt_32 : decode cX9_blowsAt 32 = .ok (.bipush 16, 2) := by decide +kernel
theorem dX9_blowsAt_34 : decode cX9_blowsAt 34 = .ok (.iload_n 1, 1) := by decide +kernel
theorem dX9_blowsAt_35 : decode cX9_blowsAt 35 = .ok (.imul, 1) := by decide +kernel
theorem dX9_blowsAt_36 : decode cX9_blowsAt 36 = .ok (.iload_n 2, 1) := by decide +kernel
theorem dX9_blowsAt_37 : decode cX9_blowsAt 37 = .ok (.bipush 16, 2) := by decide +kernel
theorem dX9_blowsAt_39 : decode cX9_blowsAt 39 = .ok (.irem, 1) := by decide +kernel
theorem dX9_blowsAt_40 : decode cX9_blowsAt 40 = .ok (.iadd, 1) := by decide +kernel
theorem dX9_blowsAt_41 : decode cX9_blowsAt 41 = .ok (.iconst 0, 1) := by decide +kernel
theorem dX9_blowsAt_42 : decode cX9_blowsAt 42 = .ok (.bastore, 1) := by decide +kernel
theorem dX9_blowsAt_43 : decode cX9_blowsAt 43 = .ok (.iload 4, 2) := by decide +kernel
theorem dX9_blowsAt_45 : decode cX9_blowsAt 45 = .ok (.ifCond .ne 118, 3) := by decide +kernel
theorem dX9_blowsAt_48 : decode cX9_blowsAt 48 = .ok (.iload_n 3, 1) := by decide +kernel
theorem dX9_blowsAt_49 : decode cX9_blowsAt 49 = .ok (.aload_n 0, 1) := by decide +kernel
theorem dX9_blowsAt_50 : decode cX9_blowsAt 50 = .ok (.getfield 58, 3) := by decide +kernel
theorem dX9_blowsAt_53 : decode cX9_blowsAt 53 = .ok (.iconst 0, 1) := by decide +kernel
theorem dX9_blowsAt_54 : decode cX9_blowsAt 54 = .ok (.iaload, 1) := by decide +kernel
theorem dX9_blowsAt_55 : decode cX9_blowsAt 55 = .ok (.if_icmp .lt 108, 3) := by decide +kernel
theorem dX9_blowsAt_58 : decode cX9_blowsAt 58 = .ok (.aload_n 0, 1) := by decide +kernel
theorem dX9_blowsAt_59 : decode cX9_blowsAt 59 = .ok (.ldc2_w 394, 3) := by decide +kernel
theorem dX9_blowsAt_62 : decode cX9_blowsAt 62 = .ok (.aload_n 0, 1) := by decide +kernel
theorem dX9_blowsAt_63 : decode cX9_blowsAt 63 = .ok (.getfield 379, 3) := by decide +kernel
theorem dX9_blowsAt_66 : decode cX9_blowsAt 66 = .ok (.lmul, 1) := by decide +kernel
theorem dX9_blowsAt_67 : decode cX9_blowsAt 67 = .ok (.ldc2_w 396, 3) := by decide +kernel
theorem dX9_blowsAt_70 : decode cX9_blowsAt 70 = .ok (.ladd, 1) := by decide +kernel
theorem dX9_blowsAt_71 : decode cX9_blowsAt 71 = .ok (.ldc2_w 398, 3) := by decide +kernel
theorem dX9_blowsAt_74 : decode cX9_blowsAt 74 = .ok (.lrem, 1) := by decide +kernel
theorem dX9_blowsAt_75 : decode cX9_blowsAt 75 = .ok (.putfield 379, 3) := by decide +kernel
theorem dX9_blowsAt_78 : decode cX9_blowsAt 78 = .ok (.aload_n 0, 1) := by decide +kernel
theorem dX9_blowsAt_79 : decode cX9_blowsAt 79 = .ok (.getfield 379, 3) := by decide +kernel
theorem dX9_blowsAt_82 : decode cX9_blowsAt 82 = .ok (.ldc2_w 400, 3) := by decide +kernel
theorem dX9_blowsAt_85 : decode cX9_blowsAt 85 = .ok (.ldiv, 1) := by decide +kernel
theorem dX9_blowsAt_86 : decode cX9_blowsAt 86 = .ok (.ldc2_w 402, 3) := by decide +kernel
theorem dX9_blowsAt_89 : decode cX9_blowsAt 89 = .ok (.lrem, 1) := by decide +kernel
theorem dX9_blowsAt_90 : decode cX9_blowsAt 90 = .ok (.aload_n 0, 1) := by decide +kernel
theorem dX9_blowsAt_91 : decode cX9_blowsAt 91 = .ok (.getfield 58, 3) := by decide +kernel
theorem dX9_blowsAt_94 : decode cX9_blowsAt 94 = .ok (.iconst 1, 1) := by decide +kernel
theorem dX9_blowsAt_95 : decode cX9_blowsAt 95 = .ok (.iaload, 1) := by decide +kernel
theorem dX9_blowsAt_96 : decode cX9_blowsAt 96 = .ok (.i2l, 1) := by decide +kernel
theorem dX9_blowsAt_97 : decode cX9_blowsAt 97 = .ok (.lcmp, 1) := by decide +kernel
theorem dX9_blowsAt_98 : decode cX9_blowsAt 98 = .ok (.ifCond .ge 7, 3) := by decide +kernel
theorem dX9_blowsAt_101 : decode cX9_blowsAt 101 = .ok (.iconst 1, 1) := by decide +kernel
theorem dX9_blowsAt_102 : decode cX9_blowsAt 102 = .ok (.goto 4, 3) := by decide +kernel
theorem dX9_blowsAt_105 : decode cX9_blowsAt 105 = .ok (.iconst 0, 1) := by decide +kernel
theorem dX9_blowsAt_106 : decode cX9_blowsAt 106 = .ok (.istore 4, 2) := by decide +kernel
theorem dX9_blowsAt_108 : decode cX9_blowsAt 108 = .ok (.iload 4, 2) := by decide +kernel
theorem dX9_blowsAt_110 : decode cX9_blowsAt 110 = .ok (.ifCond .eq 53, 3) := by decide +kernel
theorem dX9_blowsAt_113 : decode cX9_blowsAt 113 = .ok (.aload_n 0, 1) := by decide +kernel
theorem dX9_blowsAt_114 : decode cX9_blowsAt 114 = .ok (.dup, 1) := by decide +kernel
theorem dX9_blowsAt_115 : decode cX9_blowsAt 115 = .ok (.getfield 382, 3) := by decide +kernel
theorem dX9_blowsAt_118 : decode cX9_blowsAt 118 = .ok (.iconst 1, 1) := by decide +kernel
theorem dX9_blowsAt_119 : decode cX9_blowsAt 119 = .ok (.iadd, 1) := by decide +kernel
theorem dX9_blowsAt_120 : decode cX9_blowsAt 120 = .ok (.putfield 382, 3) := by decide +kernel
theorem dX9_blowsAt_123 : decode cX9_blowsAt 123 = .ok (.aload_n 0, 1) := by decide +kernel
theorem dX9_blowsAt_124 : decode cX9_blowsAt 124 = .ok (.aload_n 0, 1) := by decide +kernel
theorem dX9_blowsAt_125 : decode cX9_blowsAt 125 = .ok (.getfield 385, 3) := by decide +kernel
theorem dX9_blowsAt_128 : decode cX9_blowsAt 128 = .ok (.iconst (-1), 1) := by decide +kernel
theorem dX9_blowsAt_129 : decode cX9_blowsAt 129 = .ok (.if_icmp .ne 7, 3) := by decide +kernel
theorem dX9_blowsAt_132 : decode cX9_blowsAt 132 = .ok (.iload_n 1, 1) := by decide +kernel
theorem dX9_blowsAt_133 : decode cX9_blowsAt 133 = .ok (.goto 7, 3) := by decide +kernel
theorem dX9_blowsAt_136 : decode cX9_blowsAt 136 = .ok (.aload_n 0, 1) := by decide +kernel
theorem dX9_blowsAt_137 : decode cX9_blowsAt 137 = .ok (.getfield 388, 3) := by decide +kernel
theorem dX9_blowsAt_140 : decode cX9_blowsAt 140 = .ok (.putfield 388, 3) := by decide +kernel
theorem dX9_blowsAt_143 : decode cX9_blowsAt 143 = .ok (.aload_n 0, 1) := by decide +kernel
theorem dX9_blowsAt_144 : decode cX9_blowsAt 144 = .ok (.aload_n 0, 1) := by decide +kernel
theorem dX9_blowsAt_145 : decode cX9_blowsAt 145 = .ok (.getfield 385, 3) := by decide +kernel
theorem dX9_blowsAt_148 : decode cX9_blowsAt 148 = .ok (.iconst (-1), 1) := by decide +kernel
theorem dX9_blowsAt_149 : decode cX9_blowsAt 149 = .ok (.if_icmp .ne 7, 3) := by decide +kernel
theorem dX9_blowsAt_152 : decode cX9_blowsAt 152 = .ok (.iload_n 2, 1) := by decide +kernel
theorem dX9_blowsAt_153 : decode cX9_blowsAt 153 = .ok (.goto 7, 3) := by decide +kernel
theorem dX9_blowsAt_156 : decode cX9_blowsAt 156 = .ok (.aload_n 0, 1) := by decide +kernel
theorem dX9_blowsAt_157 : decode cX9_blowsAt 157 = .ok (.getfield 385, 3) := by decide +kernel
theorem dX9_blowsAt_160 : decode cX9_blowsAt 160 = .ok (.putfield 385, 3) := by decide +kernel
theorem dX9_blowsAt_163 : decode cX9_blowsAt 163 = .ok (.iload 4, 2) := by decide +kernel
theorem dX9_blowsAt_165 : decode cX9_blowsAt 165 = .ok (.ifCond .eq 25, 3) := by decide +kernel
theorem dX9_blowsAt_168 : decode cX9_blowsAt 168 = .ok (.aload_n 0, 1) := by decide +kernel
theorem dX9_blowsAt_169 : decode cX9_blowsAt 169 = .ok (.getfield 89, 3) := by decide +kernel
theorem dX9_blowsAt_172 : decode cX9_blowsAt 172 = .ok (.bipush 16, 2) := by decide +kernel
theorem dX9_blowsAt_174 : decode cX9_blowsAt 174 = .ok (.aload_n 0, 1) := by decide +kernel
theorem dX9_blowsAt_175 : decode cX9_blowsAt 175 = .ok (.iload_n 1, 1) := by decide +kernel
theorem dX9_blowsAt_176 : decode cX9_blowsAt 176 = .ok (.iload_n 2, 1) := by decide +kernel
theorem dX9_blowsAt_177 : decode cX9_blowsAt 177 = .ok (.invokevirtual 267, 3) := by decide +kernel
theorem dX9_blowsAt_180 : decode cX9_blowsAt 180 = .ok (.imul, 1) := by decide +kernel
theorem dX9_blowsAt_181 : decode cX9_blowsAt 181 = .ok (.iload_n 2, 1) := by decide +kernel
theorem dX9_blowsAt_182 : decode cX9_blowsAt 182 = .ok (.iload_n 3, 1) := by decide +kernel
theorem dX9_blowsAt_183 : decode cX9_blowsAt 183 = .ok (.iadd, 1) := by decide +kernel
theorem dX9_blowsAt_184 : decode cX9_blowsAt 184 = .ok (.bipush 16, 2) := by decide +kernel
theorem dX9_blowsAt_186 : decode cX9_blowsAt 186 = .ok (.irem, 1) := by decide +kernel
theorem dX9_blowsAt_187 : decode cX9_blowsAt 187 = .ok (.iadd, 1) := by decide +kernel
theorem dX9_blowsAt_188 : decode cX9_blowsAt 188 = .ok (.iconst 1, 1) := by decide +kernel
theorem dX9_blowsAt_189 : decode cX9_blowsAt 189 = .ok (.bastore, 1) := by decide +kernel
theorem dX9_blowsAt_190 : decode cX9_blowsAt 190 = .ok (.return_, 1) := by decide +kernel
set_option maxRecDepth 20000 in
theorem ggX9_isGust_X9_isCity : GoodIn wsX9_isGust wsX9_isCity := goodIn_r _ [7, 8, 12, 13, 14, 15, 16, 17, 18, 19, 20, 21, 22, 23, 24, 25, 26, 27, 28, 29, 30, 31, 32, 33, 34, 35, 36, 37, 38, 39, 40, 41, 42, 43, 44, 45, 46, 47, 48, 49, 50, 51, 52, 53, 54, 55, 56, 57] (by decide +kernel) (by decide +kernel)
set_option maxRecDepth 20000 in
theorem gX9_isGust_X9_isCity : GoodIn wsX9_isGust (wsV RX9 270 RX9 yX9_isCity wsX9_isCity) := goodIn_app (goodIn_of _ (by decide +kernel)) ggX9_isGust_X9_isCity
set_option maxRecDepth 20000 in
theorem ggX9_isGust_X9_in : GoodIn wsX9_isGust wsX9_in := goodIn_r _ [11] (by decide +kernel) (by decide +kernel)
set_option maxRecDepth 20000 in
theorem gX9_isGust_X9_in : GoodIn wsX9_isGust (va_wsS RX9 97 yX9_in wsX9_in) := goodIn_app (goodIn_of _ (by decide +kernel)) ggX9_isGust_X9_in
theorem dX9_isGust_0 : decode cX9_isGust 0 = .ok (.aload_n 0, 1) := by decide +kernel
theorem dX9_isGust_1 : decode cX9_isGust 1 = .ok (.invokevirtual 270, 3) := by decide +kernel
theorem dX9_isGust_4 : decode cX9_isGust 4 = .ok (.ifCond .eq 31, 3) := by decide +kernel
theorem dX9_isGust_7 : decode cX9_isGust 7 = .ok (.iload_n 1, 1) := by decide +kernel
theorem dX9_isGust_8 : decode cX9_isGust 8 = .ok (.i2l, 1) := by decide +kernel
theorem dX9_isGust_9 : decode cX9_isGust 9 = .ok (.lconst 0, 1) := by decide +kernel
theorem dX9_isGust_10 : decode cX9_isGust 10 = .ok (.ldc2_w 404, 3) := by decide +kernel
theorem dX9_isGust_13 : decode cX9_isGust 13 = .ok (.invokestatic 97, 3) := by decide +kernel
theorem dX9_isGust_16 : decode cX9_isGust 16 = .ok (.ifCond .eq 19, 3) := by decide +kernel
theorem dX9_isGust_19 : decode cX9_isGust 19 = .ok (.iload_n 2, 1) := by decide +kernel
theorem dX9_isGust_20 : decode cX9_isGust 20 = .ok (.i2l, 1) := by decide +kernel
theorem dX9_isGust_21 : decode cX9_isGust 21 = .ok (.lconst 0, 1) := by decide +kernel
theorem dX9_isGust_22 : decode cX9_isGust 22 = .ok (.ldc2_w 406, 3) := by decide +kernel
theorem dX9_isGust_25 : decode cX9_isGust 25 = .ok (.invokestatic 97, 3) := by decide +kernel
theorem dX9_isGust_28 : decode cX9_isGust 28 = .ok (.ifCond .eq 7, 3) := by decide +kernel
theorem dX9_isGust_31 : decode cX9_isGust 31 = .ok (.iconst 1, 1) := by decide +kernel
theorem dX9_isGust_32 : decode cX9_isGust 32 = .ok (.goto 4, 3) := by decide +kernel
theorem dX9_isGust_35 : decode cX9_isGust 35 = .ok (.iconst 0, 1) := by decide +kernel
theorem dX9_isGust_36 : decode cX9_isGust 36 = .ok (.ireturn, 1) := by decide +kernel
set_option maxRecDepth 20000 in
theorem ggX9_gusts_X9_isGust : GoodIn wsX9_gusts wsX9_isGust := goodIn_r _ [10, 11, 12, 13, 14, 15, 9, 16, 17, 18, 19, 20, 72, 73, 74, 75, 76, 77, 78, 79, 80, 81, 82, 83, 84, 85, 86, 87, 88, 89, 90, 91, 92, 93, 94, 95, 96, 97, 98, 99, 100, 101, 102, 103, 104, 105, 106, 107, 108, 109, 110, 111, 112, 113, 114, 115, 116, 117] (by decide +kernel) (by decide +kernel)
set_option maxRecDepth 20000 in
theorem gX9_gusts_X9_isGust : GoodIn wsX9_gusts (wsV RX9 408 RX9 yX9_isGust wsX9_isGust) := goodIn_app (goodIn_of _ (by decide +kernel)) ggX9_gusts_X9_isGust
set_option maxRecDepth 20000 in
theorem ggX9_gusts_X9_in : GoodIn wsX9_gusts wsX9_in := goodIn_r _ [20] (by decide +kernel) (by decide +kernel)
set_option maxRecDepth 20000 in
theorem gX9_gusts_X9_in : GoodIn wsX9_gusts (va_wsS RX9 97 yX9_in wsX9_in) := goodIn_app (goodIn_of _ (by decide +kernel)) ggX9_gusts_X9_in
set_option maxRecDepth 20000 in
theorem ggX9_gusts_X9_isUp : GoodIn wsX9_gusts wsX9_isUp := goodIn_r _ [24, 17, 25, 26, 27, 9, 28, 29, 30, 31, 32, 33, 34, 35, 36, 37, 38, 39, 40, 41, 42, 43, 44, 45, 46, 47, 48, 49, 50, 51, 72, 73, 74, 75, 76, 77, 78, 79, 80, 81, 82, 83, 84, 85, 86, 87, 88, 89, 90, 91, 92, 93, 94, 95, 96, 97, 98, 99, 100, 101, 102, 103, 104, 105, 106, 107, 108, 109, 110, 111, 112, 113, 114, 115, 116, 117] (by decide +kernel) (by decide +kernel)
set_option maxRecDepth 20000 in
theorem gX9_gusts_X9_isUp : GoodIn wsX9_gusts (wsV RX9 286 RX9 yX9_isUp wsX9_isUp) := goodIn_app (goodIn_of _ (by decide +kernel)) ggX9_gusts_X9_isUp
set_option maxRecDepth 20000 in
theorem ggX9_gusts_X9_blows : GoodIn wsX9_gusts wsX9_blows := goodIn_r _ [55, 56, 3, 4, 5, 57, 17, 58, 59, 60, 9, 61, 62, 63, 64, 65, 66, 67, 38, 39, 40, 41, 42, 43, 44, 45, 46, 29, 47, 48, 49, 50, 51, 72, 73, 74, 75, 76, 77, 78, 79, 80, 81, 82, 83, 84, 85, 86, 87, 88, 89, 90, 91, 92, 93, 94, 95, 96, 97, 98, 99, 100, 101, 102, 103, 104, 105, 106, 107, 108, 109, 110, 111, 112, 113, 114, 115, 116, 117] (by decide +kernel) (by decide +kernel)
set_option maxRecDepth 20000 in
theorem gX9_gusts_X9_blows : GoodIn wsX9_gusts (wsV RX9 411 RX9 yX9_blows wsX9_blows) := goodIn_app (goodIn_of _ (by decide +kernel)) ggX9_gusts_X9_blows
set_option maxRecDepth 20000 in
theorem ggX9_gusts_X9_ballsOf : GoodIn wsX9_gusts wsX9_ballsOf := goodIn_r _ [71, 17, 25, 26, 27, 9, 28, 29, 38, 39, 40, 41, 42, 43, 44, 45, 46, 72, 73, 74, 75, 76, 77, 78, 79, 80, 81, 82, 83, 84, 85, 86, 87, 88, 89, 90, 91, 92, 93, 94, 95, 96, 97, 98, 99, 100, 101, 102, 103, 104, 105, 106, 107, 108, 109, 110, 111, 112, 113, 114, 115, 116, 117] (by decide +kernel) (by decide +kernel)
set_option maxRecDepth 20000 in
theorem gX9_gusts_X9_ballsOf : GoodIn wsX9_gusts (wsV RX9 289 RX9 yX9_ballsOf wsX9_ballsOf) := goodIn_app (goodIn_of _ (by decide +kernel)) ggX9_gusts_X9_ballsOf
theorem dX9_gusts_0 : decode cX9_gusts 0 = .ok (.aload_n 0, 1) := by decide +kernel
theorem dX9_gusts_1 : decode cX9_gusts 1 = .ok (.iconst 0, 1) := by decide +kernel
theorem dX9_gusts_2 : decode cX9_gusts 2 = .ok (.putfield 92, 3) := by decide +kernel
theorem dX9_gusts_5 : decode cX9_gusts 5 = .ok (.aload_n 0, 1) := by decide +kernel
theorem dX9_gusts_6 : decode cX9_gusts 6 = .ok (.iload_n 1, 1) := by decide +kernel
theorem dX9_gusts_7 : decode cX9_gusts 7 = .ok (.iload_n 2, 1) := by decide +kernel
theorem dX9_gusts_8 : decode cX9_gusts 8 = .ok (.invokevirtual 408, 3) := by decide +kernel
theorem dX9_gusts_11 : decode cX9_gusts 11 = .ok (.ifCond .eq 15, 3) := by decide +kernel
theorem dX9_gusts_14 : decode cX9_gusts 14 = .ok (.iload_n 3, 1) := by decide +kernel
theorem dX9_gusts_15 : decode cX9_gusts 15 = .ok (.i2l, 1) := by decide +kernel
theorem dX9_gusts_16 : decode cX9_gusts 16 = .ok (.lconst 0, 1) := by decide +kernel
theorem dX9_gusts_17 : decode cX9_gusts 17 = .ok (.ldc2_w 262, 3) := by decide +kernel
theorem dX9_gusts_20 : decode cX9_gusts 20 = .ok (.invokestatic 97, 3) := by decide +kernel
theorem dX9_gusts_23 : decode cX9_gusts 23 = .ok (.ifCond .ne 6, 3) := by decide +kernel
theorem dX9_gusts_26 : decode cX9_gusts 26 = .ok (.bipush (-2), 2) := by decide +kernel
theorem dX9_gusts_28 : decode cX9_gusts 28 = .ok (.ireturn, 1) := by decide +kernel
theorem dX9_gusts_29 : decode cX9_gusts 29 = .ok (.aload_n 0, 1) := by decide +kernel
theorem dX9_gusts_30 : decode cX9_gusts 30 = .ok (.invokevirtual 286, 3) := by decide +kernel
theorem dX9_gusts_33 : decode cX9_gusts 33 = .ok (.ifCond .ne 5, 3) := by decide +kernel
theorem dX9_gusts_36 : decode cX9_gusts 36 = .ok (.iconst (-1), 1) := by decide +kernel
theorem dX9_gusts_37 : decode cX9_gusts 37 = .ok (.ireturn, 1) := by decide +kernel
theorem dX9_gusts_38 : decode cX9_gusts 38 = .ok (.aload_n 0, 1) := by decide +kernel
theorem dX9_gusts_39 : decode cX9_gusts 39 = .ok (.iload_n 1, 1) := by decide +kernel
theorem dX9_gusts_40 : decode cX9_gusts 40 = .ok (.i2l, 1) := by decide +kernel
theorem dX9_gusts_41 : decode cX9_gusts 41 = .ok (.iload_n 2, 1) := by decide +kernel
theorem dX9_gusts_42 : decode cX9_gusts 42 = .ok (.invokevirtual 411, 3) := by decide +kernel
theorem dX9_gusts_45 : decode cX9_gusts 45 = .ok (.iload_n 3, 1) := by decide +kernel
theorem dX9_gusts_46 : decode cX9_gusts 46 = .ok (.ifCond .ne 15, 3) := by decide +kernel
theorem dX9_gusts_49 : decode cX9_gusts 49 = .ok (.aload_n 0, 1) := by decide +kernel
theorem dX9_gusts_50 : decode cX9_gusts 50 = .ok (.invokevirtual 289, 3) := by decide +kernel
theorem dX9_gusts_53 : decode cX9_gusts 53 = .ok (.aload_n 0, 1) := by decide +kernel
theorem dX9_gusts_54 : decode cX9_gusts 54 = .ok (.getfield 382, 3) := by decide +kernel
theorem dX9_gusts_57 : decode cX9_gusts 57 = .ok (.isub, 1) := by decide +kernel
theorem dX9_gusts_58 : decode cX9_gusts 58 = .ok (.goto 19, 3) := by decide +kernel
theorem dX9_gusts_61 : decode cX9_gusts 61 = .ok (.iload_n 3, 1) := by decide +kernel
theorem dX9_gusts_62 : decode cX9_gusts 62 = .ok (.iconst 1, 1) := by decide +kernel
theorem dX9_gusts_63 : decode cX9_gusts 63 = .ok (.if_icmp .ne 10, 3) := by decide +kernel
theorem dX9_gusts_66 : decode cX9_gusts 66 = .ok (.aload_n 0, 1) := by decide +kernel
theorem dX9_gusts_67 : decode cX9_gusts 67 = .ok (.getfield 385, 3) := by decide +kernel
theorem dX9_gusts_70 : decode cX9_gusts 70 = .ok (.goto 7, 3) := by decide +kernel
theorem dX9_gusts_73 : decode cX9_gusts 73 = .ok (.aload_n 0, 1) := by decide +kernel
theorem dX9_gusts_74 : decode cX9_gusts 74 = .ok (.getfield 388, 3) := by decide +kernel
theorem dX9_gusts_77 : decode cX9_gusts 77 = .ok (.ireturn, 1) := by decide +kernel
set_option maxRecDepth 20000 in
theorem ggX9_years_X9_isGust : GoodIn wsX9_years wsX9_isGust := goodIn_r _ [8, 9, 10, 11, 12, 13, 7, 14, 15, 16, 17, 18, 68, 69, 70, 71, 72, 73, 74, 75, 76, 77, 78, 79, 80, 81, 82, 83, 84, 85, 86, 87, 88, 89, 90, 91, 92, 93, 94, 95, 96, 97, 98, 99, 100, 101, 102, 103, 104, 105, 106, 107, 108, 109, 110, 111, 112, 113] (by decide +kernel) (by decide +kernel)
set_option maxRecDepth 20000 in
theorem gX9_years_X9_isGust : GoodIn wsX9_years (wsV RX9 408 RX9 yX9_isGust wsX9_isGust) := goodIn_app (goodIn_of _ (by decide +kernel)) ggX9_years_X9_isGust
set_option maxRecDepth 20000 in
theorem ggX9_years_X9_in : GoodIn wsX9_years wsX9_in := goodIn_r _ [18] (by decide +kernel) (by decide +kernel)
set_option maxRecDepth 20000 in
theorem gX9_years_X9_in : GoodIn wsX9_years (va_wsS RX9 97 yX9_in wsX9_in) := goodIn_app (goodIn_of _ (by decide +kernel)) ggX9_years_X9_in
set_option maxRecDepth 20000 in
theorem ggX9_years_X9_isUp : GoodIn wsX9_years wsX9_isUp := goodIn_r _ [22, 15, 23, 24, 25, 7, 26, 27, 28, 29, 30, 31, 32, 33, 34, 35, 36, 37, 38, 39, 40, 41, 42, 43, 44, 45, 46, 47, 48, 49, 68, 69, 70, 71, 72, 73, 74, 75, 76, 77, 78, 79, 80, 81, 82, 83, 84, 85, 86, 87, 88, 89, 90, 91, 92, 93, 94, 95, 96, 97, 98, 99, 100, 101, 102, 103, 104, 105, 106, 107, 108, 109, 110, 111, 112, 113] (by decide +kernel) (by decide +kernel)
set_option maxRecDepth 20000 in
theorem gX9_years_X9_isUp : GoodIn wsX9_years (wsV RX9 286 RX9 yX9_isUp wsX9_isUp) := goodIn_app (goodIn_of _ (by decide +kernel)) ggX9_years_X9_isUp
set_option maxRecDepth 20000 in
theorem ggX9_years_X9_blows : GoodIn wsX9_years wsX9_blows := goodIn_r _ [53, 54, 3, 55, 56, 57, 15, 58, 59, 60, 7, 61, 62, 63, 64, 65, 66, 67, 36, 37, 38, 39, 40, 41, 42, 43, 44, 27, 45, 46, 47, 48, 49, 68, 69, 70, 71, 72, 73, 74, 75, 76, 77, 78, 79, 80, 81, 82, 83, 84, 85, 86, 87, 88, 89, 90, 91, 92, 93, 94, 95, 96, 97, 98, 99, 100, 101, 102, 103, 104, 105, 106, 107, 108, 109, 110, 111, 112, 113] (by decide +kernel) (by decide +kernel)
set_option maxRecDepth 20000 in
theorem gX9_years_X9_blows : GoodIn wsX9_years (wsV RX9 411 RX9 yX9_blows wsX9_blows) := goodIn_app (goodIn_of _ (by decide +kernel)) ggX9_years_X9_blows
theorem dX9_years_0 : decode cX9_years 0 = .ok (.aload_n 0, 1) := by decide +kernel
theorem dX9_years_1 : decode cX9_years 1 = .ok (.iconst 0, 1) := by decide +kernel
theorem dX9_years_2 : decode cX9_years 2 = .ok (.putfield 92, 3) := by decide +kernel
theorem dX9_years_5 : decode cX9_years 5 = .ok (.aload_n 0, 1) := by decide +kernel
theorem dX9_years_6 : decode cX9_years 6 = .ok (.iload_n 1, 1) := by decide +kernel
theorem dX9_years_7 : decode cX9_years 7 = .ok (.iload_n 3, 1) := by decide +kernel
theorem dX9_years_8 : decode cX9_years 8 = .ok (.invokevirtual 408, 3) := by decide +kernel
theorem dX9_years_11 : decode cX9_years 11 = .ok (.ifCond .eq 15, 3) := by decide +kernel
theorem dX9_years_14 : decode cX9_years 14 = .ok (.iload_n 2, 1) := by decide +kernel
theorem dX9_years_15 : decode cX9_years 15 = .ok (.i2l, 1) := by decide +kernel
theorem dX9_years_16 : decode cX9_years 16 = .ok (.lconst 1, 1) := by decide +kernel
theorem dX9_years_17 : decode cX9_years 17 = .ok (.ldc2_w 415, 3) := by decide +kernel
theorem dX9_years_20 : decode cX9_years 20 = .ok (.invokestatic 97, 3) := by decide +kernel
theorem dX9_years_23 : decode cX9_years 23 = .ok (.ifCond .ne 6, 3) := by decide +kernel
theorem dX9_years_26 : decode cX9_years 26 = .ok (.bipush (-2), 2) := by decide +kernel
theorem dX9_years_28 : decode cX9_years 28 = .ok (.ireturn, 1) := by decide +kernel
theorem dX9_years_29 : decode cX9_years 29 = .ok (.aload_n 0, 1) := by decide +kernel
theorem dX9_years_30 : decode cX9_years 30 = .ok (.invokevirtual 286, 3) := by decide +kernel
theorem dX9_years_33 : decode cX9_years 33 = .ok (.ifCond .ne 5, 3) := by decide +kernel
theorem dX9_years_36 : decode cX9_years 36 = .ok (.iconst (-1), 1) := by decide +kernel
theorem dX9_years_37 : decode cX9_years 37 = .ok (.ireturn, 1) := by decide +kernel
theorem dX9_years_38 : decode cX9_years 38 = .ok (.iconst 0, 1) := by decide +kernel
theorem dX9_years_39 : decode cX9_years 39 = .ok (.istore 4, 2) := by decide +kernel
theorem dX9_years_41 : decode cX9_years 41 = .ok (.iconst 0, 1) := by decide +kernel
theorem dX9_years_42 : decode cX9_years 42 = .ok (.istore 5, 2) := by decide +kernel
theorem dX9_years_44 : decode cX9_years 44 = .ok (.iload 5, 2) := by decide +kernel
theorem dX9_years_46 : decode cX9_years 46 = .ok (.iload_n 2, 1) := by decide +kernel
theorem dX9_years_47 : decode cX9_years 47 = .ok (.if_icmp .ge 37, 3) := by decide +kernel
theorem dX9_years_50 : decode cX9_years 50 = .ok (.aload_n 0, 1) := by decide +kernel
theorem dX9_years_51 : decode cX9_years 51 = .ok (.iload_n 1, 1) := by decide +kernel
theorem dX9_years_52 : decode cX9_years 52 = .ok (.i2l, 1) := by decide +kernel
theorem dX9_years_53 : decode cX9_years 53 = .ok (.iload 5, 2) := by decide +kernel
theorem dX9_years_55 : decode cX9_years 55 = .ok (.i2l, 1) := by decide +kernel
theorem dX9_years_56 : decode cX9_years 56 = .ok (.ladd, 1) := by decide +kernel
theorem dX9_years_57 : decode cX9_years 57 = .ok (.iload_n 3, 1) := by decide +kernel
theorem dX9_years_58 : decode cX9_years 58 = .ok (.invokevirtual 411, 3) := by decide +kernel
theorem dX9_years_61 : decode cX9_years 61 = .ok (.iload 4, 2) := by decide +kernel
theorem dX9_years_63 : decode cX9_years 63 = .ok (.aload_n 0, 1) := by decide +kernel
theorem dX9_years_64 : decode cX9_years 64 = .ok (.getfield 382, 3) := by decide +kernel
theorem dX9_years_67 : decode cX9_years 67 = .ok (.ifCond .le 7, 3) := by decide +kernel
theorem dX9_years_70 : decode cX9_years 70 = .ok (.iconst 1, 1) := by decide +kernel
theorem dX9_years_71 : decode cX9_years 71 = .ok (.goto 4, 3) := by decide +kernel
theorem dX9_years_74 : decode cX9_years 74 = .ok (.iconst 0, 1) := by decide +kernel
theorem dX9_years_75 : decode cX9_years 75 = .ok (.iadd, 1) := by decide +kernel
theorem dX9_years_76 : decode cX9_years 76 = .ok (.istore 4, 2) := by decide +kernel
theorem dX9_years_78 : decode cX9_years 78 = .ok (.iinc 5 1, 3) := by decide +kernel
theorem dX9_years_81 : decode cX9_years 81 = .ok (.goto (-37), 3) := by decide +kernel
theorem dX9_years_84 : decode cX9_years 84 = .ok (.iload 4, 2) := by decide +kernel
theorem dX9_years_86 : decode cX9_years 86 = .ok (.ireturn, 1) := by decide +kernel
set_option maxRecDepth 20000 in
theorem ggX9_whyNot_X9_isSlot : GoodIn wsX9_whyNot wsX9_isSlot := goodIn_r _ [11, 12, 13, 14, 10, 15] (by decide +kernel) (by decide +kernel)
set_option maxRecDepth 20000 in
theorem gX9_whyNot_X9_isSlot : GoodIn wsX9_whyNot (va_wsS RX9 101 yX9_isSlot wsX9_isSlot) := goodIn_app (goodIn_of _ (by decide +kernel)) ggX9_whyNot_X9_isSlot
set_option maxRecDepth 20000 in
theorem ggX9_whyNot_X9_isRoof : GoodIn wsX9_whyNot wsX9_isRoof := goodIn_r _ [19, 7, 13, 14, 10, 15, 20, 21, 22, 23, 24, 25, 26, 27, 28, 29, 30, 31, 32, 33, 34, 35, 36, 37, 38, 39, 40, 41, 42, 43, 44, 45, 46, 47, 48, 49, 50, 51, 52, 53, 54, 55, 56, 57, 58, 59, 60, 61, 62, 63, 64, 65] (by decide +kernel) (by decide +kernel)
set_option maxRecDepth 20000 in
theorem gX9_whyNot_X9_isRoof : GoodIn wsX9_whyNot (wsV RX9 256 RX9 yX9_isRoof wsX9_isRoof) := goodIn_app (goodIn_of _ (by decide +kernel)) ggX9_whyNot_X9_isRoof
set_option maxRecDepth 20000 in
theorem ggX9_whyNot_X9_in : GoodIn wsX9_whyNot wsX9_in := goodIn_r _ [15] (by decide +kernel) (by decide +kernel)
set_option maxRecDepth 20000 in
theorem gX9_whyNot_X9_in : GoodIn wsX9_whyNot (va_wsS RX9 97 yX9_in wsX9_in) := goodIn_app (goodIn_of _ (by decide +kernel)) ggX9_whyNot_X9_in
theorem dX9_whyNot_0 : decode cX9_whyNot 0 = .ok (.iload_n 1, 1) := by decide +kernel
theorem dX9_whyNot_1 : decode cX9_whyNot 1 = .ok (.invokestatic 101, 3) := by decide +kernel
theorem dX9_whyNot_4 : decode cX9_whyNot 4 = .ok (.ifCond .eq 11, 3) := by decide +kernel
theorem dX9_whyNot_7 : decode cX9_whyNot 7 = .ok (.aload_n 0, 1) := by decide +kernel
theorem dX9_whyNot_8 : decode cX9_whyNot 8 = .ok (.iload_n 2, 1) := by decide +kernel
theorem dX9_whyNot_9 : decode cX9_whyNot 9 = .ok (.invokevirtual 256, 3) := by decide +kernel
theorem dX9_whyNot_12 : decode cX9_whyNot 12 = .ok (.ifCond .ne 6, 3) := by decide +kernel
theorem dX9_whyNot_15 : decode cX9_whyNot 15 = .ok (.bipush (-2), 2) := by decide +kernel
theorem dX9_whyNot_17 : decode cX9_whyNot 17 = .ok (.ireturn, 1) := by decide +kernel
theorem dX9_whyNot_18 : decode cX9_whyNot 18 = .ok (.aload_n 0, 1) := by decide +kernel
theorem dX9_whyNot_19 : decode cX9_whyNot 19 = .ok (.getfield 7, 3) := by decide +kernel
theorem dX9_whyNot_22 : decode cX9_whyNot 22 = .ok (.iload_n 1, 1) := by decide +kernel
theorem dX9_whyNot_23 : decode cX9_whyNot 23 = .ok (.iaload, 1) := by decide +kernel
theorem dX9_whyNot_24 : decode cX9_whyNot 24 = .ok (.iconst (-1), 1) := by decide +kernel
theorem dX9_whyNot_25 : decode cX9_whyNot 25 = .ok (.if_icmp .ne 6, 3) := by decide +kernel
theorem dX9_whyNot_28 : decode cX9_whyNot 28 = .ok (.bipush (-6), 2) := by decide +kernel
theorem dX9_whyNot_30 : decode cX9_whyNot 30 = .ok (.ireturn, 1) := by decide +kernel
theorem dX9_whyNot_31 : decode cX9_whyNot 31 = .ok (.aload_n 0, 1) := by decide +kernel
theorem dX9_whyNot_32 : decode cX9_whyNot 32 = .ok (.getfield 13, 3) := by decide +kernel
theorem dX9_whyNot_35 : decode cX9_whyNot 35 = .ok (.iload_n 1, 1) := by decide +kernel
theorem dX9_whyNot_36 : decode cX9_whyNot 36 = .ok (.iaload, 1) := by decide +kernel
theorem dX9_whyNot_37 : decode cX9_whyNot 37 = .ok (.i2l, 1) := by decide +kernel
theorem dX9_whyNot_38 : decode cX9_whyNot 38 = .ok (.lconst 1, 1) := by decide +kernel
theorem dX9_whyNot_39 : decode cX9_whyNot 39 = .ok (.ldc2_w 367, 3) := by decide +kernel
theorem dX9_whyNot_42 : decode cX9_whyNot 42 = .ok (.invokestatic 97, 3) := by decide +kernel
theorem dX9_whyNot_45 : decode cX9_whyNot 45 = .ok (.ifCond .ne 6, 3) := by decide +kernel
theorem dX9_whyNot_48 : decode cX9_whyNot 48 = .ok (.bipush (-2), 2) := by decide +kernel
theorem dX9_whyNot_50 : decode cX9_whyNot 50 = .ok (.ireturn, 1) := by decide +kernel
theorem dX9_whyNot_51 : decode cX9_whyNot 51 = .ok (.iconst 0, 1) := by decide +kernel
theorem dX9_whyNot_52 : decode cX9_whyNot 52 = .ok (.istore_n 3, 1) := by decide +kernel
theorem dX9_whyNot_53 : decode cX9_whyNot 53 = .ok (.iload_n 3, 1) := by decide +kernel
theorem dX9_whyNot_54 : decode cX9_whyNot 54 = .ok (.aload_n 0, 1) := by decide +kernel
theorem dX9_whyNot_55 : decode cX9_whyNot 55 = .ok (.getfield 13, 3) := by decide +kernel
theorem dX9_whyNot_58 : decode cX9_whyNot 58 = .ok (.iload_n 1, 1) := by decide +kernel
theorem dX9_whyNot_59 : decode cX9_whyNot 59 = .ok (.iaload, 1) := by decide +kernel
theorem dX9_whyNot_60 : decode cX9_whyNot 60 = .ok (.if_icmp .ge 77, 3) := by decide +kernel
theorem dX9_whyNot_63 : decode cX9_whyNot 63 = .ok (.aload_n 0, 1) := by decide +kernel
theorem dX9_whyNot_64 : decode cX9_whyNot 64 = .ok (.getfield 16, 3) := by decide +kernel
theorem dX9_whyNot_67 : decode cX9_whyNot 67 = .ok (.bipush 60, 2) := by decide +kernel
theorem dX9_whyNot_69 : decode cX9_whyNot 69 = .ok (.iload_n 1, 1) := by decide +kernel
theorem dX9_whyNot_70 : decode cX9_whyNot 70 = .ok (.imul, 1) := by decide +kernel
theorem dX9_whyNot_71 : decode cX9_whyNot 71 = .ok (.iload_n 3, 1) := by decide +kernel
theorem dX9_whyNot_72 : decode cX9_whyNot 72 = .ok (.iadd, 1) := by decide +kernel
theorem dX9_whyNot_73 : decode cX9_whyNot 73 = .ok (.laload, 1) := by decide +kernel
theorem dX9_whyNot_74 : decode cX9_whyNot 74 = .ok (.lstore 4, 2) := by decide +kernel
theorem dX9_whyNot_76 : decode cX9_whyNot 76 = .ok (.lload 4, 2) := by decide +kernel
theorem dX9_whyNot_78 : decode cX9_whyNot 78 = .ok (.lconst 0, 1) := by decide +kernel
theorem dX9_whyNot_79 : decode cX9_whyNot 79 = .ok (.ldc2_w 417, 3) := by decide +kernel
theorem dX9_whyNot_82 : decode cX9_whyNot 82 = .ok (.invokestatic 97, 3) := by decide +kernel
theorem dX9_whyNot_85 : decode cX9_whyNot 85 = .ok (.ifCond .eq 43, 3) := by decide +kernel
theorem dX9_whyNot_88 : decode cX9_whyNot 88 = .ok (.lload 4, 2) := by decide +kernel
theorem dX9_whyNot_90 : decode cX9_whyNot 90 = .ok (.ldc2_w 419, 3) := by decide +kernel
theorem dX9_whyNot_93 : decode cX9_whyNot 93 = .ok (.lrem, 1) := by decide +kernel
theorem dX9_whyNot_94 : decode cX9_whyNot 94 = .ok (.aload_n 0, 1) := by decide +kernel
theorem dX9_whyNot_95 : decode cX9_whyNot 95 = .ok (.getfield 34, 3) := by decide +kernel
theorem dX9_whyNot_98 : decode cX9_whyNot 98 = .ok (.iconst 0, 1) := by decide +kernel
theorem dX9_whyNot_99 : decode cX9_whyNot 99 = .ok (.iaload, 1) := by decide +kernel
theorem dX9_whyNot_100 : decode cX9_whyNot 100 = .ok (.i2l, 1) := by decide +kernel
theorem dX9_whyNot_101 : decode cX9_whyNot 101 = .ok (.lcmp, 1) := by decide +kernel
theorem dX9_whyNot_102 : decode cX9_whyNot 102 = .ok (.ifCond .ge 26, 3) := by decide +kernel
theorem dX9_whyNot_105 : decode cX9_whyNot 105 = .ok (.lload 4, 2) := by decide +kernel
theorem dX9_whyNot_107 : decode cX9_whyNot 107 = .ok (.ldc2_w 419, 3) := by decide +kernel
theorem dX9_whyNot_110 : decode cX9_whyNot 110 = .ok (.ldiv, 1) := by decide +kernel
theorem dX9_whyNot_111 : decode cX9_whyNot 111 = .ok (.lconst 0, 1) := by decide +kernel
theorem dX9_whyNot_112 : decode cX9_whyNot 112 = .ok (.lcmp, 1) := by decide +kernel
theorem dX9_whyNot_113 : decode cX9_whyNot 113 = .ok (.ifCond .ne 18, 3) := by decide +kernel
theorem dX9_whyNot_116 : decode cX9_whyNot 116 = .ok (.lload 4, 2) := by decide +kernel
theorem dX9_whyNot_118 : decode cX9_whyNot 118 = .ok (.ldc2_w 419, 3) := by decide +kernel
theorem dX9_whyNot_121 : decode cX9_whyNot 121 = .ok (.lrem, 1) := by decide +kernel
theorem dX9_whyNot_122 : decode cX9_whyNot 122 = .ok (.iload_n 2, 1) := by decide +kernel
theorem dX9_whyNot_123 : decode cX9_whyNot 123 = .ok (.i2l, 1) := by decide +kernel
theorem dX9_whyNot_124 : decode cX9_whyNot 124 = .ok (.lcmp, 1) := by decide +kernel
theorem dX9_whyNot_125 : decode cX9_whyNot 125 = .ok (.ifCond .eq 6, 3) := by decide +kernel
theorem dX9_whyNot_128 : decode cX9_whyNot 128 = .ok (.bipush (-2), 2) := by decide +kernel
theorem dX9_whyNot_130 : decode cX9_whyNot 130 = .ok (.ireturn, 1) := by decide +kernel
theorem dX9_whyNot_131 : decode cX9_whyNot 131 = .ok (.iinc 3 1, 3) := by decide +kernel
theorem dX9_whyNot_134 : decode cX9_whyNot 134 = .ok (.goto (-81), 3) := by decide +kernel
theorem dX9_whyNot_137 : decode cX9_whyNot 137 = .ok (.iconst 0, 1) := by decide +kernel
theorem dX9_whyNot_138 : decode cX9_whyNot 138 = .ok (.ireturn, 1) := by decide +kernel
theorem dX9_takesRow_0 : decode cX9_takesRow 0 = .ok (.aload_n 0, 1) := by decide +kernel
theorem dX9_takesRow_1 : decode cX9_takesRow 1 = .ok (.getfield 40, 3) := by decide +kernel
theorem dX9_takesRow_4 : decode cX9_takesRow 4 = .ok (.iload_n 2, 1) := by decide +kernel
theorem dX9_takesRow_5 : decode cX9_takesRow 5 = .ok (.aload_n 0, 1) := by decide +kernel
theorem dX9_takesRow_6 : decode cX9_takesRow 6 = .ok (.getfield 13, 3) := by decide +kernel
theorem dX9_takesRow_9 : decode cX9_takesRow 9 = .ok (.iload_n 1, 1) := by decide +kernel
theorem dX9_takesRow_10 : decode cX9_takesRow 10 = .ok (.iaload, 1) := by decide +kernel
theorem dX9_takesRow_11 : decode cX9_takesRow 11 = .ok (.iastore, 1) := by decide +kernel
theorem dX9_takesRow_12 : decode cX9_takesRow 12 = .ok (.iconst 0, 1) := by decide +kernel
theorem dX9_takesRow_13 : decode cX9_takesRow 13 = .ok (.istore_n 3, 1) := by decide +kernel
theorem dX9_takesRow_14 : decode cX9_takesRow 14 = .ok (.iload_n 3, 1) := by decide +kernel
theorem dX9_takesRow_15 : decode cX9_takesRow 15 = .ok (.aload_n 0, 1) := by decide +kernel
theorem dX9_takesRow_16 : decode cX9_takesRow 16 = .ok (.getfield 13, 3) := by decide +kernel
theorem dX9_takesRow_19 : decode cX9_takesRow 19 = .ok (.iload_n 1, 1) := by decide +kernel
theorem dX9_takesRow_20 : decode cX9_takesRow 20 = .ok (.iaload, 1) := by decide +kernel
theorem dX9_takesRow_21 : decode cX9_takesRow 21 = .ok (.if_icmp .ge 61, 3) := by decide +kernel
theorem dX9_takesRow_24 : decode cX9_takesRow 24 = .ok (.aload_n 0, 1) := by decide +kernel
theorem dX9_takesRow_25 : decode cX9_takesRow 25 = .ok (.getfield 43, 3) := by decide +kernel
theorem dX9_takesRow_28 : decode cX9_takesRow 28 = .ok (.bipush 8, 2) := by decide +kernel
theorem dX9_takesRow_30 : decode cX9_takesRow 30 = .ok (.iload_n 2, 1) := by decide +kernel
theorem dX9_takesRow_31 : decode cX9_takesRow 31 = .ok (.imul, 1) := by decide +kernel
theorem dX9_takesRow_32 : decode cX9_takesRow 32 = .ok (.iload_n 3, 1) := by decide +kernel
theorem dX9_takesRow_33 : decode cX9_takesRow 33 = .ok (.iadd, 1) := by decide +kernel
theorem dX9_takesRow_34 : decode cX9_takesRow 34 = .ok (.aload_n 0, 1) := by decide +kernel
theorem dX9_takesRow_35 : decode cX9_takesRow 35 = .ok (.getfield 16, 3) := by decide +kernel
theorem dX9_takesRow_38 : decode cX9_takesRow 38 = .ok (.bipush 60, 2) := by decide +kernel
theorem dX9_takesRow_40 : decode cX9_takesRow 40 = .ok (.iload_n 1, 1) := by decide +kernel
theorem dX9_takesRow_41 : decode cX9_takesRow 41 = .ok (.imul, 1) := by decide +kernel
theorem dX9_takesRow_42 : decode cX9_takesRow 42 = .ok (.iload_n 3, 1) := by decide +kernel
theorem dX9_takesRow_43 : decode cX9_takesRow 43 = .ok (.iadd, 1) := by decide +kernel
theorem dX9_takesRow_44 : decode cX9_takesRow 44 = .ok (.laload, 1) := by decide +kernel
theorem dX9_takesRow_45 : decode cX9_takesRow 45 = .ok (.l2i, 1) := by decide +kernel
theorem dX9_takesRow_46 : decode cX9_takesRow 46 = .ok (.bipush 10, 2) := by decide +kernel
theorem dX9_takesRow_48 : decode cX9_takesRow 48 = .ok (.idiv, 1) := by decide +kernel
theorem dX9_takesRow_49 : decode cX9_takesRow 49 = .ok (.iastore, 1) := by decide +kernel
theorem dX9_takesRow_50 : decode cX9_takesRow 50 = .ok (.aload_n 0, 1) := by decide +kernel
theorem dX9_takesRow_51 : decode cX9_takesRow 51 = .ok (.getfield 46, 3) := by decide +kernel
theorem dX9_takesRow_54 : decode cX9_takesRow 54 = .ok (.bipush 8, 2) := by decide +kernel
theorem dX9_takesRow_56 : decode cX9_takesRow 56 = .ok (.iload_n 2, 1) := by decide +kernel
theorem dX9_takesRow_57 : decode cX9_takesRow 57 = .ok (.imul, 1) := by decide +kernel
theorem dX9_takesRow_58 : decode cX9_takesRow 58 = .ok (.iload_n 3, 1) := by decide +kernel
theorem dX9_takesRow_59 : decode cX9_takesRow 59 = .ok (.iadd, 1) := by decide +kernel
theorem dX9_takesRow_60 : decode cX9_takesRow 60 = .ok (.aload_n 0, 1) := by decide +kernel
theorem dX9_takesRow_61 : decode cX9_takesRow 61 = .ok (.getfield 16, 3) := by decide +kernel
theorem dX9_takesRow_64 : decode cX9_takesRow 64 = .ok (.bipush 60, 2) := by decide +kernel
theorem dX9_takesRow_66 : decode cX9_takesRow 66 = .ok (.iload_n 1, 1) := by decide +kernel
theorem dX9_takesRow_67 : decode cX9_takesRow 67 = .ok (.imul, 1) := by decide +kernel
theorem dX9_takesRow_68 : decode cX9_takesRow 68 = .ok (.iload_n 3, 1) := by decide +kernel
theorem dX9_takesRow_69 : decode cX9_takesRow 69 = .ok (.iadd, 1) := by decide +kernel
theorem dX9_takesRow_70 : decode cX9_takesRow 70 = .ok (.laload, 1) := by decide +kernel
theorem dX9_takesRow_71 : decode cX9_takesRow 71 = .ok (.l2i, 1) := by decide +kernel
theorem dX9_takesRow_72 : decode cX9_takesRow 72 = .ok (.bipush 10, 2) := by decide +kernel
theorem dX9_takesRow_74 : decode cX9_takesRow 74 = .ok (.irem, 1) := by decide +kernel
theorem dX9_takesRow_75 : decode cX9_takesRow 75 = .ok (.iastore, 1) := by decide +kernel
theorem dX9_takesRow_76 : decode cX9_takesRow 76 = .ok (.iinc 3 1, 3) := by decide +kernel
theorem dX9_takesRow_79 : decode cX9_takesRow 79 = .ok (.goto (-65), 3) := by decide +kernel
theorem dX9_takesRow_82 : decode cX9_takesRow 82 = .ok (.return_, 1) := by decide +kernel
set_option maxRecDepth 20000 in
theorem ggX9_judge_X9_whyNot : GoodIn wsX9_judge wsX9_whyNot := goodIn_r _ [6, 7, 8, 9, 10, 11, 12, 13, 14, 15, 5, 16, 17, 18, 19, 20, 21, 22, 23, 24, 73, 74, 75, 76, 77, 78, 79, 80, 81, 82, 83, 84, 85, 86, 87, 88, 89, 90, 91, 92, 93, 94, 95, 96, 97, 98, 99, 100, 101, 102, 103, 104, 105, 106, 107, 108, 109, 110, 111, 112, 113, 114, 115, 116, 117, 118] (by decide +kernel) (by decide +kernel)
set_option maxRecDepth 20000 in
theorem gX9_judge_X9_whyNot : GoodIn wsX9_judge (wsV RX9 421 RX9 yX9_whyNot wsX9_whyNot) := goodIn_app (goodIn_of _ (by decide +kernel)) ggX9_judge_X9_whyNot
set_option maxRecDepth 20000 in
theorem ggX9_judge_X9_copyCity : GoodIn wsX9_judge wsX9_copyCity := goodIn_r _ [28, 29, 13, 30, 31, 32, 33, 34, 35, 36, 37, 38, 39, 5, 40, 73, 74, 75, 76, 77, 78, 79, 80, 81, 82, 83, 84, 85, 86, 87, 88, 89, 90, 91, 92, 93, 94, 95, 96, 97, 98, 99, 100, 101, 102, 103, 104, 105, 106, 107, 108, 109, 110, 111, 112, 113, 114, 115, 116, 117, 118] (by decide +kernel) (by decide +kernel)
set_option maxRecDepth 20000 in
theorem gX9_judge_X9_copyCity : GoodIn wsX9_judge (wsV RX9 243 RX9 yX9_copyCity wsX9_copyCity) := goodIn_app (goodIn_of _ (by decide +kernel)) ggX9_judge_X9_copyCity
set_option maxRecDepth 20000 in
theorem ggX9_judge_X9_takesRow : GoodIn wsX9_judge wsX9_takesRow := goodIn_r _ [44, 31, 8, 32, 10, 33, 73, 74, 75, 76, 77, 78, 79, 80, 81, 82, 83, 84, 85, 86, 87, 88, 89, 90, 91, 92, 93, 94, 95, 96, 97, 98, 99, 100, 101, 102, 103, 104, 105, 106, 107, 108, 109, 110, 111, 112, 113, 114, 115, 116, 117, 118] (by decide +kernel) (by decide +kernel)
set_option maxRecDepth 20000 in
theorem gX9_judge_X9_takesRow : GoodIn wsX9_judge (wsV RX9 424 RX9 yX9_takesRow wsX9_takesRow) := goodIn_app (goodIn_of _ (by decide +kernel)) ggX9_judge_X9_takesRow
set_option maxRecDepth 20000 in
theorem ggX9_judge_X9_isUp : GoodIn wsX9_judge wsX9_isUp := goodIn_r _ [48, 13, 49, 50, 51, 5, 52, 31, 53, 54, 55, 56, 57, 58, 59, 60, 61, 62, 63, 64, 32, 65, 66, 67, 68, 69, 70, 71, 72, 33, 73, 74, 75, 76, 77, 78, 79, 80, 81, 82, 83, 84, 85, 86, 87, 88, 89, 90, 91, 92, 93, 94, 95, 96, 97, 98, 99, 100, 101, 102, 103, 104, 105, 106, 107, 108, 109, 110, 111, 112, 113, 114, 115, 116, 117, 118] (by decide +kernel) (by decide +kernel)
set_option maxRecDepth 20000 in
theorem gX9_judge_X9_isUp : GoodIn wsX9_judge (wsV RX9 286 RX9 yX9_isUp wsX9_isUp) := goodIn_app (goodIn_of _ (by decide +kernel)) ggX9_judge_X9_isUp
theorem dX9_judge_0 : decode cX9_judge 0 = .ok (.aload_n 0, 1) := by decide +kernel
theorem dX9_judge_1 : decode cX9_judge 1 = .ok (.iconst 0, 1) := by decide +kernel
theorem dX9_judge_2 : decode cX9_judge 2 = .ok (.putfield 92, 3) := by decide +kernel
theorem dX9_judge_5 : decode cX9_judge 5 = .ok (.aload_n 0, 1) := by decide +kernel
theorem dX9_judge_6 : decode cX9_judge 6 = .ok (.iload_n 1, 1) := by decide +kernel
theorem dX9_judge_7 : decode cX9_judge 7 = .ok (.iload_n 2, 1) := by decide +kernel
theorem dX9_judge_8 : decode cX9_judge 8 = .ok (.invokevirtual 421, 3) := by decide +kernel
theorem dX9_judge_11 : decode cX9_judge 11 = .ok (.istore_n 3, 1) := by decide +kernel
theorem dX9_judge_12 : decode cX9_judge 12 = .ok (.iload_n 3, 1) := by decide +kernel
theorem dX9_judge_13 : decode cX9_judge 13 = .ok (.ifCond .eq 5, 3) := by decide +kernel
theorem dX9_judge_16 : decode cX9_judge 16 = .ok (.iload_n 3, 1) := by decide +kernel
theorem dX9_judge_17 : decode cX9_judge 17 = .ok (.ireturn, 1) := by decide +kernel
theorem dX9_judge_18 : decode cX9_judge 18 = .ok (.aload_n 0, 1) := by decide +kernel
theorem dX9_judge_19 : decode cX9_judge 19 = .ok (.iconst 0, 1) := by decide +kernel
theorem dX9_judge_20 : decode cX9_judge 20 = .ok (.iconst 5, 1) := by decide +kernel
theorem dX9_judge_21 : decode cX9_judge 21 = .ok (.invokevirtual 243, 3) := by decide +kernel
theorem dX9_judge_24 : decode cX9_judge 24 = .ok (.aload_n 0, 1) := by decide +kernel
theorem dX9_judge_25 : decode cX9_judge 25 = .ok (.iload_n 1, 1) := by decide +kernel
theorem dX9_judge_26 : decode cX9_judge 26 = .ok (.iload_n 2, 1) := by decide +kernel
theorem dX9_judge_27 : decode cX9_judge 27 = .ok (.invokevirtual 424, 3) := by decide +kernel
theorem dX9_judge_30 : decode cX9_judge 30 = .ok (.aload_n 0, 1) := by decide +kernel
theorem dX9_judge_31 : decode cX9_judge 31 = .ok (.invokevirtual 286, 3) := by decide +kernel
theorem dX9_judge_34 : decode cX9_judge 34 = .ok (.ifCond .eq 7, 3) := by decide +kernel
theorem dX9_judge_37 : decode cX9_judge 37 = .ok (.iconst 1, 1) := by decide +kernel
theorem dX9_judge_38 : decode cX9_judge 38 = .ok (.goto 4, 3) := by decide +kernel
theorem dX9_judge_41 : decode cX9_judge 41 = .ok (.iconst 0, 1) := by decide +kernel
theorem dX9_judge_42 : decode cX9_judge 42 = .ok (.istore 4, 2) := by decide +kernel
theorem dX9_judge_44 : decode cX9_judge 44 = .ok (.aload_n 0, 1) := by decide +kernel
theorem dX9_judge_45 : decode cX9_judge 45 = .ok (.iconst 5, 1) := by decide +kernel
theorem dX9_judge_46 : decode cX9_judge 46 = .ok (.iconst 0, 1) := by decide +kernel
theorem dX9_judge_47 : decode cX9_judge 47 = .ok (.invokevirtual 243, 3) := by decide +kernel
theorem dX9_judge_50 : decode cX9_judge 50 = .ok (.iload 4, 2) := by decide +kernel
theorem dX9_judge_52 : decode cX9_judge 52 = .ok (.ireturn, 1) := by decide +kernel
set_option maxRecDepth 20000 in
theorem ggX9_takes__X9_whyNot : GoodIn wsX9_takes_ wsX9_whyNot := goodIn_r _ [7, 8, 2, 9, 10, 11, 12, 13, 14, 15, 6, 16, 17, 18, 19, 20, 21, 22, 23, 24, 32, 33, 34, 35, 36, 37, 38, 39, 40, 41, 42, 43, 44, 45, 46, 47, 48, 49, 50, 51, 52, 53, 54, 55, 56, 57, 58, 59, 60, 61, 62, 63, 64, 65, 66, 67, 68, 69, 70, 71, 72, 73, 74, 75, 76, 77] (by decide +kernel) (by decide +kernel)
set_option maxRecDepth 20000 in
theorem gX9_takes__X9_whyNot : GoodIn wsX9_takes_ (wsV RX9 421 RX9 yX9_whyNot wsX9_whyNot) := goodIn_app (goodIn_of _ (by decide +kernel)) ggX9_takes__X9_whyNot
set_option maxRecDepth 20000 in
theorem ggX9_takes__X9_takesRow : GoodIn wsX9_takes_ wsX9_takesRow := goodIn_r _ [28, 29, 2, 30, 10, 31, 32, 33, 34, 35, 36, 37, 38, 39, 40, 41, 42, 43, 44, 45, 46, 47, 48, 49, 50, 51, 52, 53, 54, 55, 56, 57, 58, 59, 60, 61, 62, 63, 64, 65, 66, 67, 68, 69, 70, 71, 72, 73, 74, 75, 76, 77] (by decide +kernel) (by decide +kernel)
set_option maxRecDepth 20000 in
theorem gX9_takes__X9_takesRow : GoodIn wsX9_takes_ (wsV RX9 424 RX9 yX9_takesRow wsX9_takesRow) := goodIn_app (goodIn_of _ (by decide +kernel)) ggX9_takes__X9_takesRow
theorem dX9_takes__0 : decode cX9_takes_ 0 = .ok (.aload_n 0, 1) := by decide +kernel
theorem dX9_takes__1 : decode cX9_takes_ 1 = .ok (.iconst 0, 1) := by decide +kernel
theorem dX9_takes__2 : decode cX9_takes_ 2 = .ok (.putfield 92, 3) := by decide +kernel
theorem dX9_takes__5 : decode cX9_takes_ 5 = .ok (.aload_n 0, 1) := by decide +kernel
theorem dX9_takes__6 : decode cX9_takes_ 6 = .ok (.iload_n 1, 1) := by decide +kernel
theorem dX9_takes__7 : decode cX9_takes_ 7 = .ok (.iload_n 2, 1) := by decide +kernel
theorem dX9_takes__8 : decode cX9_takes_ 8 = .ok (.invokevirtual 421, 3) := by decide +kernel
theorem dX9_takes__11 : decode cX9_takes_ 11 = .ok (.istore_n 3, 1) := by decide +kernel
theorem dX9_takes__12 : decode cX9_takes_ 12 = .ok (.iload_n 3, 1) := by decide +kernel
theorem dX9_takes__13 : decode cX9_takes_ 13 = .ok (.ifCond .eq 5, 3) := by decide +kernel
theorem dX9_takes__16 : decode cX9_takes_ 16 = .ok (.iload_n 3, 1) := by decide +kernel
theorem dX9_takes__17 : decode cX9_takes_ 17 = .ok (.ireturn, 1) := by decide +kernel
theorem dX9_takes__18 : decode cX9_takes_ 18 = .ok (.aload_n 0, 1) := by decide +kernel
theorem dX9_takes__19 : decode cX9_takes_ 19 = .ok (.iload_n 1, 1) := by decide +kernel
theorem dX9_takes__20 : decode cX9_takes_ 20 = .ok (.iload_n 2, 1) := by decide +kernel
theorem dX9_takes__21 : decode cX9_takes_ 21 = .ok (.invokevirtual 424, 3) := by decide +kernel
theorem dX9_takes__24 : decode cX9_takes_ 24 = .ok (.aload_n 0, 1) := by decide +kernel
theorem dX9_takes__25 : decode cX9_takes_ 25 = .ok (.getfield 13, 3) := by decide +kernel
theorem dX9_takes__28 : decode cX9_takes_ 28 = .ok (.iload_n 1, 1) := by decide +kernel
theorem dX9_takes__29 : decode cX9_takes_ 29 = .ok (.iaload, 1) := by decide +kernel
theorem dX9_takes__30 : decode cX9_takes_ 30 = .ok (.ireturn, 1) := by decide +kernel
set_option maxRecDepth 20000 in
theorem ggX9_count_X9_isPair : GoodIn wsX9_count wsX9_isPair := goodIn_r _ [12, 3, 13, 24, 25, 26, 27, 28, 29, 30, 31, 32, 33, 34, 35, 36, 37, 38, 39, 40, 41, 42, 43, 44, 45, 46, 47, 48, 49, 50, 51, 52, 53, 54, 55, 56, 57, 58, 59, 60, 61, 62, 63, 64, 65, 66, 67, 68, 69] (by decide +kernel) (by decide +kernel)
set_option maxRecDepth 20000 in
theorem gX9_count_X9_isPair : GoodIn wsX9_count (wsV RX9 309 RX9 yX9_isPair wsX9_isPair) := goodIn_app (goodIn_of _ (by decide +kernel)) ggX9_count_X9_isPair
set_option maxRecDepth 20000 in
theorem ggX9_count_X9_isCity : GoodIn wsX9_count wsX9_isCity := goodIn_r _ [17, 2, 24, 25, 26, 27, 28, 29, 30, 31, 32, 33, 34, 35, 36, 37, 38, 39, 40, 41, 42, 43, 44, 45, 46, 47, 48, 49, 50, 51, 52, 53, 54, 55, 56, 57, 58, 59, 60, 61, 62, 63, 64, 65, 66, 67, 68, 69] (by decide +kernel) (by decide +kernel)
set_option maxRecDepth 20000 in
theorem gX9_count_X9_isCity : GoodIn wsX9_count (wsV RX9 270 RX9 yX9_isCity wsX9_isCity) := goodIn_app (goodIn_of _ (by decide +kernel)) ggX9_count_X9_isCity
set_option maxRecDepth 20000 in
theorem ggX9_count_X9_firstHigh : GoodIn wsX9_count wsX9_firstHigh := goodIn_r _ [21, 22, 23, 24, 25, 26, 27, 28, 29, 30, 31, 32, 33, 34, 35, 36, 37, 38, 39, 40, 41, 42, 43, 44, 45, 46, 47, 48, 49, 50, 51, 52, 53, 54, 55, 56, 57, 58, 59, 60, 61, 62, 63, 64, 65, 66, 67, 68, 69] (by decide +kernel) (by decide +kernel)
set_option maxRecDepth 20000 in
theorem gX9_count_X9_firstHigh : GoodIn wsX9_count (wsV RX9 312 RX9 yX9_firstHigh wsX9_firstHigh) := goodIn_app (goodIn_of _ (by decide +kernel)) ggX9_count_X9_firstHigh
theorem dX9_count_0 : decode cX9_count 0 = .ok (.aload_n 0, 1) := by decide +kernel
theorem dX9_count_1 : decode cX9_count 1 = .ok (.iconst 0, 1) := by decide +kernel
theorem dX9_count_2 : decode cX9_count 2 = .ok (.putfield 92, 3) := by decide +kernel
theorem dX9_count_5 : decode cX9_count 5 = .ok (.iconst 0, 1) := by decide +kernel
theorem dX9_count_6 : decode cX9_count 6 = .ok (.istore_n 2, 1) := by decide +kernel
theorem dX9_count_7 : decode cX9_count 7 = .ok (.iload_n 1, 1) := by decide +kernel
theorem dX9_count_8 : decode cX9_count 8 = .ok (.tableswitch 245 0 8 #[52, 59, 66, 126, 133, 138, 156, 174, 212], 52) := by decide +kernel
theorem dX9_count_60 : decode cX9_count 60 = .ok (.aload_n 0, 1) := by decide +kernel
theorem dX9_count_61 : decode cX9_count 61 = .ok (.getfield 34, 3) := by decide +kernel
theorem dX9_count_64 : decode cX9_count 64 = .ok (.iconst 0, 1) := by decide +kernel
theorem dX9_count_65 : decode cX9_count 65 = .ok (.iaload, 1) := by decide +kernel
theorem dX9_count_66 : decode cX9_count 66 = .ok (.ireturn, 1) := by decide +kernel
theorem dX9_count_67 : decode cX9_count 67 = .ok (.aload_n 0, 1) := by decide +kernel
theorem dX9_count_68 : decode cX9_count 68 = .ok (.getfield 49, 3) := by decide +kernel
theorem dX9_count_71 : decode cX9_count 71 = .ok (.iconst 1, 1) := by decide +kernel
theorem dX9_count_72 : decode cX9_count 72 = .ok (.iaload, 1) := by decide +kernel
theorem dX9_count_73 : decode cX9_count 73 = .ok (.ireturn, 1) := by decide +kernel
theorem dX9_count_74 : decode cX9_count 74 = .ok (.iconst 0, 1) := by decide +kernel
theorem dX9_count_75 : decode cX9_count 75 = .ok (.istore_n 3, 1) := by decide +kernel
theorem dX9_count_76 : decode cX9_count 76 = .ok (.iload_n 3, 1) := by decide +kernel
theorem dX9_count_77 : decode cX9_count 77 = .ok (.aload_n 0, 1) := by decide +kernel
theorem dX9_count_78 : decode cX9_count 78 = .ok (.getfield 34, 3) := by decide +kernel
theorem dX9_count_81 : decode cX9_count 81 = .ok (.iconst 0, 1) := by decide +kernel
theorem dX9_count_82 : decode cX9_count 82 = .ok (.iaload, 1) := by decide +kernel
theorem dX9_count_83 : decode cX9_count 83 = .ok (.if_icmp .ge 49, 3) := by decide +kernel
theorem dX9_count_86 : decode cX9_count 86 = .ok (.iload_n 3, 1) := by decide +kernel
theorem dX9_count_87 : decode cX9_count 87 = .ok (.iconst 1, 1) := by decide +kernel
theorem dX9_count_88 : decode cX9_count 88 = .ok (.iadd, 1) := by decide +kernel
theorem dX9_count_89 : decode cX9_count 89 = .ok (.istore 4, 2) := by decide +kernel
theorem dX9_count_91 : decode cX9_count 91 = .ok (.iload 4, 2) := by decide +kernel
theorem dX9_count_93 : decode cX9_count 93 = .ok (.aload_n 0, 1) := by decide +kernel
theorem dX9_count_94 : decode cX9_count 94 = .ok (.getfield 34, 3) := by decide +kernel
theorem dX9_count_97 : decode cX9_count 97 = .ok (.iconst 0, 1) := by decide +kernel
theorem dX9_count_98 : decode cX9_count 98 = .ok (.iaload, 1) := by decide +kernel
theorem dX9_count_99 : decode cX9_count 99 = .ok (.if_icmp .ge 27, 3) := by decide +kernel
theorem dX9_count_102 : decode cX9_count 102 = .ok (.iload_n 2, 1) := by decide +kernel
theorem dX9_count_103 : decode cX9_count 103 = .ok (.aload_n 0, 1) := by decide +kernel
theorem dX9_count_104 : decode cX9_count 104 = .ok (.iload_n 3, 1) := by decide +kernel
theorem dX9_count_105 : decode cX9_count 105 = .ok (.iload 4, 2) := by decide +kernel
theorem dX9_count_107 : decode cX9_count 107 = .ok (.invokevirtual 309, 3) := by decide +kernel
theorem dX9_count_110 : decode cX9_count 110 = .ok (.ifCond .eq 7, 3) := by decide +kernel
theorem dX9_count_113 : decode cX9_count 113 = .ok (.iconst 1, 1) := by decide +kernel
theorem dX9_count_114 : decode cX9_count 114 = .ok (.goto 4, 3) := by decide +kernel
theorem dX9_count_117 : decode cX9_count 117 = .ok (.iconst 0, 1) := by decide +kernel
theorem dX9_count_118 : decode cX9_count 118 = .ok (.iadd, 1) := by decide +kernel
theorem dX9_count_119 : decode cX9_count 119 = .ok (.istore_n 2, 1) := by decide +kernel
theorem dX9_count_120 : decode cX9_count 120 = .ok (.iinc 4 1, 3) := by decide +kernel
theorem dX9_count_123 : decode cX9_count 123 = .ok (.goto (-32), 3) := by decide +kernel
theorem dX9_count_126 : decode cX9_count 126 = .ok (.iinc 3 1, 3) := by decide +kernel
theorem dX9_count_129 : decode cX9_count 129 = .ok (.goto (-53), 3) := by decide +kernel
theorem dX9_count_132 : decode cX9_count 132 = .ok (.iload_n 2, 1) := by decide +kernel
theorem dX9_count_133 : decode cX9_count 133 = .ok (.ireturn, 1) := by decide +kernel
theorem dX9_count_134 : decode cX9_count 134 = .ok (.aload_n 0, 1) := by decide +kernel
theorem dX9_count_135 : decode cX9_count 135 = .ok (.getfield 31, 3) := by decide +kernel
theorem dX9_count_138 : decode cX9_count 138 = .ok (.iconst 0, 1) := by decide +kernel
theorem dX9_count_139 : decode cX9_count 139 = .ok (.iaload, 1) := by decide +kernel
theorem dX9_count_140 : decode cX9_count 140 = .ok (.ireturn, 1) := by decide +kernel
theorem dX9_count_141 : decode cX9_count 141 = .ok (.aload_n 0, 1) := by decide +kernel
theorem dX9_count_142 : decode cX9_count 142 = .ok (.getfield 109, 3) := by decide +kernel
theorem dX9_count_145 : decode cX9_count 145 = .ok (.ireturn, 1) := by decide +kernel
theorem dX9_count_146 : decode cX9_count 146 = .ok (.aload_n 0, 1) := by decide +kernel
theorem dX9_count_147 : decode cX9_count 147 = .ok (.invokevirtual 270, 3) := by decide +kernel
theorem dX9_count_150 : decode cX9_count 150 = .ok (.ifCond .eq 12, 3) := by decide +kernel
theorem dX9_count_153 : decode cX9_count 153 = .ok (.aload_n 0, 1) := by decide +kernel
theorem dX9_count_154 : decode cX9_count 154 = .ok (.getfield 58, 3) := by decide +kernel
theorem dX9_count_157 : decode cX9_count 157 = .ok (.iconst 0, 1) := by decide +kernel
theorem dX9_count_158 : decode cX9_count 158 = .ok (.iaload, 1) := by decide +kernel
theorem dX9_count_159 : decode cX9_count 159 = .ok (.goto 4, 3) := by decide +kernel
theorem dX9_count_162 : decode cX9_count 162 = .ok (.iconst 0, 1) := by decide +kernel
theorem dX9_count_163 : decode cX9_count 163 = .ok (.ireturn, 1) := by decide +kernel
theorem dX9_count_164 : decode cX9_count 164 = .ok (.aload_n 0, 1) := by decide +kernel
theorem dX9_count_165 : decode cX9_count 165 = .ok (.invokevirtual 270, 3) := by decide +kernel
theorem dX9_count_168 : decode cX9_count 168 = .ok (.ifCond .eq 12, 3) := by decide +kernel
theorem dX9_count_171 : decode cX9_count 171 = .ok (.aload_n 0, 1) := by decide +kernel
theorem dX9_count_172 : decode cX9_count 172 = .ok (.getfield 58, 3) := by decide +kernel
theorem dX9_count_175 : decode cX9_count 175 = .ok (.iconst 1, 1) := by decide +kernel
theorem dX9_count_176 : decode cX9_count 176 = .ok (.iaload, 1) := by decide +kernel
theorem dX9_count_177 : decode cX9_count 177 = .ok (.goto 4, 3) := by decide +kernel
theorem dX9_count_180 : decode cX9_count 180 = .ok (.iconst 0, 1) := by decide +kernel
theorem dX9_count_181 : decode cX9_count 181 = .ok (.ireturn, 1) := by decide +kernel
theorem dX9_count_182 : decode cX9_count 182 = .ok (.iconst 0, 1) := by decide +kernel
theorem dX9_count_183 : decode cX9_count 183 = .ok (.istore_n 3, 1) := by decide +kernel
theorem dX9_count_184 : decode cX9_count 184 = .ok (.iload_n 3, 1) := by decide +kernel
theorem dX9_count_185 : decode cX9_count 185 = .ok (.aload_n 0, 1) := by decide +kernel
theorem dX9_count_186 : decode cX9_count 186 = .ok (.getfield 34, 3) := by decide +kernel
theorem dX9_count_189 : decode cX9_count 189 = .ok (.iconst 0, 1) := by decide +kernel
theorem dX9_count_190 : decode cX9_count 190 = .ok (.iaload, 1) := by decide +kernel
theorem dX9_count_191 : decode cX9_count 191 = .ok (.if_icmp .ge 27, 3) := by decide +kernel
theorem dX9_count_194 : decode cX9_count 194 = .ok (.iload_n 2, 1) := by decide +kernel
theorem dX9_count_195 : decode cX9_count 195 = .ok (.aload_n 0, 1) := by decide +kernel
theorem dX9_count_196 : decode cX9_count 196 = .ok (.iload_n 3, 1) := by decide +kernel
theorem dX9_count_197 : decode cX9_count 197 = .ok (.invokevirtual 312, 3) := by decide +kernel
theorem dX9_count_200 : decode cX9_count 200 = .ok (.ifCond .le 9, 3) := by decide +kernel
theorem dX9_count_203 : decode cX9_count 203 = .ok (.iconst 1, 1) := by decide +kernel
theorem dX9_count_204 : decode cX9_count 204 = .ok (.iload_n 3, 1) := by decide +kernel
theorem dX9_count_205 : decode cX9_count 205 = .ok (.ishl, 1) := by decide +kernel
theorem dX9_count_206 : decode cX9_count 206 = .ok (.goto 4, 3) := by decide +kernel
theorem dX9_count_209 : decode cX9_count 209 = .ok (.iconst 0, 1) := by decide +kernel
theorem dX9_count_210 : decode cX9_count 210 = .ok (.ior, 1) := by decide +kernel
theorem dX9_count_211 : decode cX9_count 211 = .ok (.istore_n 2, 1) := by decide +kernel
theorem dX9_count_212 : decode cX9_count 212 = .ok (.iinc 3 1, 3) := by decide +kernel
theorem dX9_count_215 : decode cX9_count 215 = .ok (.goto (-31), 3) := by decide +kernel
theorem dX9_count_218 : decode cX9_count 218 = .ok (.iload_n 2, 1) := by decide +kernel
theorem dX9_count_219 : decode cX9_count 219 = .ok (.ireturn, 1) := by decide +kernel
theorem dX9_count_220 : decode cX9_count 220 = .ok (.iconst 0, 1) := by decide +kernel
theorem dX9_count_221 : decode cX9_count 221 = .ok (.istore_n 3, 1) := by decide +kernel
theorem dX9_count_222 : decode cX9_count 222 = .ok (.iload_n 3, 1) := by decide +kernel
theorem dX9_count_223 : decode cX9_count 223 = .ok (.iconst 4, 1) := by decide +kernel
theorem dX9_count_224 : decode cX9_count 224 = .ok (.if_icmp .ge 27, 3) := by decide +kernel
theorem dX9_count_227 : decode cX9_count 227 = .ok (.iload_n 2, 1) := by decide +kernel
theorem dX9_count_228 : decode cX9_count 228 = .ok (.aload_n 0, 1) := by decide +kernel
theorem dX9_count_229 : decode cX9_count 229 = .ok (.getfield 7, 3) := by decide +kernel
theorem dX9_count_232 : decode cX9_count 232 = .ok (.iload_n 3, 1) := by decide +kernel
theorem dX9_count_233 : decode cX9_count 233 = .ok (.iaload, 1) := by decide +kernel
theorem dX9_count_234 : decode cX9_count 234 = .ok (.iconst (-1), 1) := by decide +kernel
theorem dX9_count_235 : decode cX9_count 235 = .ok (.if_icmp .ne 7, 3) := by decide +kernel
theorem dX9_count_238 : decode cX9_count 238 = .ok (.iconst 0, 1) := by decide +kernel
theorem dX9_count_239 : decode cX9_count 239 = .ok (.goto 4, 3) := by decide +kernel
theorem dX9_count_242 : decode cX9_count 242 = .ok (.iconst 1, 1) := by decide +kernel
theorem dX9_count_243 : decode cX9_count 243 = .ok (.iadd, 1) := by decide +kernel
theorem dX9_count_244 : decode cX9_count 244 = .ok (.istore_n 2, 1) := by decide +kernel
theorem dX9_count_245 : decode cX9_count 245 = .ok (.iinc 3 1, 3) := by decide +kernel
theorem dX9_count_248 : decode cX9_count 248 = .ok (.goto (-26), 3) := by decide +kernel
theorem dX9_count_251 : decode cX9_count 251 = .ok (.iload_n 2, 1) := by decide +kernel
theorem dX9_count_252 : decode cX9_count 252 = .ok (.ireturn, 1) := by decide +kernel
theorem dX9_count_253 : decode cX9_count 253 = .ok (.iconst (-1), 1) := by decide +kernel
theorem dX9_count_254 : decode cX9_count 254 = .ok (.ireturn, 1) := by decide +kernel
set_option maxRecDepth 20000 in
theorem ggX9_keep_X9_in : GoodIn wsX9_keep wsX9_in := goodIn_r _ [7] (by decide +kernel) (by decide +kernel)
set_option maxRecDepth 20000 in
theorem gX9_keep_X9_in : GoodIn wsX9_keep (va_wsS RX9 97 yX9_in wsX9_in) := goodIn_app (goodIn_of _ (by decide +kernel)) ggX9_keep_X9_in
set_option maxRecDepth 20000 in
theorem ggX9_keep_X9_copyCity : GoodIn wsX9_keep wsX9_copyCity := goodIn_r _ [11, 12, 13, 14, 15, 16, 17, 18, 19, 20, 21, 22, 23, 6, 24, 25, 26, 27, 28, 29, 30, 31, 32, 33, 34, 35, 36, 37, 38, 39, 40, 41, 42, 43, 44, 45, 46, 47, 48, 49, 50, 51, 52, 53, 54, 55, 56, 57, 58, 59, 60, 61, 62, 63, 64, 65, 66, 67, 68, 69, 70] (by decide +kernel) (by decide +kernel)
set_option maxRecDepth 20000 in
theorem gX9_keep_X9_copyCity : GoodIn wsX9_keep (wsV RX9 243 RX9 yX9_copyCity wsX9_copyCity) := goodIn_app (goodIn_of _ (by decide +kernel)) ggX9_keep_X9_copyCity
theorem dX9_keep_0 : decode cX9_keep 0 = .ok (.aload_n 0, 1) := by decide +kernel
theorem dX9_keep_1 : decode cX9_keep 1 = .ok (.iconst 0, 1) := by decide +kernel
theorem dX9_keep_2 : decode cX9_keep 2 = .ok (.putfield 92, 3) := by decide +kernel
theorem dX9_keep_5 : decode cX9_keep 5 = .ok (.iload_n 1, 1) := by decide +kernel
theorem dX9_keep_6 : decode cX9_keep 6 = .ok (.i2l, 1) := by decide +kernel
theorem dX9_keep_7 : decode cX9_keep 7 = .ok (.lconst 0, 1) := by decide +kernel
theorem dX9_keep_8 : decode cX9_keep 8 = .ok (.ldc2_w 262, 3) := by decide +kernel
theorem dX9_keep_11 : decode cX9_keep 11 = .ok (.invokestatic 97, 3) := by decide +kernel
theorem dX9_keep_14 : decode cX9_keep 14 = .ok (.ifCond .ne 6, 3) := by decide +kernel
theorem dX9_keep_17 : decode cX9_keep 17 = .ok (.bipush (-2), 2) := by decide +kernel
theorem dX9_keep_19 : decode cX9_keep 19 = .ok (.ireturn, 1) := by decide +kernel
theorem dX9_keep_20 : decode cX9_keep 20 = .ok (.aload_n 0, 1) := by decide +kernel
theorem dX9_keep_21 : decode cX9_keep 21 = .ok (.iconst 0, 1) := by decide +kernel
theorem dX9_keep_22 : decode cX9_keep 22 = .ok (.iconst 1, 1) := by decide +kernel
theorem dX9_keep_23 : decode cX9_keep 23 = .ok (.iload_n 1, 1) := by decide +kernel
theorem dX9_keep_24 : decode cX9_keep 24 = .ok (.iadd, 1) := by decide +kernel
theorem dX9_keep_25 : decode cX9_keep 25 = .ok (.invokevirtual 243, 3) := by decide +kernel
theorem dX9_keep_28 : decode cX9_keep 28 = .ok (.aload_n 0, 1) := by decide +kernel
theorem dX9_keep_29 : decode cX9_keep 29 = .ok (.getfield 61, 3) := by decide +kernel
theorem dX9_keep_32 : decode cX9_keep 32 = .ok (.iload_n 1, 1) := by decide +kernel
theorem dX9_keep_33 : decode cX9_keep 33 = .ok (.iconst 1, 1) := by decide +kernel
theorem dX9_keep_34 : decode cX9_keep 34 = .ok (.bastore, 1) := by decide +kernel
theorem dX9_keep_35 : decode cX9_keep 35 = .ok (.iconst 0, 1) := by decide +kernel
theorem dX9_keep_36 : decode cX9_keep 36 = .ok (.ireturn, 1) := by decide +kernel
set_option maxRecDepth 20000 in
theorem ggX9_back_X9_in : GoodIn wsX9_back wsX9_in := goodIn_r _ [7] (by decide +kernel) (by decide +kernel)
set_option maxRecDepth 20000 in
theorem gX9_back_X9_in : GoodIn wsX9_back (va_wsS RX9 97 yX9_in wsX9_in) := goodIn_app (goodIn_of _ (by decide +kernel)) ggX9_back_X9_in
set_option maxRecDepth 20000 in
theorem ggX9_back_X9_copyCity : GoodIn wsX9_back wsX9_copyCity := goodIn_r _ [11, 12, 13, 14, 15, 16, 17, 18, 19, 20, 21, 22, 23, 6, 24, 25, 26, 27, 28, 29, 30, 31, 32, 33, 34, 35, 36, 37, 38, 39, 40, 41, 42, 43, 44, 45, 46, 47, 48, 49, 50, 51, 52, 53, 54, 55, 56, 57, 58, 59, 60, 61, 62, 63, 64, 65, 66, 67, 68, 69, 70] (by decide +kernel) (by decide +kernel)
set_option maxRecDepth 20000 in
theorem gX9_back_X9_copyCity : GoodIn wsX9_back (wsV RX9 243 RX9 yX9_copyCity wsX9_copyCity) := goodIn_app (goodIn_of _ (by decide +kernel)) ggX9_back_X9_copyCity
theorem dX9_back_0 : decode cX9_back 0 = .ok (.aload_n 0, 1) := by decide +kernel
theorem dX9_back_1 : decode cX9_back 1 = .ok (.iconst 0, 1) := by decide +kernel
theorem dX9_back_2 : decode cX9_back 2 = .ok (.putfield 92, 3) := by decide +kernel
theorem dX9_back_5 : decode cX9_back 5 = .ok (.iload_n 1, 1) := by decide +kernel
theorem dX9_back_6 : decode cX9_back 6 = .ok (.i2l, 1) := by decide +kernel
theorem dX9_back_7 : decode cX9_back 7 = .ok (.lconst 0, 1) := by decide +kernel
theorem dX9_back_8 : decode cX9_back 8 = .ok (.ldc2_w 262, 3) := by decide +kernel
theorem dX9_back_11 : decode cX9_back 11 = .ok (.invokestatic 97, 3) := by decide +kernel
theorem dX9_back_14 : decode cX9_back 14 = .ok (.ifCond .ne 6, 3) := by decide +kernel
theorem dX9_back_17 : decode cX9_back 17 = .ok (.bipush (-2), 2) := by decide +kernel
theorem dX9_back_19 : decode cX9_back 19 = .ok (.ireturn, 1) := by decide +kernel
theorem dX9_back_20 : decode cX9_back 20 = .ok (.aload_n 0, 1) := by decide +kernel
theorem dX9_back_21 : decode cX9_back 21 = .ok (.getfield 61, 3) := by decide +kernel
theorem dX9_back_24 : decode cX9_back 24 = .ok (.iload_n 1, 1) := by decide +kernel
