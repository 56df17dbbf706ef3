theorem dX0_init_0 : decode cX0_init 0 = .ok (.aload_n 0, 1) := by decide +kernel
theorem dX0_init_1 : decode cX0_init 1 = .ok (.invokespecial 3, 3) := by decide +kernel
theorem dX0_init_4 : decode cX0_init 4 = .ok (.aload_n 0, 1) := by decide +kernel
theorem dX0_init_5 : decode cX0_init 5 = .ok (.bipush 48, 2) := by decide +kernel
theorem dX0_init_7 : decode cX0_init 7 = .ok (.newarray .int, 2) := by decide +kernel
theorem dX0_init_9 : decode cX0_init 9 = .ok (.putfield 9, 3) := by decide +kernel
theorem dX0_init_12 : decode cX0_init 12 = .ok (.aload_n 0, 1) := by decide +kernel
theorem dX0_init_13 : decode cX0_init 13 = .ok (.bipush 48, 2) := by decide +kernel
theorem dX0_init_15 : decode cX0_init 15 = .ok (.newarray .int, 2) := by decide +kernel
theorem dX0_init_17 : decode cX0_init 17 = .ok (.putfield 15, 3) := by decide +kernel
theorem dX0_init_20 : decode cX0_init 20 = .ok (.aload_n 0, 1) := by decide +kernel
theorem dX0_init_21 : decode cX0_init 21 = .ok (.bipush 6, 2) := by decide +kernel
theorem dX0_init_23 : decode cX0_init 23 = .ok (.newarray .int, 2) := by decide +kernel
theorem dX0_init_25 : decode cX0_init 25 = .ok (.putfield 18, 3) := by decide +kernel
theorem dX0_init_28 : decode cX0_init 28 = .ok (.aload_n 0, 1) := by decide +kernel
theorem dX0_init_29 : decode cX0_init 29 = .ok (.bipush 6, 2) := by decide +kernel
theorem dX0_init_31 : decode cX0_init 31 = .ok (.newarray .int, 2) := by decide +kernel
theorem dX0_init_33 : decode cX0_init 33 = .ok (.putfield 21, 3) := by decide +kernel
theorem dX0_init_36 : decode cX0_init 36 = .ok (.aload_n 0, 1) := by decide +kernel
theorem dX0_init_37 : decode cX0_init 37 = .ok (.bipush 6, 2) := by decide +kernel
theorem dX0_init_39 : decode cX0_init 39 = .ok (.newarray .int, 2) := by decide +kernel
theorem dX0_init_41 : decode cX0_init 41 = .ok (.putfield 24, 3) := by decide +kernel
theorem dX0_init_44 : decode cX0_init 44 = .ok (.aload_n 0, 1) := by decide +kernel
theorem dX0_init_45 : decode cX0_init 45 = .ok (.bipush 24, 2) := by decide +kernel
theorem dX0_init_47 : decode cX0_init 47 = .ok (.newarray .int, 2) := by decide +kernel
theorem dX0_init_49 : decode cX0_init 49 = .ok (.putfield 27, 3) := by decide +kernel
theorem dX0_init_52 : decode cX0_init 52 = .ok (.return_, 1) := by decide +kernel
theorem dX0_wipe_0 : decode cX0_wipe 0 = .ok (.aload_n 0, 1) := by decide +kernel
theorem dX0_wipe_1 : decode cX0_wipe 1 = .ok (.iconst 0, 1) := by decide +kernel
theorem dX0_wipe_2 : decode cX0_wipe 2 = .ok (.putfield 30, 3) := by decide +kernel
theorem dX0_wipe_5 : decode cX0_wipe 5 = .ok (.aload_n 0, 1) := by decide +kernel
theorem dX0_wipe_6 : decode cX0_wipe 6 = .ok (.iconst 0, 1) := by decide +kernel
theorem dX0_wipe_7 : decode cX0_wipe 7 = .ok (.putfield 34, 3) := by decide +kernel
theorem dX0_wipe_10 : decode cX0_wipe 10 = .ok (.aload_n 0, 1) := by decide +kernel
theorem dX0_wipe_11 : decode cX0_wipe 11 = .ok (.iconst 0, 1) := by decide +kernel
theorem dX0_wipe_12 : decode cX0_wipe 12 = .ok (.putfield 37, 3) := by decide +kernel
theorem dX0_wipe_15 : decode cX0_wipe 15 = .ok (.aload_n 0, 1) := by decide +kernel
theorem dX0_wipe_16 : decode cX0_wipe 16 = .ok (.iconst 0, 1) := by decide +kernel
theorem dX0_wipe_17 : decode cX0_wipe 17 = .ok (.putfield 40, 3) := by decide +kernel
theorem dX0_wipe_20 : decode cX0_wipe 20 = .ok (.aload_n 0, 1) := by decide +kernel
theorem dX0_wipe_21 : decode cX0_wipe 21 = .ok (.iconst 0, 1) := by decide +kernel
theorem dX0_wipe_22 : decode cX0_wipe 22 = .ok (.putfield 43, 3) := by decide +kernel
theorem dX0_wipe_25 : decode cX0_wipe 25 = .ok (.aload_n 0, 1) := by decide +kernel
theorem dX0_wipe_26 : decode cX0_wipe 26 = .ok (.iconst 0, 1) := by decide +kernel
theorem dX0_wipe_27 : decode cX0_wipe 27 = .ok (.putfield 46, 3) := by decide +kernel
theorem dX0_wipe_30 : decode cX0_wipe 30 = .ok (.return_, 1) := by decide +kernel
theorem dX0_copyOf_0 : decode cX0_copyOf 0 = .ok (.aload_n 0, 1) := by decide +kernel
theorem dX0_copyOf_1 : decode cX0_copyOf 1 = .ok (.aload_n 1, 1) := by decide +kernel
theorem dX0_copyOf_2 : decode cX0_copyOf 2 = .ok (.getfield 30, 3) := by decide +kernel
theorem dX0_copyOf_5 : decode cX0_copyOf 5 = .ok (.putfield 30, 3) := by decide +kernel
theorem dX0_copyOf_8 : decode cX0_copyOf 8 = .ok (.aload_n 0, 1) := by decide +kernel
theorem dX0_copyOf_9 : decode cX0_copyOf 9 = .ok (.aload_n 1, 1) := by decide +kernel
theorem dX0_copyOf_10 : decode cX0_copyOf 10 = .ok (.getfield 34, 3) := by decide +kernel
theorem dX0_copyOf_13 : decode cX0_copyOf 13 = .ok (.putfield 34, 3) := by decide +kernel
theorem dX0_copyOf_16 : decode cX0_copyOf 16 = .ok (.aload_n 0, 1) := by decide +kernel
theorem dX0_copyOf_17 : decode cX0_copyOf 17 = .ok (.aload_n 1, 1) := by decide +kernel
theorem dX0_copyOf_18 : decode cX0_copyOf 18 = .ok (.getfield 37, 3) := by decide +kernel
theorem dX0_copyOf_21 : decode cX0_copyOf 21 = .ok (.putfield 37, 3) := by decide +kernel
theorem dX0_copyOf_24 : decode cX0_copyOf 24 = .ok (.aload_n 0, 1) := by decide +kernel
theorem dX0_copyOf_25 : decode cX0_copyOf 25 = .ok (.aload_n 1, 1) := by decide +kernel
theorem dX0_copyOf_26 : decode cX0_copyOf 26 = .ok (.getfield 40, 3) := by decide +kernel
theorem dX0_copyOf_29 : decode cX0_copyOf 29 = .ok (.putfield 40, 3) := by decide +kernel
theorem dX0_copyOf_32 : decode cX0_copyOf 32 = .ok (.aload_n 0, 1) := by decide +kernel
theorem dX0_copyOf_33 : decode cX0_copyOf 33 = .ok (.aload_n 1, 1) := by decide +kernel
theorem dX0_copyOf_34 : decode cX0_copyOf 34 = .ok (.getfield 43, 3) := by decide +kernel
theorem dX0_copyOf_37 : decode cX0_copyOf 37 = .ok (.putfield 43, 3) := by decide +kernel
theorem dX0_copyOf_40 : decode cX0_copyOf 40 = .ok (.aload_n 1, 1) := by decide +kernel
theorem dX0_copyOf_41 : decode cX0_copyOf 41 = .ok (.getfield 9, 3) := by decide +kernel
theorem dX0_copyOf_44 : decode cX0_copyOf 44 = .ok (.iconst 0, 1) := by decide +kernel
theorem dX0_copyOf_45 : decode cX0_copyOf 45 = .ok (.aload_n 0, 1) := by decide +kernel
theorem dX0_copyOf_46 : decode cX0_copyOf 46 = .ok (.getfield 9, 3) := by decide +kernel
theorem dX0_copyOf_49 : decode cX0_copyOf 49 = .ok (.iconst 0, 1) := by decide +kernel
theorem dX0_copyOf_50 : decode cX0_copyOf 50 = .ok (.aload_n 0, 1) := by decide +kernel
theorem dX0_copyOf_51 : decode cX0_copyOf 51 = .ok (.getfield 9, 3) := by decide +kernel
theorem dX0_copyOf_54 : decode cX0_copyOf 54 = .ok (.arraylength, 1) := by decide +kernel
theorem dX0_copyOf_55 : decode cX0_copyOf 55 = .ok (.invokestatic 60, 3) := by decide +kernel
theorem dX0_copyOf_58 : decode cX0_copyOf 58 = .ok (.aload_n 1, 1) := by decide +kernel
theorem dX0_copyOf_59 : decode cX0_copyOf 59 = .ok (.getfield 15, 3) := by decide +kernel
theorem dX0_copyOf_62 : decode cX0_copyOf 62 = .ok (.iconst 0, 1) := by decide +kernel
theorem dX0_copyOf_63 : decode cX0_copyOf 63 = .ok (.aload_n 0, 1) := by decide +kernel
theorem dX0_copyOf_64 : decode cX0_copyOf 64 = .ok (.getfield 15, 3) := by decide +kernel
theorem dX0_copyOf_67 : decode cX0_copyOf 67 = .ok (.iconst 0, 1) := by decide +kernel
theorem dX0_copyOf_68 : decode cX0_copyOf 68 = .ok (.aload_n 0, 1) := by decide +kernel
theorem dX0_copyOf_69 : decode cX0_copyOf 69 = .ok (.getfield 15, 3) := by decide +kernel
theorem dX0_copyOf_72 : decode cX0_copyOf 72 = .ok (.arraylength, 1) := by decide +kernel
theorem dX0_copyOf_73 : decode cX0_copyOf 73 = .ok (.invokestatic 60, 3) := by decide +kernel
theorem dX0_copyOf_76 : decode cX0_copyOf 76 = .ok (.aload_n 1, 1) := by decide +kernel
theorem dX0_copyOf_77 : decode cX0_copyOf 77 = .ok (.getfield 18, 3) := by decide +kernel
theorem dX0_copyOf_80 : decode cX0_copyOf 80 = .ok (.iconst 0, 1) := by decide +kernel
theorem dX0_copyOf_81 : decode cX0_copyOf 81 = .ok (.aload_n 0, 1) := by decide +kernel
theorem dX0_copyOf_82 : decode cX0_copyOf 82 = .ok (.getfield 18, 3) := by decide +kernel
theorem dX0_copyOf_85 : decode cX0_copyOf 85 = .ok (.iconst 0, 1) := by decide +kernel
theorem dX0_copyOf_86 : decode cX0_copyOf 86 = .ok (.aload_n 0, 1) := by decide +kernel
theorem dX0_copyOf_87 : decode cX0_copyOf 87 = .ok (.getfield 18, 3) := by decide +kernel
theorem dX0_copyOf_90 : decode cX0_copyOf 90 = .ok (.arraylength, 1) := by decide +kernel
theorem dX0_copyOf_91 : decode cX0_copyOf 91 = .ok (.invokestatic 60, 3) := by decide +kernel
theorem dX0_copyOf_94 : decode cX0_copyOf 94 = .ok (.aload_n 1, 1) := by decide +kernel
theorem dX0_copyOf_95 : decode cX0_copyOf 95 = .ok (.getfield 21, 3) := by decide +kernel
theorem dX0_copyOf_98 : decode cX0_copyOf 98 = .ok (.iconst 0, 1) := by decide +kernel
theorem dX0_copyOf_99 : decode cX0_copyOf 99 = .ok (.aload_n 0, 1) := by decide +kernel
theorem dX0_copyOf_100 : decode cX0_copyOf 100 = .ok (.getfield 21, 3) := by decide +kernel
theorem dX0_copyOf_103 : decode cX0_copyOf 103 = .ok (.iconst 0, 1) := by decide +kernel
theorem dX0_copyOf_104 : decode cX0_copyOf 104 = .ok (.aload_n 0, 1) := by decide +kernel
theorem dX0_copyOf_105 : decode cX0_copyOf 105 = .ok (.getfield 21, 3) := by decide +kernel
theorem dX0_copyOf_108 : decode cX0_copyOf 108 = .ok (.arraylength, 1) := by decide +kernel
theorem dX0_copyOf_109 : decode cX0_copyOf 109 = .ok (.invokestatic 60, 3) := by decide +kernel
theorem dX0_copyOf_112 : decode cX0_copyOf 112 = .ok (.aload_n 1, 1) := by decide +kernel
theorem dX0_copyOf_113 : decode cX0_copyOf 113 = .ok (.getfield 24, 3) := by decide +kernel
theorem dX0_copyOf_116 : decode cX0_copyOf 116 = .ok (.iconst 0, 1) := by decide +kernel
theorem dX0_copyOf_117 : decode cX0_copyOf 117 = .ok (.aload_n 0, 1) := by decide +kernel
theorem dX0_copyOf_118 : decode cX0_copyOf 118 = .ok (.getfield 24, 3) := by decide +kernel
theorem dX0_copyOf_121 : decode cX0_copyOf 121 = .ok (.iconst 0, 1) := by decide +kernel
theorem dX0_copyOf_122 : decode cX0_copyOf 122 = .ok (.aload_n 0, 1) := by decide +kernel
theorem dX0_copyOf_123 : decode cX0_copyOf 123 = .ok (.getfield 24, 3) := by decide +kernel
theorem dX0_copyOf_126 : decode cX0_copyOf 126 = .ok (.arraylength, 1) := by decide +kernel
theorem dX0_copyOf_127 : decode cX0_copyOf 127 = .ok (.invokestatic 60, 3) := by decide +kernel
theorem dX0_copyOf_130 : decode cX0_copyOf 130 = .ok (.aload_n 1, 1) := by decide +kernel
theorem dX0_copyOf_131 : decode cX0_copyOf 131 = .ok (.getfield 27, 3) := by decide +kernel
theorem dX0_copyOf_134 : decode cX0_copyOf 134 = .ok (.iconst 0, 1) := by decide +kernel
theorem dX0_copyOf_135 : decode cX0_copyOf 135 = .ok (.aload_n 0, 1) := by decide +kernel
theorem dX0_copyOf_136 : decode cX0_copyOf 136 = .ok (.getfield 27, 3) := by decide +kernel
theorem dX0_copyOf_139 : decode cX0_copyOf 139 = .ok (.iconst 0, 1) := by decide +kernel
theorem dX0_copyOf_140 : decode cX0_copyOf 140 = .ok (.aload_n 0, 1) := by decide +kernel
theorem dX0_copyOf_141 : decode cX0_copyOf 141 = .ok (.getfield 27, 3) := by decide +kernel
theorem dX0_copyOf_144 : decode cX0_copyOf 144 = .ok (.arraylength, 1) := by decide +kernel
theorem dX0_copyOf_145 : decode cX0_copyOf 145 = .ok (.invokestatic 60, 3) := by decide +kernel
theorem dX0_copyOf_148 : decode cX0_copyOf 148 = .ok (.aload_n 0, 1) := by decide +kernel
theorem dX0_copyOf_149 : decode cX0_copyOf 149 = .ok (.iconst 0, 1) := by decide +kernel
theorem dX0_copyOf_150 : decode cX0_copyOf 150 = .ok (.putfield 46, 3) := by decide +kernel
theorem dX0_copyOf_153 : decode cX0_copyOf 153 = .ok (.return_, 1) := by decide +kernel
theorem dX0_isTold_0 : decode cX0_isTold 0 = .ok (.aload_n 0, 1) := by decide +kernel
theorem dX0_isTold_1 : decode cX0_isTold 1 = .ok (.getfield 30, 3) := by decide +kernel
theorem dX0_isTold_4 : decode cX0_isTold 4 = .ok (.ifCond .le 7, 3) := by decide +kernel
theorem dX0_isTold_11 : decode cX0_isTold 11 = .ok (.iconst 0, 1) := by decide +kernel
theorem dX0_isTold_12 : decode cX0_isTold 12 = .ok (.ireturn, 1) := by decide +kernel
theorem dX0_hasRoof_0 : decode cX0_hasRoof 0 = .ok (.iload_n 1, 1) := by decide +kernel
theorem dX0_hasRoof_1 : decode cX0_hasRoof 1 = .ok (.ifCond .lt 15, 3) := by decide +kernel
theorem dX0_hasRoof_4 : decode cX0_hasRoof 4 = .ok (.iload_n 1, 1) := by decide +kernel
theorem dX0_hasRoof_5 : decode cX0_hasRoof 5 = .ok (.aload_n 0, 1) := by decide +kernel
theorem dX0_hasRoof_6 : decode cX0_hasRoof 6 = .ok (.getfield 30, 3) := by decide +kernel
theorem dX0_hasRoof_9 : decode cX0_hasRoof 9 = .ok (.if_icmp .ge 7, 3) := by decide +kernel
theorem dX0_hasRoof_16 : decode cX0_hasRoof 16 = .ok (.iconst 0, 1) := by decide +kernel
theorem dX0_hasRoof_17 : decode cX0_hasRoof 17 = .ok (.ireturn, 1) := by decide +kernel
set_option maxRecDepth 20000 in
theorem ggX0_hasThrow_X0_hasRoof : GoodIn wsX0_hasThrow wsX0_hasRoof := goodIn_r _ [6, 7, 8, 9, 10, 11, 12, 13, 14, 15, 16, 17, 18, 19, 20, 21, 22, 23] (by decide +kernel) (by decide +kernel)
set_option maxRecDepth 20000 in
theorem gX0_hasThrow_X0_hasRoof : GoodIn wsX0_hasThrow (wsV RX0 66 RX0 yX0_hasRoof wsX0_hasRoof) := goodIn_app (goodIn_of _ (by decide +kernel)) ggX0_hasThrow_X0_hasRoof
theorem dX0_hasThrow_0 : decode cX0_hasThrow 0 = .ok (.aload_n 0, 1) := by decide +kernel
theorem dX0_hasThrow_1 : decode cX0_hasThrow 1 = .ok (.iload_n 1, 1) := by decide +kernel
theorem dX0_hasThrow_2 : decode cX0_hasThrow 2 = .ok (.invokevirtual 66, 3) := by decide +kernel
theorem dX0_hasThrow_5 : decode cX0_hasThrow 5 = .ok (.ifCond .eq 21, 3) := by decide +kernel
theorem dX0_hasThrow_26 : decode cX0_hasThrow 26 = .ok (.iconst 0, 1) := by decide +kernel
theorem dX0_hasThrow_27 : decode cX0_hasThrow 27 = .ok (.ireturn, 1) := by decide +kernel
theorem dX0_hasLetter_0 : decode cX0_hasLetter 0 = .ok (.iload_n 1, 1) := by decide +kernel
theorem dX0_hasLetter_1 : decode cX0_hasLetter 1 = .ok (.ifCond .lt 15, 3) := by decide +kernel
theorem dX0_hasLetter_4 : decode cX0_hasLetter 4 = .ok (.iload_n 1, 1) := by decide +kernel
theorem dX0_hasLetter_5 : decode cX0_hasLetter 5 = .ok (.aload_n 0, 1) := by decide +kernel
theorem dX0_hasLetter_6 : decode cX0_hasLetter 6 = .ok (.getfield 37, 3) := by decide +kernel
theorem dX0_hasLetter_9 : decode cX0_hasLetter 9 = .ok (.if_icmp .ge 7, 3) := by decide +kernel
theorem dX0_hasLetter_16 : decode cX0_hasLetter 16 = .ok (.iconst 0, 1) := by decide +kernel
theorem dX0_hasLetter_17 : decode cX0_hasLetter 17 = .ok (.ireturn, 1) := by decide +kernel
theorem dX0_pairs_0 : decode cX0_pairs 0 = .ok (.iconst 0, 1) := by decide +kernel
theorem dX0_pairs_1 : decode cX0_pairs 1 = .ok (.istore_n 1, 1) := by decide +kernel
theorem dX0_pairs_2 : decode cX0_pairs 2 = .ok (.iconst 0, 1) := by decide +kernel
theorem dX0_pairs_3 : decode cX0_pairs 3 = .ok (.istore_n 2, 1) := by decide +kernel
theorem dX0_pairs_4 : decode cX0_pairs 4 = .ok (.iload_n 2, 1) := by decide +kernel
theorem dX0_pairs_5 : decode cX0_pairs 5 = .ok (.aload_n 0, 1) := by decide +kernel
theorem dX0_pairs_6 : decode cX0_pairs 6 = .ok (.getfield 30, 3) := by decide +kernel
theorem dX0_pairs_9 : decode cX0_pairs 9 = .ok (.if_icmp .ge 21, 3) := by decide +kernel
theorem dX0_pairs_30 : decode cX0_pairs 30 = .ok (.iload_n 1, 1) := by decide +kernel
theorem dX0_pairs_31 : decode cX0_pairs 31 = .ok (.iconst 2, 1) := by decide +kernel
theorem dX0_pairs_32 : decode cX0_pairs 32 = .ok (.idiv, 1) := by decide +kernel
theorem dX0_pairs_33 : decode cX0_pairs 33 = .ok (.ireturn, 1) := by decide +kernel
theorem dX0_busyRoofs_0 : decode cX0_busyRoofs 0 = .ok (.iconst 0, 1) := by decide +kernel
theorem dX0_busyRoofs_1 : decode cX0_busyRoofs 1 = .ok (.istore_n 1, 1) := by decide +kernel
theorem dX0_busyRoofs_2 : decode cX0_busyRoofs 2 = .ok (.iconst 0, 1) := by decide +kernel
theorem dX0_busyRoofs_3 : decode cX0_busyRoofs 3 = .ok (.istore_n 2, 1) := by decide +kernel
theorem dX0_busyRoofs_4 : decode cX0_busyRoofs 4 = .ok (.iload_n 2, 1) := by decide +kernel
theorem dX0_busyRoofs_5 : decode cX0_busyRoofs 5 = .ok (.aload_n 0, 1) := by decide +kernel
theorem dX0_busyRoofs_6 : decode cX0_busyRoofs 6 = .ok (.getfield 30, 3) := by decide +kernel
theorem dX0_busyRoofs_9 : decode cX0_busyRoofs 9 = .ok (.if_icmp .ge 42, 3) := by decide +kernel
theorem dX0_busyRoofs_51 : decode cX0_busyRoofs 51 = .ok (.iload_n 1, 1) := by decide +kernel
theorem dX0_busyRoofs_52 : decode cX0_busyRoofs 52 = .ok (.ireturn, 1) := by decide +kernel
theorem dX1_init_0 : decode cX1_init 0 = .ok (.aload_n 0, 1) := by decide +kernel
theorem dX1_init_1 : decode cX1_init 1 = .ok (.invokespecial 5, 3) := by decide +kernel
theorem dX1_init_4 : decode cX1_init 4 = .ok (.aload_n 0, 1) := by decide +kernel
theorem dX1_init_5 : decode cX1_init 5 = .ok (.bipush 60, 2) := by decide +kernel
theorem dX1_init_7 : decode cX1_init 7 = .ok (.newarray .int, 2) := by decide +kernel
theorem dX1_init_9 : decode cX1_init 9 = .ok (.putfield 11, 3) := by decide +kernel
theorem dX1_init_12 : decode cX1_init 12 = .ok (.aload_n 0, 1) := by decide +kernel
theorem dX1_init_13 : decode cX1_init 13 = .ok (.sipush 158, 3) := by decide +kernel
theorem dX1_init_16 : decode cX1_init 16 = .ok (.newarray .int, 2) := by decide +kernel
theorem dX1_init_18 : decode cX1_init 18 = .ok (.putfield 15, 3) := by decide +kernel
theorem dX1_init_21 : decode cX1_init 21 = .ok (.return_, 1) := by decide +kernel
theorem dX2_init_0 : decode cX2_init 0 = .ok (.aload_n 0, 1) := by decide +kernel
theorem dX2_init_1 : decode cX2_init 1 = .ok (.invokespecial 3, 3) := by decide +kernel
theorem dX2_init_4 : decode cX2_init 4 = .ok (.aload_n 0, 1) := by decide +kernel
theorem dX2_init_5 : decode cX2_init 5 = .ok (.bipush 6, 2) := by decide +kernel
theorem dX2_init_7 : decode cX2_init 7 = .ok (.newarray .int, 2) := by decide +kernel
theorem dX2_init_9 : decode cX2_init 9 = .ok (.putfield 9, 3) := by decide +kernel
theorem dX2_init_12 : decode cX2_init 12 = .ok (.aload_n 0, 1) := by decide +kernel
theorem dX2_init_13 : decode cX2_init 13 = .ok (.bipush 6, 2) := by decide +kernel
theorem dX2_init_15 : decode cX2_init 15 = .ok (.newarray .int, 2) := by decide +kernel
theorem dX2_init_17 : decode cX2_init 17 = .ok (.putfield 15, 3) := by decide +kernel
theorem dX2_init_20 : decode cX2_init 20 = .ok (.aload_n 0, 1) := by decide +kernel
theorem dX2_init_21 : decode cX2_init 21 = .ok (.sipush 576, 3) := by decide +kernel
theorem dX2_init_24 : decode cX2_init 24 = .ok (.newarray .int, 2) := by decide +kernel
theorem dX2_init_26 : decode cX2_init 26 = .ok (.putfield 18, 3) := by decide +kernel
theorem dX2_init_29 : decode cX2_init 29 = .ok (.return_, 1) := by decide +kernel
theorem dX3_init_0 : decode cX3_init 0 = .ok (.aload_n 0, 1) := by decide +kernel
theorem dX3_init_1 : decode cX3_init 1 = .ok (.invokespecial 3, 3) := by decide +kernel
theorem dX3_init_4 : decode cX3_init 4 = .ok (.aload_n 0, 1) := by decide +kernel
theorem dX3_init_5 : decode cX3_init 5 = .ok (.sipush 1600, 3) := by decide +kernel
theorem dX3_init_8 : decode cX3_init 8 = .ok (.newarray .byte, 2) := by decide +kernel
theorem dX3_init_10 : decode cX3_init 10 = .ok (.putfield 11, 3) := by decide +kernel
theorem dX3_init_13 : decode cX3_init 13 = .ok (.aload_n 0, 1) := by decide +kernel
theorem dX3_init_14 : decode cX3_init 14 = .ok (.iconst (-1), 1) := by decide +kernel
theorem dX3_init_15 : decode cX3_init 15 = .ok (.putfield 15, 3) := by decide +kernel
theorem dX3_init_18 : decode cX3_init 18 = .ok (.aload_n 0, 1) := by decide +kernel
theorem dX3_init_19 : decode cX3_init 19 = .ok (.aload_n 1, 1) := by decide +kernel
theorem dX3_init_20 : decode cX3_init 20 = .ok (.putfield 19, 3) := by decide +kernel
theorem dX3_init_23 : decode cX3_init 23 = .ok (.return_, 1) := by decide +kernel
theorem dX3_hasRoom_0 : decode cX3_hasRoom 0 = .ok (.aload_n 0, 1) := by decide +kernel
theorem dX3_hasRoom_1 : decode cX3_hasRoom 1 = .ok (.getfield 23, 3) := by decide +kernel
theorem dX3_hasRoom_4 : decode cX3_hasRoom 4 = .ok (.iload_n 1, 1) := by decide +kernel
theorem dX3_hasRoom_5 : decode cX3_hasRoom 5 = .ok (.iadd, 1) := by decide +kernel
theorem dX3_hasRoom_6 : decode cX3_hasRoom 6 = .ok (.sipush 1600, 3) := by decide +kernel
theorem dX3_hasRoom_9 : decode cX3_hasRoom 9 = .ok (.if_icmp .gt 7, 3) := by decide +kernel
theorem dX3_hasRoom_12 : decode cX3_hasRoom 12 = .ok (.iconst 1, 1) := by decide +kernel
theorem dX3_hasRoom_13 : decode cX3_hasRoom 13 = .ok (.goto 4, 3) := by decide +kernel
theorem dX3_hasRoom_17 : decode cX3_hasRoom 17 = .ok (.ireturn, 1) := by decide +kernel
set_option maxRecDepth 20000 in
theorem ggX3_append_X3_hasRoom : GoodIn wsX3_append wsX3_hasRoom := goodIn_r _ [7, 2, 8, 9, 10, 11, 12, 13, 14, 15, 16, 17, 18, 19] (by decide +kernel) (by decide +kernel)
set_option maxRecDepth 20000 in
theorem gX3_append_X3_hasRoom : GoodIn wsX3_append (wsV RX3 26 RX3 yX3_hasRoom wsX3_hasRoom) := goodIn_app (goodIn_of _ (by decide +kernel)) ggX3_append_X3_hasRoom
theorem dX3_append_0 : decode cX3_append 0 = .ok (.bipush 24, 2) := by decide +kernel
theorem dX3_append_2 : decode cX3_append 2 = .ok (.istore_n 2, 1) := by decide +kernel
theorem dX3_append_3 : decode cX3_append 3 = .ok (.iload_n 2, 1) := by decide +kernel
theorem dX3_append_4 : decode cX3_append 4 = .ok (.ifCond .lt 40, 3) := by decide +kernel
theorem dX3_append_7 : decode cX3_append 7 = .ok (.aload_n 0, 1) := by decide +kernel
theorem dX3_append_8 : decode cX3_append 8 = .ok (.iconst 1, 1) := by decide +kernel
theorem dX3_append_9 : decode cX3_append 9 = .ok (.invokevirtual 26, 3) := by decide +kernel
theorem dX3_append_12 : decode cX3_append 12 = .ok (.ifCond .eq 32, 3) := by decide +kernel
theorem dX3_append_15 : decode cX3_append 15 = .ok (.aload_n 0, 1) := by decide +kernel
theorem dX3_append_16 : decode cX3_append 16 = .ok (.getfield 11, 3) := by decide +kernel
theorem dX3_append_19 : decode cX3_append 19 = .ok (.aload_n 0, 1) := by decide +kernel
theorem dX3_append_20 : decode cX3_append 20 = .ok (.getfield 23, 3) := by decide +kernel
theorem dX3_append_23 : decode cX3_append 23 = .ok (.iload_n 1, 1) := by decide +kernel
theorem dX3_append_24 : decode cX3_append 24 = .ok (.iload_n 2, 1) := by decide +kernel
theorem dX3_append_25 : decode cX3_append 25 = .ok (.ishr, 1) := by decide +kernel
theorem dX3_append_26 : decode cX3_append 26 = .ok (.i2b, 1) := by decide +kernel
theorem dX3_append_27 : decode cX3_append 27 = .ok (.bastore, 1) := by decide +kernel
theorem dX3_append_28 : decode cX3_append 28 = .ok (.aload_n 0, 1) := by decide +kernel
theorem dX3_append_29 : decode cX3_append 29 = .ok (.dup, 1) := by decide +kernel
theorem dX3_append_30 : decode cX3_append 30 = .ok (.getfield 23, 3) := by decide +kernel
theorem dX3_append_33 : decode cX3_append 33 = .ok (.iconst 1, 1) := by decide +kernel
theorem dX3_append_34 : decode cX3_append 34 = .ok (.iadd, 1) := by decide +kernel
theorem dX3_append_35 : decode cX3_append 35 = .ok (.putfield 23, 3) := by decide +kernel
theorem dX3_append_38 : decode cX3_append 38 = .ok (.iinc 2 (-8), 3) := by decide +kernel
theorem dX3_append_41 : decode cX3_append 41 = .ok (.goto (-38), 3) := by decide +kernel
theorem dX3_append_44 : decode cX3_append 44 = .ok (.return_, 1) := by decide +kernel
set_option maxRecDepth 20000 in
theorem ggX3_readAll_X0_wipe : GoodIn wsX3_readAll wsX0_wipe := goodIn_r _ [13, 14, 15, 16, 17, 18, 19, 213, 214, 215, 216, 217, 218, 219, 220, 221, 222, 223, 224, 225, 226, 227, 228] (by decide +kernel) (by decide +kernel)
set_option maxRecDepth 20000 in
theorem gX3_readAll_X0_wipe : GoodIn wsX3_readAll (wsV RX3 30 RX0 yX0_wipe wsX0_wipe) := goodIn_app (goodIn_of _ (by decide +kernel)) ggX3_readAll_X0_wipe
set_option maxRecDepth 20000 in
theorem ggX3_readAll_X3_advance : GoodIn wsX3_readAll wsX3_advance := goodIn_r _ [24, 2, 25, 26, 27, 7, 28, 29, 30, 31, 32, 33, 34, 35, 23, 36, 37, 38, 39, 40, 41, 42, 43, 201, 202, 203, 204, 205, 206, 207, 208, 209, 210, 211, 212] (by decide +kernel) (by decide +kernel)
set_option maxRecDepth 20000 in
theorem gX3_readAll_X3_advance : GoodIn wsX3_readAll (wsV RX3 48 RX3 yX3_advance wsX3_advance) := goodIn_app (goodIn_of _ (by decide +kernel)) ggX3_readAll_X3_advance
theorem dX3_readAll_0 : decode cX3_readAll 0 = .ok (.aload_n 0, 1) := by decide +kernel
theorem dX3_readAll_1 : decode cX3_readAll 1 = .ok (.getfield 19, 3) := by decide +kernel
theorem dX3_readAll_4 : decode cX3_readAll 4 = .ok (.invokevirtual 30, 3) := by decide +kernel
theorem dX3_readAll_7 : decode cX3_readAll 7 = .ok (.aload_n 0, 1) := by decide +kernel
theorem dX3_readAll_8 : decode cX3_readAll 8 = .ok (.iconst 0, 1) := by decide +kernel
theorem dX3_readAll_9 : decode cX3_readAll 9 = .ok (.putfield 35, 3) := by decide +kernel
theorem dX3_readAll_12 : decode cX3_readAll 12 = .ok (.aload_n 0, 1) := by decide +kernel
theorem dX3_readAll_13 : decode cX3_readAll 13 = .ok (.iconst 0, 1) := by decide +kernel
theorem dX3_readAll_14 : decode cX3_readAll 14 = .ok (.putfield 38, 3) := by decide +kernel
theorem dX3_readAll_17 : decode cX3_readAll 17 = .ok (.aload_n 0, 1) := by decide +kernel
theorem dX3_readAll_18 : decode cX3_readAll 18 = .ok (.iconst 0, 1) := by decide +kernel
theorem dX3_readAll_19 : decode cX3_readAll 19 = .ok (.putfield 41, 3) := by decide +kernel
theorem dX3_readAll_22 : decode cX3_readAll 22 = .ok (.aload_n 0, 1) := by decide +kernel
theorem dX3_readAll_23 : decode cX3_readAll 23 = .ok (.iconst 0, 1) := by decide +kernel
theorem dX3_readAll_24 : decode cX3_readAll 24 = .ok (.putfield 45, 3) := by decide +kernel
theorem dX3_readAll_27 : decode cX3_readAll 27 = .ok (.aload_n 0, 1) := by decide +kernel
theorem dX3_readAll_28 : decode cX3_readAll 28 = .ok (.iconst (-1), 1) := by decide +kernel
theorem dX3_readAll_29 : decode cX3_readAll 29 = .ok (.putfield 15, 3) := by decide +kernel
theorem dX3_readAll_32 : decode cX3_readAll 32 = .ok (.aload_n 0, 1) := by decide +kernel
theorem dX3_readAll_33 : decode cX3_readAll 33 = .ok (.invokevirtual 48, 3) := by decide +kernel
theorem dX3_readAll_36 : decode cX3_readAll 36 = .ok (.iconst 0, 1) := by decide +kernel
theorem dX3_readAll_37 : decode cX3_readAll 37 = .ok (.istore_n 1, 1) := by decide +kernel
theorem dX3_readAll_38 : decode cX3_readAll 38 = .ok (.iload_n 1, 1) := by decide +kernel
theorem dX3_readAll_39 : decode cX3_readAll 39 = .ok (.sipush 1600, 3) := by decide +kernel
theorem dX3_readAll_42 : decode cX3_readAll 42 = .ok (.if_icmp .ge 38, 3) := by decide +kernel
theorem dX3_readAll_45 : decode cX3_readAll 45 = .ok (.aload_n 0, 1) := by decide +kernel
theorem dX3_readAll_46 : decode cX3_readAll 46 = .ok (.getfield 51, 3) := by decide +kernel
theorem dX3_readAll_49 : decode cX3_readAll 49 = .ok (.ifCond .eq 31, 3) := by decide +kernel
theorem dX3_readAll_80 : decode cX3_readAll 80 = .ok (.iconst 1, 1) := by decide +kernel
theorem dX3_readAll_81 : decode cX3_readAll 81 = .ok (.ireturn, 1) := by decide +kernel
theorem dX3_advance_0 : decode cX3_advance 0 = .ok (.aload_n 0, 1) := by decide +kernel
theorem dX3_advance_1 : decode cX3_advance 1 = .ok (.getfield 35, 3) := by decide +kernel
theorem dX3_advance_4 : decode cX3_advance 4 = .ok (.aload_n 0, 1) := by decide +kernel
theorem dX3_advance_5 : decode cX3_advance 5 = .ok (.getfield 23, 3) := by decide +kernel
theorem dX3_advance_8 : decode cX3_advance 8 = .ok (.if_icmp .ge 42, 3) := by decide +kernel
theorem dX3_advance_50 : decode cX3_advance 50 = .ok (.aload_n 0, 1) := by decide +kernel
theorem dX3_advance_51 : decode cX3_advance 51 = .ok (.aload_n 0, 1) := by decide +kernel
theorem dX3_advance_52 : decode cX3_advance 52 = .ok (.getfield 35, 3) := by decide +kernel
theorem dX3_advance_55 : decode cX3_advance 55 = .ok (.putfield 175, 3) := by decide +kernel
theorem dX3_advance_58 : decode cX3_advance 58 = .ok (.aload_n 0, 1) := by decide +kernel
theorem dX3_advance_59 : decode cX3_advance 59 = .ok (.iconst 0, 1) := by decide +kernel
theorem dX3_advance_60 : decode cX3_advance 60 = .ok (.putfield 136, 3) := by decide +kernel
theorem dX3_advance_63 : decode cX3_advance 63 = .ok (.aload_n 0, 1) := by decide +kernel
theorem dX3_advance_64 : decode cX3_advance 64 = .ok (.getfield 35, 3) := by decide +kernel
theorem dX3_advance_67 : decode cX3_advance 67 = .ok (.aload_n 0, 1) := by decide +kernel
theorem dX3_advance_68 : decode cX3_advance 68 = .ok (.getfield 23, 3) := by decide +kernel
theorem dX3_advance_71 : decode cX3_advance 71 = .ok (.if_icmp .lt 11, 3) := by decide +kernel
theorem dX3_advance_74 : decode cX3_advance 74 = .ok (.aload_n 0, 1) := by decide +kernel
theorem dX3_advance_75 : decode cX3_advance 75 = .ok (.iconst 0, 1) := by decide +kernel
theorem dX3_advance_76 : decode cX3_advance 76 = .ok (.putfield 51, 3) := by decide +kernel
theorem dX3_advance_79 : decode cX3_advance 79 = .ok (.goto 177, 3) := by decide +kernel
theorem dX3_advance_256 : decode cX3_advance 256 = .ok (.return_, 1) := by decide +kernel
set_option maxRecDepth 20000 in
theorem ggX4_init_J7_fill_53178 : GoodIn wsX4_init wsJ7_fill_53178 := goodIn_r _ [12] (by decide +kernel) (by decide +kernel)
set_option maxRecDepth 20000 in
theorem gX4_init_J7_fill_53178 : GoodIn wsX4_init (va_wsS RX4 22 yJ7_fill_53178 wsJ7_fill_53178) := goodIn_app (goodIn_of _ (by decide +kernel)) ggX4_init_J7_fill_53178
theorem dX4_init_0 : decode cX4_init 0 = .ok (.aload_n 0, 1) := by decide +kernel
theorem dX4_init_1 : decode cX4_init 1 = .ok (.invokespecial 3, 3) := by decide +kernel
theorem dX4_init_4 : decode cX4_init 4 = .ok (.aload_n 0, 1) := by decide +kernel
theorem dX4_init_5 : decode cX4_init 5 = .ok (.iconst 4, 1) := by decide +kernel
theorem dX4_init_6 : decode cX4_init 6 = .ok (.newarray .int, 2) := by decide +kernel
theorem dX4_init_8 : decode cX4_init 8 = .ok (.putfield 11, 3) := by decide +kernel
theorem dX4_init_11 : decode cX4_init 11 = .ok (.aload_n 0, 1) := by decide +kernel
theorem dX4_init_12 : decode cX4_init 12 = .ok (.iconst 4, 1) := by decide +kernel
theorem dX4_init_13 : decode cX4_init 13 = .ok (.newarray .int, 2) := by decide +kernel
theorem dX4_init_15 : decode cX4_init 15 = .ok (.putfield 15, 3) := by decide +kernel
theorem dX4_init_18 : decode cX4_init 18 = .ok (.aload_n 0, 1) := by decide +kernel
theorem dX4_init_19 : decode cX4_init 19 = .ok (.sipush 240, 3) := by decide +kernel
theorem dX4_init_22 : decode cX4_init 22 = .ok (.newarray .long, 2) := by decide +kernel
theorem dX4_init_24 : decode cX4_init 24 = .ok (.putfield 18, 3) := by decide +kernel
theorem dX4_init_27 : decode cX4_init 27 = .ok (.aload_n 0, 1) := by decide +kernel
theorem dX4_init_28 : decode cX4_init 28 = .ok (.getfield 15, 3) := by decide +kernel
theorem dX4_init_31 : decode cX4_init 31 = .ok (.iconst (-1), 1) := by decide +kernel
theorem dX4_init_32 : decode cX4_init 32 = .ok (.invokestatic 22, 3) := by decide +kernel
theorem dX4_init_35 : decode cX4_init 35 = .ok (.return_, 1) := by decide +kernel
theorem dX4_isSlot_0 : decode cX4_isSlot 0 = .ok (.iload_n 1, 1) := by decide +kernel
theorem dX4_isSlot_1 : decode cX4_isSlot 1 = .ok (.ifCond .lt 12, 3) := by decide +kernel
theorem dX4_isSlot_4 : decode cX4_isSlot 4 = .ok (.iload_n 1, 1) := by decide +kernel
theorem dX4_isSlot_5 : decode cX4_isSlot 5 = .ok (.iconst 4, 1) := by decide +kernel
theorem dX4_isSlot_6 : decode cX4_isSlot 6 = .ok (.if_icmp .ge 7, 3) := by decide +kernel
theorem dX4_isSlot_9 : decode cX4_isSlot 9 = .ok (.iconst 1, 1) := by decide +kernel
theorem dX4_isSlot_10 : decode cX4_isSlot 10 = .ok (.goto 4, 3) := by decide +kernel
theorem dX4_isSlot_13 : decode cX4_isSlot 13 = .ok (.iconst 0, 1) := by decide +kernel
theorem dX4_isSlot_14 : decode cX4_isSlot 14 = .ok (.ireturn, 1) := by decide +kernel
set_option maxRecDepth 20000 in
theorem ggX4_isFilled_X4_isSlot : GoodIn wsX4_isFilled wsX4_isSlot := goodIn_r _ [6] (by decide +kernel) (by decide +kernel)
set_option maxRecDepth 20000 in
theorem gX4_isFilled_X4_isSlot : GoodIn wsX4_isFilled (wsV RX4 28 RX4 yX4_isSlot wsX4_isSlot) := goodIn_app (goodIn_of _ (by decide +kernel)) ggX4_isFilled_X4_isSlot
theorem dX4_isFilled_0 : decode cX4_isFilled 0 = .ok (.aload_n 0, 1) := by decide +kernel
theorem dX4_isFilled_1 : decode cX4_isFilled 1 = .ok (.iload_n 1, 1) := by decide +kernel
theorem dX4_isFilled_2 : decode cX4_isFilled 2 = .ok (.invokevirtual 28, 3) := by decide +kernel
theorem dX4_isFilled_5 : decode cX4_isFilled 5 = .ok (.ifCond .eq 17, 3) := by decide +kernel
theorem dX4_isFilled_8 : decode cX4_isFilled 8 = .ok (.aload_n 0, 1) := by decide +kernel
theorem dX4_isFilled_9 : decode cX4_isFilled 9 = .ok (.getfield 15, 3) := by decide +kernel
theorem dX4_isFilled_12 : decode cX4_isFilled 12 = .ok (.iload_n 1, 1) := by decide +kernel
theorem dX4_isFilled_13 : decode cX4_isFilled 13 = .ok (.iaload, 1) := by decide +kernel
theorem dX4_isFilled_14 : decode cX4_isFilled 14 = .ok (.iconst (-1), 1) := by decide +kernel
theorem dX4_isFilled_15 : decode cX4_isFilled 15 = .ok (.if_icmp .eq 7, 3) := by decide +kernel
theorem dX4_isFilled_22 : decode cX4_isFilled 22 = .ok (.iconst 0, 1) := by decide +kernel
theorem dX4_isFilled_23 : decode cX4_isFilled 23 = .ok (.ireturn, 1) := by decide +kernel
set_option maxRecDepth 20000 in
theorem ggX4_filled_X4_isFilled : GoodIn wsX4_filled wsX4_isFilled := goodIn_r _ [5, 6, 7, 8, 9, 4, 10, 11, 12, 13] (by decide +kernel) (by decide +kernel)
set_option maxRecDepth 20000 in
theorem gX4_filled_X4_isFilled : GoodIn wsX4_filled (wsV RX4 32 RX4 yX4_isFilled wsX4_isFilled) := goodIn_app (goodIn_of _ (by decide +kernel)) ggX4_filled_X4_isFilled
theorem dX4_filled_0 : decode cX4_filled 0 = .ok (.iconst 0, 1) := by decide +kernel
theorem dX4_filled_1 : decode cX4_filled 1 = .ok (.istore_n 1, 1) := by decide +kernel
theorem dX4_filled_2 : decode cX4_filled 2 = .ok (.iconst 0, 1) := by decide +kernel
theorem dX4_filled_3 : decode cX4_filled 3 = .ok (.istore_n 2, 1) := by decide +kernel
theorem dX4_filled_4 : decode cX4_filled 4 = .ok (.iload_n 2, 1) := by decide +kernel
theorem dX4_filled_5 : decode cX4_filled 5 = .ok (.iconst 4, 1) := by decide +kernel
theorem dX4_filled_6 : decode cX4_filled 6 = .ok (.if_icmp .ge 20, 3) := by decide +kernel
theorem dX4_filled_9 : decode cX4_filled 9 = .ok (.aload_n 0, 1) := by decide +kernel
theorem dX4_filled_10 : decode cX4_filled 10 = .ok (.iload_n 2, 1) := by decide +kernel
theorem dX4_filled_11 : decode cX4_filled 11 = .ok (.invokevirtual 32, 3) := by decide +kernel
theorem dX4_filled_14 : decode cX4_filled 14 = .ok (.ifCond .eq 6, 3) := by decide +kernel
theorem dX4_filled_20 : decode cX4_filled 20 = .ok (.iinc 2 1, 3) := by decide +kernel
theorem dX4_filled_23 : decode cX4_filled 23 = .ok (.goto (-19), 3) := by decide +kernel
theorem dX4_filled_26 : decode cX4_filled 26 = .ok (.iload_n 1, 1) := by decide +kernel
theorem dX4_filled_27 : decode cX4_filled 27 = .ok (.ireturn, 1) := by decide +kernel
set_option maxRecDepth 20000 in
theorem ggX4_open_X4_isSlot : GoodIn wsX4_open wsX4_isSlot := goodIn_r _ [8] (by decide +kernel) (by decide +kernel)
set_option maxRecDepth 20000 in
theorem gX4_open_X4_isSlot : GoodIn wsX4_open (wsV RX4 28 RX4 yX4_isSlot wsX4_isSlot) := goodIn_app (goodIn_of _ (by decide +kernel)) ggX4_open_X4_isSlot
theorem dX4_open_0 : decode cX4_open 0 = .ok (.aload_n 0, 1) := by decide +kernel
theorem dX4_open_1 : decode cX4_open 1 = .ok (.iload_n 1, 1) := by decide +kernel
theorem dX4_open_2 : decode cX4_open 2 = .ok (.invokevirtual 28, 3) := by decide +kernel
theorem dX4_open_5 : decode cX4_open 5 = .ok (.ifCond .eq 55, 3) := by decide +kernel
theorem dX4_open_8 : decode cX4_open 8 = .ok (.iload_n 3, 1) := by decide +kernel
theorem dX4_open_9 : decode cX4_open 9 = .ok (.ifCond .lt 51, 3) := by decide +kernel
theorem dX4_open_12 : decode cX4_open 12 = .ok (.iload_n 3, 1) := by decide +kernel
theorem dX4_open_13 : decode cX4_open 13 = .ok (.bipush 60, 2) := by decide +kernel
theorem dX4_open_15 : decode cX4_open 15 = .ok (.if_icmp .gt 45, 3) := by decide +kernel
theorem dX4_open_18 : decode cX4_open 18 = .ok (.aload_n 0, 1) := by decide +kernel
theorem dX4_open_19 : decode cX4_open 19 = .ok (.getfield 11, 3) := by decide +kernel
theorem dX4_open_22 : decode cX4_open 22 = .ok (.iload_n 1, 1) := by decide +kernel
theorem dX4_open_23 : decode cX4_open 23 = .ok (.iload_n 2, 1) := by decide +kernel
theorem dX4_open_24 : decode cX4_open 24 = .ok (.iastore, 1) := by decide +kernel
theorem dX4_open_25 : decode cX4_open 25 = .ok (.aload_n 0, 1) := by decide +kernel
theorem dX4_open_26 : decode cX4_open 26 = .ok (.getfield 15, 3) := by decide +kernel
theorem dX4_open_29 : decode cX4_open 29 = .ok (.iload_n 1, 1) := by decide +kernel
theorem dX4_open_30 : decode cX4_open 30 = .ok (.iload_n 3, 1) := by decide +kernel
theorem dX4_open_31 : decode cX4_open 31 = .ok (.iastore, 1) := by decide +kernel
theorem dX4_open_32 : decode cX4_open 32 = .ok (.iconst 0, 1) := by decide +kernel
theorem dX4_open_33 : decode cX4_open 33 = .ok (.istore 4, 2) := by decide +kernel
theorem dX4_open_35 : decode cX4_open 35 = .ok (.iload 4, 2) := by decide +kernel
theorem dX4_open_37 : decode cX4_open 37 = .ok (.iload_n 3, 1) := by decide +kernel
theorem dX4_open_38 : decode cX4_open 38 = .ok (.if_icmp .ge 22, 3) := by decide +kernel
theorem dX4_open_41 : decode cX4_open 41 = .ok (.aload_n 0, 1) := by decide +kernel
theorem dX4_open_42 : decode cX4_open 42 = .ok (.getfield 18, 3) := by decide +kernel
theorem dX4_open_45 : decode cX4_open 45 = .ok (.iload_n 1, 1) := by decide +kernel
theorem dX4_open_46 : decode cX4_open 46 = .ok (.bipush 60, 2) := by decide +kernel
theorem dX4_open_48 : decode cX4_open 48 = .ok (.imul, 1) := by decide +kernel
theorem dX4_open_49 : decode cX4_open 49 = .ok (.iload 4, 2) := by decide +kernel
theorem dX4_open_51 : decode cX4_open 51 = .ok (.iadd, 1) := by decide +kernel
theorem dX4_open_52 : decode cX4_open 52 = .ok (.lconst 0, 1) := by decide +kernel
theorem dX4_open_53 : decode cX4_open 53 = .ok (.lastore, 1) := by decide +kernel
theorem dX4_open_54 : decode cX4_open 54 = .ok (.iinc 4 1, 3) := by decide +kernel
theorem dX4_open_57 : decode cX4_open 57 = .ok (.goto (-22), 3) := by decide +kernel
theorem dX4_open_60 : decode cX4_open 60 = .ok (.return_, 1) := by decide +kernel
theorem dX5_init_0 : decode cX5_init 0 = .ok (.aload_n 0, 1) := by decide +kernel
theorem dX5_init_1 : decode cX5_init 1 = .ok (.invokespecial 3, 3) := by decide +kernel
theorem dX5_init_4 : decode cX5_init 4 = .ok (.aload_n 0, 1) := by decide +kernel
theorem dX5_init_5 : decode cX5_init 5 = .ok (.sipush 512, 3) := by decide +kernel
theorem dX5_init_8 : decode cX5_init 8 = .ok (.newarray .int, 2) := by decide +kernel
theorem dX5_init_10 : decode cX5_init 10 = .ok (.putfield 11, 3) := by decide +kernel
theorem dX5_init_13 : decode cX5_init 13 = .ok (.aload_n 0, 1) := by decide +kernel
theorem dX5_init_14 : decode cX5_init 14 = .ok (.sipush 512, 3) := by decide +kernel
theorem dX5_init_17 : decode cX5_init 17 = .ok (.newarray .int, 2) := by decide +kernel
theorem dX5_init_19 : decode cX5_init 19 = .ok (.putfield 15, 3) := by decide +kernel
theorem dX5_init_22 : decode cX5_init 22 = .ok (.return_, 1) := by decide +kernel
theorem dX6_init_0 : decode cX6_init 0 = .ok (.aload_n 0, 1) := by decide +kernel
theorem dX6_init_1 : decode cX6_init 1 = .ok (.invokespecial 3, 3) := by decide +kernel
theorem dX6_init_4 : decode cX6_init 4 = .ok (.aload_n 0, 1) := by decide +kernel
theorem dX6_init_5 : decode cX6_init 5 = .ok (.bipush 6, 2) := by decide +kernel
theorem dX6_init_7 : decode cX6_init 7 = .ok (.newarray .int, 2) := by decide +kernel
theorem dX6_init_9 : decode cX6_init 9 = .ok (.putfield 9, 3) := by decide +kernel
theorem dX6_init_12 : decode cX6_init 12 = .ok (.return_, 1) := by decide +kernel
theorem dX7_init_0 : decode cX7_init 0 = .ok (.aload_n 0, 1) := by decide +kernel
theorem dX7_init_1 : decode cX7_init 1 = .ok (.invokespecial 3, 3) := by decide +kernel
theorem dX7_init_4 : decode cX7_init 4 = .ok (.aload_n 0, 1) := by decide +kernel
theorem dX7_init_5 : decode cX7_init 5 = .ok (.sipush 2560, 3) := by decide +kernel
theorem dX7_init_8 : decode cX7_init 8 = .ok (.newarray .int, 2) := by decide +kernel
theorem dX7_init_10 : decode cX7_init 10 = .ok (.putfield 11, 3) := by decide +kernel
theorem dX7_init_13 : decode cX7_init 13 = .ok (.return_, 1) := by decide +kernel
set_option maxRecDepth 20000 in
theorem ggX8_init_X0_init : GoodIn wsX8_init wsX0_init := goodIn_r _ [41, 42, 2, 3, 43, 44, 45, 46, 47, 48, 49, 94, 95, 96, 97, 98, 99, 100, 101, 102, 103, 104, 105, 106, 107, 108, 109] (by decide +kernel) (by decide +kernel)
set_option maxRecDepth 20000 in
theorem gX8_init_X0_init_n9 : GoodIn wsX8_init (wsX0_init) := ggX8_init_X0_init
set_option maxRecDepth 20000 in
theorem ggX8_init_X3_init : GoodIn wsX8_init wsX3_init := goodIn_r _ [52, 53, 2, 3, 54, 55, 56, 57, 121, 122, 123, 124, 125, 126, 127, 128, 129, 130, 131, 132] (by decide +kernel) (by decide +kernel)
set_option maxRecDepth 20000 in
theorem gX8_init_X3_init : GoodIn wsX8_init (wsX3_init) := ggX8_init_X3_init
set_option maxRecDepth 20000 in
theorem ggX8_init_X1_init : GoodIn wsX8_init wsX1_init := goodIn_r _ [59, 60, 2, 3, 43, 61, 62, 133, 134, 135, 136, 137, 138, 139, 140] (by decide +kernel) (by decide +kernel)
set_option maxRecDepth 20000 in
theorem gX8_init_X1_init_n38 : GoodIn wsX8_init (wsX1_init) := ggX8_init_X1_init
set_option maxRecDepth 20000 in
theorem ggX8_init_X2_init : GoodIn wsX8_init wsX2_init := goodIn_r _ [64, 65, 2, 3, 43, 66, 67, 68, 141, 142, 143, 144, 145, 146, 147, 148, 149] (by decide +kernel) (by decide +kernel)
set_option maxRecDepth 20000 in
theorem gX8_init_X2_init_n45 : GoodIn wsX8_init (wsX2_init) := ggX8_init_X2_init
set_option maxRecDepth 20000 in
theorem ggX8_init_X5_init : GoodIn wsX8_init wsX5_init := goodIn_r _ [70, 71, 2, 3, 43, 72, 73, 150, 151] (by decide +kernel) (by decide +kernel)
set_option maxRecDepth 20000 in
theorem gX8_init_X5_init_n52 : GoodIn wsX8_init (wsX5_init) := ggX8_init_X5_init
set_option maxRecDepth 20000 in
theorem ggX8_init_X7_init : GoodIn wsX8_init wsX7_init := goodIn_r _ [75, 76, 2, 3, 43, 77, 152, 153, 154] (by decide +kernel) (by decide +kernel)
set_option maxRecDepth 20000 in
theorem gX8_init_X7_init_n59 : GoodIn wsX8_init (wsX7_init) := ggX8_init_X7_init
set_option maxRecDepth 20000 in
theorem ggX8_init_X6_init : GoodIn wsX8_init wsX6_init := goodIn_r _ [79, 80, 2, 3, 43, 81, 155, 156, 157, 158, 159] (by decide +kernel) (by decide +kernel)
set_option maxRecDepth 20000 in
theorem gX8_init_X6_init_n66 : GoodIn wsX8_init (wsX6_init) := ggX8_init_X6_init
set_option maxRecDepth 20000 in
theorem ggX8_init_X4_init : GoodIn wsX8_init wsX4_init := goodIn_r _ [84, 85, 2, 3, 43, 86, 87, 88, 89, 90, 91, 92, 93, 160, 161, 162] (by decide +kernel) (by decide +kernel)
set_option maxRecDepth 20000 in
theorem gX8_init_X4_init : GoodIn wsX8_init (wsX4_init) := ggX8_init_X4_init
theorem dX8_init_0 : decode cX8_init 0 = .ok (.aload_n 0, 1) := by decide +kernel
theorem dX8_init_1 : decode cX8_init 1 = .ok (.invokespecial 1, 3) := by decide +kernel
theorem dX8_init_4 : decode cX8_init 4 = .ok (.aload_n 0, 1) := by decide +kernel
theorem dX8_init_5 : decode cX8_init 5 = .ok (.new 7, 3) := by decide +kernel
theorem dX8_init_8 : decode cX8_init 8 = .ok (.dup, 1) := by decide +kernel
theorem dX8_init_9 : decode cX8_init 9 = .ok (.invokespecial 9, 3) := by decide +kernel
theorem dX8_init_12 : decode cX8_init 12 = .ok (.putfield 10, 3) := by decide +kernel
theorem dX8_init_15 : decode cX8_init 15 = .ok (.aload_n 0, 1) := by decide +kernel
theorem dX8_init_16 : decode cX8_init 16 = .ok (.new 7, 3) := by decide +kernel
theorem dX8_init_19 : decode cX8_init 19 = .ok (.dup, 1) := by decide +kernel
theorem dX8_init_20 : decode cX8_init 20 = .ok (.invokespecial 9, 3) := by decide +kernel
theorem dX8_init_23 : decode cX8_init 23 = .ok (.putfield 16, 3) := by decide +kernel
theorem dX8_init_26 : decode cX8_init 26 = .ok (.aload_n 0, 1) := by decide +kernel
theorem dX8_init_27 : decode cX8_init 27 = .ok (.iconst 3, 1) := by decide +kernel
theorem dX8_init_28 : decode cX8_init 28 = .ok (.anewarray 7, 3) := by decide +kernel
theorem dX8_init_31 : decode cX8_init 31 = .ok (.putfield 19, 3) := by decide +kernel
theorem dX8_init_34 : decode cX8_init 34 = .ok (.aload_n 0, 1) := by decide +kernel
theorem dX8_init_35 : decode cX8_init 35 = .ok (.iconst 3, 1) := by decide +kernel
theorem dX8_init_36 : decode cX8_init 36 = .ok (.newarray .boolean, 2) := by decide +kernel
theorem dX8_init_38 : decode cX8_init 38 = .ok (.putfield 23, 3) := by decide +kernel
theorem dX8_init_41 : decode cX8_init 41 = .ok (.aload_n 0, 1) := by decide +kernel
theorem dX8_init_42 : decode cX8_init 42 = .ok (.new 27, 3) := by decide +kernel
theorem dX8_init_45 : decode cX8_init 45 = .ok (.dup, 1) := by decide +kernel
theorem dX8_init_46 : decode cX8_init 46 = .ok (.aload_n 0, 1) := by decide +kernel
theorem dX8_init_47 : decode cX8_init 47 = .ok (.getfield 16, 3) := by decide +kernel
theorem dX8_init_50 : decode cX8_init 50 = .ok (.invokespecial 29, 3) := by decide +kernel
theorem dX8_init_53 : decode cX8_init 53 = .ok (.putfield 32, 3) := by decide +kernel
theorem dX8_init_56 : decode cX8_init 56 = .ok (.aload_n 0, 1) := by decide +kernel
theorem dX8_init_57 : decode cX8_init 57 = .ok (.new 36, 3) := by decide +kernel
theorem dX8_init_60 : decode cX8_init 60 = .ok (.dup, 1) := by decide +kernel
theorem dX8_init_61 : decode cX8_init 61 = .ok (.invokespecial 38, 3) := by decide +kernel
theorem dX8_init_64 : decode cX8_init 64 = .ok (.putfield 39, 3) := by decide +kernel
theorem dX8_init_67 : decode cX8_init 67 = .ok (.aload_n 0, 1) := by decide +kernel
theorem dX8_init_68 : decode cX8_init 68 = .ok (.new 43, 3) := by decide +kernel
theorem dX8_init_71 : decode cX8_init 71 = .ok (.dup, 1) := by decide +kernel
theorem dX8_init_72 : decode cX8_init 72 = .ok (.invokespecial 45, 3) := by decide +kernel
theorem dX8_init_75 : decode cX8_init 75 = .ok (.putfield 46, 3) := by decide +kernel
theorem dX8_init_78 : decode cX8_init 78 = .ok (.aload_n 0, 1) := by decide +kernel
theorem dX8_init_79 : decode cX8_init 79 = .ok (.new 50, 3) := by decide +kernel
theorem dX8_init_82 : decode cX8_init 82 = .ok (.dup, 1) := by decide +kernel
theorem dX8_init_83 : decode cX8_init 83 = .ok (.invokespecial 52, 3) := by decide +kernel
theorem dX8_init_86 : decode cX8_init 86 = .ok (.putfield 53, 3) := by decide +kernel
theorem dX8_init_89 : decode cX8_init 89 = .ok (.aload_n 0, 1) := by decide +kernel
theorem dX8_init_90 : decode cX8_init 90 = .ok (.new 57, 3) := by decide +kernel
theorem dX8_init_93 : decode cX8_init 93 = .ok (.dup, 1) := by decide +kernel
theorem dX8_init_94 : decode cX8_init 94 = .ok (.invokespecial 59, 3) := by decide +kernel
theorem dX8_init_97 : decode cX8_init 97 = .ok (.putfield 60, 3) := by decide +kernel
theorem dX8_init_100 : decode cX8_init 100 = .ok (.aload_n 0, 1) := by decide +kernel
theorem dX8_init_101 : decode cX8_init 101 = .ok (.new 64, 3) := by decide +kernel
theorem dX8_init_104 : decode cX8_init 104 = .ok (.dup, 1) := by decide +kernel
theorem dX8_init_105 : decode cX8_init 105 = .ok (.invokespecial 66, 3) := by decide +kernel
theorem dX8_init_108 : decode cX8_init 108 = .ok (.putfield 67, 3) := by decide +kernel
theorem dX8_init_111 : decode cX8_init 111 = .ok (.aload_n 0, 1) := by decide +kernel
theorem dX8_init_112 : decode cX8_init 112 = .ok (.new 71, 3) := by decide +kernel
theorem dX8_init_115 : decode cX8_init 115 = .ok (.dup, 1) := by decide +kernel
theorem dX8_init_116 : decode cX8_init 116 = .ok (.invokespecial 73, 3) := by decide +kernel
theorem dX8_init_119 : decode cX8_init 119 = .ok (.putfield 74, 3) := by decide +kernel
theorem dX8_init_122 : decode cX8_init 122 = .ok (.iconst 0, 1) := by decide +kernel
theorem dX8_init_123 : decode cX8_init 123 = .ok (.istore_n 1, 1) := by decide +kernel
theorem dX8_init_124 : decode cX8_init 124 = .ok (.iload_n 1, 1) := by decide +kernel
theorem dX8_init_125 : decode cX8_init 125 = .ok (.iconst 3, 1) := by decide +kernel
theorem dX8_init_126 : decode cX8_init 126 = .ok (.if_icmp .ge 22, 3) := by decide +kernel
theorem dX8_init_129 : decode cX8_init 129 = .ok (.aload_n 0, 1) := by decide +kernel
theorem dX8_init_130 : decode cX8_init 130 = .ok (.getfield 19, 3) := by decide +kernel
theorem dX8_init_133 : decode cX8_init 133 = .ok (.iload_n 1, 1) := by decide +kernel
theorem dX8_init_134 : decode cX8_init 134 = .ok (.new 7, 3) := by decide +kernel
theorem dX8_init_137 : decode cX8_init 137 = .ok (.dup, 1) := by decide +kernel
theorem dX8_init_138 : decode cX8_init 138 = .ok (.invokespecial 9, 3) := by decide +kernel
theorem dX8_init_141 : decode cX8_init 141 = .ok (.aastore, 1) := by decide +kernel
theorem dX8_init_142 : decode cX8_init 142 = .ok (.iinc 1 1, 3) := by decide +kernel
theorem dX8_init_145 : decode cX8_init 145 = .ok (.goto (-21), 3) := by decide +kernel
theorem dX8_init_148 : decode cX8_init 148 = .ok (.return_, 1) := by decide +kernel
set_option maxRecDepth 20000 in
theorem ggX8_feed_X3_hasRoom : GoodIn wsX8_feed wsX3_hasRoom := goodIn_r _ [7, 8, 26, 27, 28, 29, 30, 31, 32, 33, 34, 35, 36, 37] (by decide +kernel) (by decide +kernel)
set_option maxRecDepth 20000 in
theorem gX8_feed_X3_hasRoom : GoodIn wsX8_feed (wsV RX8 78 RX3 yX3_hasRoom wsX3_hasRoom) := goodIn_app (goodIn_of _ (by decide +kernel)) ggX8_feed_X3_hasRoom
set_option maxRecDepth 20000 in
theorem ggX8_feed_X3_append : GoodIn wsX8_feed wsX3_append := goodIn_r _ [12, 13, 8, 14, 4, 5, 6, 7, 26, 27, 28, 29, 30, 31, 32, 33, 34, 35, 36, 37] (by decide +kernel) (by decide +kernel)
set_option maxRecDepth 20000 in
theorem gX8_feed_X3_append : GoodIn wsX8_feed (wsV RX8 82 RX3 yX3_append wsX3_append) := goodIn_app (goodIn_of _ (by decide +kernel)) ggX8_feed_X3_append
theorem dX8_feed_0 : decode cX8_feed 0 = .ok (.aload_n 0, 1) := by decide +kernel
theorem dX8_feed_1 : decode cX8_feed 1 = .ok (.getfield 32, 3) := by decide +kernel
theorem dX8_feed_4 : decode cX8_feed 4 = .ok (.bipush 20, 2) := by decide +kernel
theorem dX8_feed_6 : decode cX8_feed 6 = .ok (.invokevirtual 78, 3) := by decide +kernel
theorem dX8_feed_9 : decode cX8_feed 9 = .ok (.ifCond .ne 5, 3) := by decide +kernel
theorem dX8_feed_14 : decode cX8_feed 14 = .ok (.aload_n 0, 1) := by decide +kernel
theorem dX8_feed_15 : decode cX8_feed 15 = .ok (.getfield 32, 3) := by decide +kernel
theorem dX8_feed_18 : decode cX8_feed 18 = .ok (.iload_n 1, 1) := by decide +kernel
theorem dX8_feed_19 : decode cX8_feed 19 = .ok (.invokevirtual 82, 3) := by decide +kernel
theorem dX8_feed_22 : decode cX8_feed 22 = .ok (.aload_n 0, 1) := by decide +kernel
theorem dX8_feed_23 : decode cX8_feed 23 = .ok (.getfield 32, 3) := by decide +kernel
theorem dX8_feed_26 : decode cX8_feed 26 = .ok (.iload_n 2, 1) := by decide +kernel
theorem dX8_feed_27 : decode cX8_feed 27 = .ok (.invokevirtual 82, 3) := by decide +kernel
theorem dX8_feed_30 : decode cX8_feed 30 = .ok (.aload_n 0, 1) := by decide +kernel
theorem dX8_feed_31 : decode cX8_feed 31 = .ok (.getfield 32, 3) := by decide +kernel
theorem dX8_feed_34 : decode cX8_feed 34 = .ok (.iload_n 3, 1) := by decide +kernel
theorem dX8_feed_35 : decode cX8_feed 35 = .ok (.invokevirtual 82, 3) := by decide +kernel
theorem dX8_feed_38 : decode cX8_feed 38 = .ok (.aload_n 0, 1) := by decide +kernel
theorem dX8_feed_39 : decode cX8_feed 39 = .ok (.getfield 32, 3) := by decide +kernel
theorem dX8_feed_42 : decode cX8_feed 42 = .ok (.iload 4, 2) := by decide +kernel
theorem dX8_feed_44 : decode cX8_feed 44 = .ok (.invokevirtual 82, 3) := by decide +kernel
theorem dX8_feed_47 : decode cX8_feed 47 = .ok (.aload_n 0, 1) := by decide +kernel
theorem dX8_feed_48 : decode cX8_feed 48 = .ok (.getfield 32, 3) := by decide +kernel
theorem dX8_feed_51 : decode cX8_feed 51 = .ok (.iload 5, 2) := by decide +kernel
theorem dX8_feed_53 : decode cX8_feed 53 = .ok (.invokevirtual 82, 3) := by decide +kernel
theorem dX8_feed_56 : decode cX8_feed 56 = .ok (.aload_n 0, 1) := by decide +kernel
theorem dX8_feed_57 : decode cX8_feed 57 = .ok (.getfield 32, 3) := by decide +kernel
theorem dX8_feed_60 : decode cX8_feed 60 = .ok (.getfield 86, 3) := by decide +kernel
theorem dX8_feed_63 : decode cX8_feed 63 = .ok (.ireturn, 1) := by decide +kernel
theorem dX8_end_0 : decode cX8_end 0 = .ok (.iload_n 1, 1) := by decide +kernel
theorem dX8_end_1 : decode cX8_end 1 = .ok (.ifCond .lt 14, 3) := by decide +kernel
theorem dX8_end_4 : decode cX8_end 4 = .ok (.iload_n 1, 1) := by decide +kernel
theorem dX8_end_5 : decode cX8_end 5 = .ok (.aload_n 0, 1) := by decide +kernel
theorem dX8_end_6 : decode cX8_end 6 = .ok (.getfield 32, 3) := by decide +kernel
theorem dX8_end_9 : decode cX8_end 9 = .ok (.getfield 86, 3) := by decide +kernel
theorem dX8_end_12 : decode cX8_end 12 = .ok (.if_icmp .le 5, 3) := by decide +kernel
theorem dX8_end_15 : decode cX8_end 15 = .ok (.iconst (-1), 1) := by decide +kernel
theorem dX8_end_16 : decode cX8_end 16 = .ok (.ireturn, 1) := by decide +kernel
theorem dX8_end_17 : decode cX8_end 17 = .ok (.aload_n 0, 1) := by decide +kernel
theorem dX8_end_18 : decode cX8_end 18 = .ok (.getfield 32, 3) := by decide +kernel
theorem dX8_end_21 : decode cX8_end 21 = .ok (.iload_n 1, 1) := by decide +kernel
theorem dX8_end_22 : decode cX8_end 22 = .ok (.putfield 86, 3) := by decide +kernel
theorem dX8_end_25 : decode cX8_end 25 = .ok (.iload_n 1, 1) := by decide +kernel
theorem dX8_end_26 : decode cX8_end 26 = .ok (.ireturn, 1) := by decide +kernel
set_option maxRecDepth 20000 in
theorem ggX8_city_X3_readAll : GoodIn wsX8_city wsX3_readAll := goodIn_r _ [10, 11, 12, 13, 14, 15, 16, 17, 18, 19, 20, 21, 22, 23, 24, 25, 26, 27, 28, 29, 30, 31, 32, 9, 33, 34, 35, 36, 37, 38, 39, 40, 41, 42, 43, 44, 45, 46, 47, 48, 49, 50, 51, 52, 53, 54, 55, 56, 57, 58, 59, 60, 61, 62, 63, 64, 65, 66, 67, 68, 69, 70, 71, 72, 73, 74, 75, 76, 77, 78, 79, 80, 81, 82, 83, 84, 85, 86, 87, 88, 89, 90, 91, 92, 93, 94, 95, 96, 97, 98, 99, 100, 101, 102, 103, 104, 105, 106, 107, 108, 109, 110, 111, 112, 113, 114, 115, 116, 117, 118, 119, 120, 121, 122, 123, 124, 125, 126, 127, 128, 129, 130, 131, 132, 133, 134, 135, 136, 137, 138, 139, 140, 141, 142, 143, 144, 145, 146, 147, 148, 149, 150, 151, 152, 153, 154, 155, 156, 157, 158, 159, 160, 161, 162, 163, 164, 165, 166, 167, 168, 169, 170, 171, 172, 173, 174, 175, 176, 177, 178, 179, 180, 181, 182, 183, 184, 185, 186, 187, 188, 189, 190, 191, 192, 193, 194, 195, 196, 197, 198, 199, 200, 201, 202, 203, 204, 205, 206, 207, 208, 209, 229, 230, 231, 232, 233, 234, 235, 236, 237, 238, 239, 240, 241, 242, 243, 244, 245, 246, 247, 248, 249, 250, 251, 252, 253, 254, 255, 256] (by decide +kernel) (by decide +kernel)
set_option maxRecDepth 20000 in
theorem gX8_city_X3_readAll : GoodIn wsX8_city (wsV RX8 90 RX3 yX3_readAll wsX3_readAll) := goodIn_app (goodIn_of _ (by decide +kernel)) ggX8_city_X3_readAll
set_option maxRecDepth 20000 in
theorem ggX8_city_X0_copyOf : GoodIn wsX8_city wsX0_copyOf := goodIn_r _ [213, 24, 25, 26, 27, 28, 139, 214, 215, 216, 217, 140, 132, 133, 134, 199, 29, 241, 242, 243, 244, 245, 246, 247, 248, 249, 250, 251, 252, 253, 254, 255, 256] (by decide +kernel) (by decide +kernel)
set_option maxRecDepth 20000 in
theorem gX8_city_X0_copyOf : GoodIn wsX8_city (wsV RX8 94 RX0 yX0_copyOf wsX0_copyOf) := goodIn_app (goodIn_of _ (by decide +kernel)) ggX8_city_X0_copyOf
theorem dX8_city_0 : decode cX8_city 0 = .ok (.aload_n 0, 1) := by decide +kernel
theorem dX8_city_1 : decode cX8_city 1 = .ok (.getfield 32, 3) := by decide +kernel
theorem dX8_city_4 : decode cX8_city 4 = .ok (.invokevirtual 90, 3) := by decide +kernel
theorem dX8_city_7 : decode cX8_city 7 = .ok (.ifCond .ne 6, 3) := by decide +kernel
theorem dX8_city_13 : decode cX8_city 13 = .ok (.aload_n 0, 1) := by decide +kernel
theorem dX8_city_14 : decode cX8_city 14 = .ok (.getfield 32, 3) := by decide +kernel
theorem dX8_city_17 : decode cX8_city 17 = .ok (.iconst 0, 1) := by decide +kernel
theorem dX8_city_18 : decode cX8_city 18 = .ok (.putfield 86, 3) := by decide +kernel
theorem dX8_city_21 : decode cX8_city 21 = .ok (.aload_n 0, 1) := by decide +kernel
theorem dX8_city_22 : decode cX8_city 22 = .ok (.getfield 10, 3) := by decide +kernel
theorem dX8_city_25 : decode cX8_city 25 = .ok (.aload_n 0, 1) := by decide +kernel
theorem dX8_city_26 : decode cX8_city 26 = .ok (.getfield 16, 3) := by decide +kernel
theorem dX8_city_29 : decode cX8_city 29 = .ok (.invokevirtual 94, 3) := by decide +kernel
theorem dX8_city_32 : decode cX8_city 32 = .ok (.aload_n 0, 1) := by decide +kernel
theorem dX8_city_33 : decode cX8_city 33 = .ok (.getfield 10, 3) := by decide +kernel
theorem dX8_city_36 : decode cX8_city 36 = .ok (.getfield 97, 3) := by decide +kernel
theorem dX8_city_39 : decode cX8_city 39 = .ok (.ireturn, 1) := by decide +kernel
theorem dX8_fault_0 : decode cX8_fault 0 = .ok (.iload_n 1, 1) := by decide +kernel
theorem dX8_fault_1 : decode cX8_fault 1 = .ok (.ifCond .ne 11, 3) := by decide +kernel
theorem dX8_fault_4 : decode cX8_fault 4 = .ok (.aload_n 0, 1) := by decide +kernel
theorem dX8_fault_5 : decode cX8_fault 5 = .ok (.getfield 32, 3) := by decide +kernel
theorem dX8_fault_8 : decode cX8_fault 8 = .ok (.getfield 100, 3) := by decide +kernel
theorem dX8_fault_11 : decode cX8_fault 11 = .ok (.ireturn, 1) := by decide +kernel
theorem dX8_fault_12 : decode cX8_fault 12 = .ok (.iload_n 1, 1) := by decide +kernel
theorem dX8_fault_13 : decode cX8_fault 13 = .ok (.iconst 1, 1) := by decide +kernel
theorem dX8_fault_14 : decode cX8_fault 14 = .ok (.if_icmp .ne 13, 3) := by decide +kernel
theorem dX8_fault_17 : decode cX8_fault 17 = .ok (.aload_n 0, 1) := by decide +kernel
theorem dX8_fault_18 : decode cX8_fault 18 = .ok (.getfield 32, 3) := by decide +kernel
theorem dX8_fault_21 : decode cX8_fault 21 = .ok (.getfield 103, 3) := by decide +kernel
theorem dX8_fault_24 : decode cX8_fault 24 = .ok (.goto 4, 3) := by decide +kernel
theorem dX8_fault_27 : decode cX8_fault 27 = .ok (.iconst (-1), 1) := by decide +kernel
theorem dX8_fault_28 : decode cX8_fault 28 = .ok (.ireturn, 1) := by decide +kernel
set_option maxRecDepth 20000 in
theorem ggX8_tosses_X0_hasRoof : GoodIn wsX8_tosses wsX0_hasRoof := goodIn_r _ [7, 8, 47, 48, 49, 50, 51, 52, 53, 54, 55, 56, 57, 58, 59, 60, 61, 62] (by decide +kernel) (by decide +kernel)
set_option maxRecDepth 20000 in
theorem gX8_tosses_X0_hasRoof : GoodIn wsX8_tosses (wsV RX8 106 RX0 yX0_hasRoof wsX0_hasRoof) := goodIn_app (goodIn_of _ (by decide +kernel)) ggX8_tosses_X0_hasRoof
theorem dX8_tosses_0 : decode cX8_tosses 0 = .ok (.aload_n 0, 1) := by decide +kernel
theorem dX8_tosses_1 : decode cX8_tosses 1 = .ok (.getfield 10, 3) := by decide +kernel
theorem dX8_tosses_4 : decode cX8_tosses 4 = .ok (.iload_n 1, 1) := by decide +kernel
theorem dX8_tosses_5 : decode cX8_tosses 5 = .ok (.invokevirtual 106, 3) := by decide +kernel
theorem dX8_tosses_8 : decode cX8_tosses 8 = .ok (.ifCond .eq 18, 3) := by decide +kernel
theorem dX8_tosses_26 : decode cX8_tosses 26 = .ok (.bipush (-2), 2) := by decide +kernel
theorem dX8_tosses_28 : decode cX8_tosses 28 = .ok (.ireturn, 1) := by decide +kernel
set_option maxRecDepth 20000 in
theorem ggX8_period_X0_hasRoof : GoodIn wsX8_period wsX0_hasRoof := goodIn_r _ [7, 8, 20, 21, 22, 23, 24, 25, 26, 27, 28, 29, 30, 31, 32, 33, 34, 35] (by decide +kernel) (by decide +kernel)
set_option maxRecDepth 20000 in
theorem gX8_period_X0_hasRoof : GoodIn wsX8_period (wsV RX8 106 RX0 yX0_hasRoof wsX0_hasRoof) := goodIn_app (goodIn_of _ (by decide +kernel)) ggX8_period_X0_hasRoof
theorem dX8_period_0 : decode cX8_period 0 = .ok (.aload_n 0, 1) := by decide +kernel
theorem dX8_period_1 : decode cX8_period 1 = .ok (.getfield 10, 3) := by decide +kernel
theorem dX8_period_4 : decode cX8_period 4 = .ok (.iload_n 1, 1) := by decide +kernel
theorem dX8_period_5 : decode cX8_period 5 = .ok (.invokevirtual 106, 3) := by decide +kernel
theorem dX8_period_8 : decode cX8_period 8 = .ok (.ifCond .eq 15, 3) := by decide +kernel
theorem dX8_period_23 : decode cX8_period 23 = .ok (.bipush (-2), 2) := by decide +kernel
theorem dX8_period_25 : decode cX8_period 25 = .ok (.ireturn, 1) := by decide +kernel
set_option maxRecDepth 20000 in
theorem ggX8_turn_X0_isTold : GoodIn wsX8_turn wsX0_isTold := goodIn_r _ [7, 8, 76, 77, 78, 79, 80, 81, 82, 83, 84, 85, 86, 87, 88, 89, 90, 91] (by decide +kernel) (by decide +kernel)
set_option maxRecDepth 20000 in
theorem gX8_turn_X0_isTold : GoodIn wsX8_turn (wsV RX8 130 RX0 yX0_isTold wsX0_isTold) := goodIn_app (goodIn_of _ (by decide +kernel)) ggX8_turn_X0_isTold
theorem dX8_turn_0 : decode cX8_turn 0 = .ok (.aload_n 0, 1) := by decide +kernel
theorem dX8_turn_1 : decode cX8_turn 1 = .ok (.getfield 10, 3) := by decide +kernel
theorem dX8_turn_4 : decode cX8_turn 4 = .ok (.invokevirtual 130, 3) := by decide +kernel
theorem dX8_turn_7 : decode cX8_turn 7 = .ok (.ifCond .eq 17, 3) := by decide +kernel
theorem dX8_turn_24 : decode cX8_turn 24 = .ok (.bipush (-2), 2) := by decide +kernel
theorem dX8_turn_26 : decode cX8_turn 26 = .ok (.ireturn, 1) := by decide +kernel
set_option maxRecDepth 20000 in
theorem ggX8_set_X0_hasThrow : GoodIn wsX8_set wsX0_hasThrow := goodIn_r _ [6, 7, 8, 9, 10, 5, 11, 12, 53, 54, 55, 56, 57, 58, 59, 60, 61, 62, 63, 64, 65, 66, 67, 68] (by decide +kernel) (by decide +kernel)
set_option maxRecDepth 20000 in
theorem gX8_set_X0_hasThrow : GoodIn wsX8_set (wsV RX8 137 RX0 yX0_hasThrow wsX0_hasThrow) := goodIn_app (goodIn_of _ (by decide +kernel)) ggX8_set_X0_hasThrow
theorem dX8_set_0 : decode cX8_set 0 = .ok (.aload_n 0, 1) := by decide +kernel
theorem dX8_set_1 : decode cX8_set 1 = .ok (.getfield 10, 3) := by decide +kernel
theorem dX8_set_4 : decode cX8_set 4 = .ok (.iload_n 1, 1) := by decide +kernel
theorem dX8_set_5 : decode cX8_set 5 = .ok (.iload_n 2, 1) := by decide +kernel
theorem dX8_set_6 : decode cX8_set 6 = .ok (.invokevirtual 137, 3) := by decide +kernel
theorem dX8_set_9 : decode cX8_set 9 = .ok (.ifCond .eq 24, 3) := by decide +kernel
theorem dX8_set_33 : decode cX8_set 33 = .ok (.bipush (-2), 2) := by decide +kernel
theorem dX8_set_35 : decode cX8_set 35 = .ok (.ireturn, 1) := by decide +kernel
set_option maxRecDepth 20000 in
theorem ggX8_swap_X0_hasThrow : GoodIn wsX8_swap wsX0_hasThrow := goodIn_r _ [6, 7, 8, 9, 10, 5, 11, 12, 58, 59, 60, 61, 62, 63, 64, 65, 66, 67, 68, 69, 70, 71, 72, 73] (by decide +kernel) (by decide +kernel)
set_option maxRecDepth 20000 in
theorem gX8_swap_X0_hasThrow : GoodIn wsX8_swap (wsV RX8 137 RX0 yX0_hasThrow wsX0_hasThrow) := goodIn_app (goodIn_of _ (by decide +kernel)) ggX8_swap_X0_hasThrow
theorem dX8_swap_0 : decode cX8_swap 0 = .ok (.aload_n 0, 1) := by decide +kernel
theorem dX8_swap_1 : decode cX8_swap 1 = .ok (.getfield 10, 3) := by decide +kernel
theorem dX8_swap_4 : decode cX8_swap 4 = .ok (.iload_n 1, 1) := by decide +kernel
theorem dX8_swap_5 : decode cX8_swap 5 = .ok (.iload_n 2, 1) := by decide +kernel
theorem dX8_swap_6 : decode cX8_swap 6 = .ok (.invokevirtual 137, 3) := by decide +kernel
theorem dX8_swap_9 : decode cX8_swap 9 = .ok (.ifCond .eq 20, 3) := by decide +kernel
theorem dX8_swap_29 : decode cX8_swap 29 = .ok (.bipush (-2), 2) := by decide +kernel
theorem dX8_swap_31 : decode cX8_swap 31 = .ok (.ireturn, 1) := by decide +kernel
set_option maxRecDepth 20000 in
theorem ggX8_exchange_X0_hasThrow : GoodIn wsX8_exchange wsX0_hasThrow := goodIn_r _ [7, 8, 9, 10, 11, 6, 12, 13, 59, 60, 61, 62, 63, 64, 65, 66, 67, 68, 69, 70, 71, 72, 73, 74] (by decide +kernel) (by decide +kernel)
set_option maxRecDepth 20000 in
theorem gX8_exchange_X0_hasThrow : GoodIn wsX8_exchange (wsV RX8 137 RX0 yX0_hasThrow wsX0_hasThrow) := goodIn_app (goodIn_of _ (by decide +kernel)) ggX8_exchange_X0_hasThrow
theorem dX8_exchange_0 : decode cX8_exchange 0 = .ok (.aload_n 0, 1) := by decide +kernel
theorem dX8_exchange_1 : decode cX8_exchange 1 = .ok (.getfield 10, 3) := by decide +kernel
theorem dX8_exchange_4 : decode cX8_exchange 4 = .ok (.iload_n 1, 1) := by decide +kernel
theorem dX8_exchange_5 : decode cX8_exchange 5 = .ok (.iload_n 2, 1) := by decide +kernel
theorem dX8_exchange_6 : decode cX8_exchange 6 = .ok (.invokevirtual 137, 3) := by decide +kernel
theorem dX8_exchange_9 : decode cX8_exchange 9 = .ok (.ifCond .eq 21, 3) := by decide +kernel
theorem dX8_exchange_30 : decode cX8_exchange 30 = .ok (.bipush (-2), 2) := by decide +kernel
theorem dX8_exchange_32 : decode cX8_exchange 32 = .ok (.ireturn, 1) := by decide +kernel
set_option maxRecDepth 20000 in
theorem ggX8_shift_X0_hasThrow : GoodIn wsX8_shift wsX0_hasThrow := goodIn_r _ [8, 9, 10, 11, 12, 7, 13, 14, 68, 69, 70, 71, 72, 73, 74, 75, 76, 77, 78, 79, 80, 81, 82, 83] (by decide +kernel) (by decide +kernel)
set_option maxRecDepth 20000 in
theorem gX8_shift_X0_hasThrow : GoodIn wsX8_shift (wsV RX8 137 RX0 yX0_hasThrow wsX0_hasThrow) := goodIn_app (goodIn_of _ (by decide +kernel)) ggX8_shift_X0_hasThrow
theorem dX8_shift_0 : decode cX8_shift 0 = .ok (.aload_n 0, 1) := by decide +kernel
theorem dX8_shift_1 : decode cX8_shift 1 = .ok (.getfield 10, 3) := by decide +kernel
theorem dX8_shift_4 : decode cX8_shift 4 = .ok (.iload_n 1, 1) := by decide +kernel
theorem dX8_shift_5 : decode cX8_shift 5 = .ok (.iload_n 2, 1) := by decide +kernel
theorem dX8_shift_6 : decode cX8_shift 6 = .ok (.invokevirtual 137, 3) := by decide +kernel
theorem dX8_shift_9 : decode cX8_shift 9 = .ok (.ifCond .ne 6, 3) := by decide +kernel
theorem dX8_shift_12 : decode cX8_shift 12 = .ok (.bipush (-2), 2) := by decide +kernel
theorem dX8_shift_14 : decode cX8_shift 14 = .ok (.ireturn, 1) := by decide +kernel
set_option maxRecDepth 20000 in
theorem ggX8_backwards_X0_isTold : GoodIn wsX8_backwards wsX0_isTold := goodIn_r _ [9, 10, 121, 122, 123, 124, 125, 126, 127, 128, 129, 130, 131, 132, 133, 134, 135, 136] (by decide +kernel) (by decide +kernel)
set_option maxRecDepth 20000 in
theorem gX8_backwards_X0_isTold : GoodIn wsX8_backwards (wsV RX8 130 RX0 yX0_isTold wsX0_isTold) := goodIn_app (goodIn_of _ (by decide +kernel)) ggX8_backwards_X0_isTold
theorem dX8_backwards_0 : decode cX8_backwards 0 = .ok (.aload_n 0, 1) := by decide +kernel
theorem dX8_backwards_1 : decode cX8_backwards 1 = .ok (.getfield 10, 3) := by decide +kernel
theorem dX8_backwards_4 : decode cX8_backwards 4 = .ok (.invokevirtual 130, 3) := by decide +kernel
theorem dX8_backwards_7 : decode cX8_backwards 7 = .ok (.ifCond .ne 6, 3) := by decide +kernel
theorem dX8_backwards_10 : decode cX8_backwards 10 = .ok (.bipush (-2), 2) := by decide +kernel
theorem dX8_backwards_12 : decode cX8_backwards 12 = .ok (.ireturn, 1) := by decide +kernel
set_option maxRecDepth 20000 in
theorem ggX8_keeps_X0_isTold : GoodIn wsX8_keeps wsX0_isTold := goodIn_r _ [7, 8, 76, 77, 78, 79, 80, 81, 82, 83, 84, 85, 86, 87, 88, 89, 90, 91] (by decide +kernel) (by decide +kernel)
set_option maxRecDepth 20000 in
theorem gX8_keeps_X0_isTold : GoodIn wsX8_keeps (wsV RX8 130 RX0 yX0_isTold wsX0_isTold) := goodIn_app (goodIn_of _ (by decide +kernel)) ggX8_keeps_X0_isTold
theorem dX8_keeps_0 : decode cX8_keeps 0 = .ok (.aload_n 0, 1) := by decide +kernel
theorem dX8_keeps_1 : decode cX8_keeps 1 = .ok (.getfield 10, 3) := by decide +kernel
theorem dX8_keeps_4 : decode cX8_keeps 4 = .ok (.invokevirtual 130, 3) := by decide +kernel
theorem dX8_keeps_7 : decode cX8_keeps 7 = .ok (.ifCond .ne 6, 3) := by decide +kernel
theorem dX8_keeps_10 : decode cX8_keeps 10 = .ok (.bipush (-2), 2) := by decide +kernel
theorem dX8_keeps_12 : decode cX8_keeps 12 = .ok (.ireturn, 1) := by decide +kernel
set_option maxRecDepth 20000 in
theorem ggX8_clash_X0_isTold : GoodIn wsX8_clash wsX0_isTold := goodIn_r _ [10, 11, 83, 84, 85, 86, 87, 88, 89, 90, 91, 92, 93, 94, 95, 96, 97, 98] (by decide +kernel) (by decide +kernel)
set_option maxRecDepth 20000 in
theorem gX8_clash_X0_isTold : GoodIn wsX8_clash (wsV RX8 130 RX0 yX0_isTold wsX0_isTold) := goodIn_app (goodIn_of _ (by decide +kernel)) ggX8_clash_X0_isTold
theorem dX8_clash_0 : decode cX8_clash 0 = .ok (.aload_n 0, 1) := by decide +kernel
theorem dX8_clash_1 : decode cX8_clash 1 = .ok (.getfield 10, 3) := by decide +kernel
theorem dX8_clash_4 : decode cX8_clash 4 = .ok (.invokevirtual 130, 3) := by decide +kernel
theorem dX8_clash_7 : decode cX8_clash 7 = .ok (.ifCond .eq 11, 3) := by decide +kernel
theorem dX8_clash_18 : decode cX8_clash 18 = .ok (.bipush (-2), 2) := by decide +kernel
theorem dX8_clash_20 : decode cX8_clash 20 = .ok (.ireturn, 1) := by decide +kernel
set_option maxRecDepth 20000 in
theorem ggX8_balls_X0_isTold : GoodIn wsX8_balls wsX0_isTold := goodIn_r _ [7, 8, 84, 85, 86, 87, 88, 89, 90, 91, 92, 93, 94, 95, 96, 97, 98, 99] (by decide +kernel) (by decide +kernel)
set_option maxRecDepth 20000 in
theorem gX8_balls_X0_isTold : GoodIn wsX8_balls (wsV RX8 130 RX0 yX0_isTold wsX0_isTold) := goodIn_app (goodIn_of _ (by decide +kernel)) ggX8_balls_X0_isTold
theorem dX8_balls_0 : decode cX8_balls 0 = .ok (.aload_n 0, 1) := by decide +kernel
theorem dX8_balls_1 : decode cX8_balls 1 = .ok (.getfield 10, 3) := by decide +kernel
theorem dX8_balls_4 : decode cX8_balls 4 = .ok (.invokevirtual 130, 3) := by decide +kernel
theorem dX8_balls_7 : decode cX8_balls 7 = .ok (.ifCond .ne 6, 3) := by decide +kernel
theorem dX8_balls_10 : decode cX8_balls 10 = .ok (.bipush (-2), 2) := by decide +kernel
theorem dX8_balls_12 : decode cX8_balls 12 = .ok (.ireturn, 1) := by decide +kernel
set_option maxRecDepth 20000 in
theorem ggX8_lands_X0_hasRoof : GoodIn wsX8_lands wsX0_hasRoof := goodIn_r _ [7, 8, 88, 89, 90, 91, 92, 93, 94, 95, 96, 97, 98, 99, 100, 101, 102, 103] (by decide +kernel) (by decide +kernel)
set_option maxRecDepth 20000 in
theorem gX8_lands_X0_hasRoof : GoodIn wsX8_lands (wsV RX8 106 RX0 yX0_hasRoof wsX0_hasRoof) := goodIn_app (goodIn_of _ (by decide +kernel)) ggX8_lands_X0_hasRoof
theorem dX8_lands_0 : decode cX8_lands 0 = .ok (.aload_n 0, 1) := by decide +kernel
theorem dX8_lands_1 : decode cX8_lands 1 = .ok (.getfield 10, 3) := by decide +kernel
theorem dX8_lands_4 : decode cX8_lands 4 = .ok (.iload_n 1, 1) := by decide +kernel
theorem dX8_lands_5 : decode cX8_lands 5 = .ok (.invokevirtual 106, 3) := by decide +kernel
theorem dX8_lands_8 : decode cX8_lands 8 = .ok (.ifCond .eq 10, 3) := by decide +kernel
theorem dX8_lands_18 : decode cX8_lands 18 = .ok (.bipush (-2), 2) := by decide +kernel
theorem dX8_lands_20 : decode cX8_lands 20 = .ok (.ireturn, 1) := by decide +kernel
set_option maxRecDepth 20000 in
theorem ggX8_air_X0_isTold : GoodIn wsX8_air wsX0_isTold := goodIn_r _ [7, 8, 88, 89, 90, 91, 92, 93, 94, 95, 96, 97, 98, 99, 100, 101, 102, 103] (by decide +kernel) (by decide +kernel)
set_option maxRecDepth 20000 in
theorem gX8_air_X0_isTold : GoodIn wsX8_air (wsV RX8 130 RX0 yX0_isTold wsX0_isTold) := goodIn_app (goodIn_of _ (by decide +kernel)) ggX8_air_X0_isTold
theorem dX8_air_0 : decode cX8_air 0 = .ok (.aload_n 0, 1) := by decide +kernel
theorem dX8_air_1 : decode cX8_air 1 = .ok (.getfield 10, 3) := by decide +kernel
theorem dX8_air_4 : decode cX8_air 4 = .ok (.invokevirtual 130, 3) := by decide +kernel
theorem dX8_air_7 : decode cX8_air 7 = .ok (.ifCond .eq 10, 3) := by decide +kernel
theorem dX8_air_17 : decode cX8_air 17 = .ok (.bipush (-2), 2) := by decide +kernel
theorem dX8_air_19 : decode cX8_air 19 = .ok (.ireturn, 1) := by decide +kernel
set_option maxRecDepth 20000 in
theorem ggX8_ball_X0_hasRoof : GoodIn wsX8_ball wsX0_hasRoof := goodIn_r _ [9, 10, 108, 109, 110, 111, 112, 113, 114, 115, 116, 117, 118, 119, 120, 121, 122, 123] (by decide +kernel) (by decide +kernel)
set_option maxRecDepth 20000 in
theorem gX8_ball_X0_hasRoof : GoodIn wsX8_ball (wsV RX8 106 RX0 yX0_hasRoof wsX0_hasRoof) := goodIn_app (goodIn_of _ (by decide +kernel)) ggX8_ball_X0_hasRoof
theorem dX8_ball_0 : decode cX8_ball 0 = .ok (.aload_n 0, 1) := by decide +kernel
theorem dX8_ball_1 : decode cX8_ball 1 = .ok (.getfield 10, 3) := by decide +kernel
theorem dX8_ball_4 : decode cX8_ball 4 = .ok (.iload_n 1, 1) := by decide +kernel
theorem dX8_ball_5 : decode cX8_ball 5 = .ok (.invokevirtual 106, 3) := by decide +kernel
theorem dX8_ball_8 : decode cX8_ball 8 = .ok (.ifCond .eq 29, 3) := by decide +kernel
theorem dX8_ball_37 : decode cX8_ball 37 = .ok (.bipush (-2), 2) := by decide +kernel
theorem dX8_ball_39 : decode cX8_ball 39 = .ok (.ireturn, 1) := by decide +kernel
set_option maxRecDepth 20000 in
theorem ggX8_orbit_X0_hasRoof : GoodIn wsX8_orbit wsX0_hasRoof := goodIn_r _ [11, 12, 118, 119, 120, 121, 122, 123, 124, 125, 126, 127, 128, 129, 130, 131, 132, 133] (by decide +kernel) (by decide +kernel)
set_option maxRecDepth 20000 in
theorem gX8_orbit_X0_hasRoof : GoodIn wsX8_orbit (wsV RX8 106 RX0 yX0_hasRoof wsX0_hasRoof) := goodIn_app (goodIn_of _ (by decide +kernel)) ggX8_orbit_X0_hasRoof
theorem dX8_orbit_0 : decode cX8_orbit 0 = .ok (.aload_n 0, 1) := by decide +kernel
theorem dX8_orbit_1 : decode cX8_orbit 1 = .ok (.getfield 10, 3) := by decide +kernel
theorem dX8_orbit_4 : decode cX8_orbit 4 = .ok (.iload_n 1, 1) := by decide +kernel
theorem dX8_orbit_5 : decode cX8_orbit 5 = .ok (.invokevirtual 106, 3) := by decide +kernel
theorem dX8_orbit_8 : decode cX8_orbit 8 = .ok (.ifCond .eq 18, 3) := by decide +kernel
theorem dX8_orbit_26 : decode cX8_orbit 26 = .ok (.bipush (-2), 2) := by decide +kernel
theorem dX8_orbit_28 : decode cX8_orbit 28 = .ok (.ireturn, 1) := by decide +kernel
set_option maxRecDepth 20000 in
theorem ggX8_orbits_X0_isTold : GoodIn wsX8_orbits wsX0_isTold := goodIn_r _ [7, 8, 99, 100, 101, 102, 103, 104, 105, 106, 107, 108, 109, 110, 111, 112, 113, 114] (by decide +kernel) (by decide +kernel)
set_option maxRecDepth 20000 in
theorem gX8_orbits_X0_isTold : GoodIn wsX8_orbits (wsV RX8 130 RX0 yX0_isTold wsX0_isTold) := goodIn_app (goodIn_of _ (by decide +kernel)) ggX8_orbits_X0_isTold
theorem dX8_orbits_0 : decode cX8_orbits 0 = .ok (.aload_n 0, 1) := by decide +kernel
theorem dX8_orbits_1 : decode cX8_orbits 1 = .ok (.getfield 10, 3) := by decide +kernel
theorem dX8_orbits_4 : decode cX8_orbits 4 = .ok (.invokevirtual 130, 3) := by decide +kernel
theorem dX8_orbits_7 : decode cX8_orbits 7 = .ok (.ifCond .ne 6, 3) := by decide +kernel
theorem dX8_orbits_10 : decode cX8_orbits 10 = .ok (.bipush (-2), 2) := by decide +kernel
theorem dX8_orbits_12 : decode cX8_orbits 12 = .ok (.ireturn, 1) := by decide +kernel
set_option maxRecDepth 20000 in
theorem ggX8_same_X0_hasRoof : GoodIn wsX8_same wsX0_hasRoof := goodIn_r _ [7, 8, 110, 111, 112, 113, 114, 115, 116, 117, 118, 119, 120, 121, 122, 123, 124, 125] (by decide +kernel) (by decide +kernel)
set_option maxRecDepth 20000 in
theorem gX8_same_X0_hasRoof : GoodIn wsX8_same (wsV RX8 106 RX0 yX0_hasRoof wsX0_hasRoof) := goodIn_app (goodIn_of _ (by decide +kernel)) ggX8_same_X0_hasRoof
theorem dX8_same_0 : decode cX8_same 0 = .ok (.aload_n 0, 1) := by decide +kernel
theorem dX8_same_1 : decode cX8_same 1 = .ok (.getfield 10, 3) := by decide +kernel
theorem dX8_same_4 : decode cX8_same 4 = .ok (.iload_n 1, 1) := by decide +kernel
theorem dX8_same_5 : decode cX8_same 5 = .ok (.invokevirtual 106, 3) := by decide +kernel
theorem dX8_same_8 : decode cX8_same 8 = .ok (.ifCond .eq 29, 3) := by decide +kernel
theorem dX8_same_37 : decode cX8_same 37 = .ok (.bipush (-2), 2) := by decide +kernel
theorem dX8_same_39 : decode cX8_same 39 = .ok (.ireturn, 1) := by decide +kernel
set_option maxRecDepth 20000 in
theorem ggX8_misses_X0_hasRoof : GoodIn wsX8_misses wsX0_hasRoof := goodIn_r _ [7, 8, 102, 103, 104, 105, 106, 107, 108, 109, 110, 111, 112, 113, 114, 115, 116, 117] (by decide +kernel) (by decide +kernel)
set_option maxRecDepth 20000 in
theorem gX8_misses_X0_hasRoof : GoodIn wsX8_misses (wsV RX8 106 RX0 yX0_hasRoof wsX0_hasRoof) := goodIn_app (goodIn_of _ (by decide +kernel)) ggX8_misses_X0_hasRoof
theorem dX8_misses_0 : decode cX8_misses 0 = .ok (.aload_n 0, 1) := by decide +kernel
theorem dX8_misses_1 : decode cX8_misses 1 = .ok (.getfield 10, 3) := by decide +kernel
theorem dX8_misses_4 : decode cX8_misses 4 = .ok (.iload_n 1, 1) := by decide +kernel
theorem dX8_misses_5 : decode cX8_misses 5 = .ok (.invokevirtual 106, 3) := by decide +kernel
theorem dX8_misses_8 : decode cX8_misses 8 = .ok (.ifCond .eq 21, 3) := by decide +kernel
theorem dX8_misses_29 : decode cX8_misses 29 = .ok (.bipush (-2), 2) := by decide +kernel
theorem dX8_misses_31 : decode cX8_misses 31 = .ok (.ireturn, 1) := by decide +kernel
set_option maxRecDepth 20000 in
theorem ggX8_missed_X0_hasRoof : GoodIn wsX8_missed wsX0_hasRoof := goodIn_r _ [7, 8, 106, 107, 108, 109, 110, 111, 112, 113, 114, 115, 116, 117, 118, 119, 120, 121] (by decide +kernel) (by decide +kernel)
set_option maxRecDepth 20000 in
theorem gX8_missed_X0_hasRoof : GoodIn wsX8_missed (wsV RX8 106 RX0 yX0_hasRoof wsX0_hasRoof) := goodIn_app (goodIn_of _ (by decide +kernel)) ggX8_missed_X0_hasRoof
theorem dX8_missed_0 : decode cX8_missed 0 = .ok (.aload_n 0, 1) := by decide +kernel
theorem dX8_missed_1 : decode cX8_missed 1 = .ok (.getfield 10, 3) := by decide +kernel
theorem dX8_missed_4 : decode cX8_missed 4 = .ok (.iload_n 1, 1) := by decide +kernel
theorem dX8_missed_5 : decode cX8_missed 5 = .ok (.invokevirtual 106, 3) := by decide +kernel
theorem dX8_missed_8 : decode cX8_missed 8 = .ok (.ifCond .eq 32, 3) := by decide +kernel
theorem dX8_missed_40 : decode cX8_missed 40 = .ok (.bipush (-2), 2) := by decide +kernel
theorem dX8_missed_42 : decode cX8_missed 42 = .ok (.ireturn, 1) := by decide +kernel
set_option maxRecDepth 20000 in
theorem ggX8_crossings_X0_isTold : GoodIn wsX8_crossings wsX0_isTold := goodIn_r _ [8, 9, 88, 89, 90, 91, 92, 93, 94, 95, 96, 97, 98, 99, 100, 101, 102, 103] (by decide +kernel) (by decide +kernel)
set_option maxRecDepth 20000 in
theorem gX8_crossings_X0_isTold : GoodIn wsX8_crossings (wsV RX8 130 RX0 yX0_isTold wsX0_isTold) := goodIn_app (goodIn_of _ (by decide +kernel)) ggX8_crossings_X0_isTold
theorem dX8_crossings_0 : decode cX8_crossings 0 = .ok (.aload_n 0, 1) := by decide +kernel
theorem dX8_crossings_1 : decode cX8_crossings 1 = .ok (.getfield 10, 3) := by decide +kernel
theorem dX8_crossings_4 : decode cX8_crossings 4 = .ok (.invokevirtual 130, 3) := by decide +kernel
theorem dX8_crossings_7 : decode cX8_crossings 7 = .ok (.ifCond .eq 11, 3) := by decide +kernel
theorem dX8_crossings_18 : decode cX8_crossings 18 = .ok (.bipush (-2), 2) := by decide +kernel
theorem dX8_crossings_20 : decode cX8_crossings 20 = .ok (.ireturn, 1) := by decide +kernel
set_option maxRecDepth 20000 in
theorem ggX8_suits_X0_hasRoof : GoodIn wsX8_suits wsX0_hasRoof := goodIn_r _ [6, 7, 96, 97, 98, 99, 100, 101, 102, 103, 104, 105, 106, 107, 108, 109, 110, 111] (by decide +kernel) (by decide +kernel)
set_option maxRecDepth 20000 in
theorem gX8_suits_X0_hasRoof : GoodIn wsX8_suits (wsV RX8 106 RX0 yX0_hasRoof wsX0_hasRoof) := goodIn_app (goodIn_of _ (by decide +kernel)) ggX8_suits_X0_hasRoof
theorem dX8_suits_0 : decode cX8_suits 0 = .ok (.aload_n 0, 1) := by decide +kernel
theorem dX8_suits_1 : decode cX8_suits 1 = .ok (.getfield 10, 3) := by decide +kernel
theorem dX8_suits_4 : decode cX8_suits 4 = .ok (.iload_n 1, 1) := by decide +kernel
theorem dX8_suits_5 : decode cX8_suits 5 = .ok (.invokevirtual 106, 3) := by decide +kernel
theorem dX8_suits_8 : decode cX8_suits 8 = .ok (.ifCond .ne 6, 3) := by decide +kernel
theorem dX8_suits_11 : decode cX8_suits 11 = .ok (.bipush (-2), 2) := by decide +kernel
theorem dX8_suits_13 : decode cX8_suits 13 = .ok (.ireturn, 1) := by decide +kernel
set_option maxRecDepth 20000 in
theorem ggX8_unsuited_X0_hasRoof : GoodIn wsX8_unsuited wsX0_hasRoof := goodIn_r _ [6, 7, 96, 97, 98, 99, 100, 101, 102, 103, 104, 105, 106, 107, 108, 109, 110, 111] (by decide +kernel) (by decide +kernel)
set_option maxRecDepth 20000 in
theorem gX8_unsuited_X0_hasRoof : GoodIn wsX8_unsuited (wsV RX8 106 RX0 yX0_hasRoof wsX0_hasRoof) := goodIn_app (goodIn_of _ (by decide +kernel)) ggX8_unsuited_X0_hasRoof
theorem dX8_unsuited_0 : decode cX8_unsuited 0 = .ok (.aload_n 0, 1) := by decide +kernel
theorem dX8_unsuited_1 : decode cX8_unsuited 1 = .ok (.getfield 10, 3) := by decide +kernel
theorem dX8_unsuited_4 : decode cX8_unsuited 4 = .ok (.iload_n 1, 1) := by decide +kernel
theorem dX8_unsuited_5 : decode cX8_unsuited 5 = .ok (.invokevirtual 106, 3) := by decide +kernel
theorem dX8_unsuited_8 : decode cX8_unsuited 8 = .ok (.ifCond .eq 11, 3) := by decide +kernel
theorem dX8_unsuited_19 : decode cX8_unsuited 19 = .ok (.bipush (-2), 2) := by decide +kernel
theorem dX8_unsuited_21 : decode cX8_unsuited 21 = .ok (.ireturn, 1) := by decide +kernel
set_option maxRecDepth 20000 in
theorem ggX8_wages_X0_hasRoof : GoodIn wsX8_wages wsX0_hasRoof := goodIn_r _ [9, 10, 45, 46, 47, 48, 49, 50, 51, 52, 53, 54, 55, 56, 57, 58, 59, 60] (by decide +kernel) (by decide +kernel)
set_option maxRecDepth 20000 in
theorem gX8_wages_X0_hasRoof : GoodIn wsX8_wages (wsV RX8 106 RX0 yX0_hasRoof wsX0_hasRoof) := goodIn_app (goodIn_of _ (by decide +kernel)) ggX8_wages_X0_hasRoof
theorem dX8_wages_0 : decode cX8_wages 0 = .ok (.aload_n 0, 1) := by decide +kernel
theorem dX8_wages_1 : decode cX8_wages 1 = .ok (.getfield 10, 3) := by decide +kernel
theorem dX8_wages_4 : decode cX8_wages 4 = .ok (.iload_n 1, 1) := by decide +kernel
theorem dX8_wages_5 : decode cX8_wages 5 = .ok (.invokevirtual 106, 3) := by decide +kernel
theorem dX8_wages_8 : decode cX8_wages 8 = .ok (.ifCond .eq 13, 3) := by decide +kernel
theorem dX8_wages_21 : decode cX8_wages 21 = .ok (.ldc2_w 237, 3) := by decide +kernel
theorem dX8_wages_24 : decode cX8_wages 24 = .ok (.lreturn, 1) := by decide +kernel
set_option maxRecDepth 20000 in
theorem ggX8_carries_X0_hasRoof : GoodIn wsX8_carries wsX0_hasRoof := goodIn_r _ [7, 8, 78, 79, 80, 81, 82, 83, 84, 85, 86, 87, 88, 89, 90, 91, 92, 93] (by decide +kernel) (by decide +kernel)
set_option maxRecDepth 20000 in
theorem gX8_carries_X0_hasRoof : GoodIn wsX8_carries (wsV RX8 106 RX0 yX0_hasRoof wsX0_hasRoof) := goodIn_app (goodIn_of _ (by decide +kernel)) ggX8_carries_X0_hasRoof
theorem dX8_carries_0 : decode cX8_carries 0 = .ok (.aload_n 0, 1) := by decide +kernel
theorem dX8_carries_1 : decode cX8_carries 1 = .ok (.getfield 10, 3) := by decide +kernel
theorem dX8_carries_4 : decode cX8_carries 4 = .ok (.iload_n 1, 1) := by decide +kernel
theorem dX8_carries_5 : decode cX8_carries 5 = .ok (.invokevirtual 106, 3) := by decide +kernel
theorem dX8_carries_8 : decode cX8_carries 8 = .ok (.ifCond .eq 14, 3) := by decide +kernel
theorem dX8_carries_22 : decode cX8_carries 22 = .ok (.bipush (-2), 2) := by decide +kernel
theorem dX8_carries_24 : decode cX8_carries 24 = .ok (.ireturn, 1) := by decide +kernel
set_option maxRecDepth 20000 in
theorem ggX8_busiest_X0_isTold : GoodIn wsX8_busiest wsX0_isTold := goodIn_r _ [7, 8, 85, 86, 87, 88, 89, 90, 91, 92, 93, 94, 95, 96, 97, 98, 99, 100] (by decide +kernel) (by decide +kernel)
set_option maxRecDepth 20000 in
theorem gX8_busiest_X0_isTold : GoodIn wsX8_busiest (wsV RX8 130 RX0 yX0_isTold wsX0_isTold) := goodIn_app (goodIn_of _ (by decide +kernel)) ggX8_busiest_X0_isTold
theorem dX8_busiest_0 : decode cX8_busiest 0 = .ok (.aload_n 0, 1) := by decide +kernel
theorem dX8_busiest_1 : decode cX8_busiest 1 = .ok (.getfield 10, 3) := by decide +kernel
theorem dX8_busiest_4 : decode cX8_busiest 4 = .ok (.invokevirtual 130, 3) := by decide +kernel
theorem dX8_busiest_7 : decode cX8_busiest 7 = .ok (.ifCond .eq 11, 3) := by decide +kernel
theorem dX8_busiest_18 : decode cX8_busiest 18 = .ok (.bipush (-2), 2) := by decide +kernel
theorem dX8_busiest_20 : decode cX8_busiest 20 = .ok (.ireturn, 1) := by decide +kernel
set_option maxRecDepth 20000 in
theorem ggX8_silent_X0_hasRoof : GoodIn wsX8_silent wsX0_hasRoof := goodIn_r _ [7, 8, 77, 78, 79, 80, 81, 82, 83, 84, 85, 86, 87, 88, 89, 90, 91, 92] (by decide +kernel) (by decide +kernel)
set_option maxRecDepth 20000 in
theorem gX8_silent_X0_hasRoof : GoodIn wsX8_silent (wsV RX8 106 RX0 yX0_hasRoof wsX0_hasRoof) := goodIn_app (goodIn_of _ (by decide +kernel)) ggX8_silent_X0_hasRoof
theorem dX8_silent_0 : decode cX8_silent 0 = .ok (.aload_n 0, 1) := by decide +kernel
theorem dX8_silent_1 : decode cX8_silent 1 = .ok (.getfield 10, 3) := by decide +kernel
theorem dX8_silent_4 : decode cX8_silent 4 = .ok (.iload_n 1, 1) := by decide +kernel
theorem dX8_silent_5 : decode cX8_silent 5 = .ok (.invokevirtual 106, 3) := by decide +kernel
theorem dX8_silent_8 : decode cX8_silent 8 = .ok (.ifCond .ne 6, 3) := by decide +kernel
theorem dX8_silent_11 : decode cX8_silent 11 = .ok (.bipush (-2), 2) := by decide +kernel
theorem dX8_silent_13 : decode cX8_silent 13 = .ok (.ireturn, 1) := by decide +kernel
set_option maxRecDepth 20000 in
theorem ggX8_letter_X0_hasLetter : GoodIn wsX8_letter wsX0_hasLetter := goodIn_r _ [7, 8, 24, 25, 26, 27, 28, 29, 30, 31, 32, 33, 34, 35, 36, 37, 38, 39] (by decide +kernel) (by decide +kernel)
set_option maxRecDepth 20000 in
theorem gX8_letter_X0_hasLetter : GoodIn wsX8_letter (wsV RX8 244 RX0 yX0_hasLetter wsX0_hasLetter) := goodIn_app (goodIn_of _ (by decide +kernel)) ggX8_letter_X0_hasLetter
theorem dX8_letter_0 : decode cX8_letter 0 = .ok (.aload_n 0, 1) := by decide +kernel
theorem dX8_letter_1 : decode cX8_letter 1 = .ok (.getfield 10, 3) := by decide +kernel
theorem dX8_letter_4 : decode cX8_letter 4 = .ok (.iload_n 1, 1) := by decide +kernel
theorem dX8_letter_5 : decode cX8_letter 5 = .ok (.invokevirtual 244, 3) := by decide +kernel
theorem dX8_letter_8 : decode cX8_letter 8 = .ok (.ifCond .eq 27, 3) := by decide +kernel
theorem dX8_letter_35 : decode cX8_letter 35 = .ok (.bipush (-2), 2) := by decide +kernel
theorem dX8_letter_37 : decode cX8_letter 37 = .ok (.ireturn, 1) := by decide +kernel
set_option maxRecDepth 20000 in
theorem ggX8_alone_X0_hasLetter : GoodIn wsX8_alone wsX0_hasLetter := goodIn_r _ [8, 9, 96, 97, 98, 99, 100, 101, 102, 103, 104, 105, 106, 107, 108, 109, 110, 111] (by decide +kernel) (by decide +kernel)
set_option maxRecDepth 20000 in
theorem gX8_alone_X0_hasLetter : GoodIn wsX8_alone (wsV RX8 244 RX0 yX0_hasLetter wsX0_hasLetter) := goodIn_app (goodIn_of _ (by decide +kernel)) ggX8_alone_X0_hasLetter
theorem dX8_alone_0 : decode cX8_alone 0 = .ok (.aload_n 0, 1) := by decide +kernel
theorem dX8_alone_1 : decode cX8_alone 1 = .ok (.getfield 10, 3) := by decide +kernel
theorem dX8_alone_4 : decode cX8_alone 4 = .ok (.iload_n 1, 1) := by decide +kernel
theorem dX8_alone_5 : decode cX8_alone 5 = .ok (.invokevirtual 244, 3) := by decide +kernel
theorem dX8_alone_8 : decode cX8_alone 8 = .ok (.ifCond .ne 6, 3) := by decide +kernel
theorem dX8_alone_11 : decode cX8_alone 11 = .ok (.bipush (-2), 2) := by decide +kernel
theorem dX8_alone_13 : decode cX8_alone 13 = .ok (.ireturn, 1) := by decide +kernel
set_option maxRecDepth 20000 in
theorem ggX8_soonest_X0_hasLetter : GoodIn wsX8_soonest wsX0_hasLetter := goodIn_r _ [10, 11, 105, 106, 107, 108, 109, 110, 111, 112, 113, 114, 115, 116, 117, 118, 119, 120] (by decide +kernel) (by decide +kernel)
set_option maxRecDepth 20000 in
theorem gX8_soonest_X0_hasLetter : GoodIn wsX8_soonest (wsV RX8 244 RX0 yX0_hasLetter wsX0_hasLetter) := goodIn_app (goodIn_of _ (by decide +kernel)) ggX8_soonest_X0_hasLetter
theorem dX8_soonest_0 : decode cX8_soonest 0 = .ok (.aload_n 0, 1) := by decide +kernel
theorem dX8_soonest_1 : decode cX8_soonest 1 = .ok (.getfield 10, 3) := by decide +kernel
theorem dX8_soonest_4 : decode cX8_soonest 4 = .ok (.iload_n 1, 1) := by decide +kernel
theorem dX8_soonest_5 : decode cX8_soonest 5 = .ok (.invokevirtual 244, 3) := by decide +kernel
theorem dX8_soonest_8 : decode cX8_soonest 8 = .ok (.ifCond .eq 11, 3) := by decide +kernel
theorem dX8_soonest_19 : decode cX8_soonest 19 = .ok (.bipush (-2), 2) := by decide +kernel
theorem dX8_soonest_21 : decode cX8_soonest 21 = .ok (.ireturn, 1) := by decide +kernel
set_option maxRecDepth 20000 in
theorem ggX8_way_X0_hasLetter : GoodIn wsX8_way wsX0_hasLetter := goodIn_r _ [9, 10, 100, 101, 102, 103, 104, 105, 106, 107, 108, 109, 110, 111, 112, 113, 114, 115] (by decide +kernel) (by decide +kernel)
set_option maxRecDepth 20000 in
theorem gX8_way_X0_hasLetter : GoodIn wsX8_way (wsV RX8 244 RX0 yX0_hasLetter wsX0_hasLetter) := goodIn_app (goodIn_of _ (by decide +kernel)) ggX8_way_X0_hasLetter
theorem dX8_way_0 : decode cX8_way 0 = .ok (.aload_n 0, 1) := by decide +kernel
theorem dX8_way_1 : decode cX8_way 1 = .ok (.getfield 10, 3) := by decide +kernel
theorem dX8_way_4 : decode cX8_way 4 = .ok (.iload_n 1, 1) := by decide +kernel
theorem dX8_way_5 : decode cX8_way 5 = .ok (.invokevirtual 244, 3) := by decide +kernel
theorem dX8_way_8 : decode cX8_way 8 = .ok (.ifCond .eq 7, 3) := by decide +kernel
theorem dX8_way_15 : decode cX8_way 15 = .ok (.bipush (-2), 2) := by decide +kernel
theorem dX8_way_17 : decode cX8_way 17 = .ok (.ireturn, 1) := by decide +kernel
set_option maxRecDepth 20000 in
theorem ggX8_readers_X0_hasLetter : GoodIn wsX8_readers wsX0_hasLetter := goodIn_r _ [8, 9, 100, 101, 102, 103, 104, 105, 106, 107, 108, 109, 110, 111, 112, 113, 114, 115] (by decide +kernel) (by decide +kernel)
set_option maxRecDepth 20000 in
theorem gX8_readers_X0_hasLetter : GoodIn wsX8_readers (wsV RX8 244 RX0 yX0_hasLetter wsX0_hasLetter) := goodIn_app (goodIn_of _ (by decide +kernel)) ggX8_readers_X0_hasLetter
theorem dX8_readers_0 : decode cX8_readers 0 = .ok (.aload_n 0, 1) := by decide +kernel
theorem dX8_readers_1 : decode cX8_readers 1 = .ok (.getfield 10, 3) := by decide +kernel
theorem dX8_readers_4 : decode cX8_readers 4 = .ok (.iload_n 1, 1) := by decide +kernel
theorem dX8_readers_5 : decode cX8_readers 5 = .ok (.invokevirtual 244, 3) := by decide +kernel
theorem dX8_readers_8 : decode cX8_readers 8 = .ok (.ifCond .eq 10, 3) := by decide +kernel
theorem dX8_readers_18 : decode cX8_readers 18 = .ok (.bipush (-2), 2) := by decide +kernel
theorem dX8_readers_20 : decode cX8_readers 20 = .ok (.ireturn, 1) := by decide +kernel
set_option maxRecDepth 20000 in
theorem ggX8_latest_X0_hasLetter : GoodIn wsX8_latest wsX0_hasLetter := goodIn_r _ [7, 8, 71, 72, 73, 74, 75, 76, 77, 78, 79, 80, 81, 82, 83, 84, 85, 86] (by decide +kernel) (by decide +kernel)
set_option maxRecDepth 20000 in
theorem gX8_latest_X0_hasLetter : GoodIn wsX8_latest (wsV RX8 244 RX0 yX0_hasLetter wsX0_hasLetter) := goodIn_app (goodIn_of _ (by decide +kernel)) ggX8_latest_X0_hasLetter
theorem dX8_latest_0 : decode cX8_latest 0 = .ok (.aload_n 0, 1) := by decide +kernel
theorem dX8_latest_1 : decode cX8_latest 1 = .ok (.getfield 10, 3) := by decide +kernel
theorem dX8_latest_4 : decode cX8_latest 4 = .ok (.iload_n 1, 1) := by decide +kernel
theorem dX8_latest_5 : decode cX8_latest 5 = .ok (.invokevirtual 244, 3) := by decide +kernel
theorem dX8_latest_8 : decode cX8_latest 8 = .ok (.ifCond .eq 10, 3) := by decide +kernel
theorem dX8_latest_18 : decode cX8_latest 18 = .ok (.bipush (-2), 2) := by decide +kernel
theorem dX8_latest_20 : decode cX8_latest 20 = .ok (.ireturn, 1) := by decide +kernel
set_option maxRecDepth 20000 in
theorem ggX8_state_X0_hasThrow : GoodIn wsX8_state wsX0_hasThrow := goodIn_r _ [7, 8, 9, 10, 11, 6, 12, 13, 52, 53, 54, 55, 56, 57, 58, 59, 60, 61, 62, 63, 64, 65, 66, 67] (by decide +kernel) (by decide +kernel)
set_option maxRecDepth 20000 in
theorem gX8_state_X0_hasThrow : GoodIn wsX8_state (wsV RX8 137 RX0 yX0_hasThrow wsX0_hasThrow) := goodIn_app (goodIn_of _ (by decide +kernel)) ggX8_state_X0_hasThrow
theorem dX8_state_0 : decode cX8_state 0 = .ok (.aload_n 0, 1) := by decide +kernel
theorem dX8_state_1 : decode cX8_state 1 = .ok (.getfield 10, 3) := by decide +kernel
theorem dX8_state_4 : decode cX8_state 4 = .ok (.iload_n 1, 1) := by decide +kernel
theorem dX8_state_5 : decode cX8_state 5 = .ok (.iload_n 2, 1) := by decide +kernel
theorem dX8_state_6 : decode cX8_state 6 = .ok (.invokevirtual 137, 3) := by decide +kernel
theorem dX8_state_9 : decode cX8_state 9 = .ok (.ifCond .eq 19, 3) := by decide +kernel
theorem dX8_state_28 : decode cX8_state 28 = .ok (.bipush (-2), 2) := by decide +kernel
theorem dX8_state_30 : decode cX8_state 30 = .ok (.ireturn, 1) := by decide +kernel
set_option maxRecDepth 20000 in
theorem ggX8_change_X0_hasThrow : GoodIn wsX8_change wsX0_hasThrow := goodIn_r _ [7, 8, 9, 10, 11, 6, 12, 13, 73, 74, 75, 76, 77, 78, 79, 80, 81, 82, 83, 84, 85, 86, 87, 88] (by decide +kernel) (by decide +kernel)
set_option maxRecDepth 20000 in
theorem gX8_change_X0_hasThrow : GoodIn wsX8_change (wsV RX8 137 RX0 yX0_hasThrow wsX0_hasThrow) := goodIn_app (goodIn_of _ (by decide +kernel)) ggX8_change_X0_hasThrow
theorem dX8_change_0 : decode cX8_change 0 = .ok (.aload_n 0, 1) := by decide +kernel
theorem dX8_change_1 : decode cX8_change 1 = .ok (.getfield 10, 3) := by decide +kernel
theorem dX8_change_4 : decode cX8_change 4 = .ok (.iload_n 1, 1) := by decide +kernel
theorem dX8_change_5 : decode cX8_change 5 = .ok (.iload_n 2, 1) := by decide +kernel
theorem dX8_change_6 : decode cX8_change 6 = .ok (.invokevirtual 137, 3) := by decide +kernel
theorem dX8_change_9 : decode cX8_change 9 = .ok (.ifCond .eq 16, 3) := by decide +kernel
theorem dX8_change_25 : decode cX8_change 25 = .ok (.bipush (-2), 2) := by decide +kernel
theorem dX8_change_27 : decode cX8_change 27 = .ok (.ireturn, 1) := by decide +kernel
set_option maxRecDepth 20000 in
theorem ggX8_changes_X0_hasThrow : GoodIn wsX8_changes wsX0_hasThrow := goodIn_r _ [7, 8, 9, 10, 11, 6, 12, 13, 84, 85, 86, 87, 88, 89, 90, 91, 92, 93, 94, 95, 96, 97, 98, 99] (by decide +kernel) (by decide +kernel)
set_option maxRecDepth 20000 in
theorem gX8_changes_X0_hasThrow : GoodIn wsX8_changes (wsV RX8 137 RX0 yX0_hasThrow wsX0_hasThrow) := goodIn_app (goodIn_of _ (by decide +kernel)) ggX8_changes_X0_hasThrow
theorem dX8_changes_0 : decode cX8_changes 0 = .ok (.aload_n 0, 1) := by decide +kernel
theorem dX8_changes_1 : decode cX8_changes 1 = .ok (.getfield 10, 3) := by decide +kernel
theorem dX8_changes_4 : decode cX8_changes 4 = .ok (.iload_n 1, 1) := by decide +kernel
theorem dX8_changes_5 : decode cX8_changes 5 = .ok (.iload_n 2, 1) := by decide +kernel
theorem dX8_changes_6 : decode cX8_changes 6 = .ok (.invokevirtual 137, 3) := by decide +kernel
theorem dX8_changes_9 : decode cX8_changes 9 = .ok (.ifCond .eq 21, 3) := by decide +kernel
theorem dX8_changes_30 : decode cX8_changes 30 = .ok (.bipush (-2), 2) := by decide +kernel
theorem dX8_changes_32 : decode cX8_changes 32 = .ok (.ireturn, 1) := by decide +kernel
set_option maxRecDepth 20000 in
theorem ggX8_ground_X0_hasThrow : GoodIn wsX8_ground wsX0_hasThrow := goodIn_r _ [7, 8, 9, 10, 11, 6, 12, 13, 80, 81, 82, 83, 84, 85, 86, 87, 88, 89, 90, 91, 92, 93, 94, 95] (by decide +kernel) (by decide +kernel)
set_option maxRecDepth 20000 in
theorem gX8_ground_X0_hasThrow : GoodIn wsX8_ground (wsV RX8 137 RX0 yX0_hasThrow wsX0_hasThrow) := goodIn_app (goodIn_of _ (by decide +kernel)) ggX8_ground_X0_hasThrow
theorem dX8_ground_0 : decode cX8_ground 0 = .ok (.aload_n 0, 1) := by decide +kernel
theorem dX8_ground_1 : decode cX8_ground 1 = .ok (.getfield 10, 3) := by decide +kernel
theorem dX8_ground_4 : decode cX8_ground 4 = .ok (.iload_n 1, 1) := by decide +kernel
theorem dX8_ground_5 : decode cX8_ground 5 = .ok (.iload_n 2, 1) := by decide +kernel
theorem dX8_ground_6 : decode cX8_ground 6 = .ok (.invokevirtual 137, 3) := by decide +kernel
theorem dX8_ground_9 : decode cX8_ground 9 = .ok (.ifCond .ne 6, 3) := by decide +kernel
theorem dX8_ground_12 : decode cX8_ground 12 = .ok (.bipush (-2), 2) := by decide +kernel
theorem dX8_ground_14 : decode cX8_ground 14 = .ok (.ireturn, 1) := by decide +kernel
set_option maxRecDepth 20000 in
theorem ggX8_gusts_X8_areGusts : GoodIn wsX8_gusts wsX8_areGusts := goodIn_r _ [11, 2, 12, 13, 14, 15, 16, 17, 18, 19, 20, 10, 21, 117, 118, 119, 120, 121, 122, 123, 124, 125, 126, 127, 133, 134, 135, 136, 137, 138, 139, 140, 141, 142, 143, 144, 145, 146, 147, 148] (by decide +kernel) (by decide +kernel)
set_option maxRecDepth 20000 in
theorem gX8_gusts_X8_areGusts : GoodIn wsX8_gusts (wsV RX8 297 RX8 yX8_areGusts wsX8_areGusts) := goodIn_app (goodIn_of _ (by decide +kernel)) ggX8_gusts_X8_areGusts
theorem dX8_gusts_0 : decode cX8_gusts 0 = .ok (.aload_n 0, 1) := by decide +kernel
theorem dX8_gusts_1 : decode cX8_gusts 1 = .ok (.iload_n 1, 1) := by decide +kernel
theorem dX8_gusts_2 : decode cX8_gusts 2 = .ok (.iload_n 2, 1) := by decide +kernel
theorem dX8_gusts_3 : decode cX8_gusts 3 = .ok (.invokevirtual 297, 3) := by decide +kernel
theorem dX8_gusts_6 : decode cX8_gusts 6 = .ok (.ifCond .eq 11, 3) := by decide +kernel
theorem dX8_gusts_17 : decode cX8_gusts 17 = .ok (.bipush (-2), 2) := by decide +kernel
theorem dX8_gusts_19 : decode cX8_gusts 19 = .ok (.ireturn, 1) := by decide +kernel
set_option maxRecDepth 20000 in
theorem ggX8_years_X8_areGusts : GoodIn wsX8_years wsX8_areGusts := goodIn_r _ [9, 2, 10, 11, 12, 13, 14, 15, 16, 17, 18, 8, 19, 107, 108, 109, 110, 111, 112, 113, 114, 115, 116, 117, 123, 124, 125, 126, 127, 128, 129, 130, 131, 132, 133, 134, 135, 136, 137, 138] (by decide +kernel) (by decide +kernel)
set_option maxRecDepth 20000 in
theorem gX8_years_X8_areGusts : GoodIn wsX8_years (wsV RX8 297 RX8 yX8_areGusts wsX8_areGusts) := goodIn_app (goodIn_of _ (by decide +kernel)) ggX8_years_X8_areGusts
theorem dX8_years_0 : decode cX8_years 0 = .ok (.aload_n 0, 1) := by decide +kernel
theorem dX8_years_1 : decode cX8_years 1 = .ok (.iload_n 1, 1) := by decide +kernel
theorem dX8_years_2 : decode cX8_years 2 = .ok (.iload_n 3, 1) := by decide +kernel
theorem dX8_years_3 : decode cX8_years 3 = .ok (.invokevirtual 297, 3) := by decide +kernel
theorem dX8_years_6 : decode cX8_years 6 = .ok (.ifCond .eq 14, 3) := by decide +kernel
theorem dX8_years_20 : decode cX8_years 20 = .ok (.bipush (-2), 2) := by decide +kernel
theorem dX8_years_22 : decode cX8_years 22 = .ok (.ireturn, 1) := by decide +kernel
set_option maxRecDepth 20000 in
theorem ggX8_areGusts_X0_isTold : GoodIn wsX8_areGusts wsX0_isTold := goodIn_r _ [7, 8, 24, 25, 26, 27, 28, 29, 30, 31, 32, 33, 34, 35, 36, 37, 38, 39] (by decide +kernel) (by decide +kernel)
set_option maxRecDepth 20000 in
theorem gX8_areGusts_X0_isTold : GoodIn wsX8_areGusts (wsV RX8 130 RX0 yX0_isTold wsX0_isTold) := goodIn_app (goodIn_of _ (by decide +kernel)) ggX8_areGusts_X0_isTold
theorem dX8_areGusts_0 : decode cX8_areGusts 0 = .ok (.aload_n 0, 1) := by decide +kernel
theorem dX8_areGusts_1 : decode cX8_areGusts 1 = .ok (.getfield 10, 3) := by decide +kernel
theorem dX8_areGusts_4 : decode cX8_areGusts 4 = .ok (.invokevirtual 130, 3) := by decide +kernel
theorem dX8_areGusts_7 : decode cX8_areGusts 7 = .ok (.ifCond .eq 27, 3) := by decide +kernel
theorem dX8_areGusts_34 : decode cX8_areGusts 34 = .ok (.iconst 0, 1) := by decide +kernel
theorem dX8_areGusts_35 : decode cX8_areGusts 35 = .ok (.ireturn, 1) := by decide +kernel
set_option maxRecDepth 20000 in
theorem ggX8_judge_X8_draftFrom : GoodIn wsX8_judge wsX8_draftFrom := goodIn_r _ [7, 8, 9, 10, 2, 11, 12, 13, 14, 15, 16, 17, 18, 19, 20, 21, 22, 23, 24, 25, 26, 27, 28, 29, 30, 31, 32, 33, 34, 35, 36, 37, 38, 39, 40, 41, 42, 43, 44, 45, 46, 47, 48, 49, 50, 51, 52, 53, 54, 55, 56, 57, 58, 59, 60, 61, 62, 63, 64, 65, 6, 66, 67, 68, 69, 70, 71, 72, 73, 74, 75, 76, 77, 78, 132, 133, 134, 135, 136, 137, 138, 139, 140, 141, 142, 143, 144, 145, 146, 147, 148, 149, 150, 151, 152, 153, 154, 155, 156, 157, 158, 159, 160, 161] (by decide +kernel) (by decide +kernel)
set_option maxRecDepth 20000 in
theorem gX8_judge_X8_draftFrom : GoodIn wsX8_judge (wsV RX8 314 RX8 yX8_draftFrom wsX8_draftFrom) := goodIn_app (goodIn_of _ (by decide +kernel)) ggX8_judge_X8_draftFrom
theorem dX8_judge_0 : decode cX8_judge 0 = .ok (.aload_n 0, 1) := by decide +kernel
theorem dX8_judge_1 : decode cX8_judge 1 = .ok (.iload_n 1, 1) := by decide +kernel
theorem dX8_judge_2 : decode cX8_judge 2 = .ok (.iload_n 2, 1) := by decide +kernel
theorem dX8_judge_3 : decode cX8_judge 3 = .ok (.invokevirtual 314, 3) := by decide +kernel
theorem dX8_judge_6 : decode cX8_judge 6 = .ok (.istore_n 3, 1) := by decide +kernel
theorem dX8_judge_7 : decode cX8_judge 7 = .ok (.iload_n 3, 1) := by decide +kernel
theorem dX8_judge_8 : decode cX8_judge 8 = .ok (.ifCond .ge 5, 3) := by decide +kernel
theorem dX8_judge_11 : decode cX8_judge 11 = .ok (.iload_n 3, 1) := by decide +kernel
theorem dX8_judge_12 : decode cX8_judge 12 = .ok (.ireturn, 1) := by decide +kernel
set_option maxRecDepth 20000 in
theorem ggX8_takes_X8_draftFrom : GoodIn wsX8_takes wsX8_draftFrom := goodIn_r _ [7, 8, 1, 9, 2, 10, 11, 12, 13, 14, 15, 16, 17, 18, 19, 20, 21, 22, 23, 24, 25, 26, 27, 28, 29, 30, 31, 32, 33, 34, 35, 36, 37, 38, 39, 40, 41, 42, 43, 44, 45, 46, 47, 48, 49, 50, 51, 52, 53, 54, 55, 56, 57, 58, 59, 60, 61, 62, 63, 64, 6, 65, 66, 67, 68, 69, 70, 71, 72, 73, 74, 75, 76, 77, 78, 79, 80, 81, 82, 83, 84, 85, 86, 87, 88, 89, 90, 91, 92, 93, 94, 95, 96, 97, 98, 99, 100, 101, 102, 103, 104, 105, 106, 107] (by decide +kernel) (by decide +kernel)
set_option maxRecDepth 20000 in
theorem gX8_takes_X8_draftFrom : GoodIn wsX8_takes (wsV RX8 314 RX8 yX8_draftFrom wsX8_draftFrom) := goodIn_app (goodIn_of _ (by decide +kernel)) ggX8_takes_X8_draftFrom
theorem dX8_takes_0 : decode cX8_takes 0 = .ok (.aload_n 0, 1) := by decide +kernel
theorem dX8_takes_1 : decode cX8_takes 1 = .ok (.iload_n 1, 1) := by decide +kernel
theorem dX8_takes_2 : decode cX8_takes 2 = .ok (.iload_n 2, 1) := by decide +kernel
theorem dX8_takes_3 : decode cX8_takes 3 = .ok (.invokevirtual 314, 3) := by decide +kernel
theorem dX8_takes_6 : decode cX8_takes 6 = .ok (.istore_n 3, 1) := by decide +kernel
theorem dX8_takes_7 : decode cX8_takes 7 = .ok (.iload_n 3, 1) := by decide +kernel
theorem dX8_takes_8 : decode cX8_takes 8 = .ok (.ifCond .lt 14, 3) := by decide +kernel
theorem dX8_takes_22 : decode cX8_takes 22 = .ok (.iload_n 3, 1) := by decide +kernel
theorem dX8_takes_23 : decode cX8_takes 23 = .ok (.ireturn, 1) := by decide +kernel
set_option maxRecDepth 20000 in
theorem ggX8_draftFrom_X4_isSlot : GoodIn wsX8_draftFrom wsX4_isSlot := goodIn_r _ [9] (by decide +kernel) (by decide +kernel)
set_option maxRecDepth 20000 in
theorem gX8_draftFrom_X4_isSlot : GoodIn wsX8_draftFrom (wsV RX8 317 RX4 yX4_isSlot wsX4_isSlot) := goodIn_app (goodIn_of _ (by decide +kernel)) ggX8_draftFrom_X4_isSlot
set_option maxRecDepth 20000 in
theorem ggX8_draftFrom_X0_hasRoof : GoodIn wsX8_draftFrom wsX0_hasRoof := goodIn_r _ [14, 15, 88, 89, 90, 91, 92, 93, 94, 95, 96, 97, 98, 99, 100, 101, 102, 103] (by decide +kernel) (by decide +kernel)
set_option maxRecDepth 20000 in
theorem gX8_draftFrom_X0_hasRoof : GoodIn wsX8_draftFrom (wsV RX8 106 RX0 yX0_hasRoof wsX0_hasRoof) := goodIn_app (goodIn_of _ (by decide +kernel)) ggX8_draftFrom_X0_hasRoof
theorem dX8_draftFrom_0 : decode cX8_draftFrom 0 = .ok (.aload_n 0, 1) := by decide +kernel
theorem dX8_draftFrom_1 : decode cX8_draftFrom 1 = .ok (.getfield 74, 3) := by decide +kernel
theorem dX8_draftFrom_4 : decode cX8_draftFrom 4 = .ok (.iload_n 1, 1) := by decide +kernel
theorem dX8_draftFrom_5 : decode cX8_draftFrom 5 = .ok (.invokevirtual 317, 3) := by decide +kernel
theorem dX8_draftFrom_8 : decode cX8_draftFrom 8 = .ok (.ifCond .eq 14, 3) := by decide +kernel
theorem dX8_draftFrom_11 : decode cX8_draftFrom 11 = .ok (.aload_n 0, 1) := by decide +kernel
theorem dX8_draftFrom_12 : decode cX8_draftFrom 12 = .ok (.getfield 10, 3) := by decide +kernel
theorem dX8_draftFrom_15 : decode cX8_draftFrom 15 = .ok (.iload_n 2, 1) := by decide +kernel
theorem dX8_draftFrom_16 : decode cX8_draftFrom 16 = .ok (.invokevirtual 106, 3) := by decide +kernel
theorem dX8_draftFrom_19 : decode cX8_draftFrom 19 = .ok (.ifCond .ne 6, 3) := by decide +kernel
theorem dX8_draftFrom_22 : decode cX8_draftFrom 22 = .ok (.bipush (-2), 2) := by decide +kernel
theorem dX8_draftFrom_24 : decode cX8_draftFrom 24 = .ok (.ireturn, 1) := by decide +kernel
set_option maxRecDepth 20000 in
theorem ggX8_count_X0_pairs : GoodIn wsX8_count wsX0_pairs := goodIn_r _ [14, 15, 16, 17, 18, 19, 20, 21, 22, 23, 67, 68, 69, 70, 71, 72, 73, 74, 75, 76, 77, 78, 79, 80, 81, 82] (by decide +kernel) (by decide +kernel)
set_option maxRecDepth 20000 in
theorem gX8_count_X0_pairs : GoodIn wsX8_count (wsV RX8 341 RX0 yX0_pairs wsX0_pairs) := goodIn_app (goodIn_of _ (by decide +kernel)) ggX8_count_X0_pairs
set_option maxRecDepth 20000 in
theorem ggX8_count_X0_busyRoofs : GoodIn wsX8_count wsX0_busyRoofs := goodIn_r _ [27, 15, 28, 29, 30, 31, 13, 32, 33, 34, 35, 36, 37, 38, 39, 40, 41, 67, 68, 69, 70, 71, 72, 73, 74, 75, 76, 77, 78, 79, 80, 81, 82] (by decide +kernel) (by decide +kernel)
set_option maxRecDepth 20000 in
theorem gX8_count_X0_busyRoofs : GoodIn wsX8_count (wsV RX8 351 RX0 yX0_busyRoofs wsX0_busyRoofs) := goodIn_app (goodIn_of _ (by decide +kernel)) ggX8_count_X0_busyRoofs
set_option maxRecDepth 20000 in
theorem ggX8_count_X4_filled : GoodIn wsX8_count wsX4_filled := goodIn_r _ [46, 47, 48, 49, 45, 50, 51, 52, 53, 54, 55, 95, 96, 97] (by decide +kernel) (by decide +kernel)
set_option maxRecDepth 20000 in
theorem gX8_count_X4_filled : GoodIn wsX8_count (wsV RX8 354 RX4 yX4_filled wsX4_filled) := goodIn_app (goodIn_of _ (by decide +kernel)) ggX8_count_X4_filled
theorem dX8_count_0 : decode cX8_count 0 = .ok (.iload_n 1, 1) := by decide +kernel
theorem dX8_count_1 : decode cX8_count 1 = .ok (.tableswitch 123 0 8 #[51, 59, 67, 75, 83, 91, 99, 107, 115], 51) := by decide +kernel
theorem dX8_count_52 : decode cX8_count 52 = .ok (.aload_n 0, 1) := by decide +kernel
theorem dX8_count_53 : decode cX8_count 53 = .ok (.getfield 10, 3) := by decide +kernel
theorem dX8_count_56 : decode cX8_count 56 = .ok (.getfield 155, 3) := by decide +kernel
theorem dX8_count_59 : decode cX8_count 59 = .ok (.ireturn, 1) := by decide +kernel
theorem dX8_count_60 : decode cX8_count 60 = .ok (.aload_n 0, 1) := by decide +kernel
theorem dX8_count_61 : decode cX8_count 61 = .ok (.getfield 10, 3) := by decide +kernel
theorem dX8_count_64 : decode cX8_count 64 = .ok (.getfield 338, 3) := by decide +kernel
theorem dX8_count_67 : decode cX8_count 67 = .ok (.ireturn, 1) := by decide +kernel
theorem dX8_count_68 : decode cX8_count 68 = .ok (.aload_n 0, 1) := by decide +kernel
theorem dX8_count_69 : decode cX8_count 69 = .ok (.getfield 10, 3) := by decide +kernel
theorem dX8_count_72 : decode cX8_count 72 = .ok (.invokevirtual 341, 3) := by decide +kernel
theorem dX8_count_75 : decode cX8_count 75 = .ok (.ireturn, 1) := by decide +kernel
theorem dX8_count_76 : decode cX8_count 76 = .ok (.aload_n 0, 1) := by decide +kernel
theorem dX8_count_77 : decode cX8_count 77 = .ok (.getfield 10, 3) := by decide +kernel
theorem dX8_count_80 : decode cX8_count 80 = .ok (.getfield 97, 3) := by decide +kernel
theorem dX8_count_83 : decode cX8_count 83 = .ok (.ireturn, 1) := by decide +kernel
theorem dX8_count_84 : decode cX8_count 84 = .ok (.aload_n 0, 1) := by decide +kernel
theorem dX8_count_85 : decode cX8_count 85 = .ok (.getfield 32, 3) := by decide +kernel
theorem dX8_count_88 : decode cX8_count 88 = .ok (.getfield 86, 3) := by decide +kernel
theorem dX8_count_91 : decode cX8_count 91 = .ok (.ireturn, 1) := by decide +kernel
theorem dX8_count_92 : decode cX8_count 92 = .ok (.aload_n 0, 1) := by decide +kernel
theorem dX8_count_93 : decode cX8_count 93 = .ok (.getfield 10, 3) := by decide +kernel
theorem dX8_count_96 : decode cX8_count 96 = .ok (.getfield 345, 3) := by decide +kernel
theorem dX8_count_99 : decode cX8_count 99 = .ok (.ireturn, 1) := by decide +kernel
theorem dX8_count_100 : decode cX8_count 100 = .ok (.aload_n 0, 1) := by decide +kernel
theorem dX8_count_101 : decode cX8_count 101 = .ok (.getfield 10, 3) := by decide +kernel
theorem dX8_count_104 : decode cX8_count 104 = .ok (.getfield 348, 3) := by decide +kernel
theorem dX8_count_107 : decode cX8_count 107 = .ok (.ireturn, 1) := by decide +kernel
theorem dX8_count_108 : decode cX8_count 108 = .ok (.aload_n 0, 1) := by decide +kernel
theorem dX8_count_109 : decode cX8_count 109 = .ok (.getfield 10, 3) := by decide +kernel
theorem dX8_count_112 : decode cX8_count 112 = .ok (.invokevirtual 351, 3) := by decide +kernel
theorem dX8_count_115 : decode cX8_count 115 = .ok (.ireturn, 1) := by decide +kernel
theorem dX8_count_116 : decode cX8_count 116 = .ok (.aload_n 0, 1) := by decide +kernel
theorem dX8_count_117 : decode cX8_count 117 = .ok (.getfield 74, 3) := by decide +kernel
theorem dX8_count_120 : decode cX8_count 120 = .ok (.invokevirtual 354, 3) := by decide +kernel
theorem dX8_count_123 : decode cX8_count 123 = .ok (.ireturn, 1) := by decide +kernel
theorem dX8_count_124 : decode cX8_count 124 = .ok (.iconst (-1), 1) := by decide +kernel
theorem dX8_count_125 : decode cX8_count 125 = .ok (.ireturn, 1) := by decide +kernel
set_option maxRecDepth 20000 in
theorem ggX8_keep_X8_imageAt : GoodIn wsX8_keep wsX8_imageAt := goodIn_r _ [7, 8, 30, 31, 32, 33, 34, 35, 36, 37, 38, 39, 40] (by decide +kernel) (by decide +kernel)
set_option maxRecDepth 20000 in
theorem gX8_keep_X8_imageAt : GoodIn wsX8_keep (wsV RX8 357 RX8 yX8_imageAt wsX8_imageAt) := goodIn_app (goodIn_of _ (by decide +kernel)) ggX8_keep_X8_imageAt
set_option maxRecDepth 20000 in
theorem ggX8_keep_X0_copyOf : GoodIn wsX8_keep wsX0_copyOf := goodIn_r _ [13, 14, 15, 16, 17, 18, 19, 20, 21, 22, 23, 24, 25, 26, 27, 28, 29, 41, 42, 43, 44, 45, 46, 47, 48, 49, 50, 51, 52, 53, 54, 55, 56] (by decide +kernel) (by decide +kernel)
set_option maxRecDepth 20000 in
theorem gX8_keep_X0_copyOf : GoodIn wsX8_keep (wsV RX8 94 RX0 yX0_copyOf wsX0_copyOf) := goodIn_app (goodIn_of _ (by decide +kernel)) ggX8_keep_X0_copyOf
theorem dX8_keep_0 : decode cX8_keep 0 = .ok (.aload_n 0, 1) := by decide +kernel
theorem dX8_keep_1 : decode cX8_keep 1 = .ok (.iload_n 1, 1) := by decide +kernel
theorem dX8_keep_2 : decode cX8_keep 2 = .ok (.invokevirtual 357, 3) := by decide +kernel
theorem dX8_keep_5 : decode cX8_keep 5 = .ok (.astore_n 2, 1) := by decide +kernel
theorem dX8_keep_6 : decode cX8_keep 6 = .ok (.aload_n 2, 1) := by decide +kernel
theorem dX8_keep_7 : decode cX8_keep 7 = .ok (.ifnonnull 6, 3) := by decide +kernel
theorem dX8_keep_10 : decode cX8_keep 10 = .ok (.bipush (-2), 2) := by decide +kernel
theorem dX8_keep_12 : decode cX8_keep 12 = .ok (.ireturn, 1) := by decide +kernel
theorem dX8_keep_13 : decode cX8_keep 13 = .ok (.aload_n 2, 1) := by decide +kernel
theorem dX8_keep_14 : decode cX8_keep 14 = .ok (.aload_n 0, 1) := by decide +kernel
theorem dX8_keep_15 : decode cX8_keep 15 = .ok (.getfield 10, 3) := by decide +kernel
theorem dX8_keep_18 : decode cX8_keep 18 = .ok (.invokevirtual 94, 3) := by decide +kernel
theorem dX8_keep_21 : decode cX8_keep 21 = .ok (.aload_n 0, 1) := by decide +kernel
theorem dX8_keep_22 : decode cX8_keep 22 = .ok (.getfield 23, 3) := by decide +kernel
theorem dX8_keep_25 : decode cX8_keep 25 = .ok (.iload_n 1, 1) := by decide +kernel
theorem dX8_keep_26 : decode cX8_keep 26 = .ok (.iconst 1, 1) := by decide +kernel
theorem dX8_keep_27 : decode cX8_keep 27 = .ok (.bastore, 1) := by decide +kernel
theorem dX8_keep_28 : decode cX8_keep 28 = .ok (.iconst 0, 1) := by decide +kernel
theorem dX8_keep_29 : decode cX8_keep 29 = .ok (.ireturn, 1) := by decide +kernel
set_option maxRecDepth 20000 in
theorem ggX8_back_X8_imageAt : GoodIn wsX8_back wsX8_imageAt := goodIn_r _ [7, 8, 30, 31, 32, 33, 34, 35, 36, 37, 38, 39, 40] (by decide +kernel) (by decide +kernel)
set_option maxRecDepth 20000 in
theorem gX8_back_X8_imageAt : GoodIn wsX8_back (wsV RX8 357 RX8 yX8_imageAt wsX8_imageAt) := goodIn_app (goodIn_of _ (by decide +kernel)) ggX8_back_X8_imageAt
theorem dX8_back_0 : decode cX8_back 0 = .ok (.aload_n 0, 1) := by decide +kernel
theorem dX8_back_1 : decode cX8_back 1 = .ok (.iload_n 1, 1) := by decide +kernel
theorem dX8_back_2 : decode cX8_back 2 = .ok (.invokevirtual 357, 3) := by decide +kernel
theorem dX8_back_5 : decode cX8_back 5 = .ok (.astore_n 2, 1) := by decide +kernel
theorem dX8_back_6 : decode cX8_back 6 = .ok (.aload_n 2, 1) := by decide +kernel
theorem dX8_back_7 : decode cX8_back 7 = .ok (.ifnonnull 6, 3) := by decide +kernel
theorem dX8_back_10 : decode cX8_back 10 = .ok (.bipush (-2), 2) := by decide +kernel
theorem dX8_back_12 : decode cX8_back 12 = .ok (.ireturn, 1) := by decide +kernel
theorem dX8_back_13 : decode cX8_back 13 = .ok (.aload_n 0, 1) := by decide +kernel
theorem dX8_back_14 : decode cX8_back 14 = .ok (.getfield 23, 3) := by decide +kernel
theorem dX8_back_17 : decode cX8_back 17 = .ok (.iload_n 1, 1) := by decide +kernel
theorem dX8_back_18 : decode cX8_back 18 = .ok (.baload, 1) := by decide +kernel
theorem dX8_back_19 : decode cX8_back 19 = .ok (.ifCond .ne 6, 3) := by decide +kernel
theorem dX8_back_22 : decode cX8_back 22 = .ok (.bipush (-6), 2) := by decide +kernel
theorem dX8_back_24 : decode cX8_back 24 = .ok (.ireturn, 1) := by decide +kernel
theorem dX8_imageAt_0 : decode cX8_imageAt 0 = .ok (.iload_n 1, 1) := by decide +kernel
theorem dX8_imageAt_1 : decode cX8_imageAt 1 = .ok (.ifCond .lt 17, 3) := by decide +kernel
theorem dX8_imageAt_4 : decode cX8_imageAt 4 = .ok (.iload_n 1, 1) := by decide +kernel
theorem dX8_imageAt_5 : decode cX8_imageAt 5 = .ok (.iconst 3, 1) := by decide +kernel
theorem dX8_imageAt_6 : decode cX8_imageAt 6 = .ok (.if_icmp .ge 12, 3) := by decide +kernel
theorem dX8_imageAt_9 : decode cX8_imageAt 9 = .ok (.aload_n 0, 1) := by decide +kernel
theorem dX8_imageAt_10 : decode cX8_imageAt 10 = .ok (.getfield 19, 3) := by decide +kernel
theorem dX8_imageAt_13 : decode cX8_imageAt 13 = .ok (.iload_n 1, 1) := by decide +kernel
theorem dX8_imageAt_14 : decode cX8_imageAt 14 = .ok (.aaload, 1) := by decide +kernel
theorem dX8_imageAt_15 : decode cX8_imageAt 15 = .ok (.goto 4, 3) := by decide +kernel
theorem dX8_imageAt_18 : decode cX8_imageAt 18 = .ok (.aconst_null, 1) := by decide +kernel
theorem dX8_imageAt_19 : decode cX8_imageAt 19 = .ok (.areturn, 1) := by decide +kernel
set_option maxRecDepth 20000 in
theorem ggX8_row_X4_isSlot : GoodIn wsX8_row wsX4_isSlot := goodIn_r _ [6] (by decide +kernel) (by decide +kernel)
set_option maxRecDepth 20000 in
theorem gX8_row_X4_isSlot : GoodIn wsX8_row (wsV RX8 317 RX4 yX4_isSlot wsX4_isSlot) := goodIn_app (goodIn_of _ (by decide +kernel)) ggX8_row_X4_isSlot
set_option maxRecDepth 20000 in
theorem ggX8_row_X8_isWithin : GoodIn wsX8_row wsX8_isWithin := goodIn_r _ [10] (by decide +kernel) (by decide +kernel)
set_option maxRecDepth 20000 in
theorem gX8_row_X8_isWithin : GoodIn wsX8_row (va_wsS RX8 112 yX8_isWithin wsX8_isWithin) := goodIn_app (goodIn_of _ (by decide +kernel)) ggX8_row_X8_isWithin
set_option maxRecDepth 20000 in
theorem ggX8_row_X4_open : GoodIn wsX8_row wsX4_open := goodIn_r _ [14, 15, 16, 17, 18, 3, 4, 5, 6, 30, 31, 32] (by decide +kernel) (by decide +kernel)
set_option maxRecDepth 20000 in
theorem gX8_row_X4_open : GoodIn wsX8_row (wsV RX8 361 RX4 yX4_open wsX4_open) := goodIn_app (goodIn_of _ (by decide +kernel)) ggX8_row_X4_open
theorem dX8_row_0 : decode cX8_row 0 = .ok (.aload_n 0, 1) := by decide +kernel
theorem dX8_row_1 : decode cX8_row 1 = .ok (.getfield 74, 3) := by decide +kernel
theorem dX8_row_4 : decode cX8_row 4 = .ok (.iload_n 1, 1) := by decide +kernel
theorem dX8_row_5 : decode cX8_row 5 = .ok (.invokevirtual 317, 3) := by decide +kernel
theorem dX8_row_8 : decode cX8_row 8 = .ok (.ifCond .eq 17, 3) := by decide +kernel
theorem dX8_row_11 : decode cX8_row 11 = .ok (.iload_n 2, 1) := by decide +kernel
theorem dX8_row_12 : decode cX8_row 12 = .ok (.iconst 3, 1) := by decide +kernel
theorem dX8_row_13 : decode cX8_row 13 = .ok (.invokestatic 112, 3) := by decide +kernel
theorem dX8_row_16 : decode cX8_row 16 = .ok (.ifCond .eq 9, 3) := by decide +kernel
theorem dX8_row_19 : decode cX8_row 19 = .ok (.iload_n 3, 1) := by decide +kernel
theorem dX8_row_20 : decode cX8_row 20 = .ok (.bipush 60, 2) := by decide +kernel
theorem dX8_row_22 : decode cX8_row 22 = .ok (.if_icmp .le 6, 3) := by decide +kernel
theorem dX8_row_25 : decode cX8_row 25 = .ok (.bipush (-2), 2) := by decide +kernel
theorem dX8_row_27 : decode cX8_row 27 = .ok (.ireturn, 1) := by decide +kernel
theorem dX8_row_28 : decode cX8_row 28 = .ok (.iload_n 3, 1) := by decide +kernel
theorem dX8_row_29 : decode cX8_row 29 = .ok (.ifCond .ge 6, 3) := by decide +kernel
theorem dX8_row_32 : decode cX8_row 32 = .ok (.bipush (-3), 2) := by decide +kernel
theorem dX8_row_34 : decode cX8_row 34 = .ok (.ireturn, 1) := by decide +kernel
theorem dX8_row_35 : decode cX8_row 35 = .ok (.aload_n 0, 1) := by decide +kernel
theorem dX8_row_36 : decode cX8_row 36 = .ok (.getfield 74, 3) := by decide +kernel
theorem dX8_row_39 : decode cX8_row 39 = .ok (.iload_n 1, 1) := by decide +kernel
theorem dX8_row_40 : decode cX8_row 40 = .ok (.iload_n 2, 1) := by decide +kernel
theorem dX8_row_41 : decode cX8_row 41 = .ok (.iload_n 3, 1) := by decide +kernel
theorem dX8_row_42 : decode cX8_row 42 = .ok (.invokevirtual 361, 3) := by decide +kernel
theorem dX8_row_45 : decode cX8_row 45 = .ok (.iconst 0, 1) := by decide +kernel
theorem dX8_row_46 : decode cX8_row 46 = .ok (.ireturn, 1) := by decide +kernel
set_option maxRecDepth 20000 in
theorem ggX8_write_X4_isSlot : GoodIn wsX8_write wsX4_isSlot := goodIn_r _ [7] (by decide +kernel) (by decide +kernel)
set_option maxRecDepth 20000 in
theorem gX8_write_X4_isSlot : GoodIn wsX8_write (wsV RX8 317 RX4 yX4_isSlot wsX4_isSlot) := goodIn_app (goodIn_of _ (by decide +kernel)) ggX8_write_X4_isSlot
set_option maxRecDepth 20000 in
theorem ggX8_write_X4_isFilled : GoodIn wsX8_write wsX4_isFilled := goodIn_r _ [11, 12, 13, 4, 5, 6, 7, 39, 40, 41] (by decide +kernel) (by decide +kernel)
set_option maxRecDepth 20000 in
theorem gX8_write_X4_isFilled : GoodIn wsX8_write (wsV RX8 320 RX4 yX4_isFilled wsX4_isFilled) := goodIn_app (goodIn_of _ (by decide +kernel)) ggX8_write_X4_isFilled
theorem dX8_write_0 : decode cX8_write 0 = .ok (.aload_n 0, 1) := by decide +kernel
theorem dX8_write_1 : decode cX8_write 1 = .ok (.getfield 74, 3) := by decide +kernel
theorem dX8_write_4 : decode cX8_write 4 = .ok (.iload_n 1, 1) := by decide +kernel
theorem dX8_write_5 : decode cX8_write 5 = .ok (.invokevirtual 317, 3) := by decide +kernel
theorem dX8_write_8 : decode cX8_write 8 = .ok (.ifCond .ne 6, 3) := by decide +kernel
theorem dX8_write_11 : decode cX8_write 11 = .ok (.bipush (-2), 2) := by decide +kernel
theorem dX8_write_13 : decode cX8_write 13 = .ok (.ireturn, 1) := by decide +kernel
theorem dX8_write_14 : decode cX8_write 14 = .ok (.aload_n 0, 1) := by decide +kernel
theorem dX8_write_15 : decode cX8_write 15 = .ok (.getfield 74, 3) := by decide +kernel
theorem dX8_write_18 : decode cX8_write 18 = .ok (.iload_n 1, 1) := by decide +kernel
theorem dX8_write_19 : decode cX8_write 19 = .ok (.invokevirtual 320, 3) := by decide +kernel
theorem dX8_write_22 : decode cX8_write 22 = .ok (.ifCond .ne 6, 3) := by decide +kernel
theorem dX8_write_25 : decode cX8_write 25 = .ok (.bipush (-6), 2) := by decide +kernel
theorem dX8_write_27 : decode cX8_write 27 = .ok (.ireturn, 1) := by decide +kernel
set_option maxRecDepth 20000 in
theorem ggX8_paste_X4_isSlot : GoodIn wsX8_paste wsX4_isSlot := goodIn_r _ [7] (by decide +kernel) (by decide +kernel)
set_option maxRecDepth 20000 in
theorem gX8_paste_X4_isSlot : GoodIn wsX8_paste (wsV RX8 317 RX4 yX4_isSlot wsX4_isSlot) := goodIn_app (goodIn_of _ (by decide +kernel)) ggX8_paste_X4_isSlot
set_option maxRecDepth 20000 in
theorem ggX8_paste_X4_isFilled : GoodIn wsX8_paste wsX4_isFilled := goodIn_r _ [11, 12, 13, 4, 5, 6, 7, 40, 41, 42] (by decide +kernel) (by decide +kernel)
set_option maxRecDepth 20000 in
theorem gX8_paste_X4_isFilled : GoodIn wsX8_paste (wsV RX8 320 RX4 yX4_isFilled wsX4_isFilled) := goodIn_app (goodIn_of _ (by decide +kernel)) ggX8_paste_X4_isFilled
theorem dX8_paste_0 : decode cX8_paste 0 = .ok (.aload_n 0, 1) := by decide +kernel
theorem dX8_paste_1 : decode cX8_paste 1 = .ok (.getfield 74, 3) := by decide +kernel
theorem dX8_paste_4 : decode cX8_paste 4 = .ok (.iload_n 1, 1) := by decide +kernel
theorem dX8_paste_5 : decode cX8_paste 5 = .ok (.invokevirtual 317, 3) := by decide +kernel
theorem dX8_paste_8 : decode cX8_paste 8 = .ok (.ifCond .eq 14, 3) := by decide +kernel
theorem dX8_paste_11 : decode cX8_paste 11 = .ok (.aload_n 0, 1) := by decide +kernel
theorem dX8_paste_12 : decode cX8_paste 12 = .ok (.getfield 74, 3) := by decide +kernel
theorem dX8_paste_15 : decode cX8_paste 15 = .ok (.iload_n 3, 1) := by decide +kernel
theorem dX8_paste_16 : decode cX8_paste 16 = .ok (.invokevirtual 317, 3) := by decide +kernel
theorem dX8_paste_19 : decode cX8_paste 19 = .ok (.ifCond .ne 6, 3) := by decide +kernel
theorem dX8_paste_22 : decode cX8_paste 22 = .ok (.bipush (-2), 2) := by decide +kernel
theorem dX8_paste_24 : decode cX8_paste 24 = .ok (.ireturn, 1) := by decide +kernel
theorem dX8_paste_25 : decode cX8_paste 25 = .ok (.aload_n 0, 1) := by decide +kernel
theorem dX8_paste_26 : decode cX8_paste 26 = .ok (.getfield 74, 3) := by decide +kernel
theorem dX8_paste_29 : decode cX8_paste 29 = .ok (.iload_n 1, 1) := by decide +kernel
theorem dX8_paste_30 : decode cX8_paste 30 = .ok (.invokevirtual 320, 3) := by decide +kernel
theorem dX8_paste_33 : decode cX8_paste 33 = .ok (.ifCond .eq 14, 3) := by decide +kernel
theorem dX8_paste_47 : decode cX8_paste 47 = .ok (.bipush (-6), 2) := by decide +kernel
theorem dX8_paste_49 : decode cX8_paste 49 = .ok (.ireturn, 1) := by decide +kernel
theorem dX8_isWithin_0 : decode cX8_isWithin 0 = .ok (.iload_n 0, 1) := by decide +kernel
theorem dX8_isWithin_1 : decode cX8_isWithin 1 = .ok (.ifCond .lt 12, 3) := by decide +kernel
theorem dX8_isWithin_4 : decode cX8_isWithin 4 = .ok (.iload_n 0, 1) := by decide +kernel
theorem dX8_isWithin_5 : decode cX8_isWithin 5 = .ok (.iload_n 1, 1) := by decide +kernel
theorem dX8_isWithin_6 : decode cX8_isWithin 6 = .ok (.if_icmp .gt 7, 3) := by decide +kernel
theorem dX8_isWithin_9 : decode cX8_isWithin 9 = .ok (.iconst 1, 1) := by decide +kernel
theorem dX8_isWithin_10 : decode cX8_isWithin 10 = .ok (.goto 4, 3) := by decide +kernel
theorem dX8_isWithin_13 : decode cX8_isWithin 13 = .ok (.iconst 0, 1) := by decide +kernel
theorem dX8_isWithin_14 : decode cX8_isWithin 14 = .ok (.ireturn, 1) := by decide +kernel
theorem dX9_init_0 : decode cX9_init 0 = .ok (.aload_n 0, 1) := by decide +kernel
theorem dX9_init_1 : decode cX9_init 1 = .ok (.invokespecial 1, 3) := by decide +kernel
theorem dX9_init_4 : decode cX9_init 4 = .ok (.aload_n 0, 1) := by decide +kernel
theorem dX9_init_5 : decode cX9_init 5 = .ok (.iconst 4, 1) := by decide +kernel
theorem dX9_init_6 : decode cX9_init 6 = .ok (.newarray .int, 2) := by decide +kernel
theorem dX9_init_8 : decode cX9_init 8 = .ok (.putfield 7, 3) := by decide +kernel
theorem dX9_init_11 : decode cX9_init 11 = .ok (.aload_n 0, 1) := by decide +kernel
theorem dX9_init_12 : decode cX9_init 12 = .ok (.iconst 4, 1) := by decide +kernel
theorem dX9_init_13 : decode cX9_init 13 = .ok (.newarray .int, 2) := by decide +kernel
theorem dX9_init_15 : decode cX9_init 15 = .ok (.putfield 13, 3) := by decide +kernel
theorem dX9_init_18 : decode cX9_init 18 = .ok (.aload_n 0, 1) := by decide +kernel
theorem dX9_init_19 : decode cX9_init 19 = .ok (.sipush 240, 3) := by decide +kernel
theorem dX9_init_22 : decode cX9_init 22 = .ok (.newarray .long, 2) := by decide +kernel
theorem dX9_init_24 : decode cX9_init 24 = .ok (.putfield 16, 3) := by decide +kernel
theorem dX9_init_27 : decode cX9_init 27 = .ok (.aload_n 0, 1) := by decide +kernel
theorem dX9_init_28 : decode cX9_init 28 = .ok (.bipush 60, 2) := by decide +kernel
theorem dX9_init_30 : decode cX9_init 30 = .ok (.newarray .long, 2) := by decide +kernel
theorem dX9_init_32 : decode cX9_init 32 = .ok (.putfield 20, 3) := by decide +kernel
theorem dX9_init_35 : decode cX9_init 35 = .ok (.aload_n 0, 1) := by decide +kernel
theorem dX9_init_36 : decode cX9_init 36 = .ok (.sipush 1600, 3) := by decide +kernel
theorem dX9_init_39 : decode cX9_init 39 = .ok (.newarray .byte, 2) := by decide +kernel
theorem dX9_init_41 : decode cX9_init 41 = .ok (.putfield 23, 3) := by decide +kernel
theorem dX9_init_44 : decode cX9_init 44 = .ok (.aload_n 0, 1) := by decide +kernel
theorem dX9_init_45 : decode cX9_init 45 = .ok (.iconst (-1), 1) := by decide +kernel
theorem dX9_init_46 : decode cX9_init 46 = .ok (.putfield 27, 3) := by decide +kernel
theorem dX9_init_49 : decode cX9_init 49 = .ok (.aload_n 0, 1) := by decide +kernel
theorem dX9_init_50 : decode cX9_init 50 = .ok (.bipush 6, 2) := by decide +kernel
theorem dX9_init_52 : decode cX9_init 52 = .ok (.newarray .int, 2) := by decide +kernel
theorem dX9_init_54 : decode cX9_init 54 = .ok (.putfield 31, 3) := by decide +kernel
theorem dX9_init_57 : decode cX9_init 57 = .ok (.aload_n 0, 1) := by decide +kernel
theorem dX9_init_58 : decode cX9_init 58 = .ok (.bipush 6, 2) := by decide +kernel
theorem dX9_init_60 : decode cX9_init 60 = .ok (.newarray .int, 2) := by decide +kernel
theorem dX9_init_62 : decode cX9_init 62 = .ok (.putfield 34, 3) := by decide +kernel
theorem dX9_init_65 : decode cX9_init 65 = .ok (.aload_n 0, 1) := by decide +kernel
theorem dX9_init_66 : decode cX9_init 66 = .ok (.bipush 36, 2) := by decide +kernel
theorem dX9_init_68 : decode cX9_init 68 = .ok (.newarray .int, 2) := by decide +kernel
theorem dX9_init_70 : decode cX9_init 70 = .ok (.putfield 37, 3) := by decide +kernel
theorem dX9_init_73 : decode cX9_init 73 = .ok (.aload_n 0, 1) := by decide +kernel
theorem dX9_init_74 : decode cX9_init 74 = .ok (.bipush 36, 2) := by decide +kernel
theorem dX9_init_76 : decode cX9_init 76 = .ok (.newarray .int, 2) := by decide +kernel
theorem dX9_init_78 : decode cX9_init 78 = .ok (.putfield 40, 3) := by decide +kernel
theorem dX9_init_81 : decode cX9_init 81 = .ok (.aload_n 0, 1) := by decide +kernel
theorem dX9_init_82 : decode cX9_init 82 = .ok (.sipush 288, 3) := by decide +kernel
theorem dX9_init_85 : decode cX9_init 85 = .ok (.newarray .int, 2) := by decide +kernel
theorem dX9_init_87 : decode cX9_init 87 = .ok (.putfield 43, 3) := by decide +kernel
theorem dX9_init_90 : decode cX9_init 90 = .ok (.aload_n 0, 1) := by decide +kernel
theorem dX9_init_91 : decode cX9_init 91 = .ok (.sipush 288, 3) := by decide +kernel
theorem dX9_init_94 : decode cX9_init 94 = .ok (.newarray .int, 2) := by decide +kernel
theorem dX9_init_96 : decode cX9_init 96 = .ok (.putfield 46, 3) := by decide +kernel
theorem dX9_init_99 : decode cX9_init 99 = .ok (.aload_n 0, 1) := by decide +kernel
theorem dX9_init_100 : decode cX9_init 100 = .ok (.bipush 12, 2) := by decide +kernel
theorem dX9_init_102 : decode cX9_init 102 = .ok (.newarray .int, 2) := by decide +kernel
theorem dX9_init_104 : decode cX9_init 104 = .ok (.putfield 49, 3) := by decide +kernel
theorem dX9_init_107 : decode cX9_init 107 = .ok (.aload_n 0, 1) := by decide +kernel
theorem dX9_init_108 : decode cX9_init 108 = .ok (.bipush 72, 2) := by decide +kernel
theorem dX9_init_110 : decode cX9_init 110 = .ok (.newarray .int, 2) := by decide +kernel
theorem dX9_init_112 : decode cX9_init 112 = .ok (.putfield 52, 3) := by decide +kernel
theorem dX9_init_115 : decode cX9_init 115 = .ok (.aload_n 0, 1) := by decide +kernel
theorem dX9_init_116 : decode cX9_init 116 = .ok (.sipush 144, 3) := by decide +kernel
theorem dX9_init_119 : decode cX9_init 119 = .ok (.newarray .int, 2) := by decide +kernel
theorem dX9_init_121 : decode cX9_init 121 = .ok (.putfield 55, 3) := by decide +kernel
theorem dX9_init_124 : decode cX9_init 124 = .ok (.aload_n 0, 1) := by decide +kernel
theorem dX9_init_125 : decode cX9_init 125 = .ok (.bipush 12, 2) := by decide +kernel
theorem dX9_init_127 : decode cX9_init 127 = .ok (.newarray .int, 2) := by decide +kernel
theorem dX9_init_129 : decode cX9_init 129 = .ok (.putfield 58, 3) := by decide +kernel
theorem dX9_init_132 : decode cX9_init 132 = .ok (.aload_n 0, 1) := by decide +kernel
theorem dX9_init_133 : decode cX9_init 133 = .ok (.iconst 3, 1) := by decide +kernel
theorem dX9_init_134 : decode cX9_init 134 = .ok (.newarray .boolean, 2) := by decide +kernel
theorem dX9_init_136 : decode cX9_init 136 = .ok (.putfield 61, 3) := by decide +kernel
theorem dX9_init_139 : decode cX9_init 139 = .ok (.aload_n 0, 1) := by decide +kernel
theorem dX9_init_140 : decode cX9_init 140 = .ok (.bipush 8, 2) := by decide +kernel
theorem dX9_init_142 : decode cX9_init 142 = .ok (.newarray .int, 2) := by decide +kernel
theorem dX9_init_144 : decode cX9_init 144 = .ok (.putfield 65, 3) := by decide +kernel
theorem dX9_init_147 : decode cX9_init 147 = .ok (.aload_n 0, 1) := by decide +kernel
theorem dX9_init_148 : decode cX9_init 148 = .ok (.bipush 8, 2) := by decide +kernel
theorem dX9_init_150 : decode cX9_init 150 = .ok (.newarray .int, 2) := by decide +kernel
theorem dX9_init_152 : decode cX9_init 152 = .ok (.putfield 68, 3) := by decide +kernel
theorem dX9_init_155 : decode cX9_init 155 = .ok (.aload_n 0, 1) := by decide +kernel
theorem dX9_init_156 : decode cX9_init 156 = .ok (.sipush 5040, 3) := by decide +kernel
theorem dX9_init_159 : decode cX9_init 159 = .ok (.newarray .boolean, 2) := by decide +kernel
theorem dX9_init_161 : decode cX9_init 161 = .ok (.putfield 71, 3) := by decide +kernel
theorem dX9_init_164 : decode cX9_init 164 = .ok (.aload_n 0, 1) := by decide +kernel
theorem dX9_init_165 : decode cX9_init 165 = .ok (.sipush 32400, 3) := by decide +kernel
theorem dX9_init_168 : decode cX9_init 168 = .ok (.newarray .boolean, 2) := by decide +kernel
theorem dX9_init_170 : decode cX9_init 170 = .ok (.putfield 74, 3) := by decide +kernel
theorem dX9_init_173 : decode cX9_init 173 = .ok (.aload_n 0, 1) := by decide +kernel
theorem dX9_init_174 : decode cX9_init 174 = .ok (.sipush 32400, 3) := by decide +kernel
theorem dX9_init_177 : decode cX9_init 177 = .ok (.newarray .int, 2) := by decide +kernel
theorem dX9_init_179 : decode cX9_init 179 = .ok (.putfield 77, 3) := by decide +kernel
theorem dX9_init_182 : decode cX9_init 182 = .ok (.aload_n 0, 1) := by decide +kernel
theorem dX9_init_183 : decode cX9_init 183 = .ok (.bipush 100, 2) := by decide +kernel
theorem dX9_init_185 : decode cX9_init 185 = .ok (.newarray .int, 2) := by decide +kernel
theorem dX9_init_187 : decode cX9_init 187 = .ok (.putfield 80, 3) := by decide +kernel
theorem dX9_init_190 : decode cX9_init 190 = .ok (.aload_n 0, 1) := by decide +kernel
theorem dX9_init_191 : decode cX9_init 191 = .ok (.sipush 512, 3) := by decide +kernel
theorem dX9_init_194 : decode cX9_init 194 = .ok (.newarray .int, 2) := by decide +kernel
theorem dX9_init_196 : decode cX9_init 196 = .ok (.putfield 83, 3) := by decide +kernel
theorem dX9_init_199 : decode cX9_init 199 = .ok (.aload_n 0, 1) := by decide +kernel
theorem dX9_init_200 : decode cX9_init 200 = .ok (.sipush 18688, 3) := by decide +kernel
theorem dX9_init_203 : decode cX9_init 203 = .ok (.newarray .long, 2) := by decide +kernel
theorem dX9_init_205 : decode cX9_init 205 = .ok (.putfield 86, 3) := by decide +kernel
theorem dX9_init_208 : decode cX9_init 208 = .ok (.aload_n 0, 1) := by decide +kernel
theorem dX9_init_209 : decode cX9_init 209 = .ok (.bipush 96, 2) := by decide +kernel
theorem dX9_init_211 : decode cX9_init 211 = .ok (.newarray .boolean, 2) := by decide +kernel
theorem dX9_init_213 : decode cX9_init 213 = .ok (.putfield 89, 3) := by decide +kernel
theorem dX9_init_216 : decode cX9_init 216 = .ok (.iconst 0, 1) := by decide +kernel
theorem dX9_init_217 : decode cX9_init 217 = .ok (.istore_n 1, 1) := by decide +kernel
theorem dX9_init_218 : decode cX9_init 218 = .ok (.iload_n 1, 1) := by decide +kernel
theorem dX9_init_219 : decode cX9_init 219 = .ok (.iconst 4, 1) := by decide +kernel
theorem dX9_init_220 : decode cX9_init 220 = .ok (.if_icmp .ge 16, 3) := by decide +kernel
theorem dX9_init_223 : decode cX9_init 223 = .ok (.aload_n 0, 1) := by decide +kernel
theorem dX9_init_224 : decode cX9_init 224 = .ok (.getfield 7, 3) := by decide +kernel
theorem dX9_init_227 : decode cX9_init 227 = .ok (.iload_n 1, 1) := by decide +kernel
theorem dX9_init_228 : decode cX9_init 228 = .ok (.iconst (-1), 1) := by decide +kernel
theorem dX9_init_229 : decode cX9_init 229 = .ok (.iastore, 1) := by decide +kernel
theorem dX9_init_230 : decode cX9_init 230 = .ok (.iinc 1 1, 3) := by decide +kernel
theorem dX9_init_233 : decode cX9_init 233 = .ok (.goto (-15), 3) := by decide +kernel
theorem dX9_init_236 : decode cX9_init 236 = .ok (.return_, 1) := by decide +kernel
theorem dX9_in_0 : decode cX9_in 0 = .ok (.lload_n 0, 1) := by decide +kernel
theorem dX9_in_1 : decode cX9_in 1 = .ok (.lload_n 2, 1) := by decide +kernel
theorem dX9_in_2 : decode cX9_in 2 = .ok (.lcmp, 1) := by decide +kernel
theorem dX9_in_3 : decode cX9_in 3 = .ok (.ifCond .lt 14, 3) := by decide +kernel
theorem dX9_in_6 : decode cX9_in 6 = .ok (.lload_n 0, 1) := by decide +kernel
theorem dX9_in_7 : decode cX9_in 7 = .ok (.lload 4, 2) := by decide +kernel
theorem dX9_in_9 : decode cX9_in 9 = .ok (.lcmp, 1) := by decide +kernel
theorem dX9_in_10 : decode cX9_in 10 = .ok (.ifCond .gt 7, 3) := by decide +kernel
theorem dX9_in_13 : decode cX9_in 13 = .ok (.iconst 1, 1) := by decide +kernel
theorem dX9_in_14 : decode cX9_in 14 = .ok (.goto 4, 3) := by decide +kernel
theorem dX9_in_17 : decode cX9_in 17 = .ok (.iconst 0, 1) := by decide +kernel
theorem dX9_in_18 : decode cX9_in 18 = .ok (.ireturn, 1) := by decide +kernel
set_option maxRecDepth 20000 in
theorem ggX9_isSlot_X9_in : GoodIn wsX9_isSlot wsX9_in := goodIn_r _ [5] (by decide +kernel) (by decide +kernel)
set_option maxRecDepth 20000 in
theorem gX9_isSlot_X9_in : GoodIn wsX9_isSlot (va_wsS RX9 97 yX9_in wsX9_in) := goodIn_app (goodIn_of _ (by decide +kernel)) ggX9_isSlot_X9_in
theorem dX9_isSlot_0 : decode cX9_isSlot 0 = .ok (.iload_n 0, 1) := by decide +kernel
theorem dX9_isSlot_1 : decode cX9_isSlot 1 = .ok (.i2l, 1) := by decide +kernel
theorem dX9_isSlot_2 : decode cX9_isSlot 2 = .ok (.lconst 0, 1) := by decide +kernel
theorem dX9_isSlot_3 : decode cX9_isSlot 3 = .ok (.ldc2_w 95, 3) := by decide +kernel
theorem dX9_isSlot_6 : decode cX9_isSlot 6 = .ok (.invokestatic 97, 3) := by decide +kernel
theorem dX9_isSlot_9 : decode cX9_isSlot 9 = .ok (.ireturn, 1) := by decide +kernel
set_option maxRecDepth 20000 in
theorem ggX9_row_X9_isSlot : GoodIn wsX9_row wsX9_isSlot := goodIn_r _ [9, 2, 10, 11, 8, 12] (by decide +kernel) (by decide +kernel)
set_option maxRecDepth 20000 in
theorem gX9_row_X9_isSlot : GoodIn wsX9_row (va_wsS RX9 101 yX9_isSlot wsX9_isSlot) := goodIn_app (goodIn_of _ (by decide +kernel)) ggX9_row_X9_isSlot
set_option maxRecDepth 20000 in
theorem ggX9_row_X9_in : GoodIn wsX9_row wsX9_in := goodIn_r _ [12] (by decide +kernel) (by decide +kernel)
set_option maxRecDepth 20000 in
theorem gX9_row_X9_in : GoodIn wsX9_row (va_wsS RX9 97 yX9_in wsX9_in) := goodIn_app (goodIn_of _ (by decide +kernel)) ggX9_row_X9_in
theorem dX9_row_0 : decode cX9_row 0 = .ok (.aload_n 0, 1) := by decide +kernel
theorem dX9_row_1 : decode cX9_row 1 = .ok (.iconst 0, 1) := by decide +kernel
theorem dX9_row_2 : decode cX9_row 2 = .ok (.putfield 92, 3) := by decide +kernel
theorem dX9_row_5 : decode cX9_row 5 = .ok (.iload_n 1, 1) := by decide +kernel
theorem dX9_row_6 : decode cX9_row 6 = .ok (.invokestatic 101, 3) := by decide +kernel
theorem dX9_row_9 : decode cX9_row 9 = .ok (.ifCond .eq 21, 3) := by decide +kernel
theorem dX9_row_12 : decode cX9_row 12 = .ok (.iload_n 2, 1) := by decide +kernel
theorem dX9_row_13 : decode cX9_row 13 = .ok (.i2l, 1) := by decide +kernel
theorem dX9_row_14 : decode cX9_row 14 = .ok (.lconst 0, 1) := by decide +kernel
theorem dX9_row_15 : decode cX9_row 15 = .ok (.ldc2_w 95, 3) := by decide +kernel
theorem dX9_row_18 : decode cX9_row 18 = .ok (.invokestatic 97, 3) := by decide +kernel
theorem dX9_row_21 : decode cX9_row 21 = .ok (.ifCond .eq 9, 3) := by decide +kernel
theorem dX9_row_24 : decode cX9_row 24 = .ok (.iload_n 3, 1) := by decide +kernel
theorem dX9_row_25 : decode cX9_row 25 = .ok (.bipush 60, 2) := by decide +kernel
theorem dX9_row_27 : decode cX9_row 27 = .ok (.if_icmp .le 6, 3) := by decide +kernel
theorem dX9_row_30 : decode cX9_row 30 = .ok (.bipush (-2), 2) := by decide +kernel
theorem dX9_row_32 : decode cX9_row 32 = .ok (.ireturn, 1) := by decide +kernel
theorem dX9_row_33 : decode cX9_row 33 = .ok (.iload_n 3, 1) := by decide +kernel
theorem dX9_row_34 : decode cX9_row 34 = .ok (.ifCond .ge 6, 3) := by decide +kernel
theorem dX9_row_37 : decode cX9_row 37 = .ok (.bipush (-3), 2) := by decide +kernel
theorem dX9_row_39 : decode cX9_row 39 = .ok (.ireturn, 1) := by decide +kernel
theorem dX9_row_40 : decode cX9_row 40 = .ok (.aload_n 0, 1) := by decide +kernel
theorem dX9_row_41 : decode cX9_row 41 = .ok (.getfield 7, 3) := by decide +kernel
theorem dX9_row_44 : decode cX9_row 44 = .ok (.iload_n 1, 1) := by decide +kernel
theorem dX9_row_45 : decode cX9_row 45 = .ok (.iload_n 2, 1) := by decide +kernel
theorem dX9_row_46 : decode cX9_row 46 = .ok (.iastore, 1) := by decide +kernel
theorem dX9_row_47 : decode cX9_row 47 = .ok (.aload_n 0, 1) := by decide +kernel
theorem dX9_row_48 : decode cX9_row 48 = .ok (.getfield 13, 3) := by decide +kernel
theorem dX9_row_51 : decode cX9_row 51 = .ok (.iload_n 1, 1) := by decide +kernel
theorem dX9_row_52 : decode cX9_row 52 = .ok (.iload_n 3, 1) := by decide +kernel
theorem dX9_row_53 : decode cX9_row 53 = .ok (.iastore, 1) := by decide +kernel
theorem dX9_row_54 : decode cX9_row 54 = .ok (.iconst 0, 1) := by decide +kernel
theorem dX9_row_55 : decode cX9_row 55 = .ok (.istore 4, 2) := by decide +kernel
theorem dX9_row_57 : decode cX9_row 57 = .ok (.iload 4, 2) := by decide +kernel
theorem dX9_row_59 : decode cX9_row 59 = .ok (.iload_n 3, 1) := by decide +kernel
theorem dX9_row_60 : decode cX9_row 60 = .ok (.if_icmp .ge 22, 3) := by decide +kernel
theorem dX9_row_63 : decode cX9_row 63 = .ok (.aload_n 0, 1) := by decide +kernel
theorem dX9_row_64 : decode cX9_row 64 = .ok (.getfield 16, 3) := by decide +kernel
theorem dX9_row_67 : decode cX9_row 67 = .ok (.bipush 60, 2) := by decide +kernel
theorem dX9_row_69 : decode cX9_row 69 = .ok (.iload_n 1, 1) := by decide +kernel
theorem dX9_row_70 : decode cX9_row 70 = .ok (.imul, 1) := by decide +kernel
theorem dX9_row_71 : decode cX9_row 71 = .ok (.iload 4, 2) := by decide +kernel
theorem dX9_row_73 : decode cX9_row 73 = .ok (.iadd, 1) := by decide +kernel
theorem dX9_row_74 : decode cX9_row 74 = .ok (.lconst 0, 1) := by decide +kernel
theorem dX9_row_75 : decode cX9_row 75 = .ok (.lastore, 1) := by decide +kernel
theorem dX9_row_76 : decode cX9_row 76 = .ok (.iinc 4 1, 3) := by decide +kernel
theorem dX9_row_79 : decode cX9_row 79 = .ok (.goto (-22), 3) := by decide +kernel
theorem dX9_row_82 : decode cX9_row 82 = .ok (.iconst 0, 1) := by decide +kernel
theorem dX9_row_83 : decode cX9_row 83 = .ok (.ireturn, 1) := by decide +kernel
set_option maxRecDepth 20000 in
theorem ggX9_write_X9_isSlot : GoodIn wsX9_write wsX9_isSlot := goodIn_r _ [8, 9, 10, 11, 7, 12] (by decide +kernel) (by decide +kernel)
set_option maxRecDepth 20000 in
theorem gX9_write_X9_isSlot : GoodIn wsX9_write (va_wsS RX9 101 yX9_isSlot wsX9_isSlot) := goodIn_app (goodIn_of _ (by decide +kernel)) ggX9_write_X9_isSlot
theorem dX9_write_0 : decode cX9_write 0 = .ok (.aload_n 0, 1) := by decide +kernel
theorem dX9_write_1 : decode cX9_write 1 = .ok (.iconst 0, 1) := by decide +kernel
theorem dX9_write_2 : decode cX9_write 2 = .ok (.putfield 92, 3) := by decide +kernel
theorem dX9_write_5 : decode cX9_write 5 = .ok (.iload_n 1, 1) := by decide +kernel
theorem dX9_write_6 : decode cX9_write 6 = .ok (.invokestatic 101, 3) := by decide +kernel
theorem dX9_write_9 : decode cX9_write 9 = .ok (.ifCond .ne 6, 3) := by decide +kernel
theorem dX9_write_12 : decode cX9_write 12 = .ok (.bipush (-2), 2) := by decide +kernel
theorem dX9_write_14 : decode cX9_write 14 = .ok (.ireturn, 1) := by decide +kernel
theorem dX9_write_15 : decode cX9_write 15 = .ok (.aload_n 0, 1) := by decide +kernel
theorem dX9_write_16 : decode cX9_write 16 = .ok (.getfield 7, 3) := by decide +kernel
theorem dX9_write_19 : decode cX9_write 19 = .ok (.iload_n 1, 1) := by decide +kernel
theorem dX9_write_20 : decode cX9_write 20 = .ok (.iaload, 1) := by decide +kernel
theorem dX9_write_21 : decode cX9_write 21 = .ok (.iconst (-1), 1) := by decide +kernel
theorem dX9_write_22 : decode cX9_write 22 = .ok (.if_icmp .ne 6, 3) := by decide +kernel
theorem dX9_write_25 : decode cX9_write 25 = .ok (.bipush (-6), 2) := by decide +kernel
theorem dX9_write_27 : decode cX9_write 27 = .ok (.ireturn, 1) := by decide +kernel
set_option maxRecDepth 20000 in
theorem ggX9_paste_X9_isSlot : GoodIn wsX9_paste wsX9_isSlot := goodIn_r _ [9, 10, 11, 12, 8, 13] (by decide +kernel) (by decide +kernel)
set_option maxRecDepth 20000 in
theorem gX9_paste_X9_isSlot : GoodIn wsX9_paste (va_wsS RX9 101 yX9_isSlot wsX9_isSlot) := goodIn_app (goodIn_of _ (by decide +kernel)) ggX9_paste_X9_isSlot
theorem dX9_paste_0 : decode cX9_paste 0 = .ok (.aload_n 0, 1) := by decide +kernel
theorem dX9_paste_1 : decode cX9_paste 1 = .ok (.iconst 0, 1) := by decide +kernel
theorem dX9_paste_2 : decode cX9_paste 2 = .ok (.putfield 92, 3) := by decide +kernel
theorem dX9_paste_5 : decode cX9_paste 5 = .ok (.iload_n 1, 1) := by decide +kernel
theorem dX9_paste_6 : decode cX9_paste 6 = .ok (.invokestatic 101, 3) := by decide +kernel
theorem dX9_paste_9 : decode cX9_paste 9 = .ok (.ifCond .eq 10, 3) := by decide +kernel
theorem dX9_paste_12 : decode cX9_paste 12 = .ok (.iload_n 3, 1) := by decide +kernel
theorem dX9_paste_13 : decode cX9_paste 13 = .ok (.invokestatic 101, 3) := by decide +kernel
theorem dX9_paste_16 : decode cX9_paste 16 = .ok (.ifCond .ne 6, 3) := by decide +kernel
theorem dX9_paste_19 : decode cX9_paste 19 = .ok (.bipush (-2), 2) := by decide +kernel
theorem dX9_paste_21 : decode cX9_paste 21 = .ok (.ireturn, 1) := by decide +kernel
theorem dX9_paste_22 : decode cX9_paste 22 = .ok (.aload_n 0, 1) := by decide +kernel
theorem dX9_paste_23 : decode cX9_paste 23 = .ok (.getfield 7, 3) := by decide +kernel
theorem dX9_paste_26 : decode cX9_paste 26 = .ok (.iload_n 1, 1) := by decide +kernel
theorem dX9_paste_27 : decode cX9_paste 27 = .ok (.iaload, 1) := by decide +kernel
theorem dX9_paste_28 : decode cX9_paste 28 = .ok (.iconst (-1), 1) := by decide +kernel
theorem dX9_paste_29 : decode cX9_paste 29 = .ok (.if_icmp .eq 13, 3) := by decide +kernel
theorem dX9_paste_42 : decode cX9_paste 42 = .ok (.bipush (-6), 2) := by decide +kernel
theorem dX9_paste_44 : decode cX9_paste 44 = .ok (.ireturn, 1) := by decide +kernel
set_option maxRecDepth 20000 in
theorem ggX9_feed_X9_four : GoodIn wsX9_feed wsX9_four := goodIn_r _ [7, 8, 2, 9, 10, 11, 12, 13, 14, 15, 16, 17, 18, 19, 20, 21, 22, 23, 24, 25, 26, 27, 28, 29, 30, 31, 32, 33, 34, 35, 36, 37, 38, 39, 40, 41, 42, 43, 44, 45, 46, 47, 48, 49, 50, 51, 52, 53, 54] (by decide +kernel) (by decide +kernel)
set_option maxRecDepth 20000 in
theorem gX9_feed_X9_four : GoodIn wsX9_feed (wsV RX9 112 RX9 yX9_four wsX9_four) := goodIn_app (goodIn_of _ (by decide +kernel)) ggX9_feed_X9_four
theorem dX9_feed_0 : decode cX9_feed 0 = .ok (.aload_n 0, 1) := by decide +kernel
theorem dX9_feed_1 : decode cX9_feed 1 = .ok (.iconst 0, 1) := by decide +kernel
theorem dX9_feed_2 : decode cX9_feed 2 = .ok (.putfield 92, 3) := by decide +kernel
theorem dX9_feed_5 : decode cX9_feed 5 = .ok (.aload_n 0, 1) := by decide +kernel
theorem dX9_feed_6 : decode cX9_feed 6 = .ok (.getfield 109, 3) := by decide +kernel
theorem dX9_feed_9 : decode cX9_feed 9 = .ok (.bipush 20, 2) := by decide +kernel
theorem dX9_feed_11 : decode cX9_feed 11 = .ok (.iadd, 1) := by decide +kernel
theorem dX9_feed_12 : decode cX9_feed 12 = .ok (.sipush 1600, 3) := by decide +kernel
theorem dX9_feed_15 : decode cX9_feed 15 = .ok (.if_icmp .le 5, 3) := by decide +kernel
theorem dX9_feed_20 : decode cX9_feed 20 = .ok (.aload_n 0, 1) := by decide +kernel
theorem dX9_feed_21 : decode cX9_feed 21 = .ok (.iload_n 1, 1) := by decide +kernel
theorem dX9_feed_22 : decode cX9_feed 22 = .ok (.invokevirtual 112, 3) := by decide +kernel
theorem dX9_feed_25 : decode cX9_feed 25 = .ok (.aload_n 0, 1) := by decide +kernel
theorem dX9_feed_26 : decode cX9_feed 26 = .ok (.iload_n 2, 1) := by decide +kernel
theorem dX9_feed_27 : decode cX9_feed 27 = .ok (.invokevirtual 112, 3) := by decide +kernel
theorem dX9_feed_30 : decode cX9_feed 30 = .ok (.aload_n 0, 1) := by decide +kernel
theorem dX9_feed_31 : decode cX9_feed 31 = .ok (.iload_n 3, 1) := by decide +kernel
theorem dX9_feed_32 : decode cX9_feed 32 = .ok (.invokevirtual 112, 3) := by decide +kernel
theorem dX9_feed_35 : decode cX9_feed 35 = .ok (.aload_n 0, 1) := by decide +kernel
theorem dX9_feed_36 : decode cX9_feed 36 = .ok (.iload 4, 2) := by decide +kernel
theorem dX9_feed_38 : decode cX9_feed 38 = .ok (.invokevirtual 112, 3) := by decide +kernel
theorem dX9_feed_41 : decode cX9_feed 41 = .ok (.aload_n 0, 1) := by decide +kernel
theorem dX9_feed_42 : decode cX9_feed 42 = .ok (.iload 5, 2) := by decide +kernel
theorem dX9_feed_44 : decode cX9_feed 44 = .ok (.invokevirtual 112, 3) := by decide +kernel
theorem dX9_feed_47 : decode cX9_feed 47 = .ok (.aload_n 0, 1) := by decide +kernel
theorem dX9_feed_48 : decode cX9_feed 48 = .ok (.getfield 109, 3) := by decide +kernel
theorem dX9_feed_51 : decode cX9_feed 51 = .ok (.ireturn, 1) := by decide +kernel
theorem dX9_four_0 : decode cX9_four 0 = .ok (.bipush 24, 2) := by decide +kernel
theorem dX9_four_2 : decode cX9_four 2 = .ok (.istore_n 2, 1) := by decide +kernel
theorem dX9_four_3 : decode cX9_four 3 = .ok (.iload_n 2, 1) := by decide +kernel
theorem dX9_four_4 : decode cX9_four 4 = .ok (.ifCond .lt 32, 3) := by decide +kernel
theorem dX9_four_7 : decode cX9_four 7 = .ok (.aload_n 0, 1) := by decide +kernel
theorem dX9_four_8 : decode cX9_four 8 = .ok (.getfield 23, 3) := by decide +kernel
theorem dX9_four_11 : decode cX9_four 11 = .ok (.aload_n 0, 1) := by decide +kernel
theorem dX9_four_12 : decode cX9_four 12 = .ok (.getfield 109, 3) := by decide +kernel
theorem dX9_four_15 : decode cX9_four 15 = .ok (.iload_n 1, 1) := by decide +kernel
theorem dX9_four_16 : decode cX9_four 16 = .ok (.iload_n 2, 1) := by decide +kernel
theorem dX9_four_17 : decode cX9_four 17 = .ok (.ishr, 1) := by decide +kernel
theorem dX9_four_18 : decode cX9_four 18 = .ok (.i2b, 1) := by decide +kernel
theorem dX9_four_19 : decode cX9_four 19 = .ok (.bastore, 1) := by decide +kernel
theorem dX9_four_20 : decode cX9_four 20 = .ok (.aload_n 0, 1) := by decide +kernel
theorem dX9_four_21 : decode cX9_four 21 = .ok (.dup, 1) := by decide +kernel
theorem dX9_four_22 : decode cX9_four 22 = .ok (.getfield 109, 3) := by decide +kernel
theorem dX9_four_25 : decode cX9_four 25 = .ok (.iconst 1, 1) := by decide +kernel
theorem dX9_four_26 : decode cX9_four 26 = .ok (.iadd, 1) := by decide +kernel
theorem dX9_four_27 : decode cX9_four 27 = .ok (.putfield 109, 3) := by decide +kernel
theorem dX9_four_30 : decode cX9_four 30 = .ok (.iinc 2 (-8), 3) := by decide +kernel
theorem dX9_four_33 : decode cX9_four 33 = .ok (.goto (-30), 3) := by decide +kernel
theorem dX9_four_36 : decode cX9_four 36 = .ok (.return_, 1) := by decide +kernel
set_option maxRecDepth 20000 in
theorem ggX9_end_X9_in : GoodIn wsX9_end wsX9_in := goodIn_r _ [6] (by decide +kernel) (by decide +kernel)
set_option maxRecDepth 20000 in
theorem gX9_end_X9_in : GoodIn wsX9_end (va_wsS RX9 97 yX9_in wsX9_in) := goodIn_app (goodIn_of _ (by decide +kernel)) ggX9_end_X9_in
theorem dX9_end_0 : decode cX9_end 0 = .ok (.aload_n 0, 1) := by decide +kernel
theorem dX9_end_1 : decode cX9_end 1 = .ok (.iconst 0, 1) := by decide +kernel
theorem dX9_end_2 : decode cX9_end 2 = .ok (.putfield 92, 3) := by decide +kernel
theorem dX9_end_5 : decode cX9_end 5 = .ok (.iload_n 1, 1) := by decide +kernel
theorem dX9_end_6 : decode cX9_end 6 = .ok (.i2l, 1) := by decide +kernel
theorem dX9_end_7 : decode cX9_end 7 = .ok (.lconst 0, 1) := by decide +kernel
theorem dX9_end_8 : decode cX9_end 8 = .ok (.aload_n 0, 1) := by decide +kernel
theorem dX9_end_9 : decode cX9_end 9 = .ok (.getfield 109, 3) := by decide +kernel
theorem dX9_end_12 : decode cX9_end 12 = .ok (.i2l, 1) := by decide +kernel
theorem dX9_end_13 : decode cX9_end 13 = .ok (.invokestatic 97, 3) := by decide +kernel
theorem dX9_end_16 : decode cX9_end 16 = .ok (.ifCond .ne 5, 3) := by decide +kernel
theorem dX9_end_19 : decode cX9_end 19 = .ok (.iconst (-1), 1) := by decide +kernel
theorem dX9_end_20 : decode cX9_end 20 = .ok (.ireturn, 1) := by decide +kernel
theorem dX9_end_21 : decode cX9_end 21 = .ok (.aload_n 0, 1) := by decide +kernel
theorem dX9_end_22 : decode cX9_end 22 = .ok (.iload_n 1, 1) := by decide +kernel
theorem dX9_end_23 : decode cX9_end 23 = .ok (.putfield 109, 3) := by decide +kernel
theorem dX9_end_26 : decode cX9_end 26 = .ok (.iload_n 1, 1) := by decide +kernel
theorem dX9_end_27 : decode cX9_end 27 = .ok (.ireturn, 1) := by decide +kernel
theorem dX9_isByte_0 : decode cX9_isByte 0 = .ok (.iload_n 1, 1) := by decide +kernel
theorem dX9_isByte_1 : decode cX9_isByte 1 = .ok (.aload_n 0, 1) := by decide +kernel
theorem dX9_isByte_2 : decode cX9_isByte 2 = .ok (.getfield 109, 3) := by decide +kernel
theorem dX9_isByte_5 : decode cX9_isByte 5 = .ok (.if_icmp .ge 27, 3) := by decide +kernel
theorem dX9_isByte_32 : decode cX9_isByte 32 = .ok (.iconst 0, 1) := by decide +kernel
theorem dX9_isByte_33 : decode cX9_isByte 33 = .ok (.ireturn, 1) := by decide +kernel
set_option maxRecDepth 20000 in
theorem ggX9_next_X9_isByte : GoodIn wsX9_next wsX9_isByte := goodIn_r _ [17, 5, 9, 18, 19, 20, 21, 22, 23, 24, 25, 26, 27, 28, 29, 30, 31, 32, 33, 34, 35, 36, 37, 38, 39, 40, 41, 42, 43, 44, 45, 46, 47, 48, 49, 50, 51, 52, 53, 54, 55, 56, 57, 58, 59, 60, 61, 62, 63] (by decide +kernel) (by decide +kernel)
set_option maxRecDepth 20000 in
theorem gX9_next_X9_isByte : GoodIn wsX9_next (wsV RX9 119 RX9 yX9_isByte wsX9_isByte) := goodIn_app (goodIn_of _ (by decide +kernel)) ggX9_next_X9_isByte
theorem dX9_next_0 : decode cX9_next 0 = .ok (.aload_n 0, 1) := by decide +kernel
theorem dX9_next_1 : decode cX9_next 1 = .ok (.aload_n 0, 1) := by decide +kernel
theorem dX9_next_2 : decode cX9_next 2 = .ok (.getfield 116, 3) := by decide +kernel
theorem dX9_next_5 : decode cX9_next 5 = .ok (.bipush 32, 2) := by decide +kernel
theorem dX9_next_7 : decode cX9_next 7 = .ok (.bipush 32, 2) := by decide +kernel
theorem dX9_next_9 : decode cX9_next 9 = .ok (.invokevirtual 119, 3) := by decide +kernel
theorem dX9_next_12 : decode cX9_next 12 = .ok (.ifCond .ne 18, 3) := by decide +kernel
theorem dX9_next_15 : decode cX9_next 15 = .ok (.aload_n 0, 1) := by decide +kernel
theorem dX9_next_16 : decode cX9_next 16 = .ok (.aload_n 0, 1) := by decide +kernel
theorem dX9_next_17 : decode cX9_next 17 = .ok (.getfield 116, 3) := by decide +kernel
theorem dX9_next_20 : decode cX9_next 20 = .ok (.bipush 10, 2) := by decide +kernel
theorem dX9_next_22 : decode cX9_next 22 = .ok (.bipush 10, 2) := by decide +kernel
theorem dX9_next_24 : decode cX9_next 24 = .ok (.invokevirtual 119, 3) := by decide +kernel
theorem dX9_next_27 : decode cX9_next 27 = .ok (.ifCond .eq 16, 3) := by decide +kernel
theorem dX9_next_43 : decode cX9_next 43 = .ok (.aload_n 0, 1) := by decide +kernel
theorem dX9_next_44 : decode cX9_next 44 = .ok (.aload_n 0, 1) := by decide +kernel
theorem dX9_next_45 : decode cX9_next 45 = .ok (.getfield 116, 3) := by decide +kernel
theorem dX9_next_48 : decode cX9_next 48 = .ok (.putfield 123, 3) := by decide +kernel
theorem dX9_next_51 : decode cX9_next 51 = .ok (.aload_n 0, 1) := by decide +kernel
theorem dX9_next_52 : decode cX9_next 52 = .ok (.iconst 0, 1) := by decide +kernel
theorem dX9_next_53 : decode cX9_next 53 = .ok (.putfield 126, 3) := by decide +kernel
theorem dX9_next_56 : decode cX9_next 56 = .ok (.aload_n 0, 1) := by decide +kernel
theorem dX9_next_57 : decode cX9_next 57 = .ok (.lconst 0, 1) := by decide +kernel
theorem dX9_next_58 : decode cX9_next 58 = .ok (.putfield 129, 3) := by decide +kernel
theorem dX9_next_61 : decode cX9_next 61 = .ok (.aload_n 0, 1) := by decide +kernel
theorem dX9_next_62 : decode cX9_next 62 = .ok (.getfield 116, 3) := by decide +kernel
theorem dX9_next_65 : decode cX9_next 65 = .ok (.aload_n 0, 1) := by decide +kernel
theorem dX9_next_66 : decode cX9_next 66 = .ok (.getfield 109, 3) := by decide +kernel
theorem dX9_next_69 : decode cX9_next 69 = .ok (.if_icmp .ne 11, 3) := by decide +kernel
theorem dX9_next_72 : decode cX9_next 72 = .ok (.aload_n 0, 1) := by decide +kernel
theorem dX9_next_73 : decode cX9_next 73 = .ok (.iconst 0, 1) := by decide +kernel
theorem dX9_next_74 : decode cX9_next 74 = .ok (.putfield 133, 3) := by decide +kernel
theorem dX9_next_77 : decode cX9_next 77 = .ok (.goto 230, 3) := by decide +kernel
theorem dX9_next_307 : decode cX9_next 307 = .ok (.return_, 1) := by decide +kernel
theorem dX9_isGood_0 : decode cX9_isGood 0 = .ok (.aload_n 0, 1) := by decide +kernel
theorem dX9_isGood_1 : decode cX9_isGood 1 = .ok (.getfield 144, 3) := by decide +kernel
theorem dX9_isGood_4 : decode cX9_isGood 4 = .ok (.ifCond .ne 7, 3) := by decide +kernel
theorem dX9_isGood_7 : decode cX9_isGood 7 = .ok (.iconst 1, 1) := by decide +kernel
theorem dX9_isGood_8 : decode cX9_isGood 8 = .ok (.goto 4, 3) := by decide +kernel
theorem dX9_isGood_12 : decode cX9_isGood 12 = .ok (.ireturn, 1) := by decide +kernel
set_option maxRecDepth 20000 in
theorem ggX9_begins_X9_next : GoodIn wsX9_begins wsX9_next := goodIn_r _ [8, 3, 9, 10, 11, 12, 13, 14, 15, 16, 17, 18, 19, 20, 21, 22, 7, 23, 24, 25, 26, 27, 28, 29, 30, 31, 32, 33, 34, 35, 36, 37, 38, 39, 40, 41, 42, 43, 44, 45, 46, 47, 48, 49, 50, 51, 52, 53, 54, 55, 56, 57, 58, 59, 60, 61, 62, 63, 64, 65, 66, 67, 68, 69] (by decide +kernel) (by decide +kernel)
set_option maxRecDepth 20000 in
theorem gX9_begins_X9_next : GoodIn wsX9_begins (wsV RX9 154 RX9 yX9_next wsX9_next) := goodIn_app (goodIn_of _ (by decide +kernel)) ggX9_begins_X9_next
theorem dX9_begins_0 : decode cX9_begins 0 = .ok (.aload_n 0, 1) := by decide +kernel
theorem dX9_begins_1 : decode cX9_begins 1 = .ok (.iconst 0, 1) := by decide +kernel
theorem dX9_begins_2 : decode cX9_begins 2 = .ok (.putfield 144, 3) := by decide +kernel
theorem dX9_begins_5 : decode cX9_begins 5 = .ok (.aload_n 0, 1) := by decide +kernel
theorem dX9_begins_6 : decode cX9_begins 6 = .ok (.iconst (-1), 1) := by decide +kernel
theorem dX9_begins_7 : decode cX9_begins 7 = .ok (.putfield 147, 3) := by decide +kernel
theorem dX9_begins_10 : decode cX9_begins 10 = .ok (.aload_n 0, 1) := by decide +kernel
theorem dX9_begins_11 : decode cX9_begins 11 = .ok (.iconst 0, 1) := by decide +kernel
theorem dX9_begins_12 : decode cX9_begins 12 = .ok (.putfield 116, 3) := by decide +kernel
theorem dX9_begins_15 : decode cX9_begins 15 = .ok (.aload_n 0, 1) := by decide +kernel
theorem dX9_begins_16 : decode cX9_begins 16 = .ok (.invokevirtual 154, 3) := by decide +kernel
theorem dX9_begins_19 : decode cX9_begins 19 = .ok (.return_, 1) := by decide +kernel
theorem dX9_isOver_0 : decode cX9_isOver 0 = .ok (.aload_n 0, 1) := by decide +kernel
theorem dX9_isOver_1 : decode cX9_isOver 1 = .ok (.iconst 0, 1) := by decide +kernel
theorem dX9_isOver_2 : decode cX9_isOver 2 = .ok (.putfield 109, 3) := by decide +kernel
theorem dX9_isOver_5 : decode cX9_isOver 5 = .ok (.aload_n 0, 1) := by decide +kernel
theorem dX9_isOver_6 : decode cX9_isOver 6 = .ok (.aload_n 0, 1) := by decide +kernel
theorem dX9_isOver_7 : decode cX9_isOver 7 = .ok (.getfield 144, 3) := by decide +kernel
theorem dX9_isOver_10 : decode cX9_isOver 10 = .ok (.putfield 171, 3) := by decide +kernel
theorem dX9_isOver_13 : decode cX9_isOver 13 = .ok (.aload_n 0, 1) := by decide +kernel
theorem dX9_isOver_14 : decode cX9_isOver 14 = .ok (.aload_n 0, 1) := by decide +kernel
theorem dX9_isOver_15 : decode cX9_isOver 15 = .ok (.getfield 144, 3) := by decide +kernel
theorem dX9_isOver_18 : decode cX9_isOver 18 = .ok (.ifCond .ne 7, 3) := by decide +kernel
theorem dX9_isOver_21 : decode cX9_isOver 21 = .ok (.iconst (-1), 1) := by decide +kernel
theorem dX9_isOver_22 : decode cX9_isOver 22 = .ok (.goto 7, 3) := by decide +kernel
theorem dX9_isOver_29 : decode cX9_isOver 29 = .ok (.putfield 27, 3) := by decide +kernel
theorem dX9_isOver_32 : decode cX9_isOver 32 = .ok (.return_, 1) := by decide +kernel
theorem dX9_fault_0 : decode cX9_fault 0 = .ok (.aload_n 0, 1) := by decide +kernel
theorem dX9_fault_1 : decode cX9_fault 1 = .ok (.iconst 0, 1) := by decide +kernel
theorem dX9_fault_2 : decode cX9_fault 2 = .ok (.putfield 92, 3) := by decide +kernel
theorem dX9_fault_5 : decode cX9_fault 5 = .ok (.iload_n 1, 1) := by decide +kernel
theorem dX9_fault_6 : decode cX9_fault 6 = .ok (.ifCond .ne 10, 3) := by decide +kernel
theorem dX9_fault_9 : decode cX9_fault 9 = .ok (.aload_n 0, 1) := by decide +kernel
theorem dX9_fault_10 : decode cX9_fault 10 = .ok (.getfield 171, 3) := by decide +kernel
theorem dX9_fault_13 : decode cX9_fault 13 = .ok (.goto 16, 3) := by decide +kernel
theorem dX9_fault_16 : decode cX9_fault 16 = .ok (.iload_n 1, 1) := by decide +kernel
theorem dX9_fault_17 : decode cX9_fault 17 = .ok (.iconst 1, 1) := by decide +kernel
theorem dX9_fault_18 : decode cX9_fault 18 = .ok (.if_icmp .ne 10, 3) := by decide +kernel
theorem dX9_fault_21 : decode cX9_fault 21 = .ok (.aload_n 0, 1) := by decide +kernel
theorem dX9_fault_22 : decode cX9_fault 22 = .ok (.getfield 27, 3) := by decide +kernel
theorem dX9_fault_25 : decode cX9_fault 25 = .ok (.goto 4, 3) := by decide +kernel
theorem dX9_fault_28 : decode cX9_fault 28 = .ok (.iconst (-1), 1) := by decide +kernel
theorem dX9_fault_29 : decode cX9_fault 29 = .ok (.ireturn, 1) := by decide +kernel
theorem dX9_clears_0 : decode cX9_clears 0 = .ok (.aload_n 0, 1) := by decide +kernel
theorem dX9_clears_1 : decode cX9_clears 1 = .ok (.getfield 31, 3) := by decide +kernel
theorem dX9_clears_4 : decode cX9_clears 4 = .ok (.iconst 4, 1) := by decide +kernel
theorem dX9_clears_5 : decode cX9_clears 5 = .ok (.iconst 0, 1) := by decide +kernel
theorem dX9_clears_6 : decode cX9_clears 6 = .ok (.iastore, 1) := by decide +kernel
theorem dX9_clears_7 : decode cX9_clears 7 = .ok (.aload_n 0, 1) := by decide +kernel
theorem dX9_clears_8 : decode cX9_clears 8 = .ok (.getfield 34, 3) := by decide +kernel
theorem dX9_clears_11 : decode cX9_clears 11 = .ok (.iconst 4, 1) := by decide +kernel
theorem dX9_clears_12 : decode cX9_clears 12 = .ok (.iconst 0, 1) := by decide +kernel
theorem dX9_clears_13 : decode cX9_clears 13 = .ok (.iastore, 1) := by decide +kernel
theorem dX9_clears_14 : decode cX9_clears 14 = .ok (.iconst 0, 1) := by decide +kernel
theorem dX9_clears_15 : decode cX9_clears 15 = .ok (.istore_n 1, 1) := by decide +kernel
theorem dX9_clears_16 : decode cX9_clears 16 = .ok (.iload_n 1, 1) := by decide +kernel
theorem dX9_clears_17 : decode cX9_clears 17 = .ok (.bipush 6, 2) := by decide +kernel
theorem dX9_clears_19 : decode cX9_clears 19 = .ok (.if_icmp .ge 48, 3) := by decide +kernel
theorem dX9_clears_22 : decode cX9_clears 22 = .ok (.bipush 24, 2) := by decide +kernel
theorem dX9_clears_24 : decode cX9_clears 24 = .ok (.iload_n 1, 1) := by decide +kernel
theorem dX9_clears_25 : decode cX9_clears 25 = .ok (.iadd, 1) := by decide +kernel
theorem dX9_clears_26 : decode cX9_clears 26 = .ok (.istore_n 2, 1) := by decide +kernel
theorem dX9_clears_27 : decode cX9_clears 27 = .ok (.aload_n 0, 1) := by decide +kernel
theorem dX9_clears_28 : decode cX9_clears 28 = .ok (.getfield 37, 3) := by decide +kernel
theorem dX9_clears_31 : decode cX9_clears 31 = .ok (.iload_n 2, 1) := by decide +kernel
theorem dX9_clears_32 : decode cX9_clears 32 = .ok (.iconst 0, 1) := by decide +kernel
theorem dX9_clears_33 : decode cX9_clears 33 = .ok (.iastore, 1) := by decide +kernel
theorem dX9_clears_34 : decode cX9_clears 34 = .ok (.aload_n 0, 1) := by decide +kernel
theorem dX9_clears_35 : decode cX9_clears 35 = .ok (.getfield 40, 3) := by decide +kernel
theorem dX9_clears_38 : decode cX9_clears 38 = .ok (.iload_n 2, 1) := by decide +kernel
theorem dX9_clears_39 : decode cX9_clears 39 = .ok (.iconst 1, 1) := by decide +kernel
theorem dX9_clears_40 : decode cX9_clears 40 = .ok (.iastore, 1) := by decide +kernel
theorem dX9_clears_41 : decode cX9_clears 41 = .ok (.aload_n 0, 1) := by decide +kernel
theorem dX9_clears_42 : decode cX9_clears 42 = .ok (.getfield 43, 3) := by decide +kernel
theorem dX9_clears_45 : decode cX9_clears 45 = .ok (.bipush 8, 2) := by decide +kernel
theorem dX9_clears_47 : decode cX9_clears 47 = .ok (.iload_n 2, 1) := by decide +kernel
theorem dX9_clears_48 : decode cX9_clears 48 = .ok (.imul, 1) := by decide +kernel
theorem dX9_clears_49 : decode cX9_clears 49 = .ok (.iconst 0, 1) := by decide +kernel
theorem dX9_clears_50 : decode cX9_clears 50 = .ok (.iastore, 1) := by decide +kernel
theorem dX9_clears_51 : decode cX9_clears 51 = .ok (.aload_n 0, 1) := by decide +kernel
theorem dX9_clears_52 : decode cX9_clears 52 = .ok (.getfield 46, 3) := by decide +kernel
theorem dX9_clears_55 : decode cX9_clears 55 = .ok (.bipush 8, 2) := by decide +kernel
theorem dX9_clears_57 : decode cX9_clears 57 = .ok (.iload_n 2, 1) := by decide +kernel
theorem dX9_clears_58 : decode cX9_clears 58 = .ok (.imul, 1) := by decide +kernel
theorem dX9_clears_59 : decode cX9_clears 59 = .ok (.iload_n 1, 1) := by decide +kernel
theorem dX9_clears_60 : decode cX9_clears 60 = .ok (.iastore, 1) := by decide +kernel
theorem dX9_clears_61 : decode cX9_clears 61 = .ok (.iinc 1 1, 3) := by decide +kernel
theorem dX9_clears_64 : decode cX9_clears 64 = .ok (.goto (-48), 3) := by decide +kernel
theorem dX9_clears_67 : decode cX9_clears 67 = .ok (.aload_n 0, 1) := by decide +kernel
theorem dX9_clears_68 : decode cX9_clears 68 = .ok (.getfield 49, 3) := by decide +kernel
theorem dX9_clears_71 : decode cX9_clears 71 = .ok (.bipush 8, 2) := by decide +kernel
theorem dX9_clears_73 : decode cX9_clears 73 = .ok (.iconst 0, 1) := by decide +kernel
theorem dX9_clears_74 : decode cX9_clears 74 = .ok (.iastore, 1) := by decide +kernel
theorem dX9_clears_75 : decode cX9_clears 75 = .ok (.aload_n 0, 1) := by decide +kernel
theorem dX9_clears_76 : decode cX9_clears 76 = .ok (.getfield 49, 3) := by decide +kernel
theorem dX9_clears_79 : decode cX9_clears 79 = .ok (.bipush 9, 2) := by decide +kernel
theorem dX9_clears_81 : decode cX9_clears 81 = .ok (.iconst 0, 1) := by decide +kernel
theorem dX9_clears_82 : decode cX9_clears 82 = .ok (.iastore, 1) := by decide +kernel
theorem dX9_clears_83 : decode cX9_clears 83 = .ok (.aload_n 0, 1) := by decide +kernel
theorem dX9_clears_84 : decode cX9_clears 84 = .ok (.getfield 58, 3) := by decide +kernel
theorem dX9_clears_87 : decode cX9_clears 87 = .ok (.bipush 8, 2) := by decide +kernel
theorem dX9_clears_89 : decode cX9_clears 89 = .ok (.bipush 9, 2) := by decide +kernel
theorem dX9_clears_91 : decode cX9_clears 91 = .ok (.iastore, 1) := by decide +kernel
theorem dX9_clears_92 : decode cX9_clears 92 = .ok (.aload_n 0, 1) := by decide +kernel
theorem dX9_clears_93 : decode cX9_clears 93 = .ok (.getfield 58, 3) := by decide +kernel
theorem dX9_clears_96 : decode cX9_clears 96 = .ok (.bipush 9, 2) := by decide +kernel
theorem dX9_clears_98 : decode cX9_clears 98 = .ok (.iconst 0, 1) := by decide +kernel
theorem dX9_clears_99 : decode cX9_clears 99 = .ok (.iastore, 1) := by decide +kernel
theorem dX9_clears_100 : decode cX9_clears 100 = .ok (.aload_n 0, 1) := by decide +kernel
theorem dX9_clears_101 : decode cX9_clears 101 = .ok (.iconst 0, 1) := by decide +kernel
theorem dX9_clears_102 : decode cX9_clears 102 = .ok (.putfield 188, 3) := by decide +kernel
theorem dX9_clears_105 : decode cX9_clears 105 = .ok (.return_, 1) := by decide +kernel
set_option maxRecDepth 20000 in
theorem ggX9_city_X9_clears : GoodIn wsX9_city wsX9_clears := goodIn_r _ [11, 3, 5, 12, 13, 14, 15, 16, 17, 18, 124, 125, 126, 127, 128, 129, 130, 131, 132, 133, 134, 135, 136, 137, 138, 139, 140, 141, 142, 143, 144, 145, 146, 147, 148, 149, 150, 151, 152, 153, 154, 155, 156, 157, 158, 159, 160, 161, 162, 163, 164, 165, 166, 167, 168, 169] (by decide +kernel) (by decide +kernel)
set_option maxRecDepth 20000 in
theorem gX9_city_X9_clears : GoodIn wsX9_city (wsV RX9 226 RX9 yX9_clears wsX9_clears) := goodIn_app (goodIn_of _ (by decide +kernel)) ggX9_city_X9_clears
set_option maxRecDepth 20000 in
theorem ggX9_city_X9_begins : GoodIn wsX9_city wsX9_begins := goodIn_r _ [22, 6, 23, 24, 25, 26, 27, 10, 28, 29, 30, 31, 32, 2, 33, 34, 35, 36, 37, 38, 39, 40, 41, 42, 124, 125, 126, 127, 128, 129, 130, 131, 132, 133, 134, 135, 136, 137, 138, 139, 140, 141, 142, 143, 144, 145, 146, 147, 148, 149, 150, 151, 152, 153, 154, 155, 156, 157, 158, 159, 160, 161, 162, 163, 164, 165, 166, 167, 168, 169] (by decide +kernel) (by decide +kernel)
set_option maxRecDepth 20000 in
theorem gX9_city_X9_begins : GoodIn wsX9_city (wsV RX9 229 RX9 yX9_begins wsX9_begins) := goodIn_app (goodIn_of _ (by decide +kernel)) ggX9_city_X9_begins
set_option maxRecDepth 20000 in
theorem ggX9_city_X9_isGood : GoodIn wsX9_city wsX9_isGood := goodIn_r _ [46, 6, 124, 125, 126, 127, 128, 129, 130, 131, 132, 133, 134, 135, 136, 137, 138, 139, 140, 141, 142, 143, 144, 145, 146, 147, 148, 149, 150, 151, 152, 153, 154, 155, 156, 157, 158, 159, 160, 161, 162, 163, 164, 165, 166, 167, 168, 169] (by decide +kernel) (by decide +kernel)
set_option maxRecDepth 20000 in
theorem gX9_city_X9_isGood : GoodIn wsX9_city (wsV RX9 178 RX9 yX9_isGood wsX9_isGood) := goodIn_app (goodIn_of _ (by decide +kernel)) ggX9_city_X9_isGood
set_option maxRecDepth 20000 in
theorem ggX9_city_X9_isOver : GoodIn wsX9_city wsX9_isOver := goodIn_r _ [114, 32, 6, 115, 23, 116, 124, 125, 126, 127, 128, 129, 130, 131, 132, 133, 134, 135, 136, 137, 138, 139, 140, 141, 142, 143, 144, 145, 146, 147, 148, 149, 150, 151, 152, 153, 154, 155, 156, 157, 158, 159, 160, 161, 162, 163, 164, 165, 166, 167, 168, 169] (by decide +kernel) (by decide +kernel)
set_option maxRecDepth 20000 in
theorem gX9_city_X9_isOver : GoodIn wsX9_city (wsV RX9 240 RX9 yX9_isOver wsX9_isOver) := goodIn_app (goodIn_of _ (by decide +kernel)) ggX9_city_X9_isOver
set_option maxRecDepth 20000 in
theorem ggX9_city_X9_copyCity : GoodIn wsX9_city wsX9_copyCity := goodIn_r _ [120, 3, 5, 12, 13, 14, 15, 16, 79, 80, 17, 121, 122, 10, 123, 124, 125, 126, 127, 128, 129, 130, 131, 132, 133, 134, 135, 136, 137, 138, 139, 140, 141, 142, 143, 144, 145, 146, 147, 148, 149, 150, 151, 152, 153, 154, 155, 156, 157, 158, 159, 160, 161, 162, 163, 164, 165, 166, 167, 168, 169] (by decide +kernel) (by decide +kernel)
set_option maxRecDepth 20000 in
theorem gX9_city_X9_copyCity : GoodIn wsX9_city (wsV RX9 243 RX9 yX9_copyCity wsX9_copyCity) := goodIn_app (goodIn_of _ (by decide +kernel)) ggX9_city_X9_copyCity
theorem dX9_city_0 : decode cX9_city 0 = .ok (.aload_n 0, 1) := by decide +kernel
theorem dX9_city_1 : decode cX9_city 1 = .ok (.iconst 0, 1) := by decide +kernel
theorem dX9_city_2 : decode cX9_city 2 = .ok (.putfield 92, 3) := by decide +kernel
theorem dX9_city_5 : decode cX9_city 5 = .ok (.aload_n 0, 1) := by decide +kernel
theorem dX9_city_6 : decode cX9_city 6 = .ok (.invokevirtual 226, 3) := by decide +kernel
theorem dX9_city_9 : decode cX9_city 9 = .ok (.aload_n 0, 1) := by decide +kernel
theorem dX9_city_10 : decode cX9_city 10 = .ok (.invokevirtual 229, 3) := by decide +kernel
theorem dX9_city_13 : decode cX9_city 13 = .ok (.aload_n 0, 1) := by decide +kernel
theorem dX9_city_14 : decode cX9_city 14 = .ok (.invokevirtual 178, 3) := by decide +kernel
theorem dX9_city_17 : decode cX9_city 17 = .ok (.ifCond .eq 70, 3) := by decide +kernel
theorem dX9_city_20 : decode cX9_city 20 = .ok (.aload_n 0, 1) := by decide +kernel
theorem dX9_city_21 : decode cX9_city 21 = .ok (.getfield 133, 3) := by decide +kernel
theorem dX9_city_24 : decode cX9_city 24 = .ok (.ifCond .eq 63, 3) := by decide +kernel
theorem dX9_city_87 : decode cX9_city 87 = .ok (.aload_n 0, 1) := by decide +kernel
theorem dX9_city_88 : decode cX9_city 88 = .ok (.invokevirtual 240, 3) := by decide +kernel
theorem dX9_city_91 : decode cX9_city 91 = .ok (.aload_n 0, 1) := by decide +kernel
theorem dX9_city_92 : decode cX9_city 92 = .ok (.getfield 144, 3) := by decide +kernel
theorem dX9_city_95 : decode cX9_city 95 = .ok (.ifCond .eq 6, 3) := by decide +kernel
theorem dX9_city_101 : decode cX9_city 101 = .ok (.aload_n 0, 1) := by decide +kernel
theorem dX9_city_102 : decode cX9_city 102 = .ok (.iconst 4, 1) := by decide +kernel
theorem dX9_city_103 : decode cX9_city 103 = .ok (.iconst 0, 1) := by decide +kernel
theorem dX9_city_104 : decode cX9_city 104 = .ok (.invokevirtual 243, 3) := by decide +kernel
theorem dX9_city_107 : decode cX9_city 107 = .ok (.aload_n 0, 1) := by decide +kernel
theorem dX9_city_108 : decode cX9_city 108 = .ok (.getfield 31, 3) := by decide +kernel
theorem dX9_city_111 : decode cX9_city 111 = .ok (.iconst 0, 1) := by decide +kernel
theorem dX9_city_112 : decode cX9_city 112 = .ok (.iaload, 1) := by decide +kernel
theorem dX9_city_113 : decode cX9_city 113 = .ok (.ireturn, 1) := by decide +kernel
theorem dX9_copyRow_0 : decode cX9_copyRow 0 = .ok (.iconst 0, 1) := by decide +kernel
theorem dX9_copyRow_1 : decode cX9_copyRow 1 = .ok (.istore 4, 2) := by decide +kernel
theorem dX9_copyRow_3 : decode cX9_copyRow 3 = .ok (.iload 4, 2) := by decide +kernel
theorem dX9_copyRow_5 : decode cX9_copyRow 5 = .ok (.iload_n 1, 1) := by decide +kernel
theorem dX9_copyRow_6 : decode cX9_copyRow 6 = .ok (.if_icmp .ge 25, 3) := by decide +kernel
theorem dX9_copyRow_9 : decode cX9_copyRow 9 = .ok (.aload_n 0, 1) := by decide +kernel
theorem dX9_copyRow_10 : decode cX9_copyRow 10 = .ok (.iload_n 1, 1) := by decide +kernel
theorem dX9_copyRow_11 : decode cX9_copyRow 11 = .ok (.iload_n 3, 1) := by decide +kernel
theorem dX9_copyRow_12 : decode cX9_copyRow 12 = .ok (.imul, 1) := by decide +kernel
theorem dX9_copyRow_13 : decode cX9_copyRow 13 = .ok (.iload 4, 2) := by decide +kernel
theorem dX9_copyRow_15 : decode cX9_copyRow 15 = .ok (.iadd, 1) := by decide +kernel
theorem dX9_copyRow_16 : decode cX9_copyRow 16 = .ok (.aload_n 0, 1) := by decide +kernel
theorem dX9_copyRow_17 : decode cX9_copyRow 17 = .ok (.iload_n 1, 1) := by decide +kernel
theorem dX9_copyRow_18 : decode cX9_copyRow 18 = .ok (.iload_n 2, 1) := by decide +kernel
theorem dX9_copyRow_19 : decode cX9_copyRow 19 = .ok (.imul, 1) := by decide +kernel
theorem dX9_copyRow_20 : decode cX9_copyRow 20 = .ok (.iload 4, 2) := by decide +kernel
theorem dX9_copyRow_22 : decode cX9_copyRow 22 = .ok (.iadd, 1) := by decide +kernel
theorem dX9_copyRow_23 : decode cX9_copyRow 23 = .ok (.iaload, 1) := by decide +kernel
theorem dX9_copyRow_24 : decode cX9_copyRow 24 = .ok (.iastore, 1) := by decide +kernel
theorem dX9_copyRow_25 : decode cX9_copyRow 25 = .ok (.iinc 4 1, 3) := by decide +kernel
theorem dX9_copyRow_28 : decode cX9_copyRow 28 = .ok (.goto (-25), 3) := by decide +kernel
theorem dX9_copyRow_31 : decode cX9_copyRow 31 = .ok (.return_, 1) := by decide +kernel
set_option maxRecDepth 20000 in
theorem ggX9_copyCity_X9_copyRow : GoodIn wsX9_copyCity wsX9_copyRow := goodIn_r _ [14] (by decide +kernel) (by decide +kernel)
set_option maxRecDepth 20000 in
theorem gX9_copyCity_X9_copyRow : GoodIn wsX9_copyCity (va_wsS RX9 247 yX9_copyRow wsX9_copyRow) := goodIn_app (goodIn_of _ (by decide +kernel)) ggX9_copyCity_X9_copyRow
theorem dX9_copyCity_0 : decode cX9_copyCity 0 = .ok (.aload_n 0, 1) := by decide +kernel
theorem dX9_copyCity_1 : decode cX9_copyCity 1 = .ok (.getfield 31, 3) := by decide +kernel
theorem dX9_copyCity_4 : decode cX9_copyCity 4 = .ok (.iconst 1, 1) := by decide +kernel
theorem dX9_copyCity_5 : decode cX9_copyCity 5 = .ok (.iload_n 1, 1) := by decide +kernel
theorem dX9_copyCity_6 : decode cX9_copyCity 6 = .ok (.iload_n 2, 1) := by decide +kernel
theorem dX9_copyCity_7 : decode cX9_copyCity 7 = .ok (.invokestatic 247, 3) := by decide +kernel
theorem dX9_copyCity_10 : decode cX9_copyCity 10 = .ok (.aload_n 0, 1) := by decide +kernel
theorem dX9_copyCity_11 : decode cX9_copyCity 11 = .ok (.getfield 34, 3) := by decide +kernel
theorem dX9_copyCity_14 : decode cX9_copyCity 14 = .ok (.iconst 1, 1) := by decide +kernel
theorem dX9_copyCity_15 : decode cX9_copyCity 15 = .ok (.iload_n 1, 1) := by decide +kernel
theorem dX9_copyCity_16 : decode cX9_copyCity 16 = .ok (.iload_n 2, 1) := by decide +kernel
theorem dX9_copyCity_17 : decode cX9_copyCity 17 = .ok (.invokestatic 247, 3) := by decide +kernel
theorem dX9_copyCity_20 : decode cX9_copyCity 20 = .ok (.aload_n 0, 1) := by decide +kernel
theorem dX9_copyCity_21 : decode cX9_copyCity 21 = .ok (.getfield 37, 3) := by decide +kernel
theorem dX9_copyCity_24 : decode cX9_copyCity 24 = .ok (.bipush 6, 2) := by decide +kernel
theorem dX9_copyCity_26 : decode cX9_copyCity 26 = .ok (.iload_n 1, 1) := by decide +kernel
theorem dX9_copyCity_27 : decode cX9_copyCity 27 = .ok (.iload_n 2, 1) := by decide +kernel
theorem dX9_copyCity_28 : decode cX9_copyCity 28 = .ok (.invokestatic 247, 3) := by decide +kernel
theorem dX9_copyCity_31 : decode cX9_copyCity 31 = .ok (.aload_n 0, 1) := by decide +kernel
theorem dX9_copyCity_32 : decode cX9_copyCity 32 = .ok (.getfield 40, 3) := by decide +kernel
theorem dX9_copyCity_35 : decode cX9_copyCity 35 = .ok (.bipush 6, 2) := by decide +kernel
theorem dX9_copyCity_37 : decode cX9_copyCity 37 = .ok (.iload_n 1, 1) := by decide +kernel
theorem dX9_copyCity_38 : decode cX9_copyCity 38 = .ok (.iload_n 2, 1) := by decide +kernel
theorem dX9_copyCity_39 : decode cX9_copyCity 39 = .ok (.invokestatic 247, 3) := by decide +kernel
theorem dX9_copyCity_42 : decode cX9_copyCity 42 = .ok (.aload_n 0, 1) := by decide +kernel
theorem dX9_copyCity_43 : decode cX9_copyCity 43 = .ok (.getfield 43, 3) := by decide +kernel
theorem dX9_copyCity_46 : decode cX9_copyCity 46 = .ok (.bipush 48, 2) := by decide +kernel
theorem dX9_copyCity_48 : decode cX9_copyCity 48 = .ok (.iload_n 1, 1) := by decide +kernel
theorem dX9_copyCity_49 : decode cX9_copyCity 49 = .ok (.iload_n 2, 1) := by decide +kernel
theorem dX9_copyCity_50 : decode cX9_copyCity 50 = .ok (.invokestatic 247, 3) := by decide +kernel
theorem dX9_copyCity_53 : decode cX9_copyCity 53 = .ok (.aload_n 0, 1) := by decide +kernel
theorem dX9_copyCity_54 : decode cX9_copyCity 54 = .ok (.getfield 46, 3) := by decide +kernel
theorem dX9_copyCity_57 : decode cX9_copyCity 57 = .ok (.bipush 48, 2) := by decide +kernel
theorem dX9_copyCity_59 : decode cX9_copyCity 59 = .ok (.iload_n 1, 1) := by decide +kernel
theorem dX9_copyCity_60 : decode cX9_copyCity 60 = .ok (.iload_n 2, 1) := by decide +kernel
theorem dX9_copyCity_61 : decode cX9_copyCity 61 = .ok (.invokestatic 247, 3) := by decide +kernel
theorem dX9_copyCity_64 : decode cX9_copyCity 64 = .ok (.aload_n 0, 1) := by decide +kernel
theorem dX9_copyCity_65 : decode cX9_copyCity 65 = .ok (.getfield 49, 3) := by decide +kernel
theorem dX9_copyCity_68 : decode cX9_copyCity 68 = .ok (.iconst 2, 1) := by decide +kernel
theorem dX9_copyCity_69 : decode cX9_copyCity 69 = .ok (.iload_n 1, 1) := by decide +kernel
theorem dX9_copyCity_70 : decode cX9_copyCity 70 = .ok (.iload_n 2, 1) := by decide +kernel
theorem dX9_copyCity_71 : decode cX9_copyCity 71 = .ok (.invokestatic 247, 3) := by decide +kernel
theorem dX9_copyCity_74 : decode cX9_copyCity 74 = .ok (.aload_n 0, 1) := by decide +kernel
theorem dX9_copyCity_75 : decode cX9_copyCity 75 = .ok (.getfield 52, 3) := by decide +kernel
theorem dX9_copyCity_78 : decode cX9_copyCity 78 = .ok (.bipush 12, 2) := by decide +kernel
theorem dX9_copyCity_80 : decode cX9_copyCity 80 = .ok (.iload_n 1, 1) := by decide +kernel
theorem dX9_copyCity_81 : decode cX9_copyCity 81 = .ok (.iload_n 2, 1) := by decide +kernel
theorem dX9_copyCity_82 : decode cX9_copyCity 82 = .ok (.invokestatic 247, 3) := by decide +kernel
theorem dX9_copyCity_85 : decode cX9_copyCity 85 = .ok (.aload_n 0, 1) := by decide +kernel
theorem dX9_copyCity_86 : decode cX9_copyCity 86 = .ok (.getfield 55, 3) := by decide +kernel
theorem dX9_copyCity_89 : decode cX9_copyCity 89 = .ok (.bipush 24, 2) := by decide +kernel
theorem dX9_copyCity_91 : decode cX9_copyCity 91 = .ok (.iload_n 1, 1) := by decide +kernel
theorem dX9_copyCity_92 : decode cX9_copyCity 92 = .ok (.iload_n 2, 1) := by decide +kernel
theorem dX9_copyCity_93 : decode cX9_copyCity 93 = .ok (.invokestatic 247, 3) := by decide +kernel
theorem dX9_copyCity_96 : decode cX9_copyCity 96 = .ok (.aload_n 0, 1) := by decide +kernel
theorem dX9_copyCity_97 : decode cX9_copyCity 97 = .ok (.getfield 58, 3) := by decide +kernel
theorem dX9_copyCity_100 : decode cX9_copyCity 100 = .ok (.iconst 2, 1) := by decide +kernel
theorem dX9_copyCity_101 : decode cX9_copyCity 101 = .ok (.iload_n 1, 1) := by decide +kernel
theorem dX9_copyCity_102 : decode cX9_copyCity 102 = .ok (.iload_n 2, 1) := by decide +kernel
theorem dX9_copyCity_103 : decode cX9_copyCity 103 = .ok (.invokestatic 247, 3) := by decide +kernel
theorem dX9_copyCity_106 : decode cX9_copyCity 106 = .ok (.return_, 1) := by decide +kernel
theorem dX9_isCity_0 : decode cX9_isCity 0 = .ok (.aload_n 0, 1) := by decide +kernel
theorem dX9_isCity_1 : decode cX9_isCity 1 = .ok (.getfield 34, 3) := by decide +kernel
theorem dX9_isCity_4 : decode cX9_isCity 4 = .ok (.iconst 0, 1) := by decide +kernel
theorem dX9_isCity_5 : decode cX9_isCity 5 = .ok (.iaload, 1) := by decide +kernel
theorem dX9_isCity_6 : decode cX9_isCity 6 = .ok (.ifCond .le 7, 3) := by decide +kernel
theorem dX9_isCity_13 : decode cX9_isCity 13 = .ok (.iconst 0, 1) := by decide +kernel
theorem dX9_isCity_14 : decode cX9_isCity 14 = .ok (.ireturn, 1) := by decide +kernel
set_option maxRecDepth 20000 in
theorem ggX9_isRoof_X9_in : GoodIn wsX9_isRoof wsX9_in := goodIn_r _ [5] (by decide +kernel) (by decide +kernel)
set_option maxRecDepth 20000 in
theorem gX9_isRoof_X9_in : GoodIn wsX9_isRoof (va_wsS RX9 97 yX9_in wsX9_in) := goodIn_app (goodIn_of _ (by decide +kernel)) ggX9_isRoof_X9_in
theorem dX9_isRoof_0 : decode cX9_isRoof 0 = .ok (.iload_n 1, 1) := by decide +kernel
theorem dX9_isRoof_1 : decode cX9_isRoof 1 = .ok (.i2l, 1) := by decide +kernel
theorem dX9_isRoof_2 : decode cX9_isRoof 2 = .ok (.lconst 0, 1) := by decide +kernel
theorem dX9_isRoof_3 : decode cX9_isRoof 3 = .ok (.aload_n 0, 1) := by decide +kernel
theorem dX9_isRoof_4 : decode cX9_isRoof 4 = .ok (.getfield 34, 3) := by decide +kernel
theorem dX9_isRoof_7 : decode cX9_isRoof 7 = .ok (.iconst 0, 1) := by decide +kernel
theorem dX9_isRoof_8 : decode cX9_isRoof 8 = .ok (.iaload, 1) := by decide +kernel
theorem dX9_isRoof_9 : decode cX9_isRoof 9 = .ok (.iconst 1, 1) := by decide +kernel
theorem dX9_isRoof_10 : decode cX9_isRoof 10 = .ok (.isub, 1) := by decide +kernel
theorem dX9_isRoof_11 : decode cX9_isRoof 11 = .ok (.i2l, 1) := by decide +kernel
theorem dX9_isRoof_12 : decode cX9_isRoof 12 = .ok (.invokestatic 97, 3) := by decide +kernel
theorem dX9_isRoof_15 : decode cX9_isRoof 15 = .ok (.ireturn, 1) := by decide +kernel
set_option maxRecDepth 20000 in
theorem ggX9_tosses_X9_isRoof : GoodIn wsX9_tosses wsX9_isRoof := goodIn_r _ [8, 9, 10, 11, 7, 12, 32, 33, 34, 35, 36, 37, 38, 39, 40, 41, 42, 43, 44, 45, 46, 47, 48, 49, 50, 51, 52, 53, 54, 55, 56, 57, 58, 59, 60, 61, 62, 63, 64, 65, 66, 67, 68, 69, 70, 71, 72, 73, 74, 75, 76, 77] (by decide +kernel) (by decide +kernel)
set_option maxRecDepth 20000 in
theorem gX9_tosses_X9_isRoof : GoodIn wsX9_tosses (wsV RX9 256 RX9 yX9_isRoof wsX9_isRoof) := goodIn_app (goodIn_of _ (by decide +kernel)) ggX9_tosses_X9_isRoof
theorem dX9_tosses_0 : decode cX9_tosses 0 = .ok (.aload_n 0, 1) := by decide +kernel
theorem dX9_tosses_1 : decode cX9_tosses 1 = .ok (.iconst 0, 1) := by decide +kernel
theorem dX9_tosses_2 : decode cX9_tosses 2 = .ok (.putfield 92, 3) := by decide +kernel
theorem dX9_tosses_5 : decode cX9_tosses 5 = .ok (.aload_n 0, 1) := by decide +kernel
theorem dX9_tosses_6 : decode cX9_tosses 6 = .ok (.iload_n 1, 1) := by decide +kernel
theorem dX9_tosses_7 : decode cX9_tosses 7 = .ok (.invokevirtual 256, 3) := by decide +kernel
theorem dX9_tosses_10 : decode cX9_tosses 10 = .ok (.ifCond .eq 22, 3) := by decide +kernel
theorem dX9_tosses_32 : decode cX9_tosses 32 = .ok (.bipush (-2), 2) := by decide +kernel
theorem dX9_tosses_34 : decode cX9_tosses 34 = .ok (.ireturn, 1) := by decide +kernel
set_option maxRecDepth 20000 in
theorem ggX9_period_X9_isRoof : GoodIn wsX9_period wsX9_isRoof := goodIn_r _ [7, 8, 9, 10, 6, 11, 12, 13, 14, 15, 16, 17, 18, 19, 20, 21, 22, 23, 24, 25, 26, 27, 28, 29, 30, 31, 32, 33, 34, 35, 36, 37, 38, 39, 40, 41, 42, 43, 44, 45, 46, 47, 48, 49, 50, 51, 52, 53, 54, 55, 56, 57] (by decide +kernel) (by decide +kernel)
set_option maxRecDepth 20000 in
theorem gX9_period_X9_isRoof : GoodIn wsX9_period (wsV RX9 256 RX9 yX9_isRoof wsX9_isRoof) := goodIn_app (goodIn_of _ (by decide +kernel)) ggX9_period_X9_isRoof
theorem dX9_period_0 : decode cX9_period 0 = .ok (.aload_n 0, 1) := by decide +kernel
theorem dX9_period_1 : decode cX9_period 1 = .ok (.iconst 0, 1) := by decide +kernel
theorem dX9_period_2 : decode cX9_period 2 = .ok (.putfield 92, 3) := by decide +kernel
theorem dX9_period_5 : decode cX9_period 5 = .ok (.aload_n 0, 1) := by decide +kernel
theorem dX9_period_6 : decode cX9_period 6 = .ok (.iload_n 1, 1) := by decide +kernel
theorem dX9_period_7 : decode cX9_period 7 = .ok (.invokevirtual 256, 3) := by decide +kernel
theorem dX9_period_10 : decode cX9_period 10 = .ok (.ifCond .eq 12, 3) := by decide +kernel
theorem dX9_period_22 : decode cX9_period 22 = .ok (.bipush (-2), 2) := by decide +kernel
theorem dX9_period_24 : decode cX9_period 24 = .ok (.ireturn, 1) := by decide +kernel
set_option maxRecDepth 20000 in
theorem ggX9_turn_X9_isCity : GoodIn wsX9_turn wsX9_isCity := goodIn_r _ [6, 7, 13, 14, 15, 16, 17, 18, 19, 20, 21, 22, 23, 24, 25, 26, 27, 28, 29, 30, 31, 32, 33, 34, 35, 36, 37, 38, 39, 40, 41, 42, 43, 44, 45, 46, 47, 48, 49, 50, 51, 52, 53, 54, 55, 56, 57, 58] (by decide +kernel) (by decide +kernel)
set_option maxRecDepth 20000 in
theorem gX9_turn_X9_isCity : GoodIn wsX9_turn (wsV RX9 270 RX9 yX9_isCity wsX9_isCity) := goodIn_app (goodIn_of _ (by decide +kernel)) ggX9_turn_X9_isCity
theorem dX9_turn_0 : decode cX9_turn 0 = .ok (.aload_n 0, 1) := by decide +kernel
theorem dX9_turn_1 : decode cX9_turn 1 = .ok (.iconst 0, 1) := by decide +kernel
theorem dX9_turn_2 : decode cX9_turn 2 = .ok (.putfield 92, 3) := by decide +kernel
theorem dX9_turn_5 : decode cX9_turn 5 = .ok (.aload_n 0, 1) := by decide +kernel
theorem dX9_turn_6 : decode cX9_turn 6 = .ok (.invokevirtual 270, 3) := by decide +kernel
theorem dX9_turn_9 : decode cX9_turn 9 = .ok (.ifCond .eq 10, 3) := by decide +kernel
theorem dX9_turn_19 : decode cX9_turn 19 = .ok (.bipush (-2), 2) := by decide +kernel
theorem dX9_turn_21 : decode cX9_turn 21 = .ok (.ireturn, 1) := by decide +kernel
set_option maxRecDepth 20000 in
theorem ggX9_isThrow_X9_isRoof : GoodIn wsX9_isThrow wsX9_isRoof := goodIn_r _ [6, 7, 8, 9, 5, 10, 11, 12, 13, 14, 15, 16, 17, 18, 19, 20, 21, 22, 23, 24, 25, 26, 27, 28, 29, 30, 31, 32, 33, 34, 35, 36, 37, 38, 39, 40, 41, 42, 43, 44, 45, 46, 47, 48, 49, 50, 51, 52, 53, 54, 55, 56] (by decide +kernel) (by decide +kernel)
set_option maxRecDepth 20000 in
theorem gX9_isThrow_X9_isRoof : GoodIn wsX9_isThrow (wsV RX9 256 RX9 yX9_isRoof wsX9_isRoof) := goodIn_app (goodIn_of _ (by decide +kernel)) ggX9_isThrow_X9_isRoof
theorem dX9_isThrow_0 : decode cX9_isThrow 0 = .ok (.aload_n 0, 1) := by decide +kernel
theorem dX9_isThrow_1 : decode cX9_isThrow 1 = .ok (.iload_n 1, 1) := by decide +kernel
theorem dX9_isThrow_2 : decode cX9_isThrow 2 = .ok (.invokevirtual 256, 3) := by decide +kernel
theorem dX9_isThrow_5 : decode cX9_isThrow 5 = .ok (.ifCond .eq 25, 3) := by decide +kernel
theorem dX9_isThrow_30 : decode cX9_isThrow 30 = .ok (.iconst 0, 1) := by decide +kernel
theorem dX9_isThrow_31 : decode cX9_isThrow 31 = .ok (.ireturn, 1) := by decide +kernel
set_option maxRecDepth 20000 in
theorem ggX9_set_X9_isThrow : GoodIn wsX9_set wsX9_isThrow := goodIn_r _ [9, 10, 11, 12, 13, 8, 14, 15, 16, 17, 18, 19, 20, 21, 22, 23, 24, 25, 26, 27, 28, 29, 30, 31, 32, 33, 34, 35, 36, 37, 38, 39, 40, 41, 42, 43, 44, 45, 46, 47, 48, 49, 50, 51, 52, 53, 54, 55, 56, 57, 58, 59, 60, 61, 62, 63, 64] (by decide +kernel) (by decide +kernel)
set_option maxRecDepth 20000 in
theorem gX9_set_X9_isThrow : GoodIn wsX9_set (wsV RX9 276 RX9 yX9_isThrow wsX9_isThrow) := goodIn_app (goodIn_of _ (by decide +kernel)) ggX9_set_X9_isThrow
theorem dX9_set_0 : decode cX9_set 0 = .ok (.aload_n 0, 1) := by decide +kernel
theorem dX9_set_1 : decode cX9_set 1 = .ok (.iconst 0, 1) := by decide +kernel
theorem dX9_set_2 : decode cX9_set 2 = .ok (.putfield 92, 3) := by decide +kernel
theorem dX9_set_5 : decode cX9_set 5 = .ok (.aload_n 0, 1) := by decide +kernel
theorem dX9_set_6 : decode cX9_set 6 = .ok (.iload_n 1, 1) := by decide +kernel
theorem dX9_set_7 : decode cX9_set 7 = .ok (.iload_n 2, 1) := by decide +kernel
theorem dX9_set_8 : decode cX9_set 8 = .ok (.invokevirtual 276, 3) := by decide +kernel
theorem dX9_set_11 : decode cX9_set 11 = .ok (.ifCond .eq 34, 3) := by decide +kernel
theorem dX9_set_45 : decode cX9_set 45 = .ok (.bipush (-2), 2) := by decide +kernel
theorem dX9_set_47 : decode cX9_set 47 = .ok (.ireturn, 1) := by decide +kernel
set_option maxRecDepth 20000 in
theorem ggX9_swap_X9_isThrow : GoodIn wsX9_swap wsX9_isThrow := goodIn_r _ [9, 10, 11, 12, 13, 8, 14, 15, 16, 17, 18, 19, 20, 21, 22, 23, 24, 25, 26, 27, 28, 29, 30, 31, 32, 33, 34, 35, 36, 37, 38, 39, 40, 41, 42, 43, 44, 45, 46, 47, 48, 49, 50, 51, 52, 53, 54, 55, 56, 57, 58, 59, 60, 61, 62, 63, 64] (by decide +kernel) (by decide +kernel)
set_option maxRecDepth 20000 in
theorem gX9_swap_X9_isThrow : GoodIn wsX9_swap (wsV RX9 276 RX9 yX9_isThrow wsX9_isThrow) := goodIn_app (goodIn_of _ (by decide +kernel)) ggX9_swap_X9_isThrow
theorem dX9_swap_0 : decode cX9_swap 0 = .ok (.aload_n 0, 1) := by decide +kernel
theorem dX9_swap_1 : decode cX9_swap 1 = .ok (.iconst 0, 1) := by decide +kernel
theorem dX9_swap_2 : decode cX9_swap 2 = .ok (.putfield 92, 3) := by decide +kernel
theorem dX9_swap_5 : decode cX9_swap 5 = .ok (.aload_n 0, 1) := by decide +kernel
theorem dX9_swap_6 : decode cX9_swap 6 = .ok (.iload_n 1, 1) := by decide +kernel
theorem dX9_swap_7 : decode cX9_swap 7 = .ok (.iload_n 2, 1) := by decide +kernel
theorem dX9_swap_8 : decode cX9_swap 8 = .ok (.invokevirtual 276, 3) := by decide +kernel
theorem dX9_swap_11 : decode cX9_swap 11 = .ok (.ifCond .eq 17, 3) := by decide +kernel
theorem dX9_swap_28 : decode cX9_swap 28 = .ok (.bipush (-2), 2) := by decide +kernel
theorem dX9_swap_30 : decode cX9_swap 30 = .ok (.ireturn, 1) := by decide +kernel
set_option maxRecDepth 20000 in
theorem ggX9_shift_X9_isThrow : GoodIn wsX9_shift wsX9_isThrow := goodIn_r _ [11, 2, 12, 13, 14, 10, 15, 16, 17, 18, 19, 20, 21, 22, 23, 24, 25, 26, 27, 28, 29, 30, 31, 32, 33, 34, 35, 36, 37, 38, 39, 40, 41, 42, 43, 44, 45, 46, 47, 48, 49, 50, 51, 52, 53, 54, 55, 56, 57, 58, 59, 60, 61, 62, 63, 64, 65] (by decide +kernel) (by decide +kernel)
set_option maxRecDepth 20000 in
theorem gX9_shift_X9_isThrow : GoodIn wsX9_shift (wsV RX9 276 RX9 yX9_isThrow wsX9_isThrow) := goodIn_app (goodIn_of _ (by decide +kernel)) ggX9_shift_X9_isThrow
theorem dX9_shift_0 : decode cX9_shift 0 = .ok (.aload_n 0, 1) := by decide +kernel
theorem dX9_shift_1 : decode cX9_shift 1 = .ok (.iconst 0, 1) := by decide +kernel
theorem dX9_shift_2 : decode cX9_shift 2 = .ok (.putfield 92, 3) := by decide +kernel
theorem dX9_shift_5 : decode cX9_shift 5 = .ok (.aload_n 0, 1) := by decide +kernel
theorem dX9_shift_6 : decode cX9_shift 6 = .ok (.iload_n 1, 1) := by decide +kernel
theorem dX9_shift_7 : decode cX9_shift 7 = .ok (.iload_n 2, 1) := by decide +kernel
theorem dX9_shift_8 : decode cX9_shift 8 = .ok (.invokevirtual 276, 3) := by decide +kernel
theorem dX9_shift_11 : decode cX9_shift 11 = .ok (.ifCond .ne 6, 3) := by decide +kernel
theorem dX9_shift_14 : decode cX9_shift 14 = .ok (.bipush (-2), 2) := by decide +kernel
theorem dX9_shift_16 : decode cX9_shift 16 = .ok (.ireturn, 1) := by decide +kernel
set_option maxRecDepth 20000 in
theorem ggX9_keeps_X9_isCity : GoodIn wsX9_keeps wsX9_isCity := goodIn_r _ [6, 7, 39, 40, 41, 42, 43, 44, 45, 46, 47, 48, 49, 50, 51, 52, 53, 54, 55, 56, 57, 58, 59, 60, 61, 62, 63, 64, 65, 66, 67, 68, 69, 70, 71, 72, 73, 74, 75, 76, 77, 78, 79, 80, 81, 82, 83, 84] (by decide +kernel) (by decide +kernel)
set_option maxRecDepth 20000 in
theorem gX9_keeps_X9_isCity : GoodIn wsX9_keeps (wsV RX9 270 RX9 yX9_isCity wsX9_isCity) := goodIn_app (goodIn_of _ (by decide +kernel)) ggX9_keeps_X9_isCity
theorem dX9_keeps_0 : decode cX9_keeps 0 = .ok (.aload_n 0, 1) := by decide +kernel
theorem dX9_keeps_1 : decode cX9_keeps 1 = .ok (.iconst 0, 1) := by decide +kernel
theorem dX9_keeps_2 : decode cX9_keeps 2 = .ok (.putfield 92, 3) := by decide +kernel
theorem dX9_keeps_5 : decode cX9_keeps 5 = .ok (.aload_n 0, 1) := by decide +kernel
theorem dX9_keeps_6 : decode cX9_keeps 6 = .ok (.invokevirtual 270, 3) := by decide +kernel
theorem dX9_keeps_9 : decode cX9_keeps 9 = .ok (.ifCond .ne 8, 3) := by decide +kernel
theorem dX9_keeps_12 : decode cX9_keeps 12 = .ok (.bipush (-2), 2) := by decide +kernel
theorem dX9_keeps_14 : decode cX9_keeps 14 = .ok (.goto 15, 3) := by decide +kernel
theorem dX9_keeps_29 : decode cX9_keeps 29 = .ok (.ireturn, 1) := by decide +kernel
set_option maxRecDepth 20000 in
theorem ggX9_clash_X9_isCity : GoodIn wsX9_clash wsX9_isCity := goodIn_r _ [8, 3, 39, 40, 41, 42, 43, 44, 45, 46, 47, 48, 49, 50, 51, 52, 53, 54, 55, 56, 57, 58, 59, 60, 61, 62, 63, 64, 65, 66, 67, 68, 69, 70, 71, 72, 73, 74, 75, 76, 77, 78, 79, 80, 81, 82, 83, 84] (by decide +kernel) (by decide +kernel)
set_option maxRecDepth 20000 in
theorem gX9_clash_X9_isCity : GoodIn wsX9_clash (wsV RX9 270 RX9 yX9_isCity wsX9_isCity) := goodIn_app (goodIn_of _ (by decide +kernel)) ggX9_clash_X9_isCity
theorem dX9_clash_0 : decode cX9_clash 0 = .ok (.aload_n 0, 1) := by decide +kernel
theorem dX9_clash_1 : decode cX9_clash 1 = .ok (.iconst 0, 1) := by decide +kernel
theorem dX9_clash_2 : decode cX9_clash 2 = .ok (.putfield 92, 3) := by decide +kernel
theorem dX9_clash_5 : decode cX9_clash 5 = .ok (.aload_n 0, 1) := by decide +kernel
theorem dX9_clash_6 : decode cX9_clash 6 = .ok (.invokevirtual 270, 3) := by decide +kernel
theorem dX9_clash_9 : decode cX9_clash 9 = .ok (.ifCond .eq 15, 3) := by decide +kernel
theorem dX9_clash_24 : decode cX9_clash 24 = .ok (.bipush (-2), 2) := by decide +kernel
theorem dX9_clash_26 : decode cX9_clash 26 = .ok (.ireturn, 1) := by decide +kernel
set_option maxRecDepth 20000 in
theorem ggX9_balls_X9_isCity : GoodIn wsX9_balls wsX9_isCity := goodIn_r _ [6, 7, 43, 44, 45, 46, 47, 48, 49, 50, 51, 52, 53, 54, 55, 56, 57, 58, 59, 60, 61, 62, 63, 64, 65, 66, 67, 68, 69, 70, 71, 72, 73, 74, 75, 76, 77, 78, 79, 80, 81, 82, 83, 84, 85, 86, 87, 88] (by decide +kernel) (by decide +kernel)
set_option maxRecDepth 20000 in
theorem gX9_balls_X9_isCity : GoodIn wsX9_balls (wsV RX9 270 RX9 yX9_isCity wsX9_isCity) := goodIn_app (goodIn_of _ (by decide +kernel)) ggX9_balls_X9_isCity
theorem dX9_balls_0 : decode cX9_balls 0 = .ok (.aload_n 0, 1) := by decide +kernel
theorem dX9_balls_1 : decode cX9_balls 1 = .ok (.iconst 0, 1) := by decide +kernel
theorem dX9_balls_2 : decode cX9_balls 2 = .ok (.putfield 92, 3) := by decide +kernel
theorem dX9_balls_5 : decode cX9_balls 5 = .ok (.aload_n 0, 1) := by decide +kernel
theorem dX9_balls_6 : decode cX9_balls 6 = .ok (.invokevirtual 270, 3) := by decide +kernel
theorem dX9_balls_9 : decode cX9_balls 9 = .ok (.ifCond .ne 8, 3) := by decide +kernel
theorem dX9_balls_12 : decode cX9_balls 12 = .ok (.bipush (-2), 2) := by decide +kernel
theorem dX9_balls_14 : decode cX9_balls 14 = .ok (.goto 18, 3) := by decide +kernel
theorem dX9_balls_32 : decode cX9_balls 32 = .ok (.ireturn, 1) := by decide +kernel
set_option maxRecDepth 20000 in
theorem ggX9_lands_X9_isRoof : GoodIn wsX9_lands wsX9_isRoof := goodIn_r _ [7, 2, 8, 9, 6, 10, 46, 47, 48, 49, 50, 51, 52, 53, 54, 55, 56, 57, 58, 59, 60, 61, 62, 63, 64, 65, 66, 67, 68, 69, 70, 71, 72, 73, 74, 75, 76, 77, 78, 79, 80, 81, 82, 83, 84, 85, 86, 87, 88, 89, 90, 91] (by decide +kernel) (by decide +kernel)
set_option maxRecDepth 20000 in
theorem gX9_lands_X9_isRoof : GoodIn wsX9_lands (wsV RX9 256 RX9 yX9_isRoof wsX9_isRoof) := goodIn_app (goodIn_of _ (by decide +kernel)) ggX9_lands_X9_isRoof
theorem dX9_lands_0 : decode cX9_lands 0 = .ok (.aload_n 0, 1) := by decide +kernel
theorem dX9_lands_1 : decode cX9_lands 1 = .ok (.iconst 0, 1) := by decide +kernel
theorem dX9_lands_2 : decode cX9_lands 2 = .ok (.putfield 92, 3) := by decide +kernel
theorem dX9_lands_5 : decode cX9_lands 5 = .ok (.aload_n 0, 1) := by decide +kernel
theorem dX9_lands_6 : decode cX9_lands 6 = .ok (.iload_n 1, 1) := by decide +kernel
theorem dX9_lands_7 : decode cX9_lands 7 = .ok (.invokevirtual 256, 3) := by decide +kernel
theorem dX9_lands_10 : decode cX9_lands 10 = .ok (.ifCond .eq 10, 3) := by decide +kernel
theorem dX9_lands_20 : decode cX9_lands 20 = .ok (.bipush (-2), 2) := by decide +kernel
theorem dX9_lands_22 : decode cX9_lands 22 = .ok (.ireturn, 1) := by decide +kernel
set_option maxRecDepth 20000 in
theorem ggX9_air_X9_isCity : GoodIn wsX9_air wsX9_isCity := goodIn_r _ [7, 2, 46, 47, 48, 49, 50, 51, 52, 53, 54, 55, 56, 57, 58, 59, 60, 61, 62, 63, 64, 65, 66, 67, 68, 69, 70, 71, 72, 73, 74, 75, 76, 77, 78, 79, 80, 81, 82, 83, 84, 85, 86, 87, 88, 89, 90, 91] (by decide +kernel) (by decide +kernel)
set_option maxRecDepth 20000 in
theorem gX9_air_X9_isCity : GoodIn wsX9_air (wsV RX9 270 RX9 yX9_isCity wsX9_isCity) := goodIn_app (goodIn_of _ (by decide +kernel)) ggX9_air_X9_isCity
theorem dX9_air_0 : decode cX9_air 0 = .ok (.aload_n 0, 1) := by decide +kernel
theorem dX9_air_1 : decode cX9_air 1 = .ok (.iconst 0, 1) := by decide +kernel
theorem dX9_air_2 : decode cX9_air 2 = .ok (.putfield 92, 3) := by decide +kernel
theorem dX9_air_5 : decode cX9_air 5 = .ok (.aload_n 0, 1) := by decide +kernel
theorem dX9_air_6 : decode cX9_air 6 = .ok (.invokevirtual 270, 3) := by decide +kernel
theorem dX9_air_9 : decode cX9_air 9 = .ok (.ifCond .eq 10, 3) := by decide +kernel
theorem dX9_air_19 : decode cX9_air 19 = .ok (.bipush (-2), 2) := by decide +kernel
theorem dX9_air_21 : decode cX9_air 21 = .ok (.ireturn, 1) := by decide +kernel
set_option maxRecDepth 20000 in
theorem ggX9_isToss_X9_isRoof : GoodIn wsX9_isToss wsX9_isRoof := goodIn_r _ [5, 6, 7, 8, 4, 9, 14, 15, 16, 17, 18, 19, 20, 21, 22, 23, 24, 25, 26, 27, 28, 29, 30, 31, 32, 33, 34, 35, 36, 37, 38, 39, 40, 41, 42, 43, 44, 45, 46, 47, 48, 49, 50, 51, 52, 53, 54, 55, 56, 57, 58, 59] (by decide +kernel) (by decide +kernel)
set_option maxRecDepth 20000 in
theorem gX9_isToss_X9_isRoof : GoodIn wsX9_isToss (wsV RX9 256 RX9 yX9_isRoof wsX9_isRoof) := goodIn_app (goodIn_of _ (by decide +kernel)) ggX9_isToss_X9_isRoof
theorem dX9_isToss_0 : decode cX9_isToss 0 = .ok (.aload_n 0, 1) := by decide +kernel
theorem dX9_isToss_1 : decode cX9_isToss 1 = .ok (.iload_n 1, 1) := by decide +kernel
theorem dX9_isToss_2 : decode cX9_isToss 2 = .ok (.invokevirtual 256, 3) := by decide +kernel
theorem dX9_isToss_5 : decode cX9_isToss 5 = .ok (.ifCond .eq 14, 3) := by decide +kernel
theorem dX9_isToss_19 : decode cX9_isToss 19 = .ok (.iconst 0, 1) := by decide +kernel
theorem dX9_isToss_20 : decode cX9_isToss 20 = .ok (.ireturn, 1) := by decide +kernel
set_option maxRecDepth 20000 in
theorem ggX9_ball_X9_isToss : GoodIn wsX9_ball wsX9_isToss := goodIn_r _ [9, 10, 11, 12, 8, 13, 14, 15, 16, 17, 18, 19, 20, 21, 61, 62, 63, 64, 65, 66, 67, 68, 69, 70, 71, 72, 73, 74, 75, 76, 77, 78, 79, 80, 81, 82, 83, 84, 85, 86, 87, 88, 89, 90, 91, 92, 93, 94, 95, 96, 97, 98, 99, 100, 101, 102, 103, 104, 105, 106] (by decide +kernel) (by decide +kernel)
set_option maxRecDepth 20000 in
theorem gX9_ball_X9_isToss : GoodIn wsX9_ball (wsV RX9 298 RX9 yX9_isToss wsX9_isToss) := goodIn_app (goodIn_of _ (by decide +kernel)) ggX9_ball_X9_isToss
theorem dX9_ball_0 : decode cX9_ball 0 = .ok (.aload_n 0, 1) := by decide +kernel
theorem dX9_ball_1 : decode cX9_ball 1 = .ok (.iconst 0, 1) := by decide +kernel
theorem dX9_ball_2 : decode cX9_ball 2 = .ok (.putfield 92, 3) := by decide +kernel
theorem dX9_ball_5 : decode cX9_ball 5 = .ok (.aload_n 0, 1) := by decide +kernel
theorem dX9_ball_6 : decode cX9_ball 6 = .ok (.iload_n 1, 1) := by decide +kernel
theorem dX9_ball_7 : decode cX9_ball 7 = .ok (.iload_n 2, 1) := by decide +kernel
theorem dX9_ball_8 : decode cX9_ball 8 = .ok (.invokevirtual 298, 3) := by decide +kernel
theorem dX9_ball_11 : decode cX9_ball 11 = .ok (.ifCond .eq 26, 3) := by decide +kernel
theorem dX9_ball_37 : decode cX9_ball 37 = .ok (.bipush (-2), 2) := by decide +kernel
theorem dX9_ball_39 : decode cX9_ball 39 = .ok (.ireturn, 1) := by decide +kernel
set_option maxRecDepth 20000 in
theorem ggX9_orbit_X9_isToss : GoodIn wsX9_orbit wsX9_isToss := goodIn_r _ [9, 10, 11, 12, 8, 13, 14, 15, 16, 17, 18, 19, 20, 21, 61, 62, 63, 64, 65, 66, 67, 68, 69, 70, 71, 72, 73, 74, 75, 76, 77, 78, 79, 80, 81, 82, 83, 84, 85, 86, 87, 88, 89, 90, 91, 92, 93, 94, 95, 96, 97, 98, 99, 100, 101, 102, 103, 104, 105, 106] (by decide +kernel) (by decide +kernel)
set_option maxRecDepth 20000 in
theorem gX9_orbit_X9_isToss : GoodIn wsX9_orbit (wsV RX9 298 RX9 yX9_isToss wsX9_isToss) := goodIn_app (goodIn_of _ (by decide +kernel)) ggX9_orbit_X9_isToss
theorem dX9_orbit_0 : decode cX9_orbit 0 = .ok (.aload_n 0, 1) := by decide +kernel
theorem dX9_orbit_1 : decode cX9_orbit 1 = .ok (.iconst 0, 1) := by decide +kernel
theorem dX9_orbit_2 : decode cX9_orbit 2 = .ok (.putfield 92, 3) := by decide +kernel
theorem dX9_orbit_5 : decode cX9_orbit 5 = .ok (.aload_n 0, 1) := by decide +kernel
theorem dX9_orbit_6 : decode cX9_orbit 6 = .ok (.iload_n 1, 1) := by decide +kernel
theorem dX9_orbit_7 : decode cX9_orbit 7 = .ok (.iload_n 2, 1) := by decide +kernel
theorem dX9_orbit_8 : decode cX9_orbit 8 = .ok (.invokevirtual 298, 3) := by decide +kernel
theorem dX9_orbit_11 : decode cX9_orbit 11 = .ok (.ifCond .eq 15, 3) := by decide +kernel
theorem dX9_orbit_26 : decode cX9_orbit 26 = .ok (.bipush (-2), 2) := by decide +kernel
theorem dX9_orbit_28 : decode cX9_orbit 28 = .ok (.ireturn, 1) := by decide +kernel
set_option maxRecDepth 20000 in
theorem ggX9_orbits_X9_isCity : GoodIn wsX9_orbits wsX9_isCity := goodIn_r _ [10, 3, 46, 47, 48, 49, 50, 51, 52, 53, 54, 55, 56, 57, 58, 59, 60, 61, 62, 63, 64, 65, 66, 67, 68, 69, 70, 71, 72, 73, 74, 75, 76, 77, 78, 79, 80, 81, 82, 83, 84, 85, 86, 87, 88, 89, 90, 91] (by decide +kernel) (by decide +kernel)
set_option maxRecDepth 20000 in
theorem gX9_orbits_X9_isCity : GoodIn wsX9_orbits (wsV RX9 270 RX9 yX9_isCity wsX9_isCity) := goodIn_app (goodIn_of _ (by decide +kernel)) ggX9_orbits_X9_isCity
theorem dX9_orbits_0 : decode cX9_orbits 0 = .ok (.aload_n 0, 1) := by decide +kernel
theorem dX9_orbits_1 : decode cX9_orbits 1 = .ok (.iconst 0, 1) := by decide +kernel
theorem dX9_orbits_2 : decode cX9_orbits 2 = .ok (.putfield 92, 3) := by decide +kernel
theorem dX9_orbits_5 : decode cX9_orbits 5 = .ok (.aload_n 0, 1) := by decide +kernel
theorem dX9_orbits_6 : decode cX9_orbits 6 = .ok (.invokevirtual 270, 3) := by decide +kernel
theorem dX9_orbits_9 : decode cX9_orbits 9 = .ok (.ifCond .ne 6, 3) := by decide +kernel
theorem dX9_orbits_12 : decode cX9_orbits 12 = .ok (.bipush (-2), 2) := by decide +kernel
theorem dX9_orbits_14 : decode cX9_orbits 14 = .ok (.ireturn, 1) := by decide +kernel
set_option maxRecDepth 20000 in
theorem ggX9_same_X9_isToss : GoodIn wsX9_same wsX9_isToss := goodIn_r _ [8, 9, 10, 11, 7, 12, 13, 14, 15, 16, 17, 18, 19, 20, 60, 61, 62, 63, 64, 65, 66, 67, 68, 69, 70, 71, 72, 73, 74, 75, 76, 77, 78, 79, 80, 81, 82, 83, 84, 85, 86, 87, 88, 89, 90, 91, 92, 93, 94, 95, 96, 97, 98, 99, 100, 101, 102, 103, 104, 105] (by decide +kernel) (by decide +kernel)
set_option maxRecDepth 20000 in
theorem gX9_same_X9_isToss : GoodIn wsX9_same (wsV RX9 298 RX9 yX9_isToss wsX9_isToss) := goodIn_app (goodIn_of _ (by decide +kernel)) ggX9_same_X9_isToss
theorem dX9_same_0 : decode cX9_same 0 = .ok (.aload_n 0, 1) := by decide +kernel
theorem dX9_same_1 : decode cX9_same 1 = .ok (.iconst 0, 1) := by decide +kernel
theorem dX9_same_2 : decode cX9_same 2 = .ok (.putfield 92, 3) := by decide +kernel
theorem dX9_same_5 : decode cX9_same 5 = .ok (.aload_n 0, 1) := by decide +kernel
theorem dX9_same_6 : decode cX9_same 6 = .ok (.iload_n 1, 1) := by decide +kernel
theorem dX9_same_7 : decode cX9_same 7 = .ok (.iload_n 2, 1) := by decide +kernel
theorem dX9_same_8 : decode cX9_same 8 = .ok (.invokevirtual 298, 3) := by decide +kernel
theorem dX9_same_11 : decode cX9_same 11 = .ok (.ifCond .eq 13, 3) := by decide +kernel
theorem dX9_same_24 : decode cX9_same 24 = .ok (.bipush (-2), 2) := by decide +kernel
theorem dX9_same_26 : decode cX9_same 26 = .ok (.ireturn, 1) := by decide +kernel
set_option maxRecDepth 20000 in
theorem ggX9_crossings_X9_isCity : GoodIn wsX9_crossings wsX9_isCity := goodIn_r _ [8, 3, 32, 33, 34, 35, 36, 37, 38, 39, 40, 41, 42, 43, 44, 45, 46, 47, 48, 49, 50, 51, 52, 53, 54, 55, 56, 57, 58, 59, 60, 61, 62, 63, 64, 65, 66, 67, 68, 69, 70, 71, 72, 73, 74, 75, 76, 77] (by decide +kernel) (by decide +kernel)
set_option maxRecDepth 20000 in
theorem gX9_crossings_X9_isCity : GoodIn wsX9_crossings (wsV RX9 270 RX9 yX9_isCity wsX9_isCity) := goodIn_app (goodIn_of _ (by decide +kernel)) ggX9_crossings_X9_isCity
theorem dX9_crossings_0 : decode cX9_crossings 0 = .ok (.aload_n 0, 1) := by decide +kernel
theorem dX9_crossings_1 : decode cX9_crossings 1 = .ok (.iconst 0, 1) := by decide +kernel
theorem dX9_crossings_2 : decode cX9_crossings 2 = .ok (.putfield 92, 3) := by decide +kernel
theorem dX9_crossings_5 : decode cX9_crossings 5 = .ok (.aload_n 0, 1) := by decide +kernel
theorem dX9_crossings_6 : decode cX9_crossings 6 = .ok (.invokevirtual 270, 3) := by decide +kernel
theorem dX9_crossings_9 : decode cX9_crossings 9 = .ok (.ifCond .eq 15, 3) := by decide +kernel
theorem dX9_crossings_24 : decode cX9_crossings 24 = .ok (.bipush (-2), 2) := by decide +kernel
theorem dX9_crossings_26 : decode cX9_crossings 26 = .ok (.ireturn, 1) := by decide +kernel
set_option maxRecDepth 20000 in
theorem ggX9_suits_X9_isRoof : GoodIn wsX9_suits wsX9_isRoof := goodIn_r _ [6, 7, 8, 9, 5, 10, 44, 45, 46, 47, 48, 49, 50, 51, 52, 53, 54, 55, 56, 57, 58, 59, 60, 61, 62, 63, 64, 65, 66, 67, 68, 69, 70, 71, 72, 73, 74, 75, 76, 77, 78, 79, 80, 81, 82, 83, 84, 85, 86, 87, 88, 89] (by decide +kernel) (by decide +kernel)
set_option maxRecDepth 20000 in
theorem gX9_suits_X9_isRoof : GoodIn wsX9_suits (wsV RX9 256 RX9 yX9_isRoof wsX9_isRoof) := goodIn_app (goodIn_of _ (by decide +kernel)) ggX9_suits_X9_isRoof
theorem dX9_suits_0 : decode cX9_suits 0 = .ok (.aload_n 0, 1) := by decide +kernel
theorem dX9_suits_1 : decode cX9_suits 1 = .ok (.iconst 0, 1) := by decide +kernel
theorem dX9_suits_2 : decode cX9_suits 2 = .ok (.putfield 92, 3) := by decide +kernel
theorem dX9_suits_5 : decode cX9_suits 5 = .ok (.aload_n 0, 1) := by decide +kernel
theorem dX9_suits_6 : decode cX9_suits 6 = .ok (.iload_n 1, 1) := by decide +kernel
theorem dX9_suits_7 : decode cX9_suits 7 = .ok (.invokevirtual 256, 3) := by decide +kernel
theorem dX9_suits_10 : decode cX9_suits 10 = .ok (.ifCond .ne 8, 3) := by decide +kernel
theorem dX9_suits_13 : decode cX9_suits 13 = .ok (.bipush (-2), 2) := by decide +kernel
theorem dX9_suits_15 : decode cX9_suits 15 = .ok (.goto 17, 3) := by decide +kernel
theorem dX9_suits_32 : decode cX9_suits 32 = .ok (.ireturn, 1) := by decide +kernel
set_option maxRecDepth 20000 in
theorem ggX9_unsuited_X9_isRoof : GoodIn wsX9_unsuited wsX9_isRoof := goodIn_r _ [6, 7, 8, 9, 5, 10, 44, 45, 46, 47, 48, 49, 50, 51, 52, 53, 54, 55, 56, 57, 58, 59, 60, 61, 62, 63, 64, 65, 66, 67, 68, 69, 70, 71, 72, 73, 74, 75, 76, 77, 78, 79, 80, 81, 82, 83, 84, 85, 86, 87, 88, 89] (by decide +kernel) (by decide +kernel)
set_option maxRecDepth 20000 in
theorem gX9_unsuited_X9_isRoof : GoodIn wsX9_unsuited (wsV RX9 256 RX9 yX9_isRoof wsX9_isRoof) := goodIn_app (goodIn_of _ (by decide +kernel)) ggX9_unsuited_X9_isRoof
theorem dX9_unsuited_0 : decode cX9_unsuited 0 = .ok (.aload_n 0, 1) := by decide +kernel
theorem dX9_unsuited_1 : decode cX9_unsuited 1 = .ok (.iconst 0, 1) := by decide +kernel
theorem dX9_unsuited_2 : decode cX9_unsuited 2 = .ok (.putfield 92, 3) := by decide +kernel
theorem dX9_unsuited_5 : decode cX9_unsuited 5 = .ok (.aload_n 0, 1) := by decide +kernel
theorem dX9_unsuited_6 : decode cX9_unsuited 6 = .ok (.iload_n 1, 1) := by decide +kernel
theorem dX9_unsuited_7 : decode cX9_unsuited 7 = .ok (.invokevirtual 256, 3) := by decide +kernel
theorem dX9_unsuited_10 : decode cX9_unsuited 10 = .ok (.ifCond .eq 11, 3) := by decide +kernel
theorem dX9_unsuited_21 : decode cX9_unsuited 21 = .ok (.bipush (-2), 2) := by decide +kernel
theorem dX9_unsuited_23 : decode cX9_unsuited 23 = .ok (.ireturn, 1) := by decide +kernel
set_option maxRecDepth 20000 in
theorem ggX9_wages_X9_isRoof : GoodIn wsX9_wages wsX9_isRoof := goodIn_r _ [9, 10, 11, 12, 8, 13, 29, 30, 31, 32, 33, 34, 35, 36, 37, 38, 39, 40, 41, 42, 43, 44, 45, 46, 47, 48, 49, 50, 51, 52, 53, 54, 55, 56, 57, 58, 59, 60, 61, 62, 63, 64, 65, 66, 67, 68, 69, 70, 71, 72, 73, 74] (by decide +kernel) (by decide +kernel)
set_option maxRecDepth 20000 in
theorem gX9_wages_X9_isRoof : GoodIn wsX9_wages (wsV RX9 256 RX9 yX9_isRoof wsX9_isRoof) := goodIn_app (goodIn_of _ (by decide +kernel)) ggX9_wages_X9_isRoof
theorem dX9_wages_0 : decode cX9_wages 0 = .ok (.aload_n 0, 1) := by decide +kernel
theorem dX9_wages_1 : decode cX9_wages 1 = .ok (.iconst 0, 1) := by decide +kernel
theorem dX9_wages_2 : decode cX9_wages 2 = .ok (.putfield 92, 3) := by decide +kernel
theorem dX9_wages_5 : decode cX9_wages 5 = .ok (.aload_n 0, 1) := by decide +kernel
theorem dX9_wages_6 : decode cX9_wages 6 = .ok (.iload_n 1, 1) := by decide +kernel
theorem dX9_wages_7 : decode cX9_wages 7 = .ok (.invokevirtual 256, 3) := by decide +kernel
theorem dX9_wages_10 : decode cX9_wages 10 = .ok (.ifCond .eq 15, 3) := by decide +kernel
theorem dX9_wages_25 : decode cX9_wages 25 = .ok (.ldc2_w 323, 3) := by decide +kernel
theorem dX9_wages_28 : decode cX9_wages 28 = .ok (.lreturn, 1) := by decide +kernel
set_option maxRecDepth 20000 in
theorem ggX9_carries_X9_isRoof : GoodIn wsX9_carries wsX9_isRoof := goodIn_r _ [6, 7, 8, 9, 5, 10, 30, 31, 32, 33, 34, 35, 36, 37, 38, 39, 40, 41, 42, 43, 44, 45, 46, 47, 48, 49, 50, 51, 52, 53, 54, 55, 56, 57, 58, 59, 60, 61, 62, 63, 64, 65, 66, 67, 68, 69, 70, 71, 72, 73, 74, 75] (by decide +kernel) (by decide +kernel)
set_option maxRecDepth 20000 in
theorem gX9_carries_X9_isRoof : GoodIn wsX9_carries (wsV RX9 256 RX9 yX9_isRoof wsX9_isRoof) := goodIn_app (goodIn_of _ (by decide +kernel)) ggX9_carries_X9_isRoof
theorem dX9_carries_0 : decode cX9_carries 0 = .ok (.aload_n 0, 1) := by decide +kernel
theorem dX9_carries_1 : decode cX9_carries 1 = .ok (.iconst 0, 1) := by decide +kernel
theorem dX9_carries_2 : decode cX9_carries 2 = .ok (.putfield 92, 3) := by decide +kernel
theorem dX9_carries_5 : decode cX9_carries 5 = .ok (.aload_n 0, 1) := by decide +kernel
theorem dX9_carries_6 : decode cX9_carries 6 = .ok (.iload_n 1, 1) := by decide +kernel
theorem dX9_carries_7 : decode cX9_carries 7 = .ok (.invokevirtual 256, 3) := by decide +kernel
theorem dX9_carries_10 : decode cX9_carries 10 = .ok (.ifCond .eq 11, 3) := by decide +kernel
theorem dX9_carries_21 : decode cX9_carries 21 = .ok (.bipush (-2), 2) := by decide +kernel
theorem dX9_carries_23 : decode cX9_carries 23 = .ok (.ireturn, 1) := by decide +kernel
set_option maxRecDepth 20000 in
theorem ggX9_isLetter_X9_in : GoodIn wsX9_isLetter wsX9_in := goodIn_r _ [5] (by decide +kernel) (by decide +kernel)
set_option maxRecDepth 20000 in
theorem gX9_isLetter_X9_in : GoodIn wsX9_isLetter (va_wsS RX9 97 yX9_in wsX9_in) := goodIn_app (goodIn_of _ (by decide +kernel)) ggX9_isLetter_X9_in
theorem dX9_isLetter_0 : decode cX9_isLetter 0 = .ok (.iload_n 1, 1) := by decide +kernel
theorem dX9_isLetter_1 : decode cX9_isLetter 1 = .ok (.i2l, 1) := by decide +kernel
theorem dX9_isLetter_2 : decode cX9_isLetter 2 = .ok (.lconst 0, 1) := by decide +kernel
theorem dX9_isLetter_3 : decode cX9_isLetter 3 = .ok (.aload_n 0, 1) := by decide +kernel
theorem dX9_isLetter_4 : decode cX9_isLetter 4 = .ok (.getfield 49, 3) := by decide +kernel
theorem dX9_isLetter_7 : decode cX9_isLetter 7 = .ok (.iconst 1, 1) := by decide +kernel
theorem dX9_isLetter_8 : decode cX9_isLetter 8 = .ok (.iaload, 1) := by decide +kernel
theorem dX9_isLetter_9 : decode cX9_isLetter 9 = .ok (.iconst 1, 1) := by decide +kernel
theorem dX9_isLetter_10 : decode cX9_isLetter 10 = .ok (.isub, 1) := by decide +kernel
theorem dX9_isLetter_11 : decode cX9_isLetter 11 = .ok (.i2l, 1) := by decide +kernel
theorem dX9_isLetter_12 : decode cX9_isLetter 12 = .ok (.invokestatic 97, 3) := by decide +kernel
theorem dX9_isLetter_15 : decode cX9_isLetter 15 = .ok (.ireturn, 1) := by decide +kernel
set_option maxRecDepth 20000 in
theorem ggX9_letter_X9_isLetter : GoodIn wsX9_letter wsX9_isLetter := goodIn_r _ [8, 9, 10, 11, 7, 12, 13, 14, 15, 16, 17, 18, 19, 20, 21, 22, 23, 24, 25, 26, 27, 28, 29, 30, 31, 32, 33, 34, 35, 36, 37, 38, 39, 40, 41, 42, 43, 44, 45, 46, 47, 48, 49, 50, 51, 52, 53, 54, 55, 56, 57, 58] (by decide +kernel) (by decide +kernel)
set_option maxRecDepth 20000 in
theorem gX9_letter_X9_isLetter : GoodIn wsX9_letter (wsV RX9 325 RX9 yX9_isLetter wsX9_isLetter) := goodIn_app (goodIn_of _ (by decide +kernel)) ggX9_letter_X9_isLetter
theorem dX9_letter_0 : decode cX9_letter 0 = .ok (.aload_n 0, 1) := by decide +kernel
theorem dX9_letter_1 : decode cX9_letter 1 = .ok (.iconst 0, 1) := by decide +kernel
theorem dX9_letter_2 : decode cX9_letter 2 = .ok (.putfield 92, 3) := by decide +kernel
theorem dX9_letter_5 : decode cX9_letter 5 = .ok (.aload_n 0, 1) := by decide +kernel
theorem dX9_letter_6 : decode cX9_letter 6 = .ok (.iload_n 1, 1) := by decide +kernel
theorem dX9_letter_7 : decode cX9_letter 7 = .ok (.invokevirtual 325, 3) := by decide +kernel
theorem dX9_letter_10 : decode cX9_letter 10 = .ok (.ifCond .eq 28, 3) := by decide +kernel
theorem dX9_letter_38 : decode cX9_letter 38 = .ok (.bipush (-2), 2) := by decide +kernel
theorem dX9_letter_40 : decode cX9_letter 40 = .ok (.ireturn, 1) := by decide +kernel
set_option maxRecDepth 20000 in
theorem ggX9_alone_X9_isLetter : GoodIn wsX9_alone wsX9_isLetter := goodIn_r _ [9, 10, 11, 12, 8, 13, 54, 55, 56, 57, 58, 59, 60, 61, 62, 63, 64, 65, 66, 67, 68, 69, 70, 71, 72, 73, 74, 75, 76, 77, 78, 79, 80, 81, 82, 83, 84, 85, 86, 87, 88, 89, 90, 91, 92, 93, 94, 95, 96, 97, 98, 99] (by decide +kernel) (by decide +kernel)
set_option maxRecDepth 20000 in
theorem gX9_alone_X9_isLetter : GoodIn wsX9_alone (wsV RX9 325 RX9 yX9_isLetter wsX9_isLetter) := goodIn_app (goodIn_of _ (by decide +kernel)) ggX9_alone_X9_isLetter
theorem dX9_alone_0 : decode cX9_alone 0 = .ok (.aload_n 0, 1) := by decide +kernel
theorem dX9_alone_1 : decode cX9_alone 1 = .ok (.iconst 0, 1) := by decide +kernel
theorem dX9_alone_2 : decode cX9_alone 2 = .ok (.putfield 92, 3) := by decide +kernel
theorem dX9_alone_5 : decode cX9_alone 5 = .ok (.aload_n 0, 1) := by decide +kernel
theorem dX9_alone_6 : decode cX9_alone 6 = .ok (.iload_n 1, 1) := by decide +kernel
theorem dX9_alone_7 : decode cX9_alone 7 = .ok (.invokevirtual 325, 3) := by decide +kernel
theorem dX9_alone_10 : decode cX9_alone 10 = .ok (.ifCond .ne 6, 3) := by decide +kernel
theorem dX9_alone_13 : decode cX9_alone 13 = .ok (.bipush (-2), 2) := by decide +kernel
theorem dX9_alone_15 : decode cX9_alone 15 = .ok (.ireturn, 1) := by decide +kernel
set_option maxRecDepth 20000 in
theorem ggX9_soonest_X9_isLetter : GoodIn wsX9_soonest wsX9_isLetter := goodIn_r _ [11, 12, 13, 14, 10, 15, 44, 45, 46, 47, 48, 49, 50, 51, 52, 53, 54, 55, 56, 57, 58, 59, 60, 61, 62, 63, 64, 65, 66, 67, 68, 69, 70, 71, 72, 73, 74, 75, 76, 77, 78, 79, 80, 81, 82, 83, 84, 85, 86, 87, 88, 89] (by decide +kernel) (by decide +kernel)
set_option maxRecDepth 20000 in
theorem gX9_soonest_X9_isLetter : GoodIn wsX9_soonest (wsV RX9 325 RX9 yX9_isLetter wsX9_isLetter) := goodIn_app (goodIn_of _ (by decide +kernel)) ggX9_soonest_X9_isLetter
theorem dX9_soonest_0 : decode cX9_soonest 0 = .ok (.aload_n 0, 1) := by decide +kernel
theorem dX9_soonest_1 : decode cX9_soonest 1 = .ok (.iconst 0, 1) := by decide +kernel
theorem dX9_soonest_2 : decode cX9_soonest 2 = .ok (.putfield 92, 3) := by decide +kernel
theorem dX9_soonest_5 : decode cX9_soonest 5 = .ok (.aload_n 0, 1) := by decide +kernel
theorem dX9_soonest_6 : decode cX9_soonest 6 = .ok (.iload_n 1, 1) := by decide +kernel
theorem dX9_soonest_7 : decode cX9_soonest 7 = .ok (.invokevirtual 325, 3) := by decide +kernel
theorem dX9_soonest_10 : decode cX9_soonest 10 = .ok (.ifCond .eq 15, 3) := by decide +kernel
theorem dX9_soonest_25 : decode cX9_soonest 25 = .ok (.bipush (-2), 2) := by decide +kernel
theorem dX9_soonest_27 : decode cX9_soonest 27 = .ok (.ireturn, 1) := by decide +kernel
set_option maxRecDepth 20000 in
theorem ggX9_way_X9_isLetter : GoodIn wsX9_way wsX9_isLetter := goodIn_r _ [8, 9, 10, 11, 7, 12, 43, 44, 45, 46, 47, 48, 49, 50, 51, 52, 53, 54, 55, 56, 57, 58, 59, 60, 61, 62, 63, 64, 65, 66, 67, 68, 69, 70, 71, 72, 73, 74, 75, 76, 77, 78, 79, 80, 81, 82, 83, 84, 85, 86, 87, 88] (by decide +kernel) (by decide +kernel)
set_option maxRecDepth 20000 in
theorem gX9_way_X9_isLetter : GoodIn wsX9_way (wsV RX9 325 RX9 yX9_isLetter wsX9_isLetter) := goodIn_app (goodIn_of _ (by decide +kernel)) ggX9_way_X9_isLetter
theorem dX9_way_0 : decode cX9_way 0 = .ok (.aload_n 0, 1) := by decide +kernel
theorem dX9_way_1 : decode cX9_way 1 = .ok (.iconst 0, 1) := by decide +kernel
theorem dX9_way_2 : decode cX9_way 2 = .ok (.putfield 92, 3) := by decide +kernel
theorem dX9_way_5 : decode cX9_way 5 = .ok (.aload_n 0, 1) := by decide +kernel
theorem dX9_way_6 : decode cX9_way 6 = .ok (.iload_n 1, 1) := by decide +kernel
theorem dX9_way_7 : decode cX9_way 7 = .ok (.invokevirtual 325, 3) := by decide +kernel
theorem dX9_way_10 : decode cX9_way 10 = .ok (.ifCond .ne 6, 3) := by decide +kernel
theorem dX9_way_13 : decode cX9_way 13 = .ok (.bipush (-2), 2) := by decide +kernel
theorem dX9_way_15 : decode cX9_way 15 = .ok (.ireturn, 1) := by decide +kernel
set_option maxRecDepth 20000 in
theorem ggX9_readers_X9_isLetter : GoodIn wsX9_readers wsX9_isLetter := goodIn_r _ [9, 10, 11, 12, 8, 13, 58, 59, 60, 61, 62, 63, 64, 65, 66, 67, 68, 69, 70, 71, 72, 73, 74, 75, 76, 77, 78, 79, 80, 81, 82, 83, 84, 85, 86, 87, 88, 89, 90, 91, 92, 93, 94, 95, 96, 97, 98, 99, 100, 101, 102, 103] (by decide +kernel) (by decide +kernel)
set_option maxRecDepth 20000 in
theorem gX9_readers_X9_isLetter : GoodIn wsX9_readers (wsV RX9 325 RX9 yX9_isLetter wsX9_isLetter) := goodIn_app (goodIn_of _ (by decide +kernel)) ggX9_readers_X9_isLetter
theorem dX9_readers_0 : decode cX9_readers 0 = .ok (.aload_n 0, 1) := by decide +kernel
theorem dX9_readers_1 : decode cX9_readers 1 = .ok (.iconst 0, 1) := by decide +kernel
theorem dX9_readers_2 : decode cX9_readers 2 = .ok (.putfield 92, 3) := by decide +kernel
theorem dX9_readers_5 : decode cX9_readers 5 = .ok (.aload_n 0, 1) := by decide +kernel
theorem dX9_readers_6 : decode cX9_readers 6 = .ok (.iload_n 1, 1) := by decide +kernel
theorem dX9_readers_7 : decode cX9_readers 7 = .ok (.invokevirtual 325, 3) := by decide +kernel
theorem dX9_readers_10 : decode cX9_readers 10 = .ok (.ifCond .eq 10, 3) := by decide +kernel
theorem dX9_readers_20 : decode cX9_readers 20 = .ok (.bipush (-2), 2) := by decide +kernel
theorem dX9_readers_22 : decode cX9_readers 22 = .ok (.ireturn, 1) := by decide +kernel
set_option maxRecDepth 20000 in
theorem ggX9_misses_X9_isToss : GoodIn wsX9_misses wsX9_isToss := goodIn_r _ [8, 9, 10, 11, 7, 12, 13, 14, 15, 16, 17, 18, 19, 20, 60, 61, 62, 63, 64, 65, 66, 67, 68, 69, 70, 71, 72, 73, 74, 75, 76, 77, 78, 79, 80, 81, 82, 83, 84, 85, 86, 87, 88, 89, 90, 91, 92, 93, 94, 95, 96, 97, 98, 99, 100, 101, 102, 103, 104, 105] (by decide +kernel) (by decide +kernel)
set_option maxRecDepth 20000 in
theorem gX9_misses_X9_isToss : GoodIn wsX9_misses (wsV RX9 298 RX9 yX9_isToss wsX9_isToss) := goodIn_app (goodIn_of _ (by decide +kernel)) ggX9_misses_X9_isToss
theorem dX9_misses_0 : decode cX9_misses 0 = .ok (.aload_n 0, 1) := by decide +kernel
theorem dX9_misses_1 : decode cX9_misses 1 = .ok (.iconst 0, 1) := by decide +kernel
theorem dX9_misses_2 : decode cX9_misses 2 = .ok (.putfield 92, 3) := by decide +kernel
theorem dX9_misses_5 : decode cX9_misses 5 = .ok (.aload_n 0, 1) := by decide +kernel
theorem dX9_misses_6 : decode cX9_misses 6 = .ok (.iload_n 1, 1) := by decide +kernel
theorem dX9_misses_7 : decode cX9_misses 7 = .ok (.iload_n 2, 1) := by decide +kernel
theorem dX9_misses_8 : decode cX9_misses 8 = .ok (.invokevirtual 298, 3) := by decide +kernel
theorem dX9_misses_11 : decode cX9_misses 11 = .ok (.ifCond .eq 11, 3) := by decide +kernel
theorem dX9_misses_22 : decode cX9_misses 22 = .ok (.bipush (-2), 2) := by decide +kernel
theorem dX9_misses_24 : decode cX9_misses 24 = .ok (.ireturn, 1) := by decide +kernel
set_option maxRecDepth 20000 in
theorem ggX9_missed_X9_isToss : GoodIn wsX9_missed wsX9_isToss := goodIn_r _ [9, 10, 11, 12, 8, 13, 14, 15, 16, 17, 18, 19, 20, 21, 61, 62, 63, 64, 65, 66, 67, 68, 69, 70, 71, 72, 73, 74, 75, 76, 77, 78, 79, 80, 81, 82, 83, 84, 85, 86, 87, 88, 89, 90, 91, 92, 93, 94, 95, 96, 97, 98, 99, 100, 101, 102, 103, 104, 105, 106] (by decide +kernel) (by decide +kernel)
set_option maxRecDepth 20000 in
theorem gX9_missed_X9_isToss : GoodIn wsX9_missed (wsV RX9 298 RX9 yX9_isToss wsX9_isToss) := goodIn_app (goodIn_of _ (by decide +kernel)) ggX9_missed_X9_isToss
theorem dX9_missed_0 : decode cX9_missed 0 = .ok (.aload_n 0, 1) := by decide +kernel
theorem dX9_missed_1 : decode cX9_missed 1 = .ok (.iconst 0, 1) := by decide +kernel
theorem dX9_missed_2 : decode cX9_missed 2 = .ok (.putfield 92, 3) := by decide +kernel
theorem dX9_missed_5 : decode cX9_missed 5 = .ok (.aload_n 0, 1) := by decide +kernel
theorem dX9_missed_6 : decode cX9_missed 6 = .ok (.iload_n 1, 1) := by decide +kernel
theorem dX9_missed_7 : decode cX9_missed 7 = .ok (.iload_n 2, 1) := by decide +kernel
theorem dX9_missed_8 : decode cX9_missed 8 = .ok (.invokevirtual 298, 3) := by decide +kernel
theorem dX9_missed_11 : decode cX9_missed 11 = .ok (.ifCond .eq 24, 3) := by decide +kernel
theorem dX9_missed_35 : decode cX9_missed 35 = .ok (.bipush (-2), 2) := by decide +kernel
theorem dX9_missed_37 : decode cX9_missed 37 = .ok (.ireturn, 1) := by decide +kernel
set_option maxRecDepth 20000 in
theorem ggX9_state_X9_isThrow : GoodIn wsX9_state wsX9_isThrow := goodIn_r _ [6, 7, 8, 9, 10, 5, 11, 12, 13, 14, 15, 34, 35, 36, 37, 38, 39, 40, 41, 42, 43, 44, 45, 46, 47, 48, 49, 50, 51, 52, 53, 54, 55, 56, 57, 58, 59, 60, 61, 62, 63, 64, 65, 66, 67, 68, 69, 70, 71, 72, 73, 74, 75, 76, 77, 78, 79] (by decide +kernel) (by decide +kernel)
set_option maxRecDepth 20000 in
theorem gX9_state_X9_isThrow : GoodIn wsX9_state (wsV RX9 276 RX9 yX9_isThrow wsX9_isThrow) := goodIn_app (goodIn_of _ (by decide +kernel)) ggX9_state_X9_isThrow
theorem dX9_state_0 : decode cX9_state 0 = .ok (.aload_n 0, 1) := by decide +kernel
theorem dX9_state_1 : decode cX9_state 1 = .ok (.iconst 0, 1) := by decide +kernel
theorem dX9_state_2 : decode cX9_state 2 = .ok (.putfield 92, 3) := by decide +kernel
theorem dX9_state_5 : decode cX9_state 5 = .ok (.aload_n 0, 1) := by decide +kernel
theorem dX9_state_6 : decode cX9_state 6 = .ok (.iload_n 1, 1) := by decide +kernel
theorem dX9_state_7 : decode cX9_state 7 = .ok (.iload_n 2, 1) := by decide +kernel
theorem dX9_state_8 : decode cX9_state 8 = .ok (.invokevirtual 276, 3) := by decide +kernel
theorem dX9_state_11 : decode cX9_state 11 = .ok (.ifCond .ne 8, 3) := by decide +kernel
theorem dX9_state_14 : decode cX9_state 14 = .ok (.bipush (-2), 2) := by decide +kernel
theorem dX9_state_16 : decode cX9_state 16 = .ok (.goto 21, 3) := by decide +kernel
theorem dX9_state_37 : decode cX9_state 37 = .ok (.ireturn, 1) := by decide +kernel
set_option maxRecDepth 20000 in
theorem ggX9_isChange_X9_isThrow : GoodIn wsX9_isChange wsX9_isThrow := goodIn_r _ [5, 6, 7, 8, 9, 4, 10, 11, 12, 13, 14, 15, 16, 17, 18, 19, 20, 21, 22, 23, 24, 25, 26, 27, 28, 29, 30, 31, 32, 33, 34, 35, 36, 37, 38, 39, 40, 41, 42, 43, 44, 45, 46, 47, 48, 49, 50, 51, 52, 53, 54, 55, 56, 57, 58, 59, 60] (by decide +kernel) (by decide +kernel)
set_option maxRecDepth 20000 in
theorem gX9_isChange_X9_isThrow : GoodIn wsX9_isChange (wsV RX9 276 RX9 yX9_isThrow wsX9_isThrow) := goodIn_app (goodIn_of _ (by decide +kernel)) ggX9_isChange_X9_isThrow
theorem dX9_isChange_0 : decode cX9_isChange 0 = .ok (.aload_n 0, 1) := by decide +kernel
theorem dX9_isChange_1 : decode cX9_isChange 1 = .ok (.iload_n 1, 1) := by decide +kernel
theorem dX9_isChange_2 : decode cX9_isChange 2 = .ok (.iload_n 2, 1) := by decide +kernel
theorem dX9_isChange_3 : decode cX9_isChange 3 = .ok (.invokevirtual 276, 3) := by decide +kernel
theorem dX9_isChange_6 : decode cX9_isChange 6 = .ok (.ifCond .eq 17, 3) := by decide +kernel
theorem dX9_isChange_23 : decode cX9_isChange 23 = .ok (.iconst 0, 1) := by decide +kernel
theorem dX9_isChange_24 : decode cX9_isChange 24 = .ok (.ireturn, 1) := by decide +kernel
set_option maxRecDepth 20000 in
theorem ggX9_change_X9_isChange : GoodIn wsX9_change wsX9_isChange := goodIn_r _ [7, 8, 9, 10, 6, 11, 12, 13, 14, 15, 16, 17, 18, 19, 20, 51, 52, 53, 54, 55, 56, 57, 58, 59, 60, 61, 62, 63, 64, 65, 66, 67, 68, 69, 70, 71, 72, 73, 74, 75, 76, 77, 78, 79, 80, 81, 82, 83, 84, 85, 86, 87, 88, 89, 90, 91, 92, 93, 94, 95, 96] (by decide +kernel) (by decide +kernel)
set_option maxRecDepth 20000 in
theorem gX9_change_X9_isChange : GoodIn wsX9_change (wsV RX9 355 RX9 yX9_isChange wsX9_isChange) := goodIn_app (goodIn_of _ (by decide +kernel)) ggX9_change_X9_isChange
theorem dX9_change_0 : decode cX9_change 0 = .ok (.aload_n 0, 1) := by decide +kernel
theorem dX9_change_1 : decode cX9_change 1 = .ok (.iconst 0, 1) := by decide +kernel
theorem dX9_change_2 : decode cX9_change 2 = .ok (.putfield 92, 3) := by decide +kernel
theorem dX9_change_5 : decode cX9_change 5 = .ok (.aload_n 0, 1) := by decide +kernel
theorem dX9_change_6 : decode cX9_change 6 = .ok (.iload_n 1, 1) := by decide +kernel
theorem dX9_change_7 : decode cX9_change 7 = .ok (.iload_n 2, 1) := by decide +kernel
theorem dX9_change_8 : decode cX9_change 8 = .ok (.iload_n 3, 1) := by decide +kernel
theorem dX9_change_9 : decode cX9_change 9 = .ok (.iload 4, 2) := by decide +kernel
theorem dX9_change_11 : decode cX9_change 11 = .ok (.invokevirtual 355, 3) := by decide +kernel
theorem dX9_change_14 : decode cX9_change 14 = .ok (.ifCond .ne 6, 3) := by decide +kernel
theorem dX9_change_17 : decode cX9_change 17 = .ok (.bipush (-2), 2) := by decide +kernel
theorem dX9_change_19 : decode cX9_change 19 = .ok (.ireturn, 1) := by decide +kernel
set_option maxRecDepth 20000 in
theorem ggX9_changes_X9_isChange : GoodIn wsX9_changes wsX9_isChange := goodIn_r _ [7, 8, 9, 10, 6, 11, 12, 13, 14, 15, 16, 17, 18, 19, 20, 51, 52, 53, 54, 55, 56, 57, 58, 59, 60, 61, 62, 63, 64, 65, 66, 67, 68, 69, 70, 71, 72, 73, 74, 75, 76, 77, 78, 79, 80, 81, 82, 83, 84, 85, 86, 87, 88, 89, 90, 91, 92, 93, 94, 95, 96] (by decide +kernel) (by decide +kernel)
set_option maxRecDepth 20000 in
theorem gX9_changes_X9_isChange : GoodIn wsX9_changes (wsV RX9 355 RX9 yX9_isChange wsX9_isChange) := goodIn_app (goodIn_of _ (by decide +kernel)) ggX9_changes_X9_isChange
theorem dX9_changes_0 : decode cX9_changes 0 = .ok (.aload_n 0, 1) := by decide +kernel
theorem dX9_changes_1 : decode cX9_changes 1 = .ok (.iconst 0, 1) := by decide +kernel
theorem dX9_changes_2 : decode cX9_changes 2 = .ok (.putfield 92, 3) := by decide +kernel
theorem dX9_changes_5 : decode cX9_changes 5 = .ok (.aload_n 0, 1) := by decide +kernel
theorem dX9_changes_6 : decode cX9_changes 6 = .ok (.iload_n 1, 1) := by decide +kernel
theorem dX9_changes_7 : decode cX9_changes 7 = .ok (.iload_n 2, 1) := by decide +kernel
theorem dX9_changes_8 : decode cX9_changes 8 = .ok (.iload_n 3, 1) := by decide +kernel
theorem dX9_changes_9 : decode cX9_changes 9 = .ok (.iload 4, 2) := by decide +kernel
theorem dX9_changes_11 : decode cX9_changes 11 = .ok (.invokevirtual 355, 3) := by decide +kernel
theorem dX9_changes_14 : decode cX9_changes 14 = .ok (.ifCond .ne 6, 3) := by decide +kernel
theorem dX9_changes_17 : decode cX9_changes 17 = .ok (.bipush (-2), 2) := by decide +kernel
theorem dX9_changes_19 : decode cX9_changes 19 = .ok (.ireturn, 1) := by decide +kernel
set_option maxRecDepth 20000 in
theorem ggX9_exchange_X9_isThrow : GoodIn wsX9_exchange wsX9_isThrow := goodIn_r _ [10, 3, 11, 12, 13, 9, 14, 15, 16, 17, 18, 19, 20, 21, 22, 23, 24, 25, 26, 27, 28, 29, 30, 31, 32, 33, 34, 35, 36, 37, 38, 39, 40, 41, 42, 43, 44, 45, 46, 47, 48, 49, 50, 51, 52, 53, 54, 55, 56, 57, 58, 59, 60, 61, 62, 63, 64] (by decide +kernel) (by decide +kernel)
set_option maxRecDepth 20000 in
theorem gX9_exchange_X9_isThrow : GoodIn wsX9_exchange (wsV RX9 276 RX9 yX9_isThrow wsX9_isThrow) := goodIn_app (goodIn_of _ (by decide +kernel)) ggX9_exchange_X9_isThrow
theorem dX9_exchange_0 : decode cX9_exchange 0 = .ok (.aload_n 0, 1) := by decide +kernel
theorem dX9_exchange_1 : decode cX9_exchange 1 = .ok (.iconst 0, 1) := by decide +kernel
theorem dX9_exchange_2 : decode cX9_exchange 2 = .ok (.putfield 92, 3) := by decide +kernel
theorem dX9_exchange_5 : decode cX9_exchange 5 = .ok (.aload_n 0, 1) := by decide +kernel
theorem dX9_exchange_6 : decode cX9_exchange 6 = .ok (.iload_n 1, 1) := by decide +kernel
theorem dX9_exchange_7 : decode cX9_exchange 7 = .ok (.iload_n 2, 1) := by decide +kernel
theorem dX9_exchange_8 : decode cX9_exchange 8 = .ok (.invokevirtual 276, 3) := by decide +kernel
theorem dX9_exchange_11 : decode cX9_exchange 11 = .ok (.ifCond .eq 18, 3) := by decide +kernel
theorem dX9_exchange_29 : decode cX9_exchange 29 = .ok (.bipush (-2), 2) := by decide +kernel
theorem dX9_exchange_31 : decode cX9_exchange 31 = .ok (.ireturn, 1) := by decide +kernel
set_option maxRecDepth 20000 in
theorem ggX9_backwards_X9_isCity : GoodIn wsX9_backwards wsX9_isCity := goodIn_r _ [10, 2, 52, 53, 54, 55, 56, 57, 58, 59, 60, 61, 62, 63, 64, 65, 66, 67, 68, 69, 70, 71, 72, 73, 74, 75, 76, 77, 78, 79, 80, 81, 82, 83, 84, 85, 86, 87, 88, 89, 90, 91, 92, 93, 94, 95, 96, 97] (by decide +kernel) (by decide +kernel)
set_option maxRecDepth 20000 in
theorem gX9_backwards_X9_isCity : GoodIn wsX9_backwards (wsV RX9 270 RX9 yX9_isCity wsX9_isCity) := goodIn_app (goodIn_of _ (by decide +kernel)) ggX9_backwards_X9_isCity
theorem dX9_backwards_0 : decode cX9_backwards 0 = .ok (.aload_n 0, 1) := by decide +kernel
theorem dX9_backwards_1 : decode cX9_backwards 1 = .ok (.iconst 0, 1) := by decide +kernel
theorem dX9_backwards_2 : decode cX9_backwards 2 = .ok (.putfield 92, 3) := by decide +kernel
theorem dX9_backwards_5 : decode cX9_backwards 5 = .ok (.aload_n 0, 1) := by decide +kernel
theorem dX9_backwards_6 : decode cX9_backwards 6 = .ok (.invokevirtual 270, 3) := by decide +kernel
theorem dX9_backwards_9 : decode cX9_backwards 9 = .ok (.ifCond .ne 6, 3) := by decide +kernel
theorem dX9_backwards_12 : decode cX9_backwards 12 = .ok (.bipush (-2), 2) := by decide +kernel
theorem dX9_backwards_14 : decode cX9_backwards 14 = .ok (.ireturn, 1) := by decide +kernel
set_option maxRecDepth 20000 in
theorem ggX9_ground_X9_isThrow : GoodIn wsX9_ground wsX9_isThrow := goodIn_r _ [7, 8, 9, 10, 11, 6, 12, 13, 14, 15, 16, 46, 47, 48, 49, 50, 51, 52, 53, 54, 55, 56, 57, 58, 59, 60, 61, 62, 63, 64, 65, 66, 67, 68, 69, 70, 71, 72, 73, 74, 75, 76, 77, 78, 79, 80, 81, 82, 83, 84, 85, 86, 87, 88, 89, 90, 91] (by decide +kernel) (by decide +kernel)
set_option maxRecDepth 20000 in
theorem gX9_ground_X9_isThrow : GoodIn wsX9_ground (wsV RX9 276 RX9 yX9_isThrow wsX9_isThrow) := goodIn_app (goodIn_of _ (by decide +kernel)) ggX9_ground_X9_isThrow
theorem dX9_ground_0 : decode cX9_ground 0 = .ok (.aload_n 0, 1) := by decide +kernel
theorem dX9_ground_1 : decode cX9_ground 1 = .ok (.iconst 0, 1) := by decide +kernel
theorem dX9_ground_2 : decode cX9_ground 2 = .ok (.putfield 92, 3) := by decide +kernel
theorem dX9_ground_5 : decode cX9_ground 5 = .ok (.aload_n 0, 1) := by decide +kernel
theorem dX9_ground_6 : decode cX9_ground 6 = .ok (.iload_n 1, 1) := by decide +kernel
theorem dX9_ground_7 : decode cX9_ground 7 = .ok (.iload_n 2, 1) := by decide +kernel
theorem dX9_ground_8 : decode cX9_ground 8 = .ok (.invokevirtual 276, 3) := by decide +kernel
theorem dX9_ground_11 : decode cX9_ground 11 = .ok (.ifCond .ne 6, 3) := by decide +kernel
theorem dX9_ground_14 : decode cX9_ground 14 = .ok (.bipush (-2), 2) := by decide +kernel
theorem dX9_ground_16 : decode cX9_ground 16 = .ok (.ireturn, 1) := by decide +kernel
set_option maxRecDepth 20000 in
theorem ggX9_latest_X9_isLetter : GoodIn wsX9_latest wsX9_isLetter := goodIn_r _ [9, 10, 11, 12, 8, 13, 33, 34, 35, 36, 37, 38, 39, 40, 41, 42, 43, 44, 45, 46, 47, 48, 49, 50, 51, 52, 53, 54, 55, 56, 57, 58, 59, 60, 61, 62, 63, 64, 65, 66, 67, 68, 69, 70, 71, 72, 73, 74, 75, 76, 77, 78] (by decide +kernel) (by decide +kernel)
set_option maxRecDepth 20000 in
theorem gX9_latest_X9_isLetter : GoodIn wsX9_latest (wsV RX9 325 RX9 yX9_isLetter wsX9_isLetter) := goodIn_app (goodIn_of _ (by decide +kernel)) ggX9_latest_X9_isLetter
theorem dX9_latest_0 : decode cX9_latest 0 = .ok (.aload_n 0, 1) := by decide +kernel
theorem dX9_latest_1 : decode cX9_latest 1 = .ok (.iconst 0, 1) := by decide +kernel
theorem dX9_latest_2 : decode cX9_latest 2 = .ok (.putfield 92, 3) := by decide +kernel
theorem dX9_latest_5 : decode cX9_latest 5 = .ok (.aload_n 0, 1) := by decide +kernel
theorem dX9_latest_6 : decode cX9_latest 6 = .ok (.iload_n 1, 1) := by decide +kernel
theorem dX9_latest_7 : decode cX9_latest 7 = .ok (.invokevirtual 325, 3) := by decide +kernel
theorem dX9_latest_10 : decode cX9_latest 10 = .ok (.ifCond .eq 10, 3) := by decide +kernel
theorem dX9_latest_20 : decode cX9_latest 20 = .ok (.bipush (-2), 2) := by decide +kernel
theorem dX9_latest_22 : decode cX9_latest 22 = .ok (.ireturn, 1) := by decide +kernel
set_option maxRecDepth 20000 in
theorem ggX9_busiest_X9_isCity : GoodIn wsX9_busiest wsX9_isCity := goodIn_r _ [6, 7, 29, 30, 31, 32, 33, 34, 35, 36, 37, 38, 39, 40, 41, 42, 43, 44, 45, 46, 47, 48, 49, 50, 51, 52, 53, 54, 55, 56, 57, 58, 59, 60, 61, 62, 63, 64, 65, 66, 67, 68, 69, 70, 71, 72, 73, 74] (by decide +kernel) (by decide +kernel)
set_option maxRecDepth 20000 in
theorem gX9_busiest_X9_isCity : GoodIn wsX9_busiest (wsV RX9 270 RX9 yX9_isCity wsX9_isCity) := goodIn_app (goodIn_of _ (by decide +kernel)) ggX9_busiest_X9_isCity
theorem dX9_busiest_0 : decode cX9_busiest 0 = .ok (.aload_n 0, 1) := by decide +kernel
theorem dX9_busiest_1 : decode cX9_busiest 1 = .ok (.iconst 0, 1) := by decide +kernel
theorem dX9_busiest_2 : decode cX9_busiest 2 = .ok (.putfield 92, 3) := by decide +kernel
theorem dX9_busiest_5 : decode cX9_busiest 5 = .ok (.aload_n 0, 1) := by decide +kernel
theorem dX9_busiest_6 : decode cX9_busiest 6 = .ok (.invokevirtual 270, 3) := by decide +kernel
theorem dX9_busiest_9 : decode cX9_busiest 9 = .ok (.ifCond .eq 13, 3) := by decide +kernel
theorem dX9_busiest_22 : decode cX9_busiest 22 = .ok (.bipush (-2), 2) := by decide +kernel
theorem dX9_busiest_24 : decode cX9_busiest 24 = .ok (.ireturn, 1) := by decide +kernel
set_option maxRecDepth 20000 in
theorem ggX9_silent_X9_isRoof : GoodIn wsX9_silent wsX9_isRoof := goodIn_r _ [6, 7, 8, 9, 5, 10, 25, 26, 27, 28, 29, 30, 31, 32, 33, 34, 35, 36, 37, 38, 39, 40, 41, 42, 43, 44, 45, 46, 47, 48, 49, 50, 51, 52, 53, 54, 55, 56, 57, 58, 59, 60, 61, 62, 63, 64, 65, 66, 67, 68, 69, 70] (by decide +kernel) (by decide +kernel)
set_option maxRecDepth 20000 in
theorem gX9_silent_X9_isRoof : GoodIn wsX9_silent (wsV RX9 256 RX9 yX9_isRoof wsX9_isRoof) := goodIn_app (goodIn_of _ (by decide +kernel)) ggX9_silent_X9_isRoof
theorem dX9_silent_0 : decode cX9_silent 0 = .ok (.aload_n 0, 1) := by decide +kernel
theorem dX9_silent_1 : decode cX9_silent 1 = .ok (.iconst 0, 1) := by decide +kernel
theorem dX9_silent_2 : decode cX9_silent 2 = .ok (.putfield 92, 3) := by decide +kernel
theorem dX9_silent_5 : decode cX9_silent 5 = .ok (.aload_n 0, 1) := by decide +kernel
theorem dX9_silent_6 : decode cX9_silent 6 = .ok (.iload_n 1, 1) := by decide +kernel
theorem dX9_silent_7 : decode cX9_silent 7 = .ok (.invokevirtual 256, 3) := by decide +kernel
theorem dX9_silent_10 : decode cX9_silent 10 = .ok (.ifCond .ne 6, 3) := by decide +kernel
theorem dX9_silent_13 : decode cX9_silent 13 = .ok (.bipush (-2), 2) := by decide +kernel
theorem dX9_silent_15 : decode cX9_silent 15 = .ok (.ireturn, 1) := by decide +kernel
set_option maxRecDepth 20000 in
theorem ggX9_isGust_X9_isCity : GoodIn wsX9_isGust wsX9_isCity := goodIn_r _ [7, 8, 12, 13, 14, 15, 16, 17, 18, 19, 20, 21, 22, 23, 24, 25, 26, 27, 28, 29, 30, 31, 32, 33, 34, 35, 36, 37, 38, 39, 40, 41, 42, 43, 44, 45, 46, 47, 48, 49, 50, 51, 52, 53, 54, 55, 56, 57] (by decide +kernel) (by decide +kernel)
set_option maxRecDepth 20000 in
theorem gX9_isGust_X9_isCity : GoodIn wsX9_isGust (wsV RX9 270 RX9 yX9_isCity wsX9_isCity) := goodIn_app (goodIn_of _ (by decide +kernel)) ggX9_isGust_X9_isCity
theorem dX9_isGust_0 : decode cX9_isGust 0 = .ok (.aload_n 0, 1) := by decide +kernel
theorem dX9_isGust_1 : decode cX9_isGust 1 = .ok (.invokevirtual 270, 3) := by decide +kernel
theorem dX9_isGust_4 : decode cX9_isGust 4 = .ok (.ifCond .eq 31, 3) := by decide +kernel
theorem dX9_isGust_35 : decode cX9_isGust 35 = .ok (.iconst 0, 1) := by decide +kernel
theorem dX9_isGust_36 : decode cX9_isGust 36 = .ok (.ireturn, 1) := by decide +kernel
set_option maxRecDepth 20000 in
theorem ggX9_gusts_X9_isGust : GoodIn wsX9_gusts wsX9_isGust := goodIn_r _ [10, 11, 12, 13, 14, 15, 9, 16, 17, 18, 19, 20, 72, 73, 74, 75, 76, 77, 78, 79, 80, 81, 82, 83, 84, 85, 86, 87, 88, 89, 90, 91, 92, 93, 94, 95, 96, 97, 98, 99, 100, 101, 102, 103, 104, 105, 106, 107, 108, 109, 110, 111, 112, 113, 114, 115, 116, 117] (by decide +kernel) (by decide +kernel)
set_option maxRecDepth 20000 in
theorem gX9_gusts_X9_isGust : GoodIn wsX9_gusts (wsV RX9 408 RX9 yX9_isGust wsX9_isGust) := goodIn_app (goodIn_of _ (by decide +kernel)) ggX9_gusts_X9_isGust
theorem dX9_gusts_0 : decode cX9_gusts 0 = .ok (.aload_n 0, 1) := by decide +kernel
theorem dX9_gusts_1 : decode cX9_gusts 1 = .ok (.iconst 0, 1) := by decide +kernel
theorem dX9_gusts_2 : decode cX9_gusts 2 = .ok (.putfield 92, 3) := by decide +kernel
theorem dX9_gusts_5 : decode cX9_gusts 5 = .ok (.aload_n 0, 1) := by decide +kernel
theorem dX9_gusts_6 : decode cX9_gusts 6 = .ok (.iload_n 1, 1) := by decide +kernel
theorem dX9_gusts_7 : decode cX9_gusts 7 = .ok (.iload_n 2, 1) := by decide +kernel
theorem dX9_gusts_8 : decode cX9_gusts 8 = .ok (.invokevirtual 408, 3) := by decide +kernel
theorem dX9_gusts_11 : decode cX9_gusts 11 = .ok (.ifCond .eq 15, 3) := by decide +kernel
theorem dX9_gusts_26 : decode cX9_gusts 26 = .ok (.bipush (-2), 2) := by decide +kernel
theorem dX9_gusts_28 : decode cX9_gusts 28 = .ok (.ireturn, 1) := by decide +kernel
set_option maxRecDepth 20000 in
theorem ggX9_years_X9_isGust : GoodIn wsX9_years wsX9_isGust := goodIn_r _ [8, 9, 10, 11, 12, 13, 7, 14, 15, 16, 17, 18, 68, 69, 70, 71, 72, 73, 74, 75, 76, 77, 78, 79, 80, 81, 82, 83, 84, 85, 86, 87, 88, 89, 90, 91, 92, 93, 94, 95, 96, 97, 98, 99, 100, 101, 102, 103, 104, 105, 106, 107, 108, 109, 110, 111, 112, 113] (by decide +kernel) (by decide +kernel)
set_option maxRecDepth 20000 in
theorem gX9_years_X9_isGust : GoodIn wsX9_years (wsV RX9 408 RX9 yX9_isGust wsX9_isGust) := goodIn_app (goodIn_of _ (by decide +kernel)) ggX9_years_X9_isGust
theorem dX9_years_0 : decode cX9_years 0 = .ok (.aload_n 0, 1) := by decide +kernel
theorem dX9_years_1 : decode cX9_years 1 = .ok (.iconst 0, 1) := by decide +kernel
theorem dX9_years_2 : decode cX9_years 2 = .ok (.putfield 92, 3) := by decide +kernel
theorem dX9_years_5 : decode cX9_years 5 = .ok (.aload_n 0, 1) := by decide +kernel
theorem dX9_years_6 : decode cX9_years 6 = .ok (.iload_n 1, 1) := by decide +kernel
theorem dX9_years_7 : decode cX9_years 7 = .ok (.iload_n 3, 1) := by decide +kernel
theorem dX9_years_8 : decode cX9_years 8 = .ok (.invokevirtual 408, 3) := by decide +kernel
theorem dX9_years_11 : decode cX9_years 11 = .ok (.ifCond .eq 15, 3) := by decide +kernel
theorem dX9_years_26 : decode cX9_years 26 = .ok (.bipush (-2), 2) := by decide +kernel
theorem dX9_years_28 : decode cX9_years 28 = .ok (.ireturn, 1) := by decide +kernel
set_option maxRecDepth 20000 in
theorem ggX9_whyNot_X9_isSlot : GoodIn wsX9_whyNot wsX9_isSlot := goodIn_r _ [11, 12, 13, 14, 10, 15] (by decide +kernel) (by decide +kernel)
set_option maxRecDepth 20000 in
theorem gX9_whyNot_X9_isSlot : GoodIn wsX9_whyNot (va_wsS RX9 101 yX9_isSlot wsX9_isSlot) := goodIn_app (goodIn_of _ (by decide +kernel)) ggX9_whyNot_X9_isSlot
set_option maxRecDepth 20000 in
theorem ggX9_whyNot_X9_isRoof : GoodIn wsX9_whyNot wsX9_isRoof := goodIn_r _ [19, 7, 13, 14, 10, 15, 20, 21, 22, 23, 24, 25, 26, 27, 28, 29, 30, 31, 32, 33, 34, 35, 36, 37, 38, 39, 40, 41, 42, 43, 44, 45, 46, 47, 48, 49, 50, 51, 52, 53, 54, 55, 56, 57, 58, 59, 60, 61, 62, 63, 64, 65] (by decide +kernel) (by decide +kernel)
set_option maxRecDepth 20000 in
theorem gX9_whyNot_X9_isRoof : GoodIn wsX9_whyNot (wsV RX9 256 RX9 yX9_isRoof wsX9_isRoof) := goodIn_app (goodIn_of _ (by decide +kernel)) ggX9_whyNot_X9_isRoof
theorem dX9_whyNot_0 : decode cX9_whyNot 0 = .ok (.iload_n 1, 1) := by decide +kernel
theorem dX9_whyNot_1 : decode cX9_whyNot 1 = .ok (.invokestatic 101, 3) := by decide +kernel
theorem dX9_whyNot_4 : decode cX9_whyNot 4 = .ok (.ifCond .eq 11, 3) := by decide +kernel
theorem dX9_whyNot_7 : decode cX9_whyNot 7 = .ok (.aload_n 0, 1) := by decide +kernel
theorem dX9_whyNot_8 : decode cX9_whyNot 8 = .ok (.iload_n 2, 1) := by decide +kernel
theorem dX9_whyNot_9 : decode cX9_whyNot 9 = .ok (.invokevirtual 256, 3) := by decide +kernel
theorem dX9_whyNot_12 : decode cX9_whyNot 12 = .ok (.ifCond .ne 6, 3) := by decide +kernel
theorem dX9_whyNot_15 : decode cX9_whyNot 15 = .ok (.bipush (-2), 2) := by decide +kernel
theorem dX9_whyNot_17 : decode cX9_whyNot 17 = .ok (.ireturn, 1) := by decide +kernel
set_option maxRecDepth 20000 in
theorem ggX9_judge_X9_whyNot : GoodIn wsX9_judge wsX9_whyNot := goodIn_r _ [6, 7, 8, 9, 10, 11, 12, 13, 14, 15, 5, 16, 17, 18, 19, 20, 21, 22, 23, 24, 73, 74, 75, 76, 77, 78, 79, 80, 81, 82, 83, 84, 85, 86, 87, 88, 89, 90, 91, 92, 93, 94, 95, 96, 97, 98, 99, 100, 101, 102, 103, 104, 105, 106, 107, 108, 109, 110, 111, 112, 113, 114, 115, 116, 117, 118] (by decide +kernel) (by decide +kernel)
set_option maxRecDepth 20000 in
theorem gX9_judge_X9_whyNot : GoodIn wsX9_judge (wsV RX9 421 RX9 yX9_whyNot wsX9_whyNot) := goodIn_app (goodIn_of _ (by decide +kernel)) ggX9_judge_X9_whyNot
theorem dX9_judge_0 : decode cX9_judge 0 = .ok (.aload_n 0, 1) := by decide +kernel
theorem dX9_judge_1 : decode cX9_judge 1 = .ok (.iconst 0, 1) := by decide +kernel
theorem dX9_judge_2 : decode cX9_judge 2 = .ok (.putfield 92, 3) := by decide +kernel
theorem dX9_judge_5 : decode cX9_judge 5 = .ok (.aload_n 0, 1) := by decide +kernel
theorem dX9_judge_6 : decode cX9_judge 6 = .ok (.iload_n 1, 1) := by decide +kernel
theorem dX9_judge_7 : decode cX9_judge 7 = .ok (.iload_n 2, 1) := by decide +kernel
theorem dX9_judge_8 : decode cX9_judge 8 = .ok (.invokevirtual 421, 3) := by decide +kernel
theorem dX9_judge_11 : decode cX9_judge 11 = .ok (.istore_n 3, 1) := by decide +kernel
theorem dX9_judge_12 : decode cX9_judge 12 = .ok (.iload_n 3, 1) := by decide +kernel
theorem dX9_judge_13 : decode cX9_judge 13 = .ok (.ifCond .eq 5, 3) := by decide +kernel
theorem dX9_judge_16 : decode cX9_judge 16 = .ok (.iload_n 3, 1) := by decide +kernel
theorem dX9_judge_17 : decode cX9_judge 17 = .ok (.ireturn, 1) := by decide +kernel
set_option maxRecDepth 20000 in
theorem ggX9_takes__X9_whyNot : GoodIn wsX9_takes_ wsX9_whyNot := goodIn_r _ [7, 8, 2, 9, 10, 11, 12, 13, 14, 15, 6, 16, 17, 18, 19, 20, 21, 22, 23, 24, 32, 33, 34, 35, 36, 37, 38, 39, 40, 41, 42, 43, 44, 45, 46, 47, 48, 49, 50, 51, 52, 53, 54, 55, 56, 57, 58, 59, 60, 61, 62, 63, 64, 65, 66, 67, 68, 69, 70, 71, 72, 73, 74, 75, 76, 77] (by decide +kernel) (by decide +kernel)
set_option maxRecDepth 20000 in
theorem gX9_takes__X9_whyNot : GoodIn wsX9_takes_ (wsV RX9 421 RX9 yX9_whyNot wsX9_whyNot) := goodIn_app (goodIn_of _ (by decide +kernel)) ggX9_takes__X9_whyNot
theorem dX9_takes__0 : decode cX9_takes_ 0 = .ok (.aload_n 0, 1) := by decide +kernel
theorem dX9_takes__1 : decode cX9_takes_ 1 = .ok (.iconst 0, 1) := by decide +kernel
theorem dX9_takes__2 : decode cX9_takes_ 2 = .ok (.putfield 92, 3) := by decide +kernel
theorem dX9_takes__5 : decode cX9_takes_ 5 = .ok (.aload_n 0, 1) := by decide +kernel
theorem dX9_takes__6 : decode cX9_takes_ 6 = .ok (.iload_n 1, 1) := by decide +kernel
theorem dX9_takes__7 : decode cX9_takes_ 7 = .ok (.iload_n 2, 1) := by decide +kernel
theorem dX9_takes__8 : decode cX9_takes_ 8 = .ok (.invokevirtual 421, 3) := by decide +kernel
theorem dX9_takes__11 : decode cX9_takes_ 11 = .ok (.istore_n 3, 1) := by decide +kernel
theorem dX9_takes__12 : decode cX9_takes_ 12 = .ok (.iload_n 3, 1) := by decide +kernel
theorem dX9_takes__13 : decode cX9_takes_ 13 = .ok (.ifCond .eq 5, 3) := by decide +kernel
theorem dX9_takes__16 : decode cX9_takes_ 16 = .ok (.iload_n 3, 1) := by decide +kernel
theorem dX9_takes__17 : decode cX9_takes_ 17 = .ok (.ireturn, 1) := by decide +kernel
set_option maxRecDepth 20000 in
theorem ggX9_count_X9_isCity : GoodIn wsX9_count wsX9_isCity := goodIn_r _ [17, 2, 24, 25, 26, 27, 28, 29, 30, 31, 32, 33, 34, 35, 36, 37, 38, 39, 40, 41, 42, 43, 44, 45, 46, 47, 48, 49, 50, 51, 52, 53, 54, 55, 56, 57, 58, 59, 60, 61, 62, 63, 64, 65, 66, 67, 68, 69] (by decide +kernel) (by decide +kernel)
set_option maxRecDepth 20000 in
theorem gX9_count_X9_isCity : GoodIn wsX9_count (wsV RX9 270 RX9 yX9_isCity wsX9_isCity) := goodIn_app (goodIn_of _ (by decide +kernel)) ggX9_count_X9_isCity
theorem dX9_count_0 : decode cX9_count 0 = .ok (.aload_n 0, 1) := by decide +kernel
theorem dX9_count_1 : decode cX9_count 1 = .ok (.iconst 0, 1) := by decide +kernel
theorem dX9_count_2 : decode cX9_count 2 = .ok (.putfield 92, 3) := by decide +kernel
theorem dX9_count_5 : decode cX9_count 5 = .ok (.iconst 0, 1) := by decide +kernel
theorem dX9_count_6 : decode cX9_count 6 = .ok (.istore_n 2, 1) := by decide +kernel
theorem dX9_count_7 : decode cX9_count 7 = .ok (.iload_n 1, 1) := by decide +kernel
theorem dX9_count_8 : decode cX9_count 8 = .ok (.tableswitch 245 0 8 #[52, 59, 66, 126, 133, 138, 156, 174, 212], 52) := by decide +kernel
theorem dX9_count_60 : decode cX9_count 60 = .ok (.aload_n 0, 1) := by decide +kernel
theorem dX9_count_61 : decode cX9_count 61 = .ok (.getfield 34, 3) := by decide +kernel
theorem dX9_count_64 : decode cX9_count 64 = .ok (.iconst 0, 1) := by decide +kernel
theorem dX9_count_65 : decode cX9_count 65 = .ok (.iaload, 1) := by decide +kernel
theorem dX9_count_66 : decode cX9_count 66 = .ok (.ireturn, 1) := by decide +kernel
theorem dX9_count_67 : decode cX9_count 67 = .ok (.aload_n 0, 1) := by decide +kernel
theorem dX9_count_68 : decode cX9_count 68 = .ok (.getfield 49, 3) := by decide +kernel
theorem dX9_count_71 : decode cX9_count 71 = .ok (.iconst 1, 1) := by decide +kernel
theorem dX9_count_72 : decode cX9_count 72 = .ok (.iaload, 1) := by decide +kernel
theorem dX9_count_73 : decode cX9_count 73 = .ok (.ireturn, 1) := by decide +kernel
theorem dX9_count_74 : decode cX9_count 74 = .ok (.iconst 0, 1) := by decide +kernel
theorem dX9_count_75 : decode cX9_count 75 = .ok (.istore_n 3, 1) := by decide +kernel
theorem dX9_count_76 : decode cX9_count 76 = .ok (.iload_n 3, 1) := by decide +kernel
theorem dX9_count_77 : decode cX9_count 77 = .ok (.aload_n 0, 1) := by decide +kernel
theorem dX9_count_78 : decode cX9_count 78 = .ok (.getfield 34, 3) := by decide +kernel
theorem dX9_count_81 : decode cX9_count 81 = .ok (.iconst 0, 1) := by decide +kernel
theorem dX9_count_82 : decode cX9_count 82 = .ok (.iaload, 1) := by decide +kernel
theorem dX9_count_83 : decode cX9_count 83 = .ok (.if_icmp .ge 49, 3) := by decide +kernel
theorem dX9_count_132 : decode cX9_count 132 = .ok (.iload_n 2, 1) := by decide +kernel
theorem dX9_count_133 : decode cX9_count 133 = .ok (.ireturn, 1) := by decide +kernel
theorem dX9_count_134 : decode cX9_count 134 = .ok (.aload_n 0, 1) := by decide +kernel
theorem dX9_count_135 : decode cX9_count 135 = .ok (.getfield 31, 3) := by decide +kernel
theorem dX9_count_138 : decode cX9_count 138 = .ok (.iconst 0, 1) := by decide +kernel
theorem dX9_count_139 : decode cX9_count 139 = .ok (.iaload, 1) := by decide +kernel
theorem dX9_count_140 : decode cX9_count 140 = .ok (.ireturn, 1) := by decide +kernel
theorem dX9_count_141 : decode cX9_count 141 = .ok (.aload_n 0, 1) := by decide +kernel
theorem dX9_count_142 : decode cX9_count 142 = .ok (.getfield 109, 3) := by decide +kernel
theorem dX9_count_145 : decode cX9_count 145 = .ok (.ireturn, 1) := by decide +kernel
theorem dX9_count_146 : decode cX9_count 146 = .ok (.aload_n 0, 1) := by decide +kernel
theorem dX9_count_147 : decode cX9_count 147 = .ok (.invokevirtual 270, 3) := by decide +kernel
theorem dX9_count_150 : decode cX9_count 150 = .ok (.ifCond .eq 12, 3) := by decide +kernel
theorem dX9_count_162 : decode cX9_count 162 = .ok (.iconst 0, 1) := by decide +kernel
theorem dX9_count_163 : decode cX9_count 163 = .ok (.ireturn, 1) := by decide +kernel
theorem dX9_count_164 : decode cX9_count 164 = .ok (.aload_n 0, 1) := by decide +kernel
theorem dX9_count_165 : decode cX9_count 165 = .ok (.invokevirtual 270, 3) := by decide +kernel
theorem dX9_count_168 : decode cX9_count 168 = .ok (.ifCond .eq 12, 3) := by decide +kernel
theorem dX9_count_180 : decode cX9_count 180 = .ok (.iconst 0, 1) := by decide +kernel
theorem dX9_count_181 : decode cX9_count 181 = .ok (.ireturn, 1) := by decide +kernel
theorem dX9_count_182 : decode cX9_count 182 = .ok (.iconst 0, 1) := by decide +kernel
theorem dX9_count_183 : decode cX9_count 183 = .ok (.istore_n 3, 1) := by decide +kernel
theorem dX9_count_184 : decode cX9_count 184 = .ok (.iload_n 3, 1) := by decide +kernel
theorem dX9_count_185 : decode cX9_count 185 = .ok (.aload_n 0, 1) := by decide +kernel
theorem dX9_count_186 : decode cX9_count 186 = .ok (.getfield 34, 3) := by decide +kernel
theorem dX9_count_189 : decode cX9_count 189 = .ok (.iconst 0, 1) := by decide +kernel
theorem dX9_count_190 : decode cX9_count 190 = .ok (.iaload, 1) := by decide +kernel
theorem dX9_count_191 : decode cX9_count 191 = .ok (.if_icmp .ge 27, 3) := by decide +kernel
theorem dX9_count_218 : decode cX9_count 218 = .ok (.iload_n 2, 1) := by decide +kernel
theorem dX9_count_219 : decode cX9_count 219 = .ok (.ireturn, 1) := by decide +kernel
theorem dX9_count_220 : decode cX9_count 220 = .ok (.iconst 0, 1) := by decide +kernel
theorem dX9_count_221 : decode cX9_count 221 = .ok (.istore_n 3, 1) := by decide +kernel
theorem dX9_count_222 : decode cX9_count 222 = .ok (.iload_n 3, 1) := by decide +kernel
theorem dX9_count_223 : decode cX9_count 223 = .ok (.iconst 4, 1) := by decide +kernel
theorem dX9_count_224 : decode cX9_count 224 = .ok (.if_icmp .ge 27, 3) := by decide +kernel
theorem dX9_count_227 : decode cX9_count 227 = .ok (.iload_n 2, 1) := by decide +kernel
theorem dX9_count_228 : decode cX9_count 228 = .ok (.aload_n 0, 1) := by decide +kernel
theorem dX9_count_229 : decode cX9_count 229 = .ok (.getfield 7, 3) := by decide +kernel
theorem dX9_count_232 : decode cX9_count 232 = .ok (.iload_n 3, 1) := by decide +kernel
theorem dX9_count_233 : decode cX9_count 233 = .ok (.iaload, 1) := by decide +kernel
theorem dX9_count_234 : decode cX9_count 234 = .ok (.iconst (-1), 1) := by decide +kernel
theorem dX9_count_235 : decode cX9_count 235 = .ok (.if_icmp .ne 7, 3) := by decide +kernel
theorem dX9_count_238 : decode cX9_count 238 = .ok (.iconst 0, 1) := by decide +kernel
theorem dX9_count_239 : decode cX9_count 239 = .ok (.goto 4, 3) := by decide +kernel
theorem dX9_count_243 : decode cX9_count 243 = .ok (.iadd, 1) := by decide +kernel
theorem dX9_count_244 : decode cX9_count 244 = .ok (.istore_n 2, 1) := by decide +kernel
theorem dX9_count_245 : decode cX9_count 245 = .ok (.iinc 3 1, 3) := by decide +kernel
theorem dX9_count_248 : decode cX9_count 248 = .ok (.goto (-26), 3) := by decide +kernel
theorem dX9_count_251 : decode cX9_count 251 = .ok (.iload_n 2, 1) := by decide +kernel
theorem dX9_count_252 : decode cX9_count 252 = .ok (.ireturn, 1) := by decide +kernel
theorem dX9_count_253 : decode cX9_count 253 = .ok (.iconst (-1), 1) := by decide +kernel
theorem dX9_count_254 : decode cX9_count 254 = .ok (.ireturn, 1) := by decide +kernel
set_option maxRecDepth 20000 in
theorem ggX9_keep_X9_in : GoodIn wsX9_keep wsX9_in := goodIn_r _ [7] (by decide +kernel) (by decide +kernel)
set_option maxRecDepth 20000 in
theorem gX9_keep_X9_in : GoodIn wsX9_keep (va_wsS RX9 97 yX9_in wsX9_in) := goodIn_app (goodIn_of _ (by decide +kernel)) ggX9_keep_X9_in
set_option maxRecDepth 20000 in
theorem ggX9_keep_X9_copyCity : GoodIn wsX9_keep wsX9_copyCity := goodIn_r _ [11, 12, 13, 14, 15, 16, 17, 18, 19, 20, 21, 22, 23, 6, 24, 25, 26, 27, 28, 29, 30, 31, 32, 33, 34, 35, 36, 37, 38, 39, 40, 41, 42, 43, 44, 45, 46, 47, 48, 49, 50, 51, 52, 53, 54, 55, 56, 57, 58, 59, 60, 61, 62, 63, 64, 65, 66, 67, 68, 69, 70] (by decide +kernel) (by decide +kernel)
set_option maxRecDepth 20000 in
theorem gX9_keep_X9_copyCity : GoodIn wsX9_keep (wsV RX9 243 RX9 yX9_copyCity wsX9_copyCity) := goodIn_app (goodIn_of _ (by decide +kernel)) ggX9_keep_X9_copyCity
theorem dX9_keep_0 : decode cX9_keep 0 = .ok (.aload_n 0, 1) := by decide +kernel
theorem dX9_keep_1 : decode cX9_keep 1 = .ok (.iconst 0, 1) := by decide +kernel
theorem dX9_keep_2 : decode cX9_keep 2 = .ok (.putfield 92, 3) := by decide +kernel
theorem dX9_keep_5 : decode cX9_keep 5 = .ok (.iload_n 1, 1) := by decide +kernel
theorem dX9_keep_6 : decode cX9_keep 6 = .ok (.i2l, 1) := by decide +kernel
theorem dX9_keep_7 : decode cX9_keep 7 = .ok (.lconst 0, 1) := by decide +kernel
theorem dX9_keep_8 : decode cX9_keep 8 = .ok (.ldc2_w 262, 3) := by decide +kernel
theorem dX9_keep_11 : decode cX9_keep 11 = .ok (.invokestatic 97, 3) := by decide +kernel
theorem dX9_keep_14 : decode cX9_keep 14 = .ok (.ifCond .ne 6, 3) := by decide +kernel
theorem dX9_keep_17 : decode cX9_keep 17 = .ok (.bipush (-2), 2) := by decide +kernel
theorem dX9_keep_19 : decode cX9_keep 19 = .ok (.ireturn, 1) := by decide +kernel
theorem dX9_keep_20 : decode cX9_keep 20 = .ok (.aload_n 0, 1) := by decide +kernel
theorem dX9_keep_21 : decode cX9_keep 21 = .ok (.iconst 0, 1) := by decide +kernel
theorem dX9_keep_22 : decode cX9_keep 22 = .ok (.iconst 1, 1) := by decide +kernel
theorem dX9_keep_23 : decode cX9_keep 23 = .ok (.iload_n 1, 1) := by decide +kernel
theorem dX9_keep_24 : decode cX9_keep 24 = .ok (.iadd, 1) := by decide +kernel
theorem dX9_keep_25 : decode cX9_keep 25 = .ok (.invokevirtual 243, 3) := by decide +kernel
theorem dX9_keep_28 : decode cX9_keep 28 = .ok (.aload_n 0, 1) := by decide +kernel
theorem dX9_keep_29 : decode cX9_keep 29 = .ok (.getfield 61, 3) := by decide +kernel
theorem dX9_keep_32 : decode cX9_keep 32 = .ok (.iload_n 1, 1) := by decide +kernel
theorem dX9_keep_33 : decode cX9_keep 33 = .ok (.iconst 1, 1) := by decide +kernel
theorem dX9_keep_34 : decode cX9_keep 34 = .ok (.bastore, 1) := by decide +kernel
theorem dX9_keep_35 : decode cX9_keep 35 = .ok (.iconst 0, 1) := by decide +kernel
theorem dX9_keep_36 : decode cX9_keep 36 = .ok (.ireturn, 1) := by decide +kernel
set_option maxRecDepth 20000 in
theorem ggX9_back_X9_in : GoodIn wsX9_back wsX9_in := goodIn_r _ [7] (by decide +kernel) (by decide +kernel)
set_option maxRecDepth 20000 in
theorem gX9_back_X9_in : GoodIn wsX9_back (va_wsS RX9 97 yX9_in wsX9_in) := goodIn_app (goodIn_of _ (by decide +kernel)) ggX9_back_X9_in
theorem dX9_back_0 : decode cX9_back 0 = .ok (.aload_n 0, 1) := by decide +kernel
theorem dX9_back_1 : decode cX9_back 1 = .ok (.iconst 0, 1) := by decide +kernel
theorem dX9_back_2 : decode cX9_back 2 = .ok (.putfield 92, 3) := by decide +kernel
theorem dX9_back_5 : decode cX9_back 5 = .ok (.iload_n 1, 1) := by decide +kernel
theorem dX9_back_6 : decode cX9_back 6 = .ok (.i2l, 1) := by decide +kernel
theorem dX9_back_7 : decode cX9_back 7 = .ok (.lconst 0, 1) := by decide +kernel
theorem dX9_back_8 : decode cX9_back 8 = .ok (.ldc2_w 262, 3) := by decide +kernel
theorem dX9_back_11 : decode cX9_back 11 = .ok (.invokestatic 97, 3) := by decide +kernel
theorem dX9_back_14 : decode cX9_back 14 = .ok (.ifCond .ne 6, 3) := by decide +kernel
theorem dX9_back_17 : decode cX9_back 17 = .ok (.bipush (-2), 2) := by decide +kernel
theorem dX9_back_19 : decode cX9_back 19 = .ok (.ireturn, 1) := by decide +kernel
theorem dX9_back_20 : decode cX9_back 20 = .ok (.aload_n 0, 1) := by decide +kernel
theorem dX9_back_21 : decode cX9_back 21 = .ok (.getfield 61, 3) := by decide +kernel
theorem dX9_back_24 : decode cX9_back 24 = .ok (.iload_n 1, 1) := by decide +kernel
theorem dX9_back_25 : decode cX9_back 25 = .ok (.baload, 1) := by decide +kernel
theorem dX9_back_26 : decode cX9_back 26 = .ok (.ifCond .ne 6, 3) := by decide +kernel
theorem dX9_back_29 : decode cX9_back 29 = .ok (.bipush (-6), 2) := by decide +kernel
theorem dX9_back_31 : decode cX9_back 31 = .ok (.ireturn, 1) := by decide +kernel
theorem dJ7_fill_53178_0 : decode cJ7_fill_53178 0 = .ok (.iconst 0, 1) := by decide +kernel
theorem dJ7_fill_53178_1 : decode cJ7_fill_53178 1 = .ok (.istore_n 2, 1) := by decide +kernel
theorem dJ7_fill_53178_2 : decode cJ7_fill_53178 2 = .ok (.aload_n 0, 1) := by decide +kernel
theorem dJ7_fill_53178_3 : decode cJ7_fill_53178 3 = .ok (.arraylength, 1) := by decide +kernel
theorem dJ7_fill_53178_4 : decode cJ7_fill_53178 4 = .ok (.istore_n 3, 1) := by decide +kernel
theorem dJ7_fill_53178_5 : decode cJ7_fill_53178 5 = .ok (.iload_n 2, 1) := by decide +kernel
theorem dJ7_fill_53178_6 : decode cJ7_fill_53178 6 = .ok (.iload_n 3, 1) := by decide +kernel
theorem dJ7_fill_53178_7 : decode cJ7_fill_53178 7 = .ok (.if_icmp .ge 13, 3) := by decide +kernel
theorem dJ7_fill_53178_10 : decode cJ7_fill_53178 10 = .ok (.aload_n 0, 1) := by decide +kernel
theorem dJ7_fill_53178_11 : decode cJ7_fill_53178 11 = .ok (.iload_n 2, 1) := by decide +kernel
theorem dJ7_fill_53178_12 : decode cJ7_fill_53178 12 = .ok (.iload_n 1, 1) := by decide +kernel
theorem dJ7_fill_53178_13 : decode cJ7_fill_53178 13 = .ok (.iastore, 1) := by decide +kernel
theorem dJ7_fill_53178_14 : decode cJ7_fill_53178 14 = .ok (.iinc 2 1, 3) := by decide +kernel
theorem dJ7_fill_53178_17 : decode cJ7_fill_53178 17 = .ok (.goto (-12), 3) := by decide +kernel
theorem dJ7_fill_53178_20 : decode cJ7_fill_53178 20 = .ok (.return_, 1) := by decide +kernel
