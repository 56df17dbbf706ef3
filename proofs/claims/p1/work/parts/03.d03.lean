theorem dX0_init_0 : decode cX0_init 0 = .ok (.aload_n 0, 1) := by decide +kernel
theorem dX0_init_1 : decode cX0_init 1 = .ok (.invokespecial 3, 3) := by decide +kernel
theorem dX0_init_4 : decode cX0_init 4 = .ok (.aload_n 0, 1) := by decide +kernel
theorem dX0_init_5 : decode cX0_init 5 = .ok (.bipush 48, 2) := by decide +kernel
theorem dX0_init_7 : decode cX0_init 7 = .ok (.newarray .int, 2) := by decide +kernel
theorem dX0_init_9 : decode cX0_init 9 = .ok (.putfield 9, 3) := by decide +kernel
theorem dX0_init_12 : decode cX0_init 12 = .ok (.aload_n 0, 1) := by decide +kernel
theorem dX0_init_13 : decode cX0_init 13 = .ok (.bipush 48, 2) := by decide +kernel
theorem dX0_init_15 : decode cX0_init 15 = .ok (.newarray .int, 2) := by decide +kernel
theorem dX0_init_17 : decode cX0_init 17 = .ok (.putfield 15, 3) := by decide +kernel
theorem dX0_init_20 : decode cX0_init 20 = .ok (.aload_n 0, 1) := by decide +kernel
theorem dX0_init_21 : decode cX0_init 21 = .ok (.bipush 6, 2) := by decide +kernel
theorem dX0_init_23 : decode cX0_init 23 = .ok (.newarray .int, 2) := by decide +kernel
theorem dX0_init_25 : decode cX0_init 25 = .ok (.putfield 18, 3) := by decide +kernel
theorem dX0_init_28 : decode cX0_init 28 = .ok (.aload_n 0, 1) := by decide +kernel
theorem dX0_init_29 : decode cX0_init 29 = .ok (.bipush 6, 2) := by decide +kernel
theorem dX0_init_31 : decode cX0_init 31 = .ok (.newarray .int, 2) := by decide +kernel
theorem dX0_init_33 : decode cX0_init 33 = .ok (.putfield 21, 3) := by decide +kernel
theorem dX0_init_36 : decode cX0_init 36 = .ok (.aload_n 0, 1) := by decide +kernel
theorem dX0_init_37 : decode cX0_init 37 = .ok (.bipush 6, 2) := by decide +kernel
theorem dX0_init_39 : decode cX0_init 39 = .ok (.newarray .int, 2) := by decide +kernel
theorem dX0_init_41 : decode cX0_init 41 = .ok (.putfield 24, 3) := by decide +kernel
theorem dX0_init_44 : decode cX0_init 44 = .ok (.aload_n 0, 1) := by decide +kernel
theorem dX0_init_45 : decode cX0_init 45 = .ok (.bipush 24, 2) := by decide +kernel
theorem dX0_init_47 : decode cX0_init 47 = .ok (.newarray .int, 2) := by decide +kernel
theorem dX0_init_49 : decode cX0_init 49 = .ok (.putfield 27, 3) := by decide +kernel
theorem dX0_init_52 : decode cX0_init 52 = .ok (.return_, 1) := by decide +kernel
theorem dX0_wipe_0 : decode cX0_wipe 0 = .ok (.aload_n 0, 1) := by decide +kernel
theorem dX0_wipe_1 : decode cX0_wipe 1 = .ok (.iconst 0, 1) := by decide +kernel
theorem dX0_wipe_2 : decode cX0_wipe 2 = .ok (.putfield 30, 3) := by decide +kernel
theorem dX0_wipe_5 : decode cX0_wipe 5 = .ok (.aload_n 0, 1) := by decide +kernel
theorem dX0_wipe_6 : decode cX0_wipe 6 = .ok (.iconst 0, 1) := by decide +kernel
theorem dX0_wipe_7 : decode cX0_wipe 7 = .ok (.putfield 34, 3) := by decide +kernel
theorem dX0_wipe_10 : decode cX0_wipe 10 = .ok (.aload_n 0, 1) := by decide +kernel
theorem dX0_wipe_11 : decode cX0_wipe 11 = .ok (.iconst 0, 1) := by decide +kernel
theorem dX0_wipe_12 : decode cX0_wipe 12 = .ok (.putfield 37, 3) := by decide +kernel
theorem dX0_wipe_15 : decode cX0_wipe 15 = .ok (.aload_n 0, 1) := by decide +kernel
theorem dX0_wipe_16 : decode cX0_wipe 16 = .ok (.iconst 0, 1) := by decide +kernel
theorem dX0_wipe_17 : decode cX0_wipe 17 = .ok (.putfield 40, 3) := by decide +kernel
theorem dX0_wipe_20 : decode cX0_wipe 20 = .ok (.aload_n 0, 1) := by decide +kernel
theorem dX0_wipe_21 : decode cX0_wipe 21 = .ok (.iconst 0, 1) := by decide +kernel
theorem dX0_wipe_22 : decode cX0_wipe 22 = .ok (.putfield 43, 3) := by decide +kernel
theorem dX0_wipe_25 : decode cX0_wipe 25 = .ok (.aload_n 0, 1) := by decide +kernel
theorem dX0_wipe_26 : decode cX0_wipe 26 = .ok (.iconst 0, 1) := by decide +kernel
theorem dX0_wipe_27 : decode cX0_wipe 27 = .ok (.putfield 46, 3) := by decide +kernel
theorem dX0_wipe_30 : decode cX0_wipe 30 = .ok (.return_, 1) := by decide +kernel
set_option maxRecDepth 20000 in
theorem ggX0_found_X0_put : GoodIn wsX0_found wsX0_put := goodIn_r _ [14, 15, 16, 17, 18, 19, 20, 13, 21, 7, 22, 23, 24, 25, 5, 26, 27, 28, 29, 30, 31, 32, 33, 34, 35, 36, 37, 38, 39, 40, 41, 42, 43, 44] (by decide +kernel) (by decide +kernel)
set_option maxRecDepth 20000 in
theorem gX0_found_X0_put : GoodIn wsX0_found (wsV RX0 56 RX0 yX0_put wsX0_put) := goodIn_app (goodIn_of _ (by decide +kernel)) ggX0_found_X0_put
theorem dX0_found_0 : decode cX0_found 0 = .ok (.aload_n 0, 1) := by decide +kernel
theorem dX0_found_1 : decode cX0_found 1 = .ok (.iload_n 1, 1) := by decide +kernel
theorem dX0_found_2 : decode cX0_found 2 = .ok (.bipush 6, 2) := by decide +kernel
theorem dX0_found_4 : decode cX0_found 4 = .ok (.invokestatic 50, 3) := by decide +kernel
theorem dX0_found_7 : decode cX0_found 7 = .ok (.putfield 30, 3) := by decide +kernel
theorem dX0_found_10 : decode cX0_found 10 = .ok (.aload_n 0, 1) := by decide +kernel
theorem dX0_found_11 : decode cX0_found 11 = .ok (.bipush 9, 2) := by decide +kernel
theorem dX0_found_13 : decode cX0_found 13 = .ok (.putfield 40, 3) := by decide +kernel
theorem dX0_found_16 : decode cX0_found 16 = .ok (.iconst 0, 1) := by decide +kernel
theorem dX0_found_17 : decode cX0_found 17 = .ok (.istore_n 2, 1) := by decide +kernel
theorem dX0_found_18 : decode cX0_found 18 = .ok (.iload_n 2, 1) := by decide +kernel
theorem dX0_found_19 : decode cX0_found 19 = .ok (.aload_n 0, 1) := by decide +kernel
theorem dX0_found_20 : decode cX0_found 20 = .ok (.getfield 30, 3) := by decide +kernel
theorem dX0_found_23 : decode cX0_found 23 = .ok (.if_icmp .ge 38, 3) := by decide +kernel
theorem dX0_found_26 : decode cX0_found 26 = .ok (.aload_n 0, 1) := by decide +kernel
theorem dX0_found_27 : decode cX0_found 27 = .ok (.getfield 18, 3) := by decide +kernel
theorem dX0_found_30 : decode cX0_found 30 = .ok (.iload_n 2, 1) := by decide +kernel
theorem dX0_found_31 : decode cX0_found 31 = .ok (.iconst 1, 1) := by decide +kernel
theorem dX0_found_32 : decode cX0_found 32 = .ok (.iastore, 1) := by decide +kernel
theorem dX0_found_33 : decode cX0_found 33 = .ok (.aload_n 0, 1) := by decide +kernel
theorem dX0_found_34 : decode cX0_found 34 = .ok (.iload_n 2, 1) := by decide +kernel
theorem dX0_found_35 : decode cX0_found 35 = .ok (.iconst 0, 1) := by decide +kernel
theorem dX0_found_36 : decode cX0_found 36 = .ok (.iconst 0, 1) := by decide +kernel
theorem dX0_found_37 : decode cX0_found 37 = .ok (.iload_n 2, 1) := by decide +kernel
theorem dX0_found_38 : decode cX0_found 38 = .ok (.invokevirtual 56, 3) := by decide +kernel
theorem dX0_found_41 : decode cX0_found 41 = .ok (.aload_n 0, 1) := by decide +kernel
theorem dX0_found_42 : decode cX0_found 42 = .ok (.getfield 21, 3) := by decide +kernel
theorem dX0_found_45 : decode cX0_found 45 = .ok (.iload_n 2, 1) := by decide +kernel
theorem dX0_found_46 : decode cX0_found 46 = .ok (.iconst 0, 1) := by decide +kernel
theorem dX0_found_47 : decode cX0_found 47 = .ok (.iastore, 1) := by decide +kernel
theorem dX0_found_48 : decode cX0_found 48 = .ok (.aload_n 0, 1) := by decide +kernel
theorem dX0_found_49 : decode cX0_found 49 = .ok (.getfield 24, 3) := by decide +kernel
theorem dX0_found_52 : decode cX0_found 52 = .ok (.iload_n 2, 1) := by decide +kernel
theorem dX0_found_53 : decode cX0_found 53 = .ok (.iconst 0, 1) := by decide +kernel
theorem dX0_found_54 : decode cX0_found 54 = .ok (.iastore, 1) := by decide +kernel
theorem dX0_found_55 : decode cX0_found 55 = .ok (.iinc 2 1, 3) := by decide +kernel
theorem dX0_found_58 : decode cX0_found 58 = .ok (.goto (-40), 3) := by decide +kernel
theorem dX0_found_61 : decode cX0_found 61 = .ok (.return_, 1) := by decide +kernel
theorem dX0_copyOf_0 : decode cX0_copyOf 0 = .ok (.aload_n 0, 1) := by decide +kernel
theorem dX0_copyOf_1 : decode cX0_copyOf 1 = .ok (.aload_n 1, 1) := by decide +kernel
theorem dX0_copyOf_2 : decode cX0_copyOf 2 = .ok (.getfield 30, 3) := by decide +kernel
theorem dX0_copyOf_5 : decode cX0_copyOf 5 = .ok (.putfield 30, 3) := by decide +kernel
theorem dX0_copyOf_8 : decode cX0_copyOf 8 = .ok (.aload_n 0, 1) := by decide +kernel
theorem dX0_copyOf_9 : decode cX0_copyOf 9 = .ok (.aload_n 1, 1) := by decide +kernel
theorem dX0_copyOf_10 : decode cX0_copyOf 10 = .ok (.getfield 34, 3) := by decide +kernel
theorem dX0_copyOf_13 : decode cX0_copyOf 13 = .ok (.putfield 34, 3) := by decide +kernel
theorem dX0_copyOf_16 : decode cX0_copyOf 16 = .ok (.aload_n 0, 1) := by decide +kernel
theorem dX0_copyOf_17 : decode cX0_copyOf 17 = .ok (.aload_n 1, 1) := by decide +kernel
theorem dX0_copyOf_18 : decode cX0_copyOf 18 = .ok (.getfield 37, 3) := by decide +kernel
theorem dX0_copyOf_21 : decode cX0_copyOf 21 = .ok (.putfield 37, 3) := by decide +kernel
theorem dX0_copyOf_24 : decode cX0_copyOf 24 = .ok (.aload_n 0, 1) := by decide +kernel
theorem dX0_copyOf_25 : decode cX0_copyOf 25 = .ok (.aload_n 1, 1) := by decide +kernel
theorem dX0_copyOf_26 : decode cX0_copyOf 26 = .ok (.getfield 40, 3) := by decide +kernel
theorem dX0_copyOf_29 : decode cX0_copyOf 29 = .ok (.putfield 40, 3) := by decide +kernel
theorem dX0_copyOf_32 : decode cX0_copyOf 32 = .ok (.aload_n 0, 1) := by decide +kernel
theorem dX0_copyOf_33 : decode cX0_copyOf 33 = .ok (.aload_n 1, 1) := by decide +kernel
theorem dX0_copyOf_34 : decode cX0_copyOf 34 = .ok (.getfield 43, 3) := by decide +kernel
theorem dX0_copyOf_37 : decode cX0_copyOf 37 = .ok (.putfield 43, 3) := by decide +kernel
theorem dX0_copyOf_40 : decode cX0_copyOf 40 = .ok (.aload_n 1, 1) := by decide +kernel
theorem dX0_copyOf_41 : decode cX0_copyOf 41 = .ok (.getfield 9, 3) := by decide +kernel
theorem dX0_copyOf_44 : decode cX0_copyOf 44 = .ok (.iconst 0, 1) := by decide +kernel
theorem dX0_copyOf_45 : decode cX0_copyOf 45 = .ok (.aload_n 0, 1) := by decide +kernel
theorem dX0_copyOf_46 : decode cX0_copyOf 46 = .ok (.getfield 9, 3) := by decide +kernel
theorem dX0_copyOf_49 : decode cX0_copyOf 49 = .ok (.iconst 0, 1) := by decide +kernel
theorem dX0_copyOf_50 : decode cX0_copyOf 50 = .ok (.aload_n 0, 1) := by decide +kernel
theorem dX0_copyOf_51 : decode cX0_copyOf 51 = .ok (.getfield 9, 3) := by decide +kernel
theorem dX0_copyOf_54 : decode cX0_copyOf 54 = .ok (.arraylength, 1) := by decide +kernel
theorem dX0_copyOf_55 : decode cX0_copyOf 55 = .ok (.invokestatic 60, 3) := by decide +kernel
theorem dX0_copyOf_58 : decode cX0_copyOf 58 = .ok (.aload_n 1, 1) := by decide +kernel
theorem dX0_copyOf_59 : decode cX0_copyOf 59 = .ok (.getfield 15, 3) := by decide +kernel
theorem dX0_copyOf_62 : decode cX0_copyOf 62 = .ok (.iconst 0, 1) := by decide +kernel
theorem dX0_copyOf_63 : decode cX0_copyOf 63 = .ok (.aload_n 0, 1) := by decide +kernel
theorem dX0_copyOf_64 : decode cX0_copyOf 64 = .ok (.getfield 15, 3) := by decide +kernel
theorem dX0_copyOf_67 : decode cX0_copyOf 67 = .ok (.iconst 0, 1) := by decide +kernel
theorem dX0_copyOf_68 : decode cX0_copyOf 68 = .ok (.aload_n 0, 1) := by decide +kernel
theorem dX0_copyOf_69 : decode cX0_copyOf 69 = .ok (.getfield 15, 3) := by decide +kernel
theorem dX0_copyOf_72 : decode cX0_copyOf 72 = .ok (.arraylength, 1) := by decide +kernel
theorem dX0_copyOf_73 : decode cX0_copyOf 73 = .ok (.invokestatic 60, 3) := by decide +kernel
theorem dX0_copyOf_76 : decode cX0_copyOf 76 = .ok (.aload_n 1, 1) := by decide +kernel
theorem dX0_copyOf_77 : decode cX0_copyOf 77 = .ok (.getfield 18, 3) := by decide +kernel
theorem dX0_copyOf_80 : decode cX0_copyOf 80 = .ok (.iconst 0, 1) := by decide +kernel
theorem dX0_copyOf_81 : decode cX0_copyOf 81 = .ok (.aload_n 0, 1) := by decide +kernel
theorem dX0_copyOf_82 : decode cX0_copyOf 82 = .ok (.getfield 18, 3) := by decide +kernel
theorem dX0_copyOf_85 : decode cX0_copyOf 85 = .ok (.iconst 0, 1) := by decide +kernel
theorem dX0_copyOf_86 : decode cX0_copyOf 86 = .ok (.aload_n 0, 1) := by decide +kernel
theorem dX0_copyOf_87 : decode cX0_copyOf 87 = .ok (.getfield 18, 3) := by decide +kernel
theorem dX0_copyOf_90 : decode cX0_copyOf 90 = .ok (.arraylength, 1) := by decide +kernel
theorem dX0_copyOf_91 : decode cX0_copyOf 91 = .ok (.invokestatic 60, 3) := by decide +kernel
theorem dX0_copyOf_94 : decode cX0_copyOf 94 = .ok (.aload_n 1, 1) := by decide +kernel
theorem dX0_copyOf_95 : decode cX0_copyOf 95 = .ok (.getfield 21, 3) := by decide +kernel
theorem dX0_copyOf_98 : decode cX0_copyOf 98 = .ok (.iconst 0, 1) := by decide +kernel
theorem dX0_copyOf_99 : decode cX0_copyOf 99 = .ok (.aload_n 0, 1) := by decide +kernel
theorem dX0_copyOf_100 : decode cX0_copyOf 100 = .ok (.getfield 21, 3) := by decide +kernel
theorem dX0_copyOf_103 : decode cX0_copyOf 103 = .ok (.iconst 0, 1) := by decide +kernel
theorem dX0_copyOf_104 : decode cX0_copyOf 104 = .ok (.aload_n 0, 1) := by decide +kernel
theorem dX0_copyOf_105 : decode cX0_copyOf 105 = .ok (.getfield 21, 3) := by decide +kernel
theorem dX0_copyOf_108 : decode cX0_copyOf 108 = .ok (.arraylength, 1) := by decide +kernel
theorem dX0_copyOf_109 : decode cX0_copyOf 109 = .ok (.invokestatic 60, 3) := by decide +kernel
theorem dX0_copyOf_112 : decode cX0_copyOf 112 = .ok (.aload_n 1, 1) := by decide +kernel
theorem dX0_copyOf_113 : decode cX0_copyOf 113 = .ok (.getfield 24, 3) := by decide +kernel
theorem dX0_copyOf_116 : decode cX0_copyOf 116 = .ok (.iconst 0, 1) := by decide +kernel
theorem dX0_copyOf_117 : decode cX0_copyOf 117 = .ok (.aload_n 0, 1) := by decide +kernel
theorem dX0_copyOf_118 : decode cX0_copyOf 118 = .ok (.getfield 24, 3) := by decide +kernel
theorem dX0_copyOf_121 : decode cX0_copyOf 121 = .ok (.iconst 0, 1) := by decide +kernel
theorem dX0_copyOf_122 : decode cX0_copyOf 122 = .ok (.aload_n 0, 1) := by decide +kernel
theorem dX0_copyOf_123 : decode cX0_copyOf 123 = .ok (.getfield 24, 3) := by decide +kernel
theorem dX0_copyOf_126 : decode cX0_copyOf 126 = .ok (.arraylength, 1) := by decide +kernel
theorem dX0_copyOf_127 : decode cX0_copyOf 127 = .ok (.invokestatic 60, 3) := by decide +kernel
theorem dX0_copyOf_130 : decode cX0_copyOf 130 = .ok (.aload_n 1, 1) := by decide +kernel
theorem dX0_copyOf_131 : decode cX0_copyOf 131 = .ok (.getfield 27, 3) := by decide +kernel
theorem dX0_copyOf_134 : decode cX0_copyOf 134 = .ok (.iconst 0, 1) := by decide +kernel
theorem dX0_copyOf_135 : decode cX0_copyOf 135 = .ok (.aload_n 0, 1) := by decide +kernel
theorem dX0_copyOf_136 : decode cX0_copyOf 136 = .ok (.getfield 27, 3) := by decide +kernel
theorem dX0_copyOf_139 : decode cX0_copyOf 139 = .ok (.iconst 0, 1) := by decide +kernel
theorem dX0_copyOf_140 : decode cX0_copyOf 140 = .ok (.aload_n 0, 1) := by decide +kernel
theorem dX0_copyOf_141 : decode cX0_copyOf 141 = .ok (.getfield 27, 3) := by decide +kernel
theorem dX0_copyOf_144 : decode cX0_copyOf 144 = .ok (.arraylength, 1) := by decide +kernel
theorem dX0_copyOf_145 : decode cX0_copyOf 145 = .ok (.invokestatic 60, 3) := by decide +kernel
theorem dX0_copyOf_148 : decode cX0_copyOf 148 = .ok (.aload_n 0, 1) := by decide +kernel
theorem dX0_copyOf_149 : decode cX0_copyOf 149 = .ok (.iconst 0, 1) := by decide +kernel
theorem dX0_copyOf_150 : decode cX0_copyOf 150 = .ok (.putfield 46, 3) := by decide +kernel
theorem dX0_copyOf_153 : decode cX0_copyOf 153 = .ok (.return_, 1) := by decide +kernel
theorem dX0_isTold_0 : decode cX0_isTold 0 = .ok (.aload_n 0, 1) := by decide +kernel
theorem dX0_isTold_1 : decode cX0_isTold 1 = .ok (.getfield 30, 3) := by decide +kernel
theorem dX0_isTold_4 : decode cX0_isTold 4 = .ok (.ifCond .le 7, 3) := by decide +kernel
theorem dX0_isTold_7 : decode cX0_isTold 7 = .ok (.iconst 1, 1) := by decide +kernel
theorem dX0_isTold_8 : decode cX0_isTold 8 = .ok (.goto 4, 3) := by decide +kernel
theorem dX0_isTold_11 : decode cX0_isTold 11 = .ok (.iconst 0, 1) := by decide +kernel
theorem dX0_isTold_12 : decode cX0_isTold 12 = .ok (.ireturn, 1) := by decide +kernel
theorem dX0_hasRoof_0 : decode cX0_hasRoof 0 = .ok (.iload_n 1, 1) := by decide +kernel
theorem dX0_hasRoof_1 : decode cX0_hasRoof 1 = .ok (.ifCond .lt 15, 3) := by decide +kernel
theorem dX0_hasRoof_4 : decode cX0_hasRoof 4 = .ok (.iload_n 1, 1) := by decide +kernel
theorem dX0_hasRoof_5 : decode cX0_hasRoof 5 = .ok (.aload_n 0, 1) := by decide +kernel
theorem dX0_hasRoof_6 : decode cX0_hasRoof 6 = .ok (.getfield 30, 3) := by decide +kernel
theorem dX0_hasRoof_9 : decode cX0_hasRoof 9 = .ok (.if_icmp .ge 7, 3) := by decide +kernel
theorem dX0_hasRoof_12 : decode cX0_hasRoof 12 = .ok (.iconst 1, 1) := by decide +kernel
theorem dX0_hasRoof_13 : decode cX0_hasRoof 13 = .ok (.goto 4, 3) := by decide +kernel
theorem dX0_hasRoof_16 : decode cX0_hasRoof 16 = .ok (.iconst 0, 1) := by decide +kernel
theorem dX0_hasRoof_17 : decode cX0_hasRoof 17 = .ok (.ireturn, 1) := by decide +kernel
set_option maxRecDepth 20000 in
theorem ggX0_hasThrow_X0_hasRoof : GoodIn wsX0_hasThrow wsX0_hasRoof := goodIn_r _ [6, 7, 8, 9, 10, 11, 12, 13, 14, 15, 16, 17, 18, 19, 20, 21, 22, 23] (by decide +kernel) (by decide +kernel)
set_option maxRecDepth 20000 in
theorem gX0_hasThrow_X0_hasRoof : GoodIn wsX0_hasThrow (wsV RX0 66 RX0 yX0_hasRoof wsX0_hasRoof) := goodIn_app (goodIn_of _ (by decide +kernel)) ggX0_hasThrow_X0_hasRoof
theorem dX0_hasThrow_0 : decode cX0_hasThrow 0 = .ok (.aload_n 0, 1) := by decide +kernel
theorem dX0_hasThrow_1 : decode cX0_hasThrow 1 = .ok (.iload_n 1, 1) := by decide +kernel
theorem dX0_hasThrow_2 : decode cX0_hasThrow 2 = .ok (.invokevirtual 66, 3) := by decide +kernel
theorem dX0_hasThrow_5 : decode cX0_hasThrow 5 = .ok (.ifCond .eq 21, 3) := by decide +kernel
theorem dX0_hasThrow_8 : decode cX0_hasThrow 8 = .ok (.iload_n 2, 1) := by decide +kernel
theorem dX0_hasThrow_9 : decode cX0_hasThrow 9 = .ok (.ifCond .lt 17, 3) := by decide +kernel
theorem dX0_hasThrow_12 : decode cX0_hasThrow 12 = .ok (.iload_n 2, 1) := by decide +kernel
theorem dX0_hasThrow_13 : decode cX0_hasThrow 13 = .ok (.aload_n 0, 1) := by decide +kernel
theorem dX0_hasThrow_14 : decode cX0_hasThrow 14 = .ok (.getfield 18, 3) := by decide +kernel
theorem dX0_hasThrow_17 : decode cX0_hasThrow 17 = .ok (.iload_n 1, 1) := by decide +kernel
theorem dX0_hasThrow_18 : decode cX0_hasThrow 18 = .ok (.iaload, 1) := by decide +kernel
theorem dX0_hasThrow_19 : decode cX0_hasThrow 19 = .ok (.if_icmp .ge 7, 3) := by decide +kernel
theorem dX0_hasThrow_22 : decode cX0_hasThrow 22 = .ok (.iconst 1, 1) := by decide +kernel
theorem dX0_hasThrow_23 : decode cX0_hasThrow 23 = .ok (.goto 4, 3) := by decide +kernel
theorem dX0_hasThrow_26 : decode cX0_hasThrow 26 = .ok (.iconst 0, 1) := by decide +kernel
theorem dX0_hasThrow_27 : decode cX0_hasThrow 27 = .ok (.ireturn, 1) := by decide +kernel
theorem dX0_hasLetter_0 : decode cX0_hasLetter 0 = .ok (.iload_n 1, 1) := by decide +kernel
theorem dX0_hasLetter_1 : decode cX0_hasLetter 1 = .ok (.ifCond .lt 15, 3) := by decide +kernel
theorem dX0_hasLetter_4 : decode cX0_hasLetter 4 = .ok (.iload_n 1, 1) := by decide +kernel
theorem dX0_hasLetter_5 : decode cX0_hasLetter 5 = .ok (.aload_n 0, 1) := by decide +kernel
theorem dX0_hasLetter_6 : decode cX0_hasLetter 6 = .ok (.getfield 37, 3) := by decide +kernel
theorem dX0_hasLetter_9 : decode cX0_hasLetter 9 = .ok (.if_icmp .ge 7, 3) := by decide +kernel
theorem dX0_hasLetter_12 : decode cX0_hasLetter 12 = .ok (.iconst 1, 1) := by decide +kernel
theorem dX0_hasLetter_13 : decode cX0_hasLetter 13 = .ok (.goto 4, 3) := by decide +kernel
theorem dX0_hasLetter_16 : decode cX0_hasLetter 16 = .ok (.iconst 0, 1) := by decide +kernel
theorem dX0_hasLetter_17 : decode cX0_hasLetter 17 = .ok (.ireturn, 1) := by decide +kernel
set_option maxRecDepth 20000 in
theorem ggX0_heightAt_X0_spot : GoodIn wsX0_heightAt wsX0_spot := goodIn_r _ [6, 7, 8, 9, 10, 11, 12, 13, 14, 15, 16, 17, 18, 19, 20, 21, 22, 23, 24, 25, 26, 27, 28] (by decide +kernel) (by decide +kernel)
set_option maxRecDepth 20000 in
theorem gX0_heightAt_X0_spot : GoodIn wsX0_heightAt (wsV RX0 70 RX0 yX0_spot wsX0_spot) := goodIn_app (goodIn_of _ (by decide +kernel)) ggX0_heightAt_X0_spot
theorem dX0_heightAt_0 : decode cX0_heightAt 0 = .ok (.aload_n 0, 1) := by decide +kernel
theorem dX0_heightAt_1 : decode cX0_heightAt 1 = .ok (.getfield 9, 3) := by decide +kernel
theorem dX0_heightAt_4 : decode cX0_heightAt 4 = .ok (.aload_n 0, 1) := by decide +kernel
theorem dX0_heightAt_5 : decode cX0_heightAt 5 = .ok (.iload_n 1, 1) := by decide +kernel
theorem dX0_heightAt_6 : decode cX0_heightAt 6 = .ok (.iload_n 2, 1) := by decide +kernel
theorem dX0_heightAt_7 : decode cX0_heightAt 7 = .ok (.invokevirtual 70, 3) := by decide +kernel
theorem dX0_heightAt_10 : decode cX0_heightAt 10 = .ok (.iaload, 1) := by decide +kernel
theorem dX0_heightAt_11 : decode cX0_heightAt 11 = .ok (.ireturn, 1) := by decide +kernel
set_option maxRecDepth 20000 in
theorem ggX0_goalAt_X0_spot : GoodIn wsX0_goalAt wsX0_spot := goodIn_r _ [6, 7, 8, 9, 10, 11, 12, 13, 14, 15, 16, 17, 18, 19, 20, 21, 22, 23, 24, 25, 26, 27, 28] (by decide +kernel) (by decide +kernel)
set_option maxRecDepth 20000 in
theorem gX0_goalAt_X0_spot : GoodIn wsX0_goalAt (wsV RX0 70 RX0 yX0_spot wsX0_spot) := goodIn_app (goodIn_of _ (by decide +kernel)) ggX0_goalAt_X0_spot
theorem dX0_goalAt_0 : decode cX0_goalAt 0 = .ok (.aload_n 0, 1) := by decide +kernel
theorem dX0_goalAt_1 : decode cX0_goalAt 1 = .ok (.getfield 15, 3) := by decide +kernel
theorem dX0_goalAt_4 : decode cX0_goalAt 4 = .ok (.aload_n 0, 1) := by decide +kernel
theorem dX0_goalAt_5 : decode cX0_goalAt 5 = .ok (.iload_n 1, 1) := by decide +kernel
theorem dX0_goalAt_6 : decode cX0_goalAt 6 = .ok (.iload_n 2, 1) := by decide +kernel
theorem dX0_goalAt_7 : decode cX0_goalAt 7 = .ok (.invokevirtual 70, 3) := by decide +kernel
theorem dX0_goalAt_10 : decode cX0_goalAt 10 = .ok (.iaload, 1) := by decide +kernel
theorem dX0_goalAt_11 : decode cX0_goalAt 11 = .ok (.ireturn, 1) := by decide +kernel
set_option maxRecDepth 20000 in
theorem ggX0_spot_J9_floorMod_7cf53 : GoodIn wsX0_spot wsJ9_floorMod_7cf53 := goodIn_r _ [6] (by decide +kernel) (by decide +kernel)
set_option maxRecDepth 20000 in
theorem gX0_spot_J9_floorMod_7cf53 : GoodIn wsX0_spot (va_wsS RX0 73 yJ9_floorMod_7cf53 wsJ9_floorMod_7cf53) := goodIn_app (goodIn_of _ (by decide +kernel)) ggX0_spot_J9_floorMod_7cf53
theorem dX0_spot_0 : decode cX0_spot 0 = .ok (.iload_n 1, 1) := by decide +kernel
theorem dX0_spot_1 : decode cX0_spot 1 = .ok (.ifCond .lt 20, 3) := by decide +kernel
theorem dX0_spot_4 : decode cX0_spot 4 = .ok (.iload_n 1, 1) := by decide +kernel
theorem dX0_spot_5 : decode cX0_spot 5 = .ok (.aload_n 0, 1) := by decide +kernel
theorem dX0_spot_6 : decode cX0_spot 6 = .ok (.getfield 30, 3) := by decide +kernel
theorem dX0_spot_9 : decode cX0_spot 9 = .ok (.if_icmp .ge 12, 3) := by decide +kernel
theorem dX0_spot_12 : decode cX0_spot 12 = .ok (.aload_n 0, 1) := by decide +kernel
theorem dX0_spot_13 : decode cX0_spot 13 = .ok (.getfield 18, 3) := by decide +kernel
theorem dX0_spot_16 : decode cX0_spot 16 = .ok (.iload_n 1, 1) := by decide +kernel
theorem dX0_spot_17 : decode cX0_spot 17 = .ok (.iaload, 1) := by decide +kernel
theorem dX0_spot_18 : decode cX0_spot 18 = .ok (.goto 4, 3) := by decide +kernel
theorem dX0_spot_21 : decode cX0_spot 21 = .ok (.iconst 0, 1) := by decide +kernel
theorem dX0_spot_22 : decode cX0_spot 22 = .ok (.istore_n 3, 1) := by decide +kernel
theorem dX0_spot_23 : decode cX0_spot 23 = .ok (.iload_n 3, 1) := by decide +kernel
theorem dX0_spot_24 : decode cX0_spot 24 = .ok (.iconst 1, 1) := by decide +kernel
theorem dX0_spot_25 : decode cX0_spot 25 = .ok (.if_icmp .ge 7, 3) := by decide +kernel
theorem dX0_spot_28 : decode cX0_spot 28 = .ok (.iconst 0, 1) := by decide +kernel
theorem dX0_spot_29 : decode cX0_spot 29 = .ok (.goto 13, 3) := by decide +kernel
theorem dX0_spot_32 : decode cX0_spot 32 = .ok (.iload_n 1, 1) := by decide +kernel
theorem dX0_spot_33 : decode cX0_spot 33 = .ok (.bipush 8, 2) := by decide +kernel
theorem dX0_spot_35 : decode cX0_spot 35 = .ok (.imul, 1) := by decide +kernel
theorem dX0_spot_36 : decode cX0_spot 36 = .ok (.iload_n 2, 1) := by decide +kernel
theorem dX0_spot_37 : decode cX0_spot 37 = .ok (.iload_n 3, 1) := by decide +kernel
theorem dX0_spot_38 : decode cX0_spot 38 = .ok (.invokestatic 73, 3) := by decide +kernel
theorem dX0_spot_41 : decode cX0_spot 41 = .ok (.iadd, 1) := by decide +kernel
theorem dX0_spot_42 : decode cX0_spot 42 = .ok (.ireturn, 1) := by decide +kernel
set_option maxRecDepth 20000 in
theorem ggX0_put_X0_hasThrow : GoodIn wsX0_put wsX0_hasThrow := goodIn_r _ [8, 9, 10, 11, 12, 7, 13, 14, 18, 19, 20, 21, 22, 23, 24, 25, 26, 27, 28, 29, 30, 31, 32, 33] (by decide +kernel) (by decide +kernel)
set_option maxRecDepth 20000 in
theorem gX0_put_X0_hasThrow : GoodIn wsX0_put (wsV RX0 76 RX0 yX0_hasThrow wsX0_hasThrow) := goodIn_app (goodIn_of _ (by decide +kernel)) ggX0_put_X0_hasThrow
set_option maxRecDepth 20000 in
theorem ggX0_put_X0_hasRoof : GoodIn wsX0_put wsX0_hasRoof := goodIn_r _ [13, 14, 18, 19, 20, 21, 22, 23, 24, 25, 26, 27, 28, 29, 30, 31, 32, 33] (by decide +kernel) (by decide +kernel)
set_option maxRecDepth 20000 in
theorem gX0_put_X0_hasRoof : GoodIn wsX0_put (wsV RX0 66 RX0 yX0_hasRoof wsX0_hasRoof) := goodIn_app (goodIn_of _ (by decide +kernel)) ggX0_put_X0_hasRoof
set_option maxRecDepth 20000 in
theorem ggX0_put_X8_isWithin : GoodIn wsX0_put wsX8_isWithin := goodIn_r _ [17] (by decide +kernel) (by decide +kernel)
set_option maxRecDepth 20000 in
theorem gX0_put_X8_isWithin_n80 : GoodIn wsX0_put (wsX8_isWithin) := ggX0_put_X8_isWithin
theorem dX0_put_0 : decode cX0_put 0 = .ok (.aload_n 0, 1) := by decide +kernel
theorem dX0_put_1 : decode cX0_put 1 = .ok (.iload_n 1, 1) := by decide +kernel
theorem dX0_put_2 : decode cX0_put 2 = .ok (.iload_n 2, 1) := by decide +kernel
theorem dX0_put_3 : decode cX0_put 3 = .ok (.invokevirtual 76, 3) := by decide +kernel
theorem dX0_put_6 : decode cX0_put 6 = .ok (.ifCond .eq 51, 3) := by decide +kernel
theorem dX0_put_9 : decode cX0_put 9 = .ok (.aload_n 0, 1) := by decide +kernel
theorem dX0_put_10 : decode cX0_put 10 = .ok (.iload 4, 2) := by decide +kernel
theorem dX0_put_12 : decode cX0_put 12 = .ok (.invokevirtual 66, 3) := by decide +kernel
theorem dX0_put_15 : decode cX0_put 15 = .ok (.ifCond .eq 42, 3) := by decide +kernel
theorem dX0_put_18 : decode cX0_put 18 = .ok (.iload_n 3, 1) := by decide +kernel
theorem dX0_put_19 : decode cX0_put 19 = .ok (.bipush 9, 2) := by decide +kernel
theorem dX0_put_21 : decode cX0_put 21 = .ok (.invokestatic 80, 3) := by decide +kernel
theorem dX0_put_24 : decode cX0_put 24 = .ok (.ifCond .eq 33, 3) := by decide +kernel
theorem dX0_put_27 : decode cX0_put 27 = .ok (.aload_n 0, 1) := by decide +kernel
theorem dX0_put_28 : decode cX0_put 28 = .ok (.getfield 9, 3) := by decide +kernel
theorem dX0_put_31 : decode cX0_put 31 = .ok (.iload_n 1, 1) := by decide +kernel
theorem dX0_put_32 : decode cX0_put 32 = .ok (.bipush 8, 2) := by decide +kernel
theorem dX0_put_34 : decode cX0_put 34 = .ok (.imul, 1) := by decide +kernel
theorem dX0_put_35 : decode cX0_put 35 = .ok (.iload_n 2, 1) := by decide +kernel
theorem dX0_put_36 : decode cX0_put 36 = .ok (.iadd, 1) := by decide +kernel
theorem dX0_put_37 : decode cX0_put 37 = .ok (.iload_n 3, 1) := by decide +kernel
theorem dX0_put_38 : decode cX0_put 38 = .ok (.iastore, 1) := by decide +kernel
theorem dX0_put_39 : decode cX0_put 39 = .ok (.aload_n 0, 1) := by decide +kernel
theorem dX0_put_40 : decode cX0_put 40 = .ok (.getfield 15, 3) := by decide +kernel
theorem dX0_put_43 : decode cX0_put 43 = .ok (.iload_n 1, 1) := by decide +kernel
theorem dX0_put_44 : decode cX0_put 44 = .ok (.bipush 8, 2) := by decide +kernel
theorem dX0_put_46 : decode cX0_put 46 = .ok (.imul, 1) := by decide +kernel
theorem dX0_put_47 : decode cX0_put 47 = .ok (.iload_n 2, 1) := by decide +kernel
theorem dX0_put_48 : decode cX0_put 48 = .ok (.iadd, 1) := by decide +kernel
theorem dX0_put_49 : decode cX0_put 49 = .ok (.iload 4, 2) := by decide +kernel
theorem dX0_put_51 : decode cX0_put 51 = .ok (.iastore, 1) := by decide +kernel
theorem dX0_put_52 : decode cX0_put 52 = .ok (.aload_n 0, 1) := by decide +kernel
theorem dX0_put_53 : decode cX0_put 53 = .ok (.iconst 0, 1) := by decide +kernel
theorem dX0_put_54 : decode cX0_put 54 = .ok (.putfield 46, 3) := by decide +kernel
theorem dX0_put_57 : decode cX0_put 57 = .ok (.return_, 1) := by decide +kernel
set_option maxRecDepth 20000 in
theorem ggX0_resize_X0_hasRoof : GoodIn wsX0_resize wsX0_hasRoof := goodIn_r _ [7, 8, 9, 10, 11, 12, 13, 14, 15, 16, 17, 18, 19, 20, 21, 22, 23, 24] (by decide +kernel) (by decide +kernel)
set_option maxRecDepth 20000 in
theorem gX0_resize_X0_hasRoof : GoodIn wsX0_resize (wsV RX0 66 RX0 yX0_hasRoof wsX0_hasRoof) := goodIn_app (goodIn_of _ (by decide +kernel)) ggX0_resize_X0_hasRoof
theorem dX0_resize_0 : decode cX0_resize 0 = .ok (.aload_n 0, 1) := by decide +kernel
theorem dX0_resize_1 : decode cX0_resize 1 = .ok (.iload_n 1, 1) := by decide +kernel
theorem dX0_resize_2 : decode cX0_resize 2 = .ok (.invokevirtual 66, 3) := by decide +kernel
theorem dX0_resize_5 : decode cX0_resize 5 = .ok (.ifCond .eq 26, 3) := by decide +kernel
theorem dX0_resize_8 : decode cX0_resize 8 = .ok (.iload_n 2, 1) := by decide +kernel
theorem dX0_resize_9 : decode cX0_resize 9 = .ok (.iconst 1, 1) := by decide +kernel
theorem dX0_resize_10 : decode cX0_resize 10 = .ok (.if_icmp .lt 21, 3) := by decide +kernel
theorem dX0_resize_13 : decode cX0_resize 13 = .ok (.iload_n 2, 1) := by decide +kernel
theorem dX0_resize_14 : decode cX0_resize 14 = .ok (.bipush 8, 2) := by decide +kernel
theorem dX0_resize_16 : decode cX0_resize 16 = .ok (.if_icmp .gt 15, 3) := by decide +kernel
theorem dX0_resize_19 : decode cX0_resize 19 = .ok (.aload_n 0, 1) := by decide +kernel
theorem dX0_resize_20 : decode cX0_resize 20 = .ok (.getfield 18, 3) := by decide +kernel
theorem dX0_resize_23 : decode cX0_resize 23 = .ok (.iload_n 1, 1) := by decide +kernel
theorem dX0_resize_24 : decode cX0_resize 24 = .ok (.iload_n 2, 1) := by decide +kernel
theorem dX0_resize_25 : decode cX0_resize 25 = .ok (.iastore, 1) := by decide +kernel
theorem dX0_resize_26 : decode cX0_resize 26 = .ok (.aload_n 0, 1) := by decide +kernel
theorem dX0_resize_27 : decode cX0_resize 27 = .ok (.iconst 0, 1) := by decide +kernel
theorem dX0_resize_28 : decode cX0_resize 28 = .ok (.putfield 46, 3) := by decide +kernel
theorem dX0_resize_31 : decode cX0_resize 31 = .ok (.return_, 1) := by decide +kernel
set_option maxRecDepth 20000 in
theorem ggX0_employ_X0_hasRoof : GoodIn wsX0_employ wsX0_hasRoof := goodIn_r _ [6, 7, 8, 9, 10, 11, 12, 13, 14, 15, 16, 17, 18, 19, 20, 21, 22, 23] (by decide +kernel) (by decide +kernel)
set_option maxRecDepth 20000 in
theorem gX0_employ_X0_hasRoof : GoodIn wsX0_employ (wsV RX0 66 RX0 yX0_hasRoof wsX0_hasRoof) := goodIn_app (goodIn_of _ (by decide +kernel)) ggX0_employ_X0_hasRoof
theorem dX0_employ_0 : decode cX0_employ 0 = .ok (.aload_n 0, 1) := by decide +kernel
theorem dX0_employ_1 : decode cX0_employ 1 = .ok (.iload_n 1, 1) := by decide +kernel
theorem dX0_employ_2 : decode cX0_employ 2 = .ok (.invokevirtual 66, 3) := by decide +kernel
theorem dX0_employ_5 : decode cX0_employ 5 = .ok (.ifCond .eq 10, 3) := by decide +kernel
theorem dX0_employ_8 : decode cX0_employ 8 = .ok (.aload_n 0, 1) := by decide +kernel
theorem dX0_employ_9 : decode cX0_employ 9 = .ok (.getfield 21, 3) := by decide +kernel
theorem dX0_employ_12 : decode cX0_employ 12 = .ok (.iload_n 1, 1) := by decide +kernel
theorem dX0_employ_13 : decode cX0_employ 13 = .ok (.iload_n 2, 1) := by decide +kernel
theorem dX0_employ_14 : decode cX0_employ 14 = .ok (.iastore, 1) := by decide +kernel
theorem dX0_employ_15 : decode cX0_employ 15 = .ok (.return_, 1) := by decide +kernel
set_option maxRecDepth 20000 in
theorem ggX0_forbid_X0_hasRoof : GoodIn wsX0_forbid wsX0_hasRoof := goodIn_r _ [6, 7, 8, 9, 10, 11, 12, 13, 14, 15, 16, 17, 18, 19, 20, 21, 22, 23] (by decide +kernel) (by decide +kernel)
set_option maxRecDepth 20000 in
theorem gX0_forbid_X0_hasRoof : GoodIn wsX0_forbid (wsV RX0 66 RX0 yX0_hasRoof wsX0_hasRoof) := goodIn_app (goodIn_of _ (by decide +kernel)) ggX0_forbid_X0_hasRoof
theorem dX0_forbid_0 : decode cX0_forbid 0 = .ok (.aload_n 0, 1) := by decide +kernel
theorem dX0_forbid_1 : decode cX0_forbid 1 = .ok (.iload_n 1, 1) := by decide +kernel
theorem dX0_forbid_2 : decode cX0_forbid 2 = .ok (.invokevirtual 66, 3) := by decide +kernel
theorem dX0_forbid_5 : decode cX0_forbid 5 = .ok (.ifCond .eq 35, 3) := by decide +kernel
theorem dX0_forbid_8 : decode cX0_forbid 8 = .ok (.aload_n 0, 1) := by decide +kernel
theorem dX0_forbid_9 : decode cX0_forbid 9 = .ok (.iload_n 2, 1) := by decide +kernel
theorem dX0_forbid_10 : decode cX0_forbid 10 = .ok (.invokevirtual 66, 3) := by decide +kernel
theorem dX0_forbid_13 : decode cX0_forbid 13 = .ok (.ifCond .eq 27, 3) := by decide +kernel
theorem dX0_forbid_16 : decode cX0_forbid 16 = .ok (.aload_n 0, 1) := by decide +kernel
theorem dX0_forbid_17 : decode cX0_forbid 17 = .ok (.getfield 24, 3) := by decide +kernel
theorem dX0_forbid_20 : decode cX0_forbid 20 = .ok (.iload_n 1, 1) := by decide +kernel
theorem dX0_forbid_21 : decode cX0_forbid 21 = .ok (.dup2, 1) := by decide +kernel
theorem dX0_forbid_22 : decode cX0_forbid 22 = .ok (.iaload, 1) := by decide +kernel
theorem dX0_forbid_23 : decode cX0_forbid 23 = .ok (.iconst 1, 1) := by decide +kernel
theorem dX0_forbid_24 : decode cX0_forbid 24 = .ok (.iload_n 2, 1) := by decide +kernel
theorem dX0_forbid_25 : decode cX0_forbid 25 = .ok (.ishl, 1) := by decide +kernel
theorem dX0_forbid_26 : decode cX0_forbid 26 = .ok (.ior, 1) := by decide +kernel
theorem dX0_forbid_27 : decode cX0_forbid 27 = .ok (.iastore, 1) := by decide +kernel
theorem dX0_forbid_28 : decode cX0_forbid 28 = .ok (.aload_n 0, 1) := by decide +kernel
theorem dX0_forbid_29 : decode cX0_forbid 29 = .ok (.getfield 24, 3) := by decide +kernel
theorem dX0_forbid_32 : decode cX0_forbid 32 = .ok (.iload_n 2, 1) := by decide +kernel
theorem dX0_forbid_33 : decode cX0_forbid 33 = .ok (.dup2, 1) := by decide +kernel
theorem dX0_forbid_34 : decode cX0_forbid 34 = .ok (.iaload, 1) := by decide +kernel
theorem dX0_forbid_35 : decode cX0_forbid 35 = .ok (.iconst 1, 1) := by decide +kernel
theorem dX0_forbid_36 : decode cX0_forbid 36 = .ok (.iload_n 1, 1) := by decide +kernel
theorem dX0_forbid_37 : decode cX0_forbid 37 = .ok (.ishl, 1) := by decide +kernel
theorem dX0_forbid_38 : decode cX0_forbid 38 = .ok (.ior, 1) := by decide +kernel
theorem dX0_forbid_39 : decode cX0_forbid 39 = .ok (.iastore, 1) := by decide +kernel
theorem dX0_forbid_40 : decode cX0_forbid 40 = .ok (.return_, 1) := by decide +kernel
set_option maxRecDepth 20000 in
theorem ggX0_post_X0_hasRoof : GoodIn wsX0_post wsX0_hasRoof := goodIn_r _ [7, 8, 9, 10, 11, 12, 13, 14, 15, 16, 17, 18, 19, 20, 21, 22, 23, 24] (by decide +kernel) (by decide +kernel)
set_option maxRecDepth 20000 in
theorem gX0_post_X0_hasRoof : GoodIn wsX0_post (wsV RX0 66 RX0 yX0_hasRoof wsX0_hasRoof) := goodIn_app (goodIn_of _ (by decide +kernel)) ggX0_post_X0_hasRoof
theorem dX0_post_0 : decode cX0_post 0 = .ok (.aload_n 0, 1) := by decide +kernel
theorem dX0_post_1 : decode cX0_post 1 = .ok (.getfield 37, 3) := by decide +kernel
theorem dX0_post_4 : decode cX0_post 4 = .ok (.bipush 8, 2) := by decide +kernel
theorem dX0_post_6 : decode cX0_post 6 = .ok (.if_icmp .ge 69, 3) := by decide +kernel
theorem dX0_post_9 : decode cX0_post 9 = .ok (.aload_n 0, 1) := by decide +kernel
theorem dX0_post_10 : decode cX0_post 10 = .ok (.iload_n 1, 1) := by decide +kernel
theorem dX0_post_11 : decode cX0_post 11 = .ok (.invokevirtual 66, 3) := by decide +kernel
theorem dX0_post_14 : decode cX0_post 14 = .ok (.ifCond .eq 61, 3) := by decide +kernel
theorem dX0_post_17 : decode cX0_post 17 = .ok (.aload_n 0, 1) := by decide +kernel
theorem dX0_post_18 : decode cX0_post 18 = .ok (.iload_n 3, 1) := by decide +kernel
theorem dX0_post_19 : decode cX0_post 19 = .ok (.invokevirtual 66, 3) := by decide +kernel
theorem dX0_post_22 : decode cX0_post 22 = .ok (.ifCond .eq 53, 3) := by decide +kernel
theorem dX0_post_25 : decode cX0_post 25 = .ok (.aload_n 0, 1) := by decide +kernel
theorem dX0_post_26 : decode cX0_post 26 = .ok (.getfield 27, 3) := by decide +kernel
theorem dX0_post_29 : decode cX0_post 29 = .ok (.iconst 3, 1) := by decide +kernel
theorem dX0_post_30 : decode cX0_post 30 = .ok (.aload_n 0, 1) := by decide +kernel
theorem dX0_post_31 : decode cX0_post 31 = .ok (.getfield 37, 3) := by decide +kernel
theorem dX0_post_34 : decode cX0_post 34 = .ok (.imul, 1) := by decide +kernel
theorem dX0_post_35 : decode cX0_post 35 = .ok (.iload_n 1, 1) := by decide +kernel
theorem dX0_post_36 : decode cX0_post 36 = .ok (.iastore, 1) := by decide +kernel
theorem dX0_post_37 : decode cX0_post 37 = .ok (.aload_n 0, 1) := by decide +kernel
theorem dX0_post_38 : decode cX0_post 38 = .ok (.getfield 27, 3) := by decide +kernel
theorem dX0_post_41 : decode cX0_post 41 = .ok (.iconst 3, 1) := by decide +kernel
theorem dX0_post_42 : decode cX0_post 42 = .ok (.aload_n 0, 1) := by decide +kernel
theorem dX0_post_43 : decode cX0_post 43 = .ok (.getfield 37, 3) := by decide +kernel
theorem dX0_post_46 : decode cX0_post 46 = .ok (.imul, 1) := by decide +kernel
theorem dX0_post_47 : decode cX0_post 47 = .ok (.iconst 1, 1) := by decide +kernel
theorem dX0_post_48 : decode cX0_post 48 = .ok (.iadd, 1) := by decide +kernel
theorem dX0_post_49 : decode cX0_post 49 = .ok (.iload_n 2, 1) := by decide +kernel
theorem dX0_post_50 : decode cX0_post 50 = .ok (.iastore, 1) := by decide +kernel
theorem dX0_post_51 : decode cX0_post 51 = .ok (.aload_n 0, 1) := by decide +kernel
theorem dX0_post_52 : decode cX0_post 52 = .ok (.getfield 27, 3) := by decide +kernel
theorem dX0_post_55 : decode cX0_post 55 = .ok (.iconst 3, 1) := by decide +kernel
theorem dX0_post_56 : decode cX0_post 56 = .ok (.aload_n 0, 1) := by decide +kernel
theorem dX0_post_57 : decode cX0_post 57 = .ok (.getfield 37, 3) := by decide +kernel
theorem dX0_post_60 : decode cX0_post 60 = .ok (.imul, 1) := by decide +kernel
theorem dX0_post_61 : decode cX0_post 61 = .ok (.iconst 2, 1) := by decide +kernel
theorem dX0_post_62 : decode cX0_post 62 = .ok (.iadd, 1) := by decide +kernel
theorem dX0_post_63 : decode cX0_post 63 = .ok (.iload_n 3, 1) := by decide +kernel
theorem dX0_post_64 : decode cX0_post 64 = .ok (.iastore, 1) := by decide +kernel
theorem dX0_post_65 : decode cX0_post 65 = .ok (.aload_n 0, 1) := by decide +kernel
theorem dX0_post_66 : decode cX0_post 66 = .ok (.dup, 1) := by decide +kernel
theorem dX0_post_67 : decode cX0_post 67 = .ok (.getfield 37, 3) := by decide +kernel
theorem dX0_post_70 : decode cX0_post 70 = .ok (.iconst 1, 1) := by decide +kernel
theorem dX0_post_71 : decode cX0_post 71 = .ok (.iadd, 1) := by decide +kernel
theorem dX0_post_72 : decode cX0_post 72 = .ok (.putfield 37, 3) := by decide +kernel
theorem dX0_post_75 : decode cX0_post 75 = .ok (.return_, 1) := by decide +kernel
set_option maxRecDepth 20000 in
theorem ggX0_pairs_J6_bitCount_0f7a4 : GoodIn wsX0_pairs wsJ6_bitCount_0f7a4 := goodIn_r _ [6, 7, 8, 9] (by decide +kernel) (by decide +kernel)
set_option maxRecDepth 20000 in
theorem gX0_pairs_J6_bitCount_0f7a4 : GoodIn wsX0_pairs (va_wsS RX0 83 yJ6_bitCount_0f7a4 wsJ6_bitCount_0f7a4) := goodIn_app (goodIn_of _ (by decide +kernel)) ggX0_pairs_J6_bitCount_0f7a4
theorem dX0_pairs_0 : decode cX0_pairs 0 = .ok (.iconst 0, 1) := by decide +kernel
theorem dX0_pairs_1 : decode cX0_pairs 1 = .ok (.istore_n 1, 1) := by decide +kernel
theorem dX0_pairs_2 : decode cX0_pairs 2 = .ok (.iconst 0, 1) := by decide +kernel
theorem dX0_pairs_3 : decode cX0_pairs 3 = .ok (.istore_n 2, 1) := by decide +kernel
theorem dX0_pairs_4 : decode cX0_pairs 4 = .ok (.iload_n 2, 1) := by decide +kernel
theorem dX0_pairs_5 : decode cX0_pairs 5 = .ok (.aload_n 0, 1) := by decide +kernel
theorem dX0_pairs_6 : decode cX0_pairs 6 = .ok (.getfield 30, 3) := by decide +kernel
theorem dX0_pairs_9 : decode cX0_pairs 9 = .ok (.if_icmp .ge 21, 3) := by decide +kernel
theorem dX0_pairs_12 : decode cX0_pairs 12 = .ok (.iload_n 1, 1) := by decide +kernel
theorem dX0_pairs_13 : decode cX0_pairs 13 = .ok (.aload_n 0, 1) := by decide +kernel
theorem dX0_pairs_14 : decode cX0_pairs 14 = .ok (.getfield 24, 3) := by decide +kernel
theorem dX0_pairs_17 : decode cX0_pairs 17 = .ok (.iload_n 2, 1) := by decide +kernel
theorem dX0_pairs_18 : decode cX0_pairs 18 = .ok (.iaload, 1) := by decide +kernel
theorem dX0_pairs_19 : decode cX0_pairs 19 = .ok (.invokestatic 83, 3) := by decide +kernel
theorem dX0_pairs_22 : decode cX0_pairs 22 = .ok (.iadd, 1) := by decide +kernel
theorem dX0_pairs_23 : decode cX0_pairs 23 = .ok (.istore_n 1, 1) := by decide +kernel
theorem dX0_pairs_24 : decode cX0_pairs 24 = .ok (.iinc 2 1, 3) := by decide +kernel
theorem dX0_pairs_27 : decode cX0_pairs 27 = .ok (.goto (-23), 3) := by decide +kernel
theorem dX0_pairs_30 : decode cX0_pairs 30 = .ok (.iload_n 1, 1) := by decide +kernel
theorem dX0_pairs_31 : decode cX0_pairs 31 = .ok (.iconst 2, 1) := by decide +kernel
theorem dX0_pairs_32 : decode cX0_pairs 32 = .ok (.idiv, 1) := by decide +kernel
theorem dX0_pairs_33 : decode cX0_pairs 33 = .ok (.ireturn, 1) := by decide +kernel
set_option maxRecDepth 20000 in
theorem ggX0_busyRoofs_X0_heightAt : GoodIn wsX0_busyRoofs wsX0_heightAt := goodIn_r _ [7, 8, 9, 10, 11, 6, 12, 1, 2, 13, 14, 15, 16, 17, 18, 19, 20, 21, 22, 23, 24, 25, 26, 27, 28, 29, 30, 31, 32] (by decide +kernel) (by decide +kernel)
set_option maxRecDepth 20000 in
theorem gX0_busyRoofs_X0_heightAt : GoodIn wsX0_busyRoofs (wsV RX0 89 RX0 yX0_heightAt wsX0_heightAt) := goodIn_app (goodIn_of _ (by decide +kernel)) ggX0_busyRoofs_X0_heightAt
theorem dX0_busyRoofs_0 : decode cX0_busyRoofs 0 = .ok (.iconst 0, 1) := by decide +kernel
theorem dX0_busyRoofs_1 : decode cX0_busyRoofs 1 = .ok (.istore_n 1, 1) := by decide +kernel
theorem dX0_busyRoofs_2 : decode cX0_busyRoofs 2 = .ok (.iconst 0, 1) := by decide +kernel
theorem dX0_busyRoofs_3 : decode cX0_busyRoofs 3 = .ok (.istore_n 2, 1) := by decide +kernel
theorem dX0_busyRoofs_4 : decode cX0_busyRoofs 4 = .ok (.iload_n 2, 1) := by decide +kernel
theorem dX0_busyRoofs_5 : decode cX0_busyRoofs 5 = .ok (.aload_n 0, 1) := by decide +kernel
theorem dX0_busyRoofs_6 : decode cX0_busyRoofs 6 = .ok (.getfield 30, 3) := by decide +kernel
theorem dX0_busyRoofs_9 : decode cX0_busyRoofs 9 = .ok (.if_icmp .ge 42, 3) := by decide +kernel
theorem dX0_busyRoofs_12 : decode cX0_busyRoofs 12 = .ok (.iconst 0, 1) := by decide +kernel
theorem dX0_busyRoofs_13 : decode cX0_busyRoofs 13 = .ok (.istore_n 3, 1) := by decide +kernel
theorem dX0_busyRoofs_14 : decode cX0_busyRoofs 14 = .ok (.iload_n 3, 1) := by decide +kernel
theorem dX0_busyRoofs_15 : decode cX0_busyRoofs 15 = .ok (.aload_n 0, 1) := by decide +kernel
theorem dX0_busyRoofs_16 : decode cX0_busyRoofs 16 = .ok (.getfield 18, 3) := by decide +kernel
theorem dX0_busyRoofs_19 : decode cX0_busyRoofs 19 = .ok (.iload_n 2, 1) := by decide +kernel
theorem dX0_busyRoofs_20 : decode cX0_busyRoofs 20 = .ok (.iaload, 1) := by decide +kernel
theorem dX0_busyRoofs_21 : decode cX0_busyRoofs 21 = .ok (.if_icmp .ge 24, 3) := by decide +kernel
theorem dX0_busyRoofs_24 : decode cX0_busyRoofs 24 = .ok (.aload_n 0, 1) := by decide +kernel
theorem dX0_busyRoofs_25 : decode cX0_busyRoofs 25 = .ok (.iload_n 2, 1) := by decide +kernel
theorem dX0_busyRoofs_26 : decode cX0_busyRoofs 26 = .ok (.iload_n 3, 1) := by decide +kernel
theorem dX0_busyRoofs_27 : decode cX0_busyRoofs 27 = .ok (.invokevirtual 89, 3) := by decide +kernel
theorem dX0_busyRoofs_30 : decode cX0_busyRoofs 30 = .ok (.ifCond .le 9, 3) := by decide +kernel
theorem dX0_busyRoofs_33 : decode cX0_busyRoofs 33 = .ok (.iload_n 1, 1) := by decide +kernel
theorem dX0_busyRoofs_34 : decode cX0_busyRoofs 34 = .ok (.iconst 1, 1) := by decide +kernel
theorem dX0_busyRoofs_35 : decode cX0_busyRoofs 35 = .ok (.iload_n 2, 1) := by decide +kernel
theorem dX0_busyRoofs_36 : decode cX0_busyRoofs 36 = .ok (.ishl, 1) := by decide +kernel
theorem dX0_busyRoofs_37 : decode cX0_busyRoofs 37 = .ok (.ior, 1) := by decide +kernel
theorem dX0_busyRoofs_38 : decode cX0_busyRoofs 38 = .ok (.istore_n 1, 1) := by decide +kernel
theorem dX0_busyRoofs_39 : decode cX0_busyRoofs 39 = .ok (.iinc 3 1, 3) := by decide +kernel
theorem dX0_busyRoofs_42 : decode cX0_busyRoofs 42 = .ok (.goto (-28), 3) := by decide +kernel
theorem dX0_busyRoofs_45 : decode cX0_busyRoofs 45 = .ok (.iinc 2 1, 3) := by decide +kernel
theorem dX0_busyRoofs_48 : decode cX0_busyRoofs 48 = .ok (.goto (-44), 3) := by decide +kernel
theorem dX0_busyRoofs_51 : decode cX0_busyRoofs 51 = .ok (.iload_n 1, 1) := by decide +kernel
theorem dX0_busyRoofs_52 : decode cX0_busyRoofs 52 = .ok (.ireturn, 1) := by decide +kernel
set_option maxRecDepth 20000 in
theorem ggX0_throwersAt_X0_heightAt : GoodIn wsX0_throwersAt wsX0_heightAt := goodIn_r _ [6, 7, 8, 9, 10, 5, 11, 1, 12, 13, 14, 15, 16, 17, 18, 19, 20, 21, 22, 23, 24, 25, 26, 27, 28, 29, 30, 31, 32] (by decide +kernel) (by decide +kernel)
set_option maxRecDepth 20000 in
theorem gX0_throwersAt_X0_heightAt : GoodIn wsX0_throwersAt (wsV RX0 89 RX0 yX0_heightAt wsX0_heightAt) := goodIn_app (goodIn_of _ (by decide +kernel)) ggX0_throwersAt_X0_heightAt
theorem dX0_throwersAt_0 : decode cX0_throwersAt 0 = .ok (.iconst 0, 1) := by decide +kernel
theorem dX0_throwersAt_1 : decode cX0_throwersAt 1 = .ok (.istore_n 2, 1) := by decide +kernel
theorem dX0_throwersAt_2 : decode cX0_throwersAt 2 = .ok (.iconst 0, 1) := by decide +kernel
theorem dX0_throwersAt_3 : decode cX0_throwersAt 3 = .ok (.istore_n 3, 1) := by decide +kernel
theorem dX0_throwersAt_4 : decode cX0_throwersAt 4 = .ok (.iload_n 3, 1) := by decide +kernel
theorem dX0_throwersAt_5 : decode cX0_throwersAt 5 = .ok (.aload_n 0, 1) := by decide +kernel
theorem dX0_throwersAt_6 : decode cX0_throwersAt 6 = .ok (.getfield 30, 3) := by decide +kernel
theorem dX0_throwersAt_9 : decode cX0_throwersAt 9 = .ok (.if_icmp .ge 21, 3) := by decide +kernel
theorem dX0_throwersAt_12 : decode cX0_throwersAt 12 = .ok (.aload_n 0, 1) := by decide +kernel
theorem dX0_throwersAt_13 : decode cX0_throwersAt 13 = .ok (.iload_n 3, 1) := by decide +kernel
theorem dX0_throwersAt_14 : decode cX0_throwersAt 14 = .ok (.iload_n 1, 1) := by decide +kernel
theorem dX0_throwersAt_15 : decode cX0_throwersAt 15 = .ok (.invokevirtual 89, 3) := by decide +kernel
theorem dX0_throwersAt_18 : decode cX0_throwersAt 18 = .ok (.ifCond .le 6, 3) := by decide +kernel
theorem dX0_throwersAt_21 : decode cX0_throwersAt 21 = .ok (.iinc 2 1, 3) := by decide +kernel
theorem dX0_throwersAt_24 : decode cX0_throwersAt 24 = .ok (.iinc 3 1, 3) := by decide +kernel
theorem dX0_throwersAt_27 : decode cX0_throwersAt 27 = .ok (.goto (-23), 3) := by decide +kernel
theorem dX0_throwersAt_30 : decode cX0_throwersAt 30 = .ok (.iload_n 2, 1) := by decide +kernel
theorem dX0_throwersAt_31 : decode cX0_throwersAt 31 = .ok (.ireturn, 1) := by decide +kernel
set_option maxRecDepth 20000 in
theorem ggX0_crossesAt_X0_goalAt : GoodIn wsX0_crossesAt wsX0_goalAt := goodIn_r _ [6, 7, 8, 9, 10, 5, 11, 12, 13, 14, 15, 16, 17, 18, 19, 20, 21, 22, 23, 24, 25, 26, 27, 28, 29, 30, 31, 32, 33] (by decide +kernel) (by decide +kernel)
set_option maxRecDepth 20000 in
theorem gX0_crossesAt_X0_goalAt : GoodIn wsX0_crossesAt (wsV RX0 92 RX0 yX0_goalAt wsX0_goalAt) := goodIn_app (goodIn_of _ (by decide +kernel)) ggX0_crossesAt_X0_goalAt
theorem dX0_crossesAt_0 : decode cX0_crossesAt 0 = .ok (.aload_n 0, 1) := by decide +kernel
theorem dX0_crossesAt_1 : decode cX0_crossesAt 1 = .ok (.iload_n 1, 1) := by decide +kernel
theorem dX0_crossesAt_2 : decode cX0_crossesAt 2 = .ok (.iload_n 2, 1) := by decide +kernel
theorem dX0_crossesAt_3 : decode cX0_crossesAt 3 = .ok (.invokevirtual 92, 3) := by decide +kernel
theorem dX0_crossesAt_6 : decode cX0_crossesAt 6 = .ok (.istore_n 3, 1) := by decide +kernel
theorem dX0_crossesAt_7 : decode cX0_crossesAt 7 = .ok (.iload_n 3, 1) := by decide +kernel
theorem dX0_crossesAt_8 : decode cX0_crossesAt 8 = .ok (.iload_n 1, 1) := by decide +kernel
theorem dX0_crossesAt_9 : decode cX0_crossesAt 9 = .ok (.if_icmp .le 31, 3) := by decide +kernel
theorem dX0_crossesAt_12 : decode cX0_crossesAt 12 = .ok (.aload_n 0, 1) := by decide +kernel
theorem dX0_crossesAt_13 : decode cX0_crossesAt 13 = .ok (.iload_n 3, 1) := by decide +kernel
theorem dX0_crossesAt_14 : decode cX0_crossesAt 14 = .ok (.iload_n 2, 1) := by decide +kernel
theorem dX0_crossesAt_15 : decode cX0_crossesAt 15 = .ok (.invokevirtual 92, 3) := by decide +kernel
theorem dX0_crossesAt_18 : decode cX0_crossesAt 18 = .ok (.iload_n 1, 1) := by decide +kernel
theorem dX0_crossesAt_19 : decode cX0_crossesAt 19 = .ok (.if_icmp .ne 21, 3) := by decide +kernel
theorem dX0_crossesAt_22 : decode cX0_crossesAt 22 = .ok (.aload_n 0, 1) := by decide +kernel
theorem dX0_crossesAt_23 : decode cX0_crossesAt 23 = .ok (.getfield 24, 3) := by decide +kernel
theorem dX0_crossesAt_26 : decode cX0_crossesAt 26 = .ok (.iload_n 1, 1) := by decide +kernel
theorem dX0_crossesAt_27 : decode cX0_crossesAt 27 = .ok (.iaload, 1) := by decide +kernel
theorem dX0_crossesAt_28 : decode cX0_crossesAt 28 = .ok (.iload_n 3, 1) := by decide +kernel
theorem dX0_crossesAt_29 : decode cX0_crossesAt 29 = .ok (.ishr, 1) := by decide +kernel
theorem dX0_crossesAt_30 : decode cX0_crossesAt 30 = .ok (.iconst 1, 1) := by decide +kernel
theorem dX0_crossesAt_31 : decode cX0_crossesAt 31 = .ok (.iand, 1) := by decide +kernel
theorem dX0_crossesAt_32 : decode cX0_crossesAt 32 = .ok (.iconst 1, 1) := by decide +kernel
theorem dX0_crossesAt_33 : decode cX0_crossesAt 33 = .ok (.if_icmp .ne 7, 3) := by decide +kernel
theorem dX0_crossesAt_36 : decode cX0_crossesAt 36 = .ok (.iconst 1, 1) := by decide +kernel
theorem dX0_crossesAt_37 : decode cX0_crossesAt 37 = .ok (.goto 4, 3) := by decide +kernel
theorem dX0_crossesAt_40 : decode cX0_crossesAt 40 = .ok (.iconst 0, 1) := by decide +kernel
theorem dX0_crossesAt_41 : decode cX0_crossesAt 41 = .ok (.ireturn, 1) := by decide +kernel
set_option maxRecDepth 20000 in
theorem ggX0_suitsAt_X0_isLowThrownTo : GoodIn wsX0_suitsAt wsX0_isLowThrownTo := goodIn_r _ [6, 7, 8, 9, 10, 5, 11, 12, 13, 14, 15, 16, 17, 18, 19, 20, 21, 22, 23, 24, 25, 26, 31, 32, 33, 34, 35, 36, 37, 38, 39, 40, 41, 42, 43, 44, 45, 46] (by decide +kernel) (by decide +kernel)
set_option maxRecDepth 20000 in
theorem gX0_suitsAt_X0_isLowThrownTo : GoodIn wsX0_suitsAt (wsV RX0 95 RX0 yX0_isLowThrownTo wsX0_isLowThrownTo) := goodIn_app (goodIn_of _ (by decide +kernel)) ggX0_suitsAt_X0_isLowThrownTo
set_option maxRecDepth 20000 in
theorem ggX0_suitsAt_X0_goalAt : GoodIn wsX0_suitsAt wsX0_goalAt := goodIn_r _ [25, 26, 13, 14, 15, 5, 16, 7, 17, 18, 19, 20, 21, 31, 32, 33, 34, 35, 36, 37, 38, 39, 40, 41, 42, 43, 44, 45, 46] (by decide +kernel) (by decide +kernel)
set_option maxRecDepth 20000 in
theorem gX0_suitsAt_X0_goalAt : GoodIn wsX0_suitsAt (wsV RX0 92 RX0 yX0_goalAt wsX0_goalAt) := goodIn_app (goodIn_of _ (by decide +kernel)) ggX0_suitsAt_X0_goalAt
set_option maxRecDepth 20000 in
theorem ggX0_suitsAt_X0_heightAt : GoodIn wsX0_suitsAt wsX0_heightAt := goodIn_r _ [11, 12, 13, 14, 15, 5, 16, 7, 17, 18, 19, 20, 21, 31, 32, 33, 34, 35, 36, 37, 38, 39, 40, 41, 42, 43, 44, 45, 46] (by decide +kernel) (by decide +kernel)
set_option maxRecDepth 20000 in
theorem gX0_suitsAt_X0_heightAt : GoodIn wsX0_suitsAt (wsV RX0 89 RX0 yX0_heightAt wsX0_heightAt) := goodIn_app (goodIn_of _ (by decide +kernel)) ggX0_suitsAt_X0_heightAt
set_option maxRecDepth 20000 in
theorem ggX0_suitsAt_X0_firstHeight : GoodIn wsX0_suitsAt wsX0_firstHeight := goodIn_r _ [30, 17, 8, 9, 10, 5, 11, 12, 13, 14, 15, 16, 7, 18, 19, 20, 21, 31, 32, 33, 34, 35, 36, 37, 38, 39, 40, 41, 42, 43, 44, 45, 46] (by decide +kernel) (by decide +kernel)
set_option maxRecDepth 20000 in
theorem gX0_suitsAt_X0_firstHeight : GoodIn wsX0_suitsAt (wsV RX0 98 RX0 yX0_firstHeight wsX0_firstHeight) := goodIn_app (goodIn_of _ (by decide +kernel)) ggX0_suitsAt_X0_firstHeight
theorem dX0_suitsAt_0 : decode cX0_suitsAt 0 = .ok (.aload_n 0, 1) := by decide +kernel
theorem dX0_suitsAt_1 : decode cX0_suitsAt 1 = .ok (.getfield 21, 3) := by decide +kernel
theorem dX0_suitsAt_4 : decode cX0_suitsAt 4 = .ok (.iload_n 1, 1) := by decide +kernel
theorem dX0_suitsAt_5 : decode cX0_suitsAt 5 = .ok (.iaload, 1) := by decide +kernel
theorem dX0_suitsAt_6 : decode cX0_suitsAt 6 = .ok (.istore_n 3, 1) := by decide +kernel
theorem dX0_suitsAt_7 : decode cX0_suitsAt 7 = .ok (.iload_n 3, 1) := by decide +kernel
theorem dX0_suitsAt_8 : decode cX0_suitsAt 8 = .ok (.iconst 3, 1) := by decide +kernel
theorem dX0_suitsAt_9 : decode cX0_suitsAt 9 = .ok (.if_icmp .ne 18, 3) := by decide +kernel
theorem dX0_suitsAt_12 : decode cX0_suitsAt 12 = .ok (.aload_n 0, 1) := by decide +kernel
theorem dX0_suitsAt_13 : decode cX0_suitsAt 13 = .ok (.iload_n 1, 1) := by decide +kernel
theorem dX0_suitsAt_14 : decode cX0_suitsAt 14 = .ok (.iload_n 2, 1) := by decide +kernel
theorem dX0_suitsAt_15 : decode cX0_suitsAt 15 = .ok (.invokevirtual 95, 3) := by decide +kernel
theorem dX0_suitsAt_18 : decode cX0_suitsAt 18 = .ok (.ifCond .ne 7, 3) := by decide +kernel
theorem dX0_suitsAt_21 : decode cX0_suitsAt 21 = .ok (.iconst 1, 1) := by decide +kernel
theorem dX0_suitsAt_22 : decode cX0_suitsAt 22 = .ok (.goto 4, 3) := by decide +kernel
theorem dX0_suitsAt_25 : decode cX0_suitsAt 25 = .ok (.iconst 0, 1) := by decide +kernel
theorem dX0_suitsAt_26 : decode cX0_suitsAt 26 = .ok (.ireturn, 1) := by decide +kernel
theorem dX0_suitsAt_27 : decode cX0_suitsAt 27 = .ok (.aload_n 0, 1) := by decide +kernel
theorem dX0_suitsAt_28 : decode cX0_suitsAt 28 = .ok (.iload_n 1, 1) := by decide +kernel
theorem dX0_suitsAt_29 : decode cX0_suitsAt 29 = .ok (.iload_n 2, 1) := by decide +kernel
theorem dX0_suitsAt_30 : decode cX0_suitsAt 30 = .ok (.invokevirtual 92, 3) := by decide +kernel
theorem dX0_suitsAt_33 : decode cX0_suitsAt 33 = .ok (.iload_n 1, 1) := by decide +kernel
theorem dX0_suitsAt_34 : decode cX0_suitsAt 34 = .ok (.if_icmp .eq 11, 3) := by decide +kernel
theorem dX0_suitsAt_37 : decode cX0_suitsAt 37 = .ok (.iload_n 2, 1) := by decide +kernel
theorem dX0_suitsAt_38 : decode cX0_suitsAt 38 = .ok (.iconst 2, 1) := by decide +kernel
theorem dX0_suitsAt_39 : decode cX0_suitsAt 39 = .ok (.irem, 1) := by decide +kernel
theorem dX0_suitsAt_40 : decode cX0_suitsAt 40 = .ok (.ifCond .eq 5, 3) := by decide +kernel
theorem dX0_suitsAt_43 : decode cX0_suitsAt 43 = .ok (.iconst 0, 1) := by decide +kernel
theorem dX0_suitsAt_44 : decode cX0_suitsAt 44 = .ok (.ireturn, 1) := by decide +kernel
theorem dX0_suitsAt_45 : decode cX0_suitsAt 45 = .ok (.aload_n 0, 1) := by decide +kernel
theorem dX0_suitsAt_46 : decode cX0_suitsAt 46 = .ok (.iload_n 1, 1) := by decide +kernel
theorem dX0_suitsAt_47 : decode cX0_suitsAt 47 = .ok (.iload_n 2, 1) := by decide +kernel
theorem dX0_suitsAt_48 : decode cX0_suitsAt 48 = .ok (.invokevirtual 89, 3) := by decide +kernel
theorem dX0_suitsAt_51 : decode cX0_suitsAt 51 = .ok (.istore 4, 2) := by decide +kernel
theorem dX0_suitsAt_53 : decode cX0_suitsAt 53 = .ok (.iload_n 3, 1) := by decide +kernel
theorem dX0_suitsAt_54 : decode cX0_suitsAt 54 = .ok (.iconst 2, 1) := by decide +kernel
theorem dX0_suitsAt_55 : decode cX0_suitsAt 55 = .ok (.if_icmp .ne 15, 3) := by decide +kernel
theorem dX0_suitsAt_58 : decode cX0_suitsAt 58 = .ok (.iload 4, 2) := by decide +kernel
theorem dX0_suitsAt_60 : decode cX0_suitsAt 60 = .ok (.iconst 5, 1) := by decide +kernel
theorem dX0_suitsAt_61 : decode cX0_suitsAt 61 = .ok (.if_icmp .gt 7, 3) := by decide +kernel
theorem dX0_suitsAt_64 : decode cX0_suitsAt 64 = .ok (.iconst 1, 1) := by decide +kernel
theorem dX0_suitsAt_65 : decode cX0_suitsAt 65 = .ok (.goto 4, 3) := by decide +kernel
theorem dX0_suitsAt_68 : decode cX0_suitsAt 68 = .ok (.iconst 0, 1) := by decide +kernel
theorem dX0_suitsAt_69 : decode cX0_suitsAt 69 = .ok (.ireturn, 1) := by decide +kernel
theorem dX0_suitsAt_70 : decode cX0_suitsAt 70 = .ok (.iload_n 3, 1) := by decide +kernel
theorem dX0_suitsAt_71 : decode cX0_suitsAt 71 = .ok (.iconst 4, 1) := by decide +kernel
theorem dX0_suitsAt_72 : decode cX0_suitsAt 72 = .ok (.if_icmp .ne 18, 3) := by decide +kernel
theorem dX0_suitsAt_75 : decode cX0_suitsAt 75 = .ok (.iload 4, 2) := by decide +kernel
theorem dX0_suitsAt_77 : decode cX0_suitsAt 77 = .ok (.ifCond .eq 13, 3) := by decide +kernel
theorem dX0_suitsAt_80 : decode cX0_suitsAt 80 = .ok (.iload 4, 2) := by decide +kernel
theorem dX0_suitsAt_82 : decode cX0_suitsAt 82 = .ok (.aload_n 0, 1) := by decide +kernel
theorem dX0_suitsAt_83 : decode cX0_suitsAt 83 = .ok (.iload_n 1, 1) := by decide +kernel
theorem dX0_suitsAt_84 : decode cX0_suitsAt 84 = .ok (.invokevirtual 98, 3) := by decide +kernel
theorem dX0_suitsAt_87 : decode cX0_suitsAt 87 = .ok (.if_icmp .ne 7, 3) := by decide +kernel
theorem dX0_suitsAt_90 : decode cX0_suitsAt 90 = .ok (.iconst 1, 1) := by decide +kernel
theorem dX0_suitsAt_91 : decode cX0_suitsAt 91 = .ok (.goto 4, 3) := by decide +kernel
theorem dX0_suitsAt_94 : decode cX0_suitsAt 94 = .ok (.iconst 0, 1) := by decide +kernel
theorem dX0_suitsAt_95 : decode cX0_suitsAt 95 = .ok (.ireturn, 1) := by decide +kernel
set_option maxRecDepth 20000 in
theorem ggX0_isLowThrownTo_X0_heightAt : GoodIn wsX0_isLowThrownTo wsX0_heightAt := goodIn_r _ [6, 7, 8, 9, 10, 5, 11, 1, 12, 13, 14, 15, 16, 22, 23, 24, 25, 26, 27, 28, 29, 30, 31, 32, 33, 34, 35, 36, 37] (by decide +kernel) (by decide +kernel)
set_option maxRecDepth 20000 in
theorem gX0_isLowThrownTo_X0_heightAt : GoodIn wsX0_isLowThrownTo (wsV RX0 89 RX0 yX0_heightAt wsX0_heightAt) := goodIn_app (goodIn_of _ (by decide +kernel)) ggX0_isLowThrownTo_X0_heightAt
set_option maxRecDepth 20000 in
theorem ggX0_isLowThrownTo_X0_goalAt : GoodIn wsX0_isLowThrownTo wsX0_goalAt := goodIn_r _ [20, 21, 8, 9, 10, 5, 11, 1, 12, 13, 14, 15, 16, 22, 23, 24, 25, 26, 27, 28, 29, 30, 31, 32, 33, 34, 35, 36, 37] (by decide +kernel) (by decide +kernel)
set_option maxRecDepth 20000 in
theorem gX0_isLowThrownTo_X0_goalAt : GoodIn wsX0_isLowThrownTo (wsV RX0 92 RX0 yX0_goalAt wsX0_goalAt) := goodIn_app (goodIn_of _ (by decide +kernel)) ggX0_isLowThrownTo_X0_goalAt
theorem dX0_isLowThrownTo_0 : decode cX0_isLowThrownTo 0 = .ok (.iconst 0, 1) := by decide +kernel
theorem dX0_isLowThrownTo_1 : decode cX0_isLowThrownTo 1 = .ok (.istore_n 3, 1) := by decide +kernel
theorem dX0_isLowThrownTo_2 : decode cX0_isLowThrownTo 2 = .ok (.iload_n 3, 1) := by decide +kernel
theorem dX0_isLowThrownTo_3 : decode cX0_isLowThrownTo 3 = .ok (.aload_n 0, 1) := by decide +kernel
theorem dX0_isLowThrownTo_4 : decode cX0_isLowThrownTo 4 = .ok (.getfield 30, 3) := by decide +kernel
theorem dX0_isLowThrownTo_7 : decode cX0_isLowThrownTo 7 = .ok (.if_icmp .ge 40, 3) := by decide +kernel
theorem dX0_isLowThrownTo_10 : decode cX0_isLowThrownTo 10 = .ok (.aload_n 0, 1) := by decide +kernel
theorem dX0_isLowThrownTo_11 : decode cX0_isLowThrownTo 11 = .ok (.iload_n 3, 1) := by decide +kernel
theorem dX0_isLowThrownTo_12 : decode cX0_isLowThrownTo 12 = .ok (.iload_n 2, 1) := by decide +kernel
theorem dX0_isLowThrownTo_13 : decode cX0_isLowThrownTo 13 = .ok (.invokevirtual 89, 3) := by decide +kernel
theorem dX0_isLowThrownTo_16 : decode cX0_isLowThrownTo 16 = .ok (.istore 4, 2) := by decide +kernel
theorem dX0_isLowThrownTo_18 : decode cX0_isLowThrownTo 18 = .ok (.iload 4, 2) := by decide +kernel
theorem dX0_isLowThrownTo_20 : decode cX0_isLowThrownTo 20 = .ok (.ifCond .le 21, 3) := by decide +kernel
theorem dX0_isLowThrownTo_23 : decode cX0_isLowThrownTo 23 = .ok (.iload 4, 2) := by decide +kernel
theorem dX0_isLowThrownTo_25 : decode cX0_isLowThrownTo 25 = .ok (.iconst 3, 1) := by decide +kernel
theorem dX0_isLowThrownTo_26 : decode cX0_isLowThrownTo 26 = .ok (.if_icmp .ge 15, 3) := by decide +kernel
theorem dX0_isLowThrownTo_29 : decode cX0_isLowThrownTo 29 = .ok (.aload_n 0, 1) := by decide +kernel
theorem dX0_isLowThrownTo_30 : decode cX0_isLowThrownTo 30 = .ok (.iload_n 3, 1) := by decide +kernel
theorem dX0_isLowThrownTo_31 : decode cX0_isLowThrownTo 31 = .ok (.iload_n 2, 1) := by decide +kernel
theorem dX0_isLowThrownTo_32 : decode cX0_isLowThrownTo 32 = .ok (.invokevirtual 92, 3) := by decide +kernel
theorem dX0_isLowThrownTo_35 : decode cX0_isLowThrownTo 35 = .ok (.iload_n 1, 1) := by decide +kernel
theorem dX0_isLowThrownTo_36 : decode cX0_isLowThrownTo 36 = .ok (.if_icmp .ne 5, 3) := by decide +kernel
theorem dX0_isLowThrownTo_39 : decode cX0_isLowThrownTo 39 = .ok (.iconst 1, 1) := by decide +kernel
theorem dX0_isLowThrownTo_40 : decode cX0_isLowThrownTo 40 = .ok (.ireturn, 1) := by decide +kernel
theorem dX0_isLowThrownTo_41 : decode cX0_isLowThrownTo 41 = .ok (.iinc 3 1, 3) := by decide +kernel
theorem dX0_isLowThrownTo_44 : decode cX0_isLowThrownTo 44 = .ok (.goto (-42), 3) := by decide +kernel
theorem dX0_isLowThrownTo_47 : decode cX0_isLowThrownTo 47 = .ok (.iconst 0, 1) := by decide +kernel
theorem dX0_isLowThrownTo_48 : decode cX0_isLowThrownTo 48 = .ok (.ireturn, 1) := by decide +kernel
set_option maxRecDepth 20000 in
theorem ggX0_firstHeight_X0_heightAt : GoodIn wsX0_firstHeight wsX0_heightAt := goodIn_r _ [6, 7, 8, 9, 10, 5, 11, 12, 1, 13, 14, 15, 16, 17, 18, 19, 20, 21, 22, 23, 24, 25, 26, 27, 28, 29, 30, 31, 32] (by decide +kernel) (by decide +kernel)
set_option maxRecDepth 20000 in
theorem gX0_firstHeight_X0_heightAt : GoodIn wsX0_firstHeight (wsV RX0 89 RX0 yX0_heightAt wsX0_heightAt) := goodIn_app (goodIn_of _ (by decide +kernel)) ggX0_firstHeight_X0_heightAt
theorem dX0_firstHeight_0 : decode cX0_firstHeight 0 = .ok (.iconst 0, 1) := by decide +kernel
theorem dX0_firstHeight_1 : decode cX0_firstHeight 1 = .ok (.istore_n 2, 1) := by decide +kernel
theorem dX0_firstHeight_2 : decode cX0_firstHeight 2 = .ok (.iload_n 2, 1) := by decide +kernel
theorem dX0_firstHeight_3 : decode cX0_firstHeight 3 = .ok (.aload_n 0, 1) := by decide +kernel
theorem dX0_firstHeight_4 : decode cX0_firstHeight 4 = .ok (.getfield 18, 3) := by decide +kernel
theorem dX0_firstHeight_7 : decode cX0_firstHeight 7 = .ok (.iload_n 1, 1) := by decide +kernel
theorem dX0_firstHeight_8 : decode cX0_firstHeight 8 = .ok (.iaload, 1) := by decide +kernel
theorem dX0_firstHeight_9 : decode cX0_firstHeight 9 = .ok (.if_icmp .ge 25, 3) := by decide +kernel
theorem dX0_firstHeight_12 : decode cX0_firstHeight 12 = .ok (.aload_n 0, 1) := by decide +kernel
theorem dX0_firstHeight_13 : decode cX0_firstHeight 13 = .ok (.iload_n 1, 1) := by decide +kernel
theorem dX0_firstHeight_14 : decode cX0_firstHeight 14 = .ok (.iload_n 2, 1) := by decide +kernel
theorem dX0_firstHeight_15 : decode cX0_firstHeight 15 = .ok (.invokevirtual 89, 3) := by decide +kernel
theorem dX0_firstHeight_18 : decode cX0_firstHeight 18 = .ok (.ifCond .le 10, 3) := by decide +kernel
theorem dX0_firstHeight_21 : decode cX0_firstHeight 21 = .ok (.aload_n 0, 1) := by decide +kernel
theorem dX0_firstHeight_22 : decode cX0_firstHeight 22 = .ok (.iload_n 1, 1) := by decide +kernel
theorem dX0_firstHeight_23 : decode cX0_firstHeight 23 = .ok (.iload_n 2, 1) := by decide +kernel
theorem dX0_firstHeight_24 : decode cX0_firstHeight 24 = .ok (.invokevirtual 89, 3) := by decide +kernel
theorem dX0_firstHeight_27 : decode cX0_firstHeight 27 = .ok (.ireturn, 1) := by decide +kernel
theorem dX0_firstHeight_28 : decode cX0_firstHeight 28 = .ok (.iinc 2 1, 3) := by decide +kernel
theorem dX0_firstHeight_31 : decode cX0_firstHeight 31 = .ok (.goto (-29), 3) := by decide +kernel
theorem dX0_firstHeight_34 : decode cX0_firstHeight 34 = .ok (.iconst 0, 1) := by decide +kernel
theorem dX0_firstHeight_35 : decode cX0_firstHeight 35 = .ok (.ireturn, 1) := by decide +kernel
theorem dX1_init_0 : decode cX1_init 0 = .ok (.aload_n 0, 1) := by decide +kernel
theorem dX1_init_1 : decode cX1_init 1 = .ok (.invokespecial 5, 3) := by decide +kernel
theorem dX1_init_4 : decode cX1_init 4 = .ok (.aload_n 0, 1) := by decide +kernel
theorem dX1_init_5 : decode cX1_init 5 = .ok (.bipush 60, 2) := by decide +kernel
theorem dX1_init_7 : decode cX1_init 7 = .ok (.newarray .int, 2) := by decide +kernel
theorem dX1_init_9 : decode cX1_init 9 = .ok (.putfield 11, 3) := by decide +kernel
theorem dX1_init_12 : decode cX1_init 12 = .ok (.aload_n 0, 1) := by decide +kernel
theorem dX1_init_13 : decode cX1_init 13 = .ok (.sipush 158, 3) := by decide +kernel
theorem dX1_init_16 : decode cX1_init 16 = .ok (.newarray .int, 2) := by decide +kernel
theorem dX1_init_18 : decode cX1_init 18 = .ok (.putfield 15, 3) := by decide +kernel
theorem dX1_init_21 : decode cX1_init 21 = .ok (.return_, 1) := by decide +kernel
set_option maxRecDepth 20000 in
theorem ggX1_roundOf_X1_look : GoodIn wsX1_roundOf wsX1_look := goodIn_r _ [6, 7, 1, 8, 9, 10, 11, 5, 12, 13, 14, 15, 16, 17, 18, 19, 20, 21, 22, 23, 24, 25, 26, 27, 28, 29, 30, 31, 32, 33, 34, 35, 36, 37, 38, 39, 40, 41, 42, 43, 44, 45, 46, 47, 48, 49, 50, 51, 52, 53, 54, 55, 56, 57, 58, 59, 60, 61, 62, 63, 64, 65, 66, 67, 68, 69, 70, 71, 72, 73, 74, 75, 76, 77, 78] (by decide +kernel) (by decide +kernel)
set_option maxRecDepth 20000 in
theorem gX1_roundOf_X1_look : GoodIn wsX1_roundOf (wsV RX1 18 RX1 yX1_look wsX1_look) := goodIn_app (goodIn_of _ (by decide +kernel)) ggX1_roundOf_X1_look
theorem dX1_roundOf_0 : decode cX1_roundOf 0 = .ok (.aload_n 0, 1) := by decide +kernel
theorem dX1_roundOf_1 : decode cX1_roundOf 1 = .ok (.aload_n 1, 1) := by decide +kernel
theorem dX1_roundOf_2 : decode cX1_roundOf 2 = .ok (.invokevirtual 18, 3) := by decide +kernel
theorem dX1_roundOf_5 : decode cX1_roundOf 5 = .ok (.aload_n 1, 1) := by decide +kernel
theorem dX1_roundOf_6 : decode cX1_roundOf 6 = .ok (.getfield 22, 3) := by decide +kernel
theorem dX1_roundOf_9 : decode cX1_roundOf 9 = .ok (.ireturn, 1) := by decide +kernel
set_option maxRecDepth 20000 in
theorem ggX1_isKeptUp_X1_look : GoodIn wsX1_isKeptUp wsX1_look := goodIn_r _ [6, 7, 8, 1, 9, 10, 11, 5, 12, 13, 14, 15, 16, 17, 18, 19, 20, 21, 22, 23, 24, 25, 26, 27, 28, 29, 30, 31, 32, 33, 34, 35, 36, 37, 38, 39, 40, 41, 42, 43, 44, 45, 46, 47, 48, 49, 50, 51, 52, 53, 54, 55, 56, 57, 58, 59, 60, 61, 62, 63, 64, 65, 66, 67, 68, 69, 70, 71, 72, 73, 74, 75, 76, 77, 78] (by decide +kernel) (by decide +kernel)
set_option maxRecDepth 20000 in
theorem gX1_isKeptUp_X1_look : GoodIn wsX1_isKeptUp (wsV RX1 18 RX1 yX1_look wsX1_look) := goodIn_app (goodIn_of _ (by decide +kernel)) ggX1_isKeptUp_X1_look
theorem dX1_isKeptUp_0 : decode cX1_isKeptUp 0 = .ok (.aload_n 0, 1) := by decide +kernel
theorem dX1_isKeptUp_1 : decode cX1_isKeptUp 1 = .ok (.aload_n 1, 1) := by decide +kernel
theorem dX1_isKeptUp_2 : decode cX1_isKeptUp 2 = .ok (.invokevirtual 18, 3) := by decide +kernel
theorem dX1_isKeptUp_5 : decode cX1_isKeptUp 5 = .ok (.aload_n 1, 1) := by decide +kernel
theorem dX1_isKeptUp_6 : decode cX1_isKeptUp 6 = .ok (.getfield 28, 3) := by decide +kernel
theorem dX1_isKeptUp_9 : decode cX1_isKeptUp 9 = .ok (.iconst (-1), 1) := by decide +kernel
theorem dX1_isKeptUp_10 : decode cX1_isKeptUp 10 = .ok (.if_icmp .ne 7, 3) := by decide +kernel
theorem dX1_isKeptUp_13 : decode cX1_isKeptUp 13 = .ok (.iconst 1, 1) := by decide +kernel
theorem dX1_isKeptUp_14 : decode cX1_isKeptUp 14 = .ok (.goto 4, 3) := by decide +kernel
theorem dX1_isKeptUp_17 : decode cX1_isKeptUp 17 = .ok (.iconst 0, 1) := by decide +kernel
theorem dX1_isKeptUp_18 : decode cX1_isKeptUp 18 = .ok (.ireturn, 1) := by decide +kernel
set_option maxRecDepth 20000 in
theorem ggX1_look_X1_leastRound : GoodIn wsX1_look wsX1_leastRound := goodIn_r _ [8, 9, 10, 11, 12, 13, 14, 51, 52, 53, 54, 55, 56, 57, 58, 59, 60, 61, 62, 63, 64, 65, 66] (by decide +kernel) (by decide +kernel)
set_option maxRecDepth 20000 in
theorem gX1_look_X1_leastRound : GoodIn wsX1_look (va_wsS RX1 35 yX1_leastRound wsX1_leastRound) := goodIn_app (goodIn_of _ (by decide +kernel)) ggX1_look_X1_leastRound
set_option maxRecDepth 20000 in
theorem ggX1_look_J7_fill_53178 : GoodIn wsX1_look wsJ7_fill_53178 := goodIn_r _ [18] (by decide +kernel) (by decide +kernel)
set_option maxRecDepth 20000 in
theorem gX1_look_J7_fill_53178 : GoodIn wsX1_look (va_wsS RX1 39 yJ7_fill_53178 wsJ7_fill_53178) := goodIn_app (goodIn_of _ (by decide +kernel)) ggX1_look_J7_fill_53178
set_option maxRecDepth 20000 in
theorem ggX1_look_X1_throwAll : GoodIn wsX1_look wsX1_throwAll := goodIn_r _ [22, 9, 4, 23, 24, 25, 26, 27, 28, 29, 30, 31, 32, 33, 34, 35, 36, 37, 38, 39, 40, 41, 42, 43, 44, 51, 52, 53, 54, 55, 56, 57, 58, 59, 60, 61, 62, 63, 64, 65, 66, 67, 68, 69, 70, 71, 72, 73, 74] (by decide +kernel) (by decide +kernel)
set_option maxRecDepth 20000 in
theorem gX1_look_X1_throwAll : GoodIn wsX1_look (wsV RX1 45 RX1 yX1_throwAll wsX1_throwAll) := goodIn_app (goodIn_of _ (by decide +kernel)) ggX1_look_X1_throwAll
set_option maxRecDepth 20000 in
theorem ggX1_look_X1_findClash : GoodIn wsX1_look wsX1_findClash := goodIn_r _ [48, 9, 3, 4, 49, 50, 23, 24, 25, 26, 27, 28, 29, 30, 31, 32, 33, 34, 35, 36, 37, 38, 39, 51, 52, 53, 54, 55, 56, 57, 58, 59, 60, 61, 62, 63, 64, 65, 66, 67, 68, 69, 70, 71, 72, 73, 74] (by decide +kernel) (by decide +kernel)
set_option maxRecDepth 20000 in
theorem gX1_look_X1_findClash : GoodIn wsX1_look (wsV RX1 49 RX1 yX1_findClash wsX1_findClash) := goodIn_app (goodIn_of _ (by decide +kernel)) ggX1_look_X1_findClash
theorem dX1_look_0 : decode cX1_look 0 = .ok (.aload_n 1, 1) := by decide +kernel
theorem dX1_look_1 : decode cX1_look 1 = .ok (.getfield 31, 3) := by decide +kernel
theorem dX1_look_4 : decode cX1_look 4 = .ok (.ifCond .eq 4, 3) := by decide +kernel
theorem dX1_look_7 : decode cX1_look 7 = .ok (.return_, 1) := by decide +kernel
theorem dX1_look_8 : decode cX1_look 8 = .ok (.aload_n 1, 1) := by decide +kernel
theorem dX1_look_9 : decode cX1_look 9 = .ok (.aload_n 1, 1) := by decide +kernel
theorem dX1_look_10 : decode cX1_look 10 = .ok (.invokestatic 35, 3) := by decide +kernel
theorem dX1_look_13 : decode cX1_look 13 = .ok (.putfield 22, 3) := by decide +kernel
theorem dX1_look_16 : decode cX1_look 16 = .ok (.aload_n 1, 1) := by decide +kernel
theorem dX1_look_17 : decode cX1_look 17 = .ok (.iconst (-1), 1) := by decide +kernel
theorem dX1_look_18 : decode cX1_look 18 = .ok (.putfield 28, 3) := by decide +kernel
theorem dX1_look_21 : decode cX1_look 21 = .ok (.aload_n 0, 1) := by decide +kernel
theorem dX1_look_22 : decode cX1_look 22 = .ok (.getfield 11, 3) := by decide +kernel
theorem dX1_look_25 : decode cX1_look 25 = .ok (.iconst 0, 1) := by decide +kernel
theorem dX1_look_26 : decode cX1_look 26 = .ok (.invokestatic 39, 3) := by decide +kernel
theorem dX1_look_29 : decode cX1_look 29 = .ok (.bipush (-9), 2) := by decide +kernel
theorem dX1_look_31 : decode cX1_look 31 = .ok (.istore_n 2, 1) := by decide +kernel
theorem dX1_look_32 : decode cX1_look 32 = .ok (.iload_n 2, 1) := by decide +kernel
theorem dX1_look_33 : decode cX1_look 33 = .ok (.ifCond .ge 15, 3) := by decide +kernel
theorem dX1_look_36 : decode cX1_look 36 = .ok (.aload_n 0, 1) := by decide +kernel
theorem dX1_look_37 : decode cX1_look 37 = .ok (.aload_n 1, 1) := by decide +kernel
theorem dX1_look_38 : decode cX1_look 38 = .ok (.iload_n 2, 1) := by decide +kernel
theorem dX1_look_39 : decode cX1_look 39 = .ok (.invokevirtual 45, 3) := by decide +kernel
theorem dX1_look_42 : decode cX1_look 42 = .ok (.iinc 2 1, 3) := by decide +kernel
theorem dX1_look_45 : decode cX1_look 45 = .ok (.goto (-13), 3) := by decide +kernel
theorem dX1_look_48 : decode cX1_look 48 = .ok (.iconst 0, 1) := by decide +kernel
theorem dX1_look_49 : decode cX1_look 49 = .ok (.istore_n 2, 1) := by decide +kernel
theorem dX1_look_50 : decode cX1_look 50 = .ok (.iload_n 2, 1) := by decide +kernel
theorem dX1_look_51 : decode cX1_look 51 = .ok (.aload_n 1, 1) := by decide +kernel
theorem dX1_look_52 : decode cX1_look 52 = .ok (.getfield 22, 3) := by decide +kernel
theorem dX1_look_55 : decode cX1_look 55 = .ok (.if_icmp .ge 29, 3) := by decide +kernel
theorem dX1_look_58 : decode cX1_look 58 = .ok (.aload_n 1, 1) := by decide +kernel
theorem dX1_look_59 : decode cX1_look 59 = .ok (.getfield 28, 3) := by decide +kernel
theorem dX1_look_62 : decode cX1_look 62 = .ok (.iconst (-1), 1) := by decide +kernel
theorem dX1_look_63 : decode cX1_look 63 = .ok (.if_icmp .ne 21, 3) := by decide +kernel
theorem dX1_look_66 : decode cX1_look 66 = .ok (.aload_n 0, 1) := by decide +kernel
theorem dX1_look_67 : decode cX1_look 67 = .ok (.aload_n 1, 1) := by decide +kernel
theorem dX1_look_68 : decode cX1_look 68 = .ok (.iload_n 2, 1) := by decide +kernel
theorem dX1_look_69 : decode cX1_look 69 = .ok (.invokevirtual 49, 3) := by decide +kernel
theorem dX1_look_72 : decode cX1_look 72 = .ok (.aload_n 0, 1) := by decide +kernel
theorem dX1_look_73 : decode cX1_look 73 = .ok (.aload_n 1, 1) := by decide +kernel
theorem dX1_look_74 : decode cX1_look 74 = .ok (.iload_n 2, 1) := by decide +kernel
theorem dX1_look_75 : decode cX1_look 75 = .ok (.invokevirtual 45, 3) := by decide +kernel
theorem dX1_look_78 : decode cX1_look 78 = .ok (.iinc 2 1, 3) := by decide +kernel
theorem dX1_look_81 : decode cX1_look 81 = .ok (.goto (-31), 3) := by decide +kernel
theorem dX1_look_84 : decode cX1_look 84 = .ok (.aload_n 1, 1) := by decide +kernel
theorem dX1_look_85 : decode cX1_look 85 = .ok (.iconst 1, 1) := by decide +kernel
theorem dX1_look_86 : decode cX1_look 86 = .ok (.putfield 31, 3) := by decide +kernel
theorem dX1_look_89 : decode cX1_look 89 = .ok (.return_, 1) := by decide +kernel
theorem dX1_leastRound_0 : decode cX1_leastRound 0 = .ok (.iconst 1, 1) := by decide +kernel
theorem dX1_leastRound_1 : decode cX1_leastRound 1 = .ok (.istore_n 1, 1) := by decide +kernel
theorem dX1_leastRound_2 : decode cX1_leastRound 2 = .ok (.iconst 0, 1) := by decide +kernel
theorem dX1_leastRound_3 : decode cX1_leastRound 3 = .ok (.istore_n 2, 1) := by decide +kernel
theorem dX1_leastRound_4 : decode cX1_leastRound 4 = .ok (.iload_n 2, 1) := by decide +kernel
theorem dX1_leastRound_5 : decode cX1_leastRound 5 = .ok (.aload_n 0, 1) := by decide +kernel
theorem dX1_leastRound_6 : decode cX1_leastRound 6 = .ok (.getfield 52, 3) := by decide +kernel
theorem dX1_leastRound_9 : decode cX1_leastRound 9 = .ok (.if_icmp .ge 56, 3) := by decide +kernel
theorem dX1_leastRound_12 : decode cX1_leastRound 12 = .ok (.aload_n 0, 1) := by decide +kernel
theorem dX1_leastRound_13 : decode cX1_leastRound 13 = .ok (.getfield 55, 3) := by decide +kernel
theorem dX1_leastRound_16 : decode cX1_leastRound 16 = .ok (.iload_n 2, 1) := by decide +kernel
theorem dX1_leastRound_17 : decode cX1_leastRound 17 = .ok (.iaload, 1) := by decide +kernel
theorem dX1_leastRound_18 : decode cX1_leastRound 18 = .ok (.istore_n 3, 1) := by decide +kernel
theorem dX1_leastRound_19 : decode cX1_leastRound 19 = .ok (.iconst 1, 1) := by decide +kernel
theorem dX1_leastRound_20 : decode cX1_leastRound 20 = .ok (.istore 4, 2) := by decide +kernel
theorem dX1_leastRound_22 : decode cX1_leastRound 22 = .ok (.iload_n 3, 1) := by decide +kernel
theorem dX1_leastRound_23 : decode cX1_leastRound 23 = .ok (.ifCond .le 25, 3) := by decide +kernel
theorem dX1_leastRound_26 : decode cX1_leastRound 26 = .ok (.iload 4, 2) := by decide +kernel
theorem dX1_leastRound_28 : decode cX1_leastRound 28 = .ok (.bipush 8, 2) := by decide +kernel
theorem dX1_leastRound_30 : decode cX1_leastRound 30 = .ok (.if_icmp .ge 18, 3) := by decide +kernel
theorem dX1_leastRound_33 : decode cX1_leastRound 33 = .ok (.iload_n 1, 1) := by decide +kernel
theorem dX1_leastRound_34 : decode cX1_leastRound 34 = .ok (.iload 4, 2) := by decide +kernel
theorem dX1_leastRound_36 : decode cX1_leastRound 36 = .ok (.imul, 1) := by decide +kernel
theorem dX1_leastRound_37 : decode cX1_leastRound 37 = .ok (.iload_n 3, 1) := by decide +kernel
theorem dX1_leastRound_38 : decode cX1_leastRound 38 = .ok (.irem, 1) := by decide +kernel
theorem dX1_leastRound_39 : decode cX1_leastRound 39 = .ok (.ifCond .eq 9, 3) := by decide +kernel
theorem dX1_leastRound_42 : decode cX1_leastRound 42 = .ok (.iinc 4 1, 3) := by decide +kernel
theorem dX1_leastRound_45 : decode cX1_leastRound 45 = .ok (.goto (-23), 3) := by decide +kernel
theorem dX1_leastRound_48 : decode cX1_leastRound 48 = .ok (.iload_n 1, 1) := by decide +kernel
theorem dX1_leastRound_49 : decode cX1_leastRound 49 = .ok (.iload 4, 2) := by decide +kernel
theorem dX1_leastRound_51 : decode cX1_leastRound 51 = .ok (.imul, 1) := by decide +kernel
theorem dX1_leastRound_52 : decode cX1_leastRound 52 = .ok (.sipush 840, 3) := by decide +kernel
theorem dX1_leastRound_55 : decode cX1_leastRound 55 = .ok (.invokestatic 58, 3) := by decide +kernel
theorem dX1_leastRound_58 : decode cX1_leastRound 58 = .ok (.istore_n 1, 1) := by decide +kernel
theorem dX1_leastRound_59 : decode cX1_leastRound 59 = .ok (.iinc 2 1, 3) := by decide +kernel
theorem dX1_leastRound_62 : decode cX1_leastRound 62 = .ok (.goto (-58), 3) := by decide +kernel
theorem dX1_leastRound_65 : decode cX1_leastRound 65 = .ok (.iload_n 1, 1) := by decide +kernel
theorem dX1_leastRound_66 : decode cX1_leastRound 66 = .ok (.ireturn, 1) := by decide +kernel
set_option maxRecDepth 20000 in
theorem ggX1_throwAll_J9_floorMod_7cf53 : GoodIn wsX1_throwAll wsJ9_floorMod_7cf53 := goodIn_r _ [6] (by decide +kernel) (by decide +kernel)
set_option maxRecDepth 20000 in
theorem gX1_throwAll_J9_floorMod_7cf53 : GoodIn wsX1_throwAll (va_wsS RX1 64 yJ9_floorMod_7cf53 wsJ9_floorMod_7cf53) := goodIn_app (goodIn_of _ (by decide +kernel)) ggX1_throwAll_J9_floorMod_7cf53
set_option maxRecDepth 20000 in
theorem ggX1_throwAll_X0_heightAt : GoodIn wsX1_throwAll wsX0_heightAt := goodIn_r _ [11, 12, 13, 14, 15, 10, 16, 17, 18, 19, 4, 5, 6, 25, 26, 27, 28, 29, 30, 31, 32, 33, 34, 35, 36, 37, 38, 39, 40] (by decide +kernel) (by decide +kernel)
set_option maxRecDepth 20000 in
theorem gX1_throwAll_X0_heightAt : GoodIn wsX1_throwAll (wsV RX1 67 RX0 yX0_heightAt wsX0_heightAt) := goodIn_app (goodIn_of _ (by decide +kernel)) ggX1_throwAll_X0_heightAt
set_option maxRecDepth 20000 in
theorem ggX1_throwAll_X0_goalAt : GoodIn wsX1_throwAll wsX0_goalAt := goodIn_r _ [23, 24, 13, 14, 15, 10, 16, 17, 18, 19, 4, 5, 6, 25, 26, 27, 28, 29, 30, 31, 32, 33, 34, 35, 36, 37, 38, 39, 40] (by decide +kernel) (by decide +kernel)
set_option maxRecDepth 20000 in
theorem gX1_throwAll_X0_goalAt : GoodIn wsX1_throwAll (wsV RX1 70 RX0 yX0_goalAt wsX0_goalAt) := goodIn_app (goodIn_of _ (by decide +kernel)) ggX1_throwAll_X0_goalAt
theorem dX1_throwAll_0 : decode cX1_throwAll 0 = .ok (.iconst 0, 1) := by decide +kernel
theorem dX1_throwAll_1 : decode cX1_throwAll 1 = .ok (.istore_n 3, 1) := by decide +kernel
theorem dX1_throwAll_2 : decode cX1_throwAll 2 = .ok (.iload_n 3, 1) := by decide +kernel
theorem dX1_throwAll_3 : decode cX1_throwAll 3 = .ok (.aload_n 1, 1) := by decide +kernel
theorem dX1_throwAll_4 : decode cX1_throwAll 4 = .ok (.getfield 52, 3) := by decide +kernel
theorem dX1_throwAll_7 : decode cX1_throwAll 7 = .ok (.if_icmp .ge 26, 3) := by decide +kernel
theorem dX1_throwAll_10 : decode cX1_throwAll 10 = .ok (.aload_n 0, 1) := by decide +kernel
theorem dX1_throwAll_11 : decode cX1_throwAll 11 = .ok (.getfield 11, 3) := by decide +kernel
theorem dX1_throwAll_14 : decode cX1_throwAll 14 = .ok (.iload_n 3, 1) := by decide +kernel
theorem dX1_throwAll_15 : decode cX1_throwAll 15 = .ok (.bipush 10, 2) := by decide +kernel
theorem dX1_throwAll_17 : decode cX1_throwAll 17 = .ok (.imul, 1) := by decide +kernel
theorem dX1_throwAll_18 : decode cX1_throwAll 18 = .ok (.iload_n 2, 1) := by decide +kernel
theorem dX1_throwAll_19 : decode cX1_throwAll 19 = .ok (.bipush 10, 2) := by decide +kernel
theorem dX1_throwAll_21 : decode cX1_throwAll 21 = .ok (.invokestatic 64, 3) := by decide +kernel
theorem dX1_throwAll_24 : decode cX1_throwAll 24 = .ok (.iadd, 1) := by decide +kernel
theorem dX1_throwAll_25 : decode cX1_throwAll 25 = .ok (.iconst 0, 1) := by decide +kernel
theorem dX1_throwAll_26 : decode cX1_throwAll 26 = .ok (.iastore, 1) := by decide +kernel
theorem dX1_throwAll_27 : decode cX1_throwAll 27 = .ok (.iinc 3 1, 3) := by decide +kernel
theorem dX1_throwAll_30 : decode cX1_throwAll 30 = .ok (.goto (-28), 3) := by decide +kernel
theorem dX1_throwAll_33 : decode cX1_throwAll 33 = .ok (.iconst 0, 1) := by decide +kernel
theorem dX1_throwAll_34 : decode cX1_throwAll 34 = .ok (.istore_n 3, 1) := by decide +kernel
theorem dX1_throwAll_35 : decode cX1_throwAll 35 = .ok (.iload_n 3, 1) := by decide +kernel
theorem dX1_throwAll_36 : decode cX1_throwAll 36 = .ok (.aload_n 1, 1) := by decide +kernel
theorem dX1_throwAll_37 : decode cX1_throwAll 37 = .ok (.getfield 52, 3) := by decide +kernel
theorem dX1_throwAll_40 : decode cX1_throwAll 40 = .ok (.if_icmp .ge 50, 3) := by decide +kernel
theorem dX1_throwAll_43 : decode cX1_throwAll 43 = .ok (.aload_n 1, 1) := by decide +kernel
theorem dX1_throwAll_44 : decode cX1_throwAll 44 = .ok (.iload_n 3, 1) := by decide +kernel
theorem dX1_throwAll_45 : decode cX1_throwAll 45 = .ok (.iload_n 2, 1) := by decide +kernel
theorem dX1_throwAll_46 : decode cX1_throwAll 46 = .ok (.invokevirtual 67, 3) := by decide +kernel
theorem dX1_throwAll_49 : decode cX1_throwAll 49 = .ok (.istore 4, 2) := by decide +kernel
theorem dX1_throwAll_51 : decode cX1_throwAll 51 = .ok (.iload 4, 2) := by decide +kernel
theorem dX1_throwAll_53 : decode cX1_throwAll 53 = .ok (.ifCond .le 31, 3) := by decide +kernel
theorem dX1_throwAll_56 : decode cX1_throwAll 56 = .ok (.aload_n 0, 1) := by decide +kernel
theorem dX1_throwAll_57 : decode cX1_throwAll 57 = .ok (.getfield 11, 3) := by decide +kernel
theorem dX1_throwAll_60 : decode cX1_throwAll 60 = .ok (.aload_n 1, 1) := by decide +kernel
theorem dX1_throwAll_61 : decode cX1_throwAll 61 = .ok (.iload_n 3, 1) := by decide +kernel
theorem dX1_throwAll_62 : decode cX1_throwAll 62 = .ok (.iload_n 2, 1) := by decide +kernel
theorem dX1_throwAll_63 : decode cX1_throwAll 63 = .ok (.invokevirtual 70, 3) := by decide +kernel
theorem dX1_throwAll_66 : decode cX1_throwAll 66 = .ok (.bipush 10, 2) := by decide +kernel
theorem dX1_throwAll_68 : decode cX1_throwAll 68 = .ok (.imul, 1) := by decide +kernel
theorem dX1_throwAll_69 : decode cX1_throwAll 69 = .ok (.iload_n 2, 1) := by decide +kernel
theorem dX1_throwAll_70 : decode cX1_throwAll 70 = .ok (.iload 4, 2) := by decide +kernel
theorem dX1_throwAll_72 : decode cX1_throwAll 72 = .ok (.iadd, 1) := by decide +kernel
theorem dX1_throwAll_73 : decode cX1_throwAll 73 = .ok (.bipush 10, 2) := by decide +kernel
theorem dX1_throwAll_75 : decode cX1_throwAll 75 = .ok (.invokestatic 64, 3) := by decide +kernel
theorem dX1_throwAll_78 : decode cX1_throwAll 78 = .ok (.iadd, 1) := by decide +kernel
theorem dX1_throwAll_79 : decode cX1_throwAll 79 = .ok (.dup2, 1) := by decide +kernel
theorem dX1_throwAll_80 : decode cX1_throwAll 80 = .ok (.iaload, 1) := by decide +kernel
theorem dX1_throwAll_81 : decode cX1_throwAll 81 = .ok (.iconst 1, 1) := by decide +kernel
theorem dX1_throwAll_82 : decode cX1_throwAll 82 = .ok (.iadd, 1) := by decide +kernel
theorem dX1_throwAll_83 : decode cX1_throwAll 83 = .ok (.iastore, 1) := by decide +kernel
theorem dX1_throwAll_84 : decode cX1_throwAll 84 = .ok (.iinc 3 1, 3) := by decide +kernel
theorem dX1_throwAll_87 : decode cX1_throwAll 87 = .ok (.goto (-52), 3) := by decide +kernel
theorem dX1_throwAll_90 : decode cX1_throwAll 90 = .ok (.return_, 1) := by decide +kernel
set_option maxRecDepth 20000 in
theorem ggX1_findClash_J9_floorMod_7cf53 : GoodIn wsX1_findClash wsJ9_floorMod_7cf53 := goodIn_r _ [9] (by decide +kernel) (by decide +kernel)
set_option maxRecDepth 20000 in
theorem gX1_findClash_J9_floorMod_7cf53 : GoodIn wsX1_findClash (va_wsS RX1 64 yJ9_floorMod_7cf53 wsJ9_floorMod_7cf53) := goodIn_app (goodIn_of _ (by decide +kernel)) ggX1_findClash_J9_floorMod_7cf53
set_option maxRecDepth 20000 in
theorem ggX1_findClash_X0_heightAt : GoodIn wsX1_findClash wsX0_heightAt := goodIn_r _ [14, 15, 16, 17, 18, 13, 19, 20, 21, 22, 7, 8, 9, 23, 24, 25, 26, 27, 28, 29, 30, 31, 32, 33, 34, 35, 36, 37, 38] (by decide +kernel) (by decide +kernel)
set_option maxRecDepth 20000 in
theorem gX1_findClash_X0_heightAt : GoodIn wsX1_findClash (wsV RX1 67 RX0 yX0_heightAt wsX0_heightAt) := goodIn_app (goodIn_of _ (by decide +kernel)) ggX1_findClash_X0_heightAt
theorem dX1_findClash_0 : decode cX1_findClash 0 = .ok (.iconst 0, 1) := by decide +kernel
theorem dX1_findClash_1 : decode cX1_findClash 1 = .ok (.istore_n 3, 1) := by decide +kernel
theorem dX1_findClash_2 : decode cX1_findClash 2 = .ok (.iload_n 3, 1) := by decide +kernel
theorem dX1_findClash_3 : decode cX1_findClash 3 = .ok (.aload_n 1, 1) := by decide +kernel
theorem dX1_findClash_4 : decode cX1_findClash 4 = .ok (.getfield 52, 3) := by decide +kernel
theorem dX1_findClash_7 : decode cX1_findClash 7 = .ok (.if_icmp .ge 70, 3) := by decide +kernel
theorem dX1_findClash_10 : decode cX1_findClash 10 = .ok (.aload_n 1, 1) := by decide +kernel
theorem dX1_findClash_11 : decode cX1_findClash 11 = .ok (.getfield 28, 3) := by decide +kernel
theorem dX1_findClash_14 : decode cX1_findClash 14 = .ok (.iconst (-1), 1) := by decide +kernel
theorem dX1_findClash_15 : decode cX1_findClash 15 = .ok (.if_icmp .ne 62, 3) := by decide +kernel
theorem dX1_findClash_18 : decode cX1_findClash 18 = .ok (.aload_n 0, 1) := by decide +kernel
theorem dX1_findClash_19 : decode cX1_findClash 19 = .ok (.getfield 11, 3) := by decide +kernel
theorem dX1_findClash_22 : decode cX1_findClash 22 = .ok (.iload_n 3, 1) := by decide +kernel
theorem dX1_findClash_23 : decode cX1_findClash 23 = .ok (.bipush 10, 2) := by decide +kernel
theorem dX1_findClash_25 : decode cX1_findClash 25 = .ok (.imul, 1) := by decide +kernel
theorem dX1_findClash_26 : decode cX1_findClash 26 = .ok (.iload_n 2, 1) := by decide +kernel
theorem dX1_findClash_27 : decode cX1_findClash 27 = .ok (.bipush 10, 2) := by decide +kernel
theorem dX1_findClash_29 : decode cX1_findClash 29 = .ok (.invokestatic 64, 3) := by decide +kernel
theorem dX1_findClash_32 : decode cX1_findClash 32 = .ok (.iadd, 1) := by decide +kernel
theorem dX1_findClash_33 : decode cX1_findClash 33 = .ok (.iaload, 1) := by decide +kernel
theorem dX1_findClash_34 : decode cX1_findClash 34 = .ok (.istore 4, 2) := by decide +kernel
theorem dX1_findClash_36 : decode cX1_findClash 36 = .ok (.iload 4, 2) := by decide +kernel
theorem dX1_findClash_38 : decode cX1_findClash 38 = .ok (.aload_n 1, 1) := by decide +kernel
theorem dX1_findClash_39 : decode cX1_findClash 39 = .ok (.iload_n 3, 1) := by decide +kernel
theorem dX1_findClash_40 : decode cX1_findClash 40 = .ok (.iload_n 2, 1) := by decide +kernel
theorem dX1_findClash_41 : decode cX1_findClash 41 = .ok (.invokevirtual 67, 3) := by decide +kernel
theorem dX1_findClash_44 : decode cX1_findClash 44 = .ok (.ifCond .le 7, 3) := by decide +kernel
theorem dX1_findClash_47 : decode cX1_findClash 47 = .ok (.iconst 1, 1) := by decide +kernel
theorem dX1_findClash_48 : decode cX1_findClash 48 = .ok (.goto 4, 3) := by decide +kernel
theorem dX1_findClash_51 : decode cX1_findClash 51 = .ok (.iconst 0, 1) := by decide +kernel
theorem dX1_findClash_52 : decode cX1_findClash 52 = .ok (.if_icmp .eq 19, 3) := by decide +kernel
theorem dX1_findClash_55 : decode cX1_findClash 55 = .ok (.aload_n 1, 1) := by decide +kernel
theorem dX1_findClash_56 : decode cX1_findClash 56 = .ok (.iload_n 2, 1) := by decide +kernel
theorem dX1_findClash_57 : decode cX1_findClash 57 = .ok (.putfield 28, 3) := by decide +kernel
theorem dX1_findClash_60 : decode cX1_findClash 60 = .ok (.aload_n 1, 1) := by decide +kernel
theorem dX1_findClash_61 : decode cX1_findClash 61 = .ok (.iload_n 3, 1) := by decide +kernel
theorem dX1_findClash_62 : decode cX1_findClash 62 = .ok (.putfield 73, 3) := by decide +kernel
theorem dX1_findClash_65 : decode cX1_findClash 65 = .ok (.aload_n 1, 1) := by decide +kernel
theorem dX1_findClash_66 : decode cX1_findClash 66 = .ok (.iload 4, 2) := by decide +kernel
theorem dX1_findClash_68 : decode cX1_findClash 68 = .ok (.putfield 76, 3) := by decide +kernel
theorem dX1_findClash_71 : decode cX1_findClash 71 = .ok (.iinc 3 1, 3) := by decide +kernel
theorem dX1_findClash_74 : decode cX1_findClash 74 = .ok (.goto (-72), 3) := by decide +kernel
theorem dX1_findClash_77 : decode cX1_findClash 77 = .ok (.return_, 1) := by decide +kernel
set_option maxRecDepth 20000 in
theorem ggX1_ballsOf_X1_aloftBehind : GoodIn wsX1_ballsOf wsX1_aloftBehind := goodIn_r _ [5, 6, 7, 8, 9, 10, 11, 12, 13, 14, 15, 16, 17, 18, 19, 20, 21, 22, 23, 24, 25, 26, 27, 28, 29, 30, 31, 32, 33, 34, 35, 36, 37, 38] (by decide +kernel) (by decide +kernel)
set_option maxRecDepth 20000 in
theorem gX1_ballsOf_X1_aloftBehind : GoodIn wsX1_ballsOf (wsV RX1 79 RX1 yX1_aloftBehind wsX1_aloftBehind) := goodIn_app (goodIn_of _ (by decide +kernel)) ggX1_ballsOf_X1_aloftBehind
theorem dX1_ballsOf_0 : decode cX1_ballsOf 0 = .ok (.aload_n 0, 1) := by decide +kernel
theorem dX1_ballsOf_1 : decode cX1_ballsOf 1 = .ok (.aload_n 1, 1) := by decide +kernel
theorem dX1_ballsOf_2 : decode cX1_ballsOf 2 = .ok (.iconst 0, 1) := by decide +kernel
theorem dX1_ballsOf_3 : decode cX1_ballsOf 3 = .ok (.invokevirtual 79, 3) := by decide +kernel
theorem dX1_ballsOf_6 : decode cX1_ballsOf 6 = .ok (.ireturn, 1) := by decide +kernel
set_option maxRecDepth 20000 in
theorem ggX1_aloftBehind_X0_heightAt : GoodIn wsX1_aloftBehind wsX0_heightAt := goodIn_r _ [6, 7, 8, 9, 10, 5, 11, 12, 13, 14, 15, 16, 17, 18, 19, 20, 21, 22, 23, 24, 25, 26, 27, 28, 29, 30, 31, 32, 33] (by decide +kernel) (by decide +kernel)
set_option maxRecDepth 20000 in
theorem gX1_aloftBehind_X0_heightAt : GoodIn wsX1_aloftBehind (wsV RX1 67 RX0 yX0_heightAt wsX0_heightAt) := goodIn_app (goodIn_of _ (by decide +kernel)) ggX1_aloftBehind_X0_heightAt
theorem dX1_aloftBehind_0 : decode cX1_aloftBehind 0 = .ok (.iconst 0, 1) := by decide +kernel
theorem dX1_aloftBehind_1 : decode cX1_aloftBehind 1 = .ok (.istore_n 3, 1) := by decide +kernel
theorem dX1_aloftBehind_2 : decode cX1_aloftBehind 2 = .ok (.iconst 0, 1) := by decide +kernel
theorem dX1_aloftBehind_3 : decode cX1_aloftBehind 3 = .ok (.istore 4, 2) := by decide +kernel
theorem dX1_aloftBehind_5 : decode cX1_aloftBehind 5 = .ok (.iload 4, 2) := by decide +kernel
theorem dX1_aloftBehind_7 : decode cX1_aloftBehind 7 = .ok (.aload_n 1, 1) := by decide +kernel
theorem dX1_aloftBehind_8 : decode cX1_aloftBehind 8 = .ok (.getfield 52, 3) := by decide +kernel
theorem dX1_aloftBehind_11 : decode cX1_aloftBehind 11 = .ok (.if_icmp .ge 43, 3) := by decide +kernel
theorem dX1_aloftBehind_14 : decode cX1_aloftBehind 14 = .ok (.iconst 0, 1) := by decide +kernel
theorem dX1_aloftBehind_15 : decode cX1_aloftBehind 15 = .ok (.istore 5, 2) := by decide +kernel
theorem dX1_aloftBehind_17 : decode cX1_aloftBehind 17 = .ok (.iload 5, 2) := by decide +kernel
theorem dX1_aloftBehind_19 : decode cX1_aloftBehind 19 = .ok (.bipush 9, 2) := by decide +kernel
theorem dX1_aloftBehind_21 : decode cX1_aloftBehind 21 = .ok (.if_icmp .ge 27, 3) := by decide +kernel
theorem dX1_aloftBehind_24 : decode cX1_aloftBehind 24 = .ok (.aload_n 1, 1) := by decide +kernel
theorem dX1_aloftBehind_25 : decode cX1_aloftBehind 25 = .ok (.iload 4, 2) := by decide +kernel
theorem dX1_aloftBehind_27 : decode cX1_aloftBehind 27 = .ok (.iload_n 2, 1) := by decide +kernel
theorem dX1_aloftBehind_28 : decode cX1_aloftBehind 28 = .ok (.iload 5, 2) := by decide +kernel
theorem dX1_aloftBehind_30 : decode cX1_aloftBehind 30 = .ok (.isub, 1) := by decide +kernel
theorem dX1_aloftBehind_31 : decode cX1_aloftBehind 31 = .ok (.invokevirtual 67, 3) := by decide +kernel
theorem dX1_aloftBehind_34 : decode cX1_aloftBehind 34 = .ok (.iload 5, 2) := by decide +kernel
theorem dX1_aloftBehind_36 : decode cX1_aloftBehind 36 = .ok (.if_icmp .le 6, 3) := by decide +kernel
theorem dX1_aloftBehind_39 : decode cX1_aloftBehind 39 = .ok (.iinc 3 1, 3) := by decide +kernel
theorem dX1_aloftBehind_42 : decode cX1_aloftBehind 42 = .ok (.iinc 5 1, 3) := by decide +kernel
theorem dX1_aloftBehind_45 : decode cX1_aloftBehind 45 = .ok (.goto (-28), 3) := by decide +kernel
theorem dX1_aloftBehind_48 : decode cX1_aloftBehind 48 = .ok (.iinc 4 1, 3) := by decide +kernel
theorem dX1_aloftBehind_51 : decode cX1_aloftBehind 51 = .ok (.goto (-46), 3) := by decide +kernel
theorem dX1_aloftBehind_54 : decode cX1_aloftBehind 54 = .ok (.iload_n 3, 1) := by decide +kernel
theorem dX1_aloftBehind_55 : decode cX1_aloftBehind 55 = .ok (.ireturn, 1) := by decide +kernel
set_option maxRecDepth 20000 in
theorem ggX1_sourceOf_X0_heightAt : GoodIn wsX1_sourceOf wsX0_heightAt := goodIn_r _ [6, 7, 8, 9, 10, 5, 11, 12, 13, 14, 15, 16, 17, 23, 24, 25, 26, 27, 28, 29, 30, 31, 32, 33, 34, 35, 36, 37, 38] (by decide +kernel) (by decide +kernel)
set_option maxRecDepth 20000 in
theorem gX1_sourceOf_X0_heightAt : GoodIn wsX1_sourceOf (wsV RX1 67 RX0 yX0_heightAt wsX0_heightAt) := goodIn_app (goodIn_of _ (by decide +kernel)) ggX1_sourceOf_X0_heightAt
set_option maxRecDepth 20000 in
theorem ggX1_sourceOf_X0_goalAt : GoodIn wsX1_sourceOf wsX0_goalAt := goodIn_r _ [21, 22, 8, 9, 10, 5, 11, 12, 13, 14, 15, 16, 17, 23, 24, 25, 26, 27, 28, 29, 30, 31, 32, 33, 34, 35, 36, 37, 38] (by decide +kernel) (by decide +kernel)
set_option maxRecDepth 20000 in
theorem gX1_sourceOf_X0_goalAt : GoodIn wsX1_sourceOf (wsV RX1 70 RX0 yX0_goalAt wsX0_goalAt) := goodIn_app (goodIn_of _ (by decide +kernel)) ggX1_sourceOf_X0_goalAt
theorem dX1_sourceOf_0 : decode cX1_sourceOf 0 = .ok (.iconst 1, 1) := by decide +kernel
theorem dX1_sourceOf_1 : decode cX1_sourceOf 1 = .ok (.istore 4, 2) := by decide +kernel
theorem dX1_sourceOf_3 : decode cX1_sourceOf 3 = .ok (.iload 4, 2) := by decide +kernel
theorem dX1_sourceOf_5 : decode cX1_sourceOf 5 = .ok (.bipush 9, 2) := by decide +kernel
theorem dX1_sourceOf_7 : decode cX1_sourceOf 7 = .ok (.if_icmp .gt 65, 3) := by decide +kernel
theorem dX1_sourceOf_10 : decode cX1_sourceOf 10 = .ok (.iconst 0, 1) := by decide +kernel
theorem dX1_sourceOf_11 : decode cX1_sourceOf 11 = .ok (.istore 5, 2) := by decide +kernel
theorem dX1_sourceOf_13 : decode cX1_sourceOf 13 = .ok (.iload 5, 2) := by decide +kernel
theorem dX1_sourceOf_15 : decode cX1_sourceOf 15 = .ok (.aload_n 1, 1) := by decide +kernel
theorem dX1_sourceOf_16 : decode cX1_sourceOf 16 = .ok (.getfield 52, 3) := by decide +kernel
theorem dX1_sourceOf_19 : decode cX1_sourceOf 19 = .ok (.if_icmp .ge 47, 3) := by decide +kernel
theorem dX1_sourceOf_22 : decode cX1_sourceOf 22 = .ok (.aload_n 1, 1) := by decide +kernel
theorem dX1_sourceOf_23 : decode cX1_sourceOf 23 = .ok (.iload 5, 2) := by decide +kernel
theorem dX1_sourceOf_25 : decode cX1_sourceOf 25 = .ok (.iload_n 3, 1) := by decide +kernel
theorem dX1_sourceOf_26 : decode cX1_sourceOf 26 = .ok (.iload 4, 2) := by decide +kernel
theorem dX1_sourceOf_28 : decode cX1_sourceOf 28 = .ok (.isub, 1) := by decide +kernel
theorem dX1_sourceOf_29 : decode cX1_sourceOf 29 = .ok (.invokevirtual 67, 3) := by decide +kernel
theorem dX1_sourceOf_32 : decode cX1_sourceOf 32 = .ok (.iload 4, 2) := by decide +kernel
theorem dX1_sourceOf_34 : decode cX1_sourceOf 34 = .ok (.if_icmp .ne 26, 3) := by decide +kernel
theorem dX1_sourceOf_37 : decode cX1_sourceOf 37 = .ok (.aload_n 1, 1) := by decide +kernel
theorem dX1_sourceOf_38 : decode cX1_sourceOf 38 = .ok (.iload 5, 2) := by decide +kernel
theorem dX1_sourceOf_40 : decode cX1_sourceOf 40 = .ok (.iload_n 3, 1) := by decide +kernel
theorem dX1_sourceOf_41 : decode cX1_sourceOf 41 = .ok (.iload 4, 2) := by decide +kernel
theorem dX1_sourceOf_43 : decode cX1_sourceOf 43 = .ok (.isub, 1) := by decide +kernel
theorem dX1_sourceOf_44 : decode cX1_sourceOf 44 = .ok (.invokevirtual 70, 3) := by decide +kernel
theorem dX1_sourceOf_47 : decode cX1_sourceOf 47 = .ok (.iload_n 2, 1) := by decide +kernel
theorem dX1_sourceOf_48 : decode cX1_sourceOf 48 = .ok (.if_icmp .ne 12, 3) := by decide +kernel
theorem dX1_sourceOf_51 : decode cX1_sourceOf 51 = .ok (.bipush 10, 2) := by decide +kernel
theorem dX1_sourceOf_53 : decode cX1_sourceOf 53 = .ok (.iload 4, 2) := by decide +kernel
theorem dX1_sourceOf_55 : decode cX1_sourceOf 55 = .ok (.imul, 1) := by decide +kernel
theorem dX1_sourceOf_56 : decode cX1_sourceOf 56 = .ok (.iload 5, 2) := by decide +kernel
theorem dX1_sourceOf_58 : decode cX1_sourceOf 58 = .ok (.iadd, 1) := by decide +kernel
theorem dX1_sourceOf_59 : decode cX1_sourceOf 59 = .ok (.ireturn, 1) := by decide +kernel
theorem dX1_sourceOf_60 : decode cX1_sourceOf 60 = .ok (.iinc 5 1, 3) := by decide +kernel
theorem dX1_sourceOf_63 : decode cX1_sourceOf 63 = .ok (.goto (-50), 3) := by decide +kernel
theorem dX1_sourceOf_66 : decode cX1_sourceOf 66 = .ok (.iinc 4 1, 3) := by decide +kernel
theorem dX1_sourceOf_69 : decode cX1_sourceOf 69 = .ok (.goto (-66), 3) := by decide +kernel
theorem dX1_sourceOf_72 : decode cX1_sourceOf 72 = .ok (.iconst (-1), 1) := by decide +kernel
theorem dX1_sourceOf_73 : decode cX1_sourceOf 73 = .ok (.ireturn, 1) := by decide +kernel
set_option maxRecDepth 20000 in
theorem ggX1_isThrownFrom_X1_look : GoodIn wsX1_isThrownFrom wsX1_look := goodIn_r _ [6, 7, 8, 1, 9, 10, 11, 5, 12, 13, 14, 15, 16, 17, 18, 19, 20, 21, 22, 23, 24, 25, 26, 27, 28, 29, 30, 31, 32, 33, 34, 35, 36, 37, 38, 39, 40, 41, 42, 43, 44, 45, 46, 47, 48, 49, 50, 51, 52, 53, 54, 55, 56, 57, 58, 59, 60, 61, 62, 63, 64, 65, 66, 67, 68, 69, 70, 71, 72, 73, 74, 75, 76, 77, 78] (by decide +kernel) (by decide +kernel)
set_option maxRecDepth 20000 in
theorem gX1_isThrownFrom_X1_look : GoodIn wsX1_isThrownFrom (wsV RX1 18 RX1 yX1_look wsX1_look) := goodIn_app (goodIn_of _ (by decide +kernel)) ggX1_isThrownFrom_X1_look
set_option maxRecDepth 20000 in
theorem ggX1_isThrownFrom_X0_heightAt : GoodIn wsX1_isThrownFrom wsX0_heightAt := goodIn_r _ [35, 36, 37, 38, 39, 34, 40, 41, 42, 43, 28, 29, 30, 55, 56, 57, 58, 59, 60, 61, 62, 63, 64, 65, 66, 67, 68, 69, 70] (by decide +kernel) (by decide +kernel)
set_option maxRecDepth 20000 in
theorem gX1_isThrownFrom_X0_heightAt : GoodIn wsX1_isThrownFrom (wsV RX1 67 RX0 yX0_heightAt wsX0_heightAt) := goodIn_app (goodIn_of _ (by decide +kernel)) ggX1_isThrownFrom_X0_heightAt
theorem dX1_isThrownFrom_0 : decode cX1_isThrownFrom 0 = .ok (.aload_n 0, 1) := by decide +kernel
theorem dX1_isThrownFrom_1 : decode cX1_isThrownFrom 1 = .ok (.aload_n 1, 1) := by decide +kernel
theorem dX1_isThrownFrom_2 : decode cX1_isThrownFrom 2 = .ok (.invokevirtual 18, 3) := by decide +kernel
theorem dX1_isThrownFrom_5 : decode cX1_isThrownFrom 5 = .ok (.aload_n 1, 1) := by decide +kernel
theorem dX1_isThrownFrom_6 : decode cX1_isThrownFrom 6 = .ok (.getfield 28, 3) := by decide +kernel
theorem dX1_isThrownFrom_9 : decode cX1_isThrownFrom 9 = .ok (.iconst (-1), 1) := by decide +kernel
theorem dX1_isThrownFrom_10 : decode cX1_isThrownFrom 10 = .ok (.if_icmp .ne 16, 3) := by decide +kernel
theorem dX1_isThrownFrom_13 : decode cX1_isThrownFrom 13 = .ok (.aload_n 1, 1) := by decide +kernel
theorem dX1_isThrownFrom_14 : decode cX1_isThrownFrom 14 = .ok (.iload_n 2, 1) := by decide +kernel
theorem dX1_isThrownFrom_15 : decode cX1_isThrownFrom 15 = .ok (.iload_n 3, 1) := by decide +kernel
theorem dX1_isThrownFrom_16 : decode cX1_isThrownFrom 16 = .ok (.invokevirtual 67, 3) := by decide +kernel
theorem dX1_isThrownFrom_19 : decode cX1_isThrownFrom 19 = .ok (.ifCond .le 7, 3) := by decide +kernel
theorem dX1_isThrownFrom_22 : decode cX1_isThrownFrom 22 = .ok (.iconst 1, 1) := by decide +kernel
theorem dX1_isThrownFrom_23 : decode cX1_isThrownFrom 23 = .ok (.goto 4, 3) := by decide +kernel
theorem dX1_isThrownFrom_26 : decode cX1_isThrownFrom 26 = .ok (.iconst 0, 1) := by decide +kernel
theorem dX1_isThrownFrom_27 : decode cX1_isThrownFrom 27 = .ok (.ireturn, 1) := by decide +kernel
theorem dX1_begin_0 : decode cX1_begin 0 = .ok (.aload_n 0, 1) := by decide +kernel
theorem dX1_begin_1 : decode cX1_begin 1 = .ok (.iload_n 1, 1) := by decide +kernel
theorem dX1_begin_2 : decode cX1_begin 2 = .ok (.putfield 83, 3) := by decide +kernel
theorem dX1_begin_5 : decode cX1_begin 5 = .ok (.aload_n 0, 1) := by decide +kernel
theorem dX1_begin_6 : decode cX1_begin 6 = .ok (.iload_n 2, 1) := by decide +kernel
theorem dX1_begin_7 : decode cX1_begin 7 = .ok (.putfield 86, 3) := by decide +kernel
theorem dX1_begin_10 : decode cX1_begin 10 = .ok (.return_, 1) := by decide +kernel
set_option maxRecDepth 20000 in
theorem ggX1_step_X0_heightAt : GoodIn wsX1_step wsX0_heightAt := goodIn_r _ [7, 8, 9, 10, 11, 6, 12, 13, 14, 15, 16, 17, 18, 32, 33, 34, 35, 36, 37, 38, 39, 40, 41, 42, 43, 44, 45, 46, 47] (by decide +kernel) (by decide +kernel)
set_option maxRecDepth 20000 in
theorem gX1_step_X0_heightAt : GoodIn wsX1_step (wsV RX1 67 RX0 yX0_heightAt wsX0_heightAt) := goodIn_app (goodIn_of _ (by decide +kernel)) ggX1_step_X0_heightAt
set_option maxRecDepth 20000 in
theorem ggX1_step_X0_goalAt : GoodIn wsX1_step wsX0_goalAt := goodIn_r _ [22, 23, 9, 10, 11, 6, 12, 13, 14, 15, 16, 17, 18, 32, 33, 34, 35, 36, 37, 38, 39, 40, 41, 42, 43, 44, 45, 46, 47] (by decide +kernel) (by decide +kernel)
set_option maxRecDepth 20000 in
theorem gX1_step_X0_goalAt : GoodIn wsX1_step (wsV RX1 70 RX0 yX0_goalAt wsX0_goalAt) := goodIn_app (goodIn_of _ (by decide +kernel)) ggX1_step_X0_goalAt
theorem dX1_step_0 : decode cX1_step 0 = .ok (.aload_n 1, 1) := by decide +kernel
theorem dX1_step_1 : decode cX1_step 1 = .ok (.aload_n 0, 1) := by decide +kernel
theorem dX1_step_2 : decode cX1_step 2 = .ok (.getfield 83, 3) := by decide +kernel
theorem dX1_step_5 : decode cX1_step 5 = .ok (.aload_n 0, 1) := by decide +kernel
theorem dX1_step_6 : decode cX1_step 6 = .ok (.getfield 86, 3) := by decide +kernel
theorem dX1_step_9 : decode cX1_step 9 = .ok (.invokevirtual 67, 3) := by decide +kernel
theorem dX1_step_12 : decode cX1_step 12 = .ok (.istore_n 2, 1) := by decide +kernel
theorem dX1_step_13 : decode cX1_step 13 = .ok (.aload_n 0, 1) := by decide +kernel
theorem dX1_step_14 : decode cX1_step 14 = .ok (.aload_n 1, 1) := by decide +kernel
theorem dX1_step_15 : decode cX1_step 15 = .ok (.aload_n 0, 1) := by decide +kernel
theorem dX1_step_16 : decode cX1_step 16 = .ok (.getfield 83, 3) := by decide +kernel
theorem dX1_step_19 : decode cX1_step 19 = .ok (.aload_n 0, 1) := by decide +kernel
theorem dX1_step_20 : decode cX1_step 20 = .ok (.getfield 86, 3) := by decide +kernel
theorem dX1_step_23 : decode cX1_step 23 = .ok (.invokevirtual 70, 3) := by decide +kernel
theorem dX1_step_26 : decode cX1_step 26 = .ok (.putfield 83, 3) := by decide +kernel
theorem dX1_step_29 : decode cX1_step 29 = .ok (.aload_n 0, 1) := by decide +kernel
theorem dX1_step_30 : decode cX1_step 30 = .ok (.dup, 1) := by decide +kernel
theorem dX1_step_31 : decode cX1_step 31 = .ok (.getfield 86, 3) := by decide +kernel
theorem dX1_step_34 : decode cX1_step 34 = .ok (.iload_n 2, 1) := by decide +kernel
theorem dX1_step_35 : decode cX1_step 35 = .ok (.iadd, 1) := by decide +kernel
theorem dX1_step_36 : decode cX1_step 36 = .ok (.putfield 86, 3) := by decide +kernel
theorem dX1_step_39 : decode cX1_step 39 = .ok (.return_, 1) := by decide +kernel
theorem dX1_isRound_0 : decode cX1_isRound 0 = .ok (.aload_n 0, 1) := by decide +kernel
theorem dX1_isRound_1 : decode cX1_isRound 1 = .ok (.getfield 83, 3) := by decide +kernel
theorem dX1_isRound_4 : decode cX1_isRound 4 = .ok (.iload_n 2, 1) := by decide +kernel
theorem dX1_isRound_5 : decode cX1_isRound 5 = .ok (.if_icmp .ne 28, 3) := by decide +kernel
theorem dX1_isRound_8 : decode cX1_isRound 8 = .ok (.aload_n 1, 1) := by decide +kernel
theorem dX1_isRound_9 : decode cX1_isRound 9 = .ok (.getfield 22, 3) := by decide +kernel
theorem dX1_isRound_12 : decode cX1_isRound 12 = .ok (.ifCond .le 21, 3) := by decide +kernel
theorem dX1_isRound_15 : decode cX1_isRound 15 = .ok (.aload_n 0, 1) := by decide +kernel
theorem dX1_isRound_16 : decode cX1_isRound 16 = .ok (.getfield 86, 3) := by decide +kernel
theorem dX1_isRound_19 : decode cX1_isRound 19 = .ok (.iload_n 3, 1) := by decide +kernel
theorem dX1_isRound_20 : decode cX1_isRound 20 = .ok (.isub, 1) := by decide +kernel
theorem dX1_isRound_21 : decode cX1_isRound 21 = .ok (.aload_n 1, 1) := by decide +kernel
theorem dX1_isRound_22 : decode cX1_isRound 22 = .ok (.getfield 22, 3) := by decide +kernel
theorem dX1_isRound_25 : decode cX1_isRound 25 = .ok (.irem, 1) := by decide +kernel
theorem dX1_isRound_26 : decode cX1_isRound 26 = .ok (.ifCond .ne 7, 3) := by decide +kernel
theorem dX1_isRound_29 : decode cX1_isRound 29 = .ok (.iconst 1, 1) := by decide +kernel
theorem dX1_isRound_30 : decode cX1_isRound 30 = .ok (.goto 4, 3) := by decide +kernel
theorem dX1_isRound_33 : decode cX1_isRound 33 = .ok (.iconst 0, 1) := by decide +kernel
theorem dX1_isRound_34 : decode cX1_isRound 34 = .ok (.ireturn, 1) := by decide +kernel
set_option maxRecDepth 20000 in
theorem ggX1_follow_X1_begin : GoodIn wsX1_follow wsX1_begin := goodIn_r _ [5, 6, 7, 33, 34, 35, 36, 37, 38, 39, 40] (by decide +kernel) (by decide +kernel)
set_option maxRecDepth 20000 in
theorem gX1_follow_X1_begin : GoodIn wsX1_follow (wsV RX1 89 RX1 yX1_begin wsX1_begin) := goodIn_app (goodIn_of _ (by decide +kernel)) ggX1_follow_X1_begin
set_option maxRecDepth 20000 in
theorem ggX1_follow_X1_step : GoodIn wsX1_follow wsX1_step := goodIn_r _ [11, 6, 7, 12, 13, 14, 15, 16, 17, 18, 19, 20, 21, 22, 23, 24, 25, 26, 27, 28, 29, 30, 31, 32, 33, 34, 35, 36, 37, 38, 39, 40, 41, 42, 43, 44, 45, 46, 47, 48, 49, 50, 51, 52, 53, 54, 55, 56] (by decide +kernel) (by decide +kernel)
set_option maxRecDepth 20000 in
theorem gX1_follow_X1_step : GoodIn wsX1_follow (wsV RX1 93 RX1 yX1_step wsX1_step) := goodIn_app (goodIn_of _ (by decide +kernel)) ggX1_follow_X1_step
theorem dX1_follow_0 : decode cX1_follow 0 = .ok (.aload_n 0, 1) := by decide +kernel
theorem dX1_follow_1 : decode cX1_follow 1 = .ok (.iload_n 2, 1) := by decide +kernel
theorem dX1_follow_2 : decode cX1_follow 2 = .ok (.iload_n 3, 1) := by decide +kernel
theorem dX1_follow_3 : decode cX1_follow 3 = .ok (.invokevirtual 89, 3) := by decide +kernel
theorem dX1_follow_6 : decode cX1_follow 6 = .ok (.iconst 0, 1) := by decide +kernel
theorem dX1_follow_7 : decode cX1_follow 7 = .ok (.istore 5, 2) := by decide +kernel
theorem dX1_follow_9 : decode cX1_follow 9 = .ok (.iload 5, 2) := by decide +kernel
theorem dX1_follow_11 : decode cX1_follow 11 = .ok (.iload 4, 2) := by decide +kernel
theorem dX1_follow_13 : decode cX1_follow 13 = .ok (.if_icmp .ge 14, 3) := by decide +kernel
theorem dX1_follow_16 : decode cX1_follow 16 = .ok (.aload_n 0, 1) := by decide +kernel
theorem dX1_follow_17 : decode cX1_follow 17 = .ok (.aload_n 1, 1) := by decide +kernel
theorem dX1_follow_18 : decode cX1_follow 18 = .ok (.invokevirtual 93, 3) := by decide +kernel
theorem dX1_follow_21 : decode cX1_follow 21 = .ok (.iinc 5 1, 3) := by decide +kernel
theorem dX1_follow_24 : decode cX1_follow 24 = .ok (.goto (-15), 3) := by decide +kernel
theorem dX1_follow_27 : decode cX1_follow 27 = .ok (.return_, 1) := by decide +kernel
set_option maxRecDepth 20000 in
theorem ggX1_goRound_X1_begin : GoodIn wsX1_goRound wsX1_begin := goodIn_r _ [12, 3, 4, 42, 43, 44, 45, 46, 47, 48, 49] (by decide +kernel) (by decide +kernel)
set_option maxRecDepth 20000 in
theorem gX1_goRound_X1_begin : GoodIn wsX1_goRound (wsV RX1 89 RX1 yX1_begin wsX1_begin) := goodIn_app (goodIn_of _ (by decide +kernel)) ggX1_goRound_X1_begin
set_option maxRecDepth 20000 in
theorem ggX1_goRound_X1_step : GoodIn wsX1_goRound wsX1_step := goodIn_r _ [16, 3, 4, 17, 18, 19, 20, 21, 22, 23, 24, 25, 26, 27, 28, 29, 30, 31, 32, 33, 34, 35, 36, 37, 42, 43, 44, 45, 46, 47, 48, 49, 50, 51, 52, 53, 54, 55, 56, 57, 58, 59, 60, 61, 62, 63, 64, 65] (by decide +kernel) (by decide +kernel)
set_option maxRecDepth 20000 in
theorem gX1_goRound_X1_step : GoodIn wsX1_goRound (wsV RX1 93 RX1 yX1_step wsX1_step) := goodIn_app (goodIn_of _ (by decide +kernel)) ggX1_goRound_X1_step
set_option maxRecDepth 20000 in
theorem ggX1_goRound_X1_isRound : GoodIn wsX1_goRound wsX1_isRound := goodIn_r _ [41, 3, 6, 4, 42, 43, 44, 45, 46, 47, 48, 49, 50, 51, 52, 53, 54, 55, 56, 57, 58, 59, 60, 61, 62, 63, 64, 65] (by decide +kernel) (by decide +kernel)
set_option maxRecDepth 20000 in
theorem gX1_goRound_X1_isRound : GoodIn wsX1_goRound (wsV RX1 102 RX1 yX1_isRound wsX1_isRound) := goodIn_app (goodIn_of _ (by decide +kernel)) ggX1_goRound_X1_isRound
theorem dX1_goRound_0 : decode cX1_goRound 0 = .ok (.aload_n 0, 1) := by decide +kernel
theorem dX1_goRound_1 : decode cX1_goRound 1 = .ok (.iconst 0, 1) := by decide +kernel
theorem dX1_goRound_2 : decode cX1_goRound 2 = .ok (.putfield 96, 3) := by decide +kernel
theorem dX1_goRound_5 : decode cX1_goRound 5 = .ok (.aload_n 0, 1) := by decide +kernel
theorem dX1_goRound_6 : decode cX1_goRound 6 = .ok (.iconst 0, 1) := by decide +kernel
theorem dX1_goRound_7 : decode cX1_goRound 7 = .ok (.putfield 99, 3) := by decide +kernel
theorem dX1_goRound_10 : decode cX1_goRound 10 = .ok (.aload_n 0, 1) := by decide +kernel
theorem dX1_goRound_11 : decode cX1_goRound 11 = .ok (.iload_n 2, 1) := by decide +kernel
theorem dX1_goRound_12 : decode cX1_goRound 12 = .ok (.iload_n 3, 1) := by decide +kernel
theorem dX1_goRound_13 : decode cX1_goRound 13 = .ok (.invokevirtual 89, 3) := by decide +kernel
theorem dX1_goRound_16 : decode cX1_goRound 16 = .ok (.iconst 0, 1) := by decide +kernel
theorem dX1_goRound_17 : decode cX1_goRound 17 = .ok (.istore 4, 2) := by decide +kernel
theorem dX1_goRound_19 : decode cX1_goRound 19 = .ok (.iload 4, 2) := by decide +kernel
theorem dX1_goRound_21 : decode cX1_goRound 21 = .ok (.sipush 5040, 3) := by decide +kernel
theorem dX1_goRound_24 : decode cX1_goRound 24 = .ok (.if_icmp .ge 52, 3) := by decide +kernel
theorem dX1_goRound_27 : decode cX1_goRound 27 = .ok (.aload_n 0, 1) := by decide +kernel
theorem dX1_goRound_28 : decode cX1_goRound 28 = .ok (.dup, 1) := by decide +kernel
theorem dX1_goRound_29 : decode cX1_goRound 29 = .ok (.getfield 99, 3) := by decide +kernel
theorem dX1_goRound_32 : decode cX1_goRound 32 = .ok (.iconst 1, 1) := by decide +kernel
theorem dX1_goRound_33 : decode cX1_goRound 33 = .ok (.aload_n 0, 1) := by decide +kernel
theorem dX1_goRound_34 : decode cX1_goRound 34 = .ok (.getfield 83, 3) := by decide +kernel
theorem dX1_goRound_37 : decode cX1_goRound 37 = .ok (.ishl, 1) := by decide +kernel
theorem dX1_goRound_38 : decode cX1_goRound 38 = .ok (.ior, 1) := by decide +kernel
theorem dX1_goRound_39 : decode cX1_goRound 39 = .ok (.putfield 99, 3) := by decide +kernel
theorem dX1_goRound_42 : decode cX1_goRound 42 = .ok (.aload_n 0, 1) := by decide +kernel
theorem dX1_goRound_43 : decode cX1_goRound 43 = .ok (.dup, 1) := by decide +kernel
theorem dX1_goRound_44 : decode cX1_goRound 44 = .ok (.getfield 96, 3) := by decide +kernel
theorem dX1_goRound_47 : decode cX1_goRound 47 = .ok (.iconst 1, 1) := by decide +kernel
theorem dX1_goRound_48 : decode cX1_goRound 48 = .ok (.iadd, 1) := by decide +kernel
theorem dX1_goRound_49 : decode cX1_goRound 49 = .ok (.putfield 96, 3) := by decide +kernel
theorem dX1_goRound_52 : decode cX1_goRound 52 = .ok (.aload_n 0, 1) := by decide +kernel
theorem dX1_goRound_53 : decode cX1_goRound 53 = .ok (.aload_n 1, 1) := by decide +kernel
theorem dX1_goRound_54 : decode cX1_goRound 54 = .ok (.invokevirtual 93, 3) := by decide +kernel
theorem dX1_goRound_57 : decode cX1_goRound 57 = .ok (.aload_n 0, 1) := by decide +kernel
theorem dX1_goRound_58 : decode cX1_goRound 58 = .ok (.aload_n 1, 1) := by decide +kernel
theorem dX1_goRound_59 : decode cX1_goRound 59 = .ok (.iload_n 2, 1) := by decide +kernel
theorem dX1_goRound_60 : decode cX1_goRound 60 = .ok (.iload_n 3, 1) := by decide +kernel
theorem dX1_goRound_61 : decode cX1_goRound 61 = .ok (.invokevirtual 102, 3) := by decide +kernel
theorem dX1_goRound_64 : decode cX1_goRound 64 = .ok (.ifCond .eq 6, 3) := by decide +kernel
theorem dX1_goRound_67 : decode cX1_goRound 67 = .ok (.goto 9, 3) := by decide +kernel
theorem dX1_goRound_70 : decode cX1_goRound 70 = .ok (.iinc 4 1, 3) := by decide +kernel
theorem dX1_goRound_73 : decode cX1_goRound 73 = .ok (.goto (-54), 3) := by decide +kernel
theorem dX1_goRound_76 : decode cX1_goRound 76 = .ok (.aload_n 0, 1) := by decide +kernel
theorem dX1_goRound_77 : decode cX1_goRound 77 = .ok (.aload_n 0, 1) := by decide +kernel
theorem dX1_goRound_78 : decode cX1_goRound 78 = .ok (.getfield 86, 3) := by decide +kernel
theorem dX1_goRound_81 : decode cX1_goRound 81 = .ok (.iload_n 3, 1) := by decide +kernel
theorem dX1_goRound_82 : decode cX1_goRound 82 = .ok (.isub, 1) := by decide +kernel
theorem dX1_goRound_83 : decode cX1_goRound 83 = .ok (.putfield 106, 3) := by decide +kernel
theorem dX1_goRound_86 : decode cX1_goRound 86 = .ok (.aload_n 0, 1) := by decide +kernel
theorem dX1_goRound_87 : decode cX1_goRound 87 = .ok (.aload_n 1, 1) := by decide +kernel
theorem dX1_goRound_88 : decode cX1_goRound 88 = .ok (.getfield 22, 3) := by decide +kernel
theorem dX1_goRound_91 : decode cX1_goRound 91 = .ok (.iconst 1, 1) := by decide +kernel
theorem dX1_goRound_92 : decode cX1_goRound 92 = .ok (.if_icmp .ge 7, 3) := by decide +kernel
theorem dX1_goRound_95 : decode cX1_goRound 95 = .ok (.iconst 0, 1) := by decide +kernel
theorem dX1_goRound_96 : decode cX1_goRound 96 = .ok (.goto 12, 3) := by decide +kernel
theorem dX1_goRound_99 : decode cX1_goRound 99 = .ok (.aload_n 0, 1) := by decide +kernel
theorem dX1_goRound_100 : decode cX1_goRound 100 = .ok (.getfield 106, 3) := by decide +kernel
theorem dX1_goRound_103 : decode cX1_goRound 103 = .ok (.aload_n 1, 1) := by decide +kernel
theorem dX1_goRound_104 : decode cX1_goRound 104 = .ok (.getfield 22, 3) := by decide +kernel
theorem dX1_goRound_107 : decode cX1_goRound 107 = .ok (.idiv, 1) := by decide +kernel
theorem dX1_goRound_108 : decode cX1_goRound 108 = .ok (.putfield 109, 3) := by decide +kernel
theorem dX1_goRound_111 : decode cX1_goRound 111 = .ok (.return_, 1) := by decide +kernel
set_option maxRecDepth 20000 in
theorem ggX1_orbitsOf_J7_fill_53178 : GoodIn wsX1_orbitsOf wsJ7_fill_53178 := goodIn_r _ [7] (by decide +kernel) (by decide +kernel)
set_option maxRecDepth 20000 in
theorem gX1_orbitsOf_J7_fill_53178 : GoodIn wsX1_orbitsOf (va_wsS RX1 39 yJ7_fill_53178 wsJ7_fill_53178) := goodIn_app (goodIn_of _ (by decide +kernel)) ggX1_orbitsOf_J7_fill_53178
set_option maxRecDepth 20000 in
theorem ggX1_orbitsOf_X0_heightAt : GoodIn wsX1_orbitsOf wsX0_heightAt := goodIn_r _ [12, 13, 14, 15, 16, 11, 17, 18, 19, 20, 21, 22, 23, 56, 57, 58, 59, 60, 61, 62, 63, 64, 65, 66, 67, 68, 69, 70, 71] (by decide +kernel) (by decide +kernel)
set_option maxRecDepth 20000 in
theorem gX1_orbitsOf_X0_heightAt : GoodIn wsX1_orbitsOf (wsV RX1 67 RX0 yX0_heightAt wsX0_heightAt) := goodIn_app (goodIn_of _ (by decide +kernel)) ggX1_orbitsOf_X0_heightAt
set_option maxRecDepth 20000 in
theorem ggX1_orbitsOf_X1_meet : GoodIn wsX1_orbitsOf wsX1_meet := goodIn_r _ [28, 1, 48, 49, 50, 51, 52, 53, 54, 55] (by decide +kernel) (by decide +kernel)
set_option maxRecDepth 20000 in
theorem gX1_orbitsOf_X1_meet : GoodIn wsX1_orbitsOf (wsV RX1 112 RX1 yX1_meet wsX1_meet) := goodIn_app (goodIn_of _ (by decide +kernel)) ggX1_orbitsOf_X1_meet
set_option maxRecDepth 20000 in
theorem ggX1_orbitsOf_X1_markOrbit : GoodIn wsX1_orbitsOf wsX1_markOrbit := goodIn_r _ [32, 3, 33, 34, 35, 36, 37, 27, 38, 39, 40, 41, 42, 8, 9, 10, 11, 12, 13, 14, 15, 16, 17, 18, 19, 20, 21, 22, 23, 43, 44, 45, 46, 47, 24, 25, 26, 28, 1, 56, 57, 58, 59, 60, 61, 62, 63, 64, 65, 66, 67, 68, 69, 70, 71, 48, 49, 50, 51, 52, 53, 54, 55] (by decide +kernel) (by decide +kernel)
set_option maxRecDepth 20000 in
theorem gX1_orbitsOf_X1_markOrbit : GoodIn wsX1_orbitsOf (wsV RX1 116 RX1 yX1_markOrbit wsX1_markOrbit) := goodIn_app (goodIn_of _ (by decide +kernel)) ggX1_orbitsOf_X1_markOrbit
theorem dX1_orbitsOf_0 : decode cX1_orbitsOf 0 = .ok (.aload_n 0, 1) := by decide +kernel
theorem dX1_orbitsOf_1 : decode cX1_orbitsOf 1 = .ok (.getfield 15, 3) := by decide +kernel
theorem dX1_orbitsOf_4 : decode cX1_orbitsOf 4 = .ok (.iconst 0, 1) := by decide +kernel
theorem dX1_orbitsOf_5 : decode cX1_orbitsOf 5 = .ok (.invokestatic 39, 3) := by decide +kernel
theorem dX1_orbitsOf_8 : decode cX1_orbitsOf 8 = .ok (.iconst 0, 1) := by decide +kernel
theorem dX1_orbitsOf_9 : decode cX1_orbitsOf 9 = .ok (.istore_n 2, 1) := by decide +kernel
theorem dX1_orbitsOf_10 : decode cX1_orbitsOf 10 = .ok (.iconst 0, 1) := by decide +kernel
theorem dX1_orbitsOf_11 : decode cX1_orbitsOf 11 = .ok (.istore_n 3, 1) := by decide +kernel
theorem dX1_orbitsOf_12 : decode cX1_orbitsOf 12 = .ok (.iload_n 3, 1) := by decide +kernel
theorem dX1_orbitsOf_13 : decode cX1_orbitsOf 13 = .ok (.aload_n 1, 1) := by decide +kernel
theorem dX1_orbitsOf_14 : decode cX1_orbitsOf 14 = .ok (.getfield 52, 3) := by decide +kernel
theorem dX1_orbitsOf_17 : decode cX1_orbitsOf 17 = .ok (.if_icmp .ge 58, 3) := by decide +kernel
theorem dX1_orbitsOf_20 : decode cX1_orbitsOf 20 = .ok (.iconst 0, 1) := by decide +kernel
theorem dX1_orbitsOf_21 : decode cX1_orbitsOf 21 = .ok (.istore 4, 2) := by decide +kernel
theorem dX1_orbitsOf_23 : decode cX1_orbitsOf 23 = .ok (.iload 4, 2) := by decide +kernel
theorem dX1_orbitsOf_25 : decode cX1_orbitsOf 25 = .ok (.aload_n 1, 1) := by decide +kernel
theorem dX1_orbitsOf_26 : decode cX1_orbitsOf 26 = .ok (.getfield 22, 3) := by decide +kernel
theorem dX1_orbitsOf_29 : decode cX1_orbitsOf 29 = .ok (.if_icmp .ge 40, 3) := by decide +kernel
theorem dX1_orbitsOf_32 : decode cX1_orbitsOf 32 = .ok (.aload_n 1, 1) := by decide +kernel
theorem dX1_orbitsOf_33 : decode cX1_orbitsOf 33 = .ok (.iload_n 3, 1) := by decide +kernel
theorem dX1_orbitsOf_34 : decode cX1_orbitsOf 34 = .ok (.iload 4, 2) := by decide +kernel
theorem dX1_orbitsOf_36 : decode cX1_orbitsOf 36 = .ok (.invokevirtual 67, 3) := by decide +kernel
theorem dX1_orbitsOf_39 : decode cX1_orbitsOf 39 = .ok (.ifCond .le 24, 3) := by decide +kernel
theorem dX1_orbitsOf_42 : decode cX1_orbitsOf 42 = .ok (.aload_n 0, 1) := by decide +kernel
theorem dX1_orbitsOf_43 : decode cX1_orbitsOf 43 = .ok (.iload_n 3, 1) := by decide +kernel
theorem dX1_orbitsOf_44 : decode cX1_orbitsOf 44 = .ok (.iload 4, 2) := by decide +kernel
theorem dX1_orbitsOf_46 : decode cX1_orbitsOf 46 = .ok (.invokevirtual 112, 3) := by decide +kernel
theorem dX1_orbitsOf_49 : decode cX1_orbitsOf 49 = .ok (.ifCond .eq 14, 3) := by decide +kernel
theorem dX1_orbitsOf_52 : decode cX1_orbitsOf 52 = .ok (.iinc 2 1, 3) := by decide +kernel
theorem dX1_orbitsOf_55 : decode cX1_orbitsOf 55 = .ok (.aload_n 0, 1) := by decide +kernel
theorem dX1_orbitsOf_56 : decode cX1_orbitsOf 56 = .ok (.aload_n 1, 1) := by decide +kernel
theorem dX1_orbitsOf_57 : decode cX1_orbitsOf 57 = .ok (.iload_n 3, 1) := by decide +kernel
theorem dX1_orbitsOf_58 : decode cX1_orbitsOf 58 = .ok (.iload 4, 2) := by decide +kernel
theorem dX1_orbitsOf_60 : decode cX1_orbitsOf 60 = .ok (.invokevirtual 116, 3) := by decide +kernel
theorem dX1_orbitsOf_63 : decode cX1_orbitsOf 63 = .ok (.iinc 4 1, 3) := by decide +kernel
theorem dX1_orbitsOf_66 : decode cX1_orbitsOf 66 = .ok (.goto (-43), 3) := by decide +kernel
theorem dX1_orbitsOf_69 : decode cX1_orbitsOf 69 = .ok (.iinc 3 1, 3) := by decide +kernel
theorem dX1_orbitsOf_72 : decode cX1_orbitsOf 72 = .ok (.goto (-60), 3) := by decide +kernel
theorem dX1_orbitsOf_75 : decode cX1_orbitsOf 75 = .ok (.iload_n 2, 1) := by decide +kernel
theorem dX1_orbitsOf_76 : decode cX1_orbitsOf 76 = .ok (.ireturn, 1) := by decide +kernel
set_option maxRecDepth 20000 in
theorem ggX1_markOrbit_X1_begin : GoodIn wsX1_markOrbit wsX1_begin := goodIn_r _ [8, 2, 3, 55, 56, 57, 58, 59, 60, 61, 62] (by decide +kernel) (by decide +kernel)
set_option maxRecDepth 20000 in
theorem gX1_markOrbit_X1_begin : GoodIn wsX1_markOrbit (wsV RX1 89 RX1 yX1_begin wsX1_begin) := goodIn_app (goodIn_of _ (by decide +kernel)) ggX1_markOrbit_X1_begin
set_option maxRecDepth 20000 in
theorem ggX1_markOrbit_X1_step : GoodIn wsX1_markOrbit wsX1_step := goodIn_r _ [12, 2, 3, 13, 14, 15, 16, 17, 18, 19, 20, 21, 22, 23, 24, 25, 26, 27, 28, 29, 30, 31, 32, 33, 55, 56, 57, 58, 59, 60, 61, 62, 39, 40, 41, 42, 43, 44, 45, 46, 47, 48, 49, 50, 51, 52, 53, 54] (by decide +kernel) (by decide +kernel)
set_option maxRecDepth 20000 in
theorem gX1_markOrbit_X1_step : GoodIn wsX1_markOrbit (wsV RX1 93 RX1 yX1_step wsX1_step) := goodIn_app (goodIn_of _ (by decide +kernel)) ggX1_markOrbit_X1_step
set_option maxRecDepth 20000 in
theorem ggX1_markOrbit_X1_meet : GoodIn wsX1_markOrbit wsX1_meet := goodIn_r _ [37, 38, 55, 56, 57, 58, 59, 60, 61, 62] (by decide +kernel) (by decide +kernel)
set_option maxRecDepth 20000 in
theorem gX1_markOrbit_X1_meet : GoodIn wsX1_markOrbit (wsV RX1 112 RX1 yX1_meet wsX1_meet) := goodIn_app (goodIn_of _ (by decide +kernel)) ggX1_markOrbit_X1_meet
theorem dX1_markOrbit_0 : decode cX1_markOrbit 0 = .ok (.aload_n 0, 1) := by decide +kernel
theorem dX1_markOrbit_1 : decode cX1_markOrbit 1 = .ok (.iload_n 2, 1) := by decide +kernel
theorem dX1_markOrbit_2 : decode cX1_markOrbit 2 = .ok (.iload_n 3, 1) := by decide +kernel
theorem dX1_markOrbit_3 : decode cX1_markOrbit 3 = .ok (.invokevirtual 89, 3) := by decide +kernel
theorem dX1_markOrbit_6 : decode cX1_markOrbit 6 = .ok (.iconst 0, 1) := by decide +kernel
theorem dX1_markOrbit_7 : decode cX1_markOrbit 7 = .ok (.istore 4, 2) := by decide +kernel
theorem dX1_markOrbit_9 : decode cX1_markOrbit 9 = .ok (.iload 4, 2) := by decide +kernel
theorem dX1_markOrbit_11 : decode cX1_markOrbit 11 = .ok (.sipush 5040, 3) := by decide +kernel
theorem dX1_markOrbit_14 : decode cX1_markOrbit 14 = .ok (.if_icmp .ge 43, 3) := by decide +kernel
theorem dX1_markOrbit_17 : decode cX1_markOrbit 17 = .ok (.aload_n 0, 1) := by decide +kernel
theorem dX1_markOrbit_18 : decode cX1_markOrbit 18 = .ok (.aload_n 1, 1) := by decide +kernel
theorem dX1_markOrbit_19 : decode cX1_markOrbit 19 = .ok (.invokevirtual 93, 3) := by decide +kernel
theorem dX1_markOrbit_22 : decode cX1_markOrbit 22 = .ok (.aload_n 1, 1) := by decide +kernel
theorem dX1_markOrbit_23 : decode cX1_markOrbit 23 = .ok (.getfield 22, 3) := by decide +kernel
theorem dX1_markOrbit_26 : decode cX1_markOrbit 26 = .ok (.iconst 1, 1) := by decide +kernel
theorem dX1_markOrbit_27 : decode cX1_markOrbit 27 = .ok (.if_icmp .lt 23, 3) := by decide +kernel
theorem dX1_markOrbit_30 : decode cX1_markOrbit 30 = .ok (.aload_n 0, 1) := by decide +kernel
theorem dX1_markOrbit_31 : decode cX1_markOrbit 31 = .ok (.aload_n 0, 1) := by decide +kernel
theorem dX1_markOrbit_32 : decode cX1_markOrbit 32 = .ok (.getfield 83, 3) := by decide +kernel
theorem dX1_markOrbit_35 : decode cX1_markOrbit 35 = .ok (.aload_n 0, 1) := by decide +kernel
theorem dX1_markOrbit_36 : decode cX1_markOrbit 36 = .ok (.getfield 86, 3) := by decide +kernel
theorem dX1_markOrbit_39 : decode cX1_markOrbit 39 = .ok (.aload_n 1, 1) := by decide +kernel
theorem dX1_markOrbit_40 : decode cX1_markOrbit 40 = .ok (.getfield 22, 3) := by decide +kernel
theorem dX1_markOrbit_43 : decode cX1_markOrbit 43 = .ok (.irem, 1) := by decide +kernel
theorem dX1_markOrbit_44 : decode cX1_markOrbit 44 = .ok (.invokevirtual 112, 3) := by decide +kernel
theorem dX1_markOrbit_47 : decode cX1_markOrbit 47 = .ok (.ifCond .ne 4, 3) := by decide +kernel
theorem dX1_markOrbit_50 : decode cX1_markOrbit 50 = .ok (.return_, 1) := by decide +kernel
theorem dX1_markOrbit_51 : decode cX1_markOrbit 51 = .ok (.iinc 4 1, 3) := by decide +kernel
theorem dX1_markOrbit_54 : decode cX1_markOrbit 54 = .ok (.goto (-45), 3) := by decide +kernel
theorem dX1_markOrbit_57 : decode cX1_markOrbit 57 = .ok (.return_, 1) := by decide +kernel
theorem dX1_meet_0 : decode cX1_meet 0 = .ok (.iload_n 1, 1) := by decide +kernel
theorem dX1_meet_1 : decode cX1_meet 1 = .ok (.sipush 840, 3) := by decide +kernel
theorem dX1_meet_4 : decode cX1_meet 4 = .ok (.imul, 1) := by decide +kernel
theorem dX1_meet_5 : decode cX1_meet 5 = .ok (.iload_n 2, 1) := by decide +kernel
theorem dX1_meet_6 : decode cX1_meet 6 = .ok (.iadd, 1) := by decide +kernel
theorem dX1_meet_7 : decode cX1_meet 7 = .ok (.istore_n 3, 1) := by decide +kernel
theorem dX1_meet_8 : decode cX1_meet 8 = .ok (.iload_n 3, 1) := by decide +kernel
theorem dX1_meet_9 : decode cX1_meet 9 = .ok (.ifCond .lt 10, 3) := by decide +kernel
theorem dX1_meet_12 : decode cX1_meet 12 = .ok (.iload_n 3, 1) := by decide +kernel
theorem dX1_meet_13 : decode cX1_meet 13 = .ok (.sipush 5040, 3) := by decide +kernel
theorem dX1_meet_16 : decode cX1_meet 16 = .ok (.if_icmp .lt 5, 3) := by decide +kernel
theorem dX1_meet_19 : decode cX1_meet 19 = .ok (.iconst 0, 1) := by decide +kernel
theorem dX1_meet_20 : decode cX1_meet 20 = .ok (.ireturn, 1) := by decide +kernel
theorem dX1_meet_21 : decode cX1_meet 21 = .ok (.aload_n 0, 1) := by decide +kernel
theorem dX1_meet_22 : decode cX1_meet 22 = .ok (.getfield 15, 3) := by decide +kernel
theorem dX1_meet_25 : decode cX1_meet 25 = .ok (.iload_n 3, 1) := by decide +kernel
theorem dX1_meet_26 : decode cX1_meet 26 = .ok (.iconst 5, 1) := by decide +kernel
theorem dX1_meet_27 : decode cX1_meet 27 = .ok (.ishr, 1) := by decide +kernel
theorem dX1_meet_28 : decode cX1_meet 28 = .ok (.iaload, 1) := by decide +kernel
theorem dX1_meet_29 : decode cX1_meet 29 = .ok (.iload_n 3, 1) := by decide +kernel
theorem dX1_meet_30 : decode cX1_meet 30 = .ok (.bipush 31, 2) := by decide +kernel
theorem dX1_meet_32 : decode cX1_meet 32 = .ok (.iand, 1) := by decide +kernel
theorem dX1_meet_33 : decode cX1_meet 33 = .ok (.ishr, 1) := by decide +kernel
theorem dX1_meet_34 : decode cX1_meet 34 = .ok (.iconst 1, 1) := by decide +kernel
theorem dX1_meet_35 : decode cX1_meet 35 = .ok (.iand, 1) := by decide +kernel
theorem dX1_meet_36 : decode cX1_meet 36 = .ok (.ifCond .ne 7, 3) := by decide +kernel
theorem dX1_meet_39 : decode cX1_meet 39 = .ok (.iconst 1, 1) := by decide +kernel
theorem dX1_meet_40 : decode cX1_meet 40 = .ok (.goto 4, 3) := by decide +kernel
theorem dX1_meet_43 : decode cX1_meet 43 = .ok (.iconst 0, 1) := by decide +kernel
theorem dX1_meet_44 : decode cX1_meet 44 = .ok (.istore 4, 2) := by decide +kernel
theorem dX1_meet_46 : decode cX1_meet 46 = .ok (.aload_n 0, 1) := by decide +kernel
theorem dX1_meet_47 : decode cX1_meet 47 = .ok (.getfield 15, 3) := by decide +kernel
theorem dX1_meet_50 : decode cX1_meet 50 = .ok (.iload_n 3, 1) := by decide +kernel
theorem dX1_meet_51 : decode cX1_meet 51 = .ok (.iconst 5, 1) := by decide +kernel
theorem dX1_meet_52 : decode cX1_meet 52 = .ok (.ishr, 1) := by decide +kernel
theorem dX1_meet_53 : decode cX1_meet 53 = .ok (.dup2, 1) := by decide +kernel
theorem dX1_meet_54 : decode cX1_meet 54 = .ok (.iaload, 1) := by decide +kernel
theorem dX1_meet_55 : decode cX1_meet 55 = .ok (.iconst 1, 1) := by decide +kernel
theorem dX1_meet_56 : decode cX1_meet 56 = .ok (.iload_n 3, 1) := by decide +kernel
theorem dX1_meet_57 : decode cX1_meet 57 = .ok (.bipush 31, 2) := by decide +kernel
theorem dX1_meet_59 : decode cX1_meet 59 = .ok (.iand, 1) := by decide +kernel
theorem dX1_meet_60 : decode cX1_meet 60 = .ok (.ishl, 1) := by decide +kernel
theorem dX1_meet_61 : decode cX1_meet 61 = .ok (.ior, 1) := by decide +kernel
theorem dX1_meet_62 : decode cX1_meet 62 = .ok (.iastore, 1) := by decide +kernel
theorem dX1_meet_63 : decode cX1_meet 63 = .ok (.iload 4, 2) := by decide +kernel
theorem dX1_meet_65 : decode cX1_meet 65 = .ok (.ireturn, 1) := by decide +kernel
set_option maxRecDepth 20000 in
theorem ggX1_comesBy_X1_goRound : GoodIn wsX1_comesBy wsX1_goRound := goodIn_r _ [8, 9, 10, 3, 2, 1, 11, 12, 13, 14, 15, 7, 16, 17, 18, 19, 20, 21, 22, 23, 24, 25, 26, 27, 28, 29, 30, 31, 32, 33, 34, 35, 36, 37, 38, 39, 40, 41, 42, 43, 44, 45, 46, 47, 48, 49, 50, 51, 52, 53, 54, 55, 56, 57, 58, 59, 60, 61, 62, 63, 64, 65, 66, 67, 68, 69] (by decide +kernel) (by decide +kernel)
set_option maxRecDepth 20000 in
theorem gX1_comesBy_X1_goRound : GoodIn wsX1_comesBy (wsV RX1 120 RX1 yX1_goRound wsX1_goRound) := goodIn_app (goodIn_of _ (by decide +kernel)) ggX1_comesBy_X1_goRound
set_option maxRecDepth 20000 in
theorem ggX1_comesBy_X1_begin : GoodIn wsX1_comesBy wsX1_begin := goodIn_r _ [16, 3, 2, 46, 47, 48, 49, 50, 51, 52, 53] (by decide +kernel) (by decide +kernel)
set_option maxRecDepth 20000 in
theorem gX1_comesBy_X1_begin : GoodIn wsX1_comesBy (wsV RX1 89 RX1 yX1_begin wsX1_begin) := goodIn_app (goodIn_of _ (by decide +kernel)) ggX1_comesBy_X1_begin
set_option maxRecDepth 20000 in
theorem ggX1_comesBy_X1_step : GoodIn wsX1_comesBy wsX1_step := goodIn_r _ [20, 3, 2, 21, 22, 23, 24, 25, 26, 27, 28, 29, 30, 31, 32, 33, 34, 35, 36, 37, 38, 39, 40, 41, 46, 47, 48, 49, 50, 51, 52, 53, 54, 55, 56, 57, 58, 59, 60, 61, 62, 63, 64, 65, 66, 67, 68, 69] (by decide +kernel) (by decide +kernel)
set_option maxRecDepth 20000 in
theorem gX1_comesBy_X1_step : GoodIn wsX1_comesBy (wsV RX1 93 RX1 yX1_step wsX1_step) := goodIn_app (goodIn_of _ (by decide +kernel)) ggX1_comesBy_X1_step
theorem dX1_comesBy_0 : decode cX1_comesBy 0 = .ok (.aload_n 0, 1) := by decide +kernel
theorem dX1_comesBy_1 : decode cX1_comesBy 1 = .ok (.aload_n 1, 1) := by decide +kernel
theorem dX1_comesBy_2 : decode cX1_comesBy 2 = .ok (.iload_n 2, 1) := by decide +kernel
theorem dX1_comesBy_3 : decode cX1_comesBy 3 = .ok (.iload_n 3, 1) := by decide +kernel
theorem dX1_comesBy_4 : decode cX1_comesBy 4 = .ok (.invokevirtual 120, 3) := by decide +kernel
theorem dX1_comesBy_7 : decode cX1_comesBy 7 = .ok (.aload_n 0, 1) := by decide +kernel
theorem dX1_comesBy_8 : decode cX1_comesBy 8 = .ok (.getfield 106, 3) := by decide +kernel
theorem dX1_comesBy_11 : decode cX1_comesBy 11 = .ok (.iconst 1, 1) := by decide +kernel
theorem dX1_comesBy_12 : decode cX1_comesBy 12 = .ok (.if_icmp .ge 5, 3) := by decide +kernel
theorem dX1_comesBy_15 : decode cX1_comesBy 15 = .ok (.iconst 0, 1) := by decide +kernel
theorem dX1_comesBy_16 : decode cX1_comesBy 16 = .ok (.ireturn, 1) := by decide +kernel
theorem dX1_comesBy_17 : decode cX1_comesBy 17 = .ok (.iload_n 3, 1) := by decide +kernel
theorem dX1_comesBy_18 : decode cX1_comesBy 18 = .ok (.iload 5, 2) := by decide +kernel
theorem dX1_comesBy_20 : decode cX1_comesBy 20 = .ok (.iload_n 3, 1) := by decide +kernel
theorem dX1_comesBy_21 : decode cX1_comesBy 21 = .ok (.isub, 1) := by decide +kernel
theorem dX1_comesBy_22 : decode cX1_comesBy 22 = .ok (.aload_n 0, 1) := by decide +kernel
theorem dX1_comesBy_23 : decode cX1_comesBy 23 = .ok (.getfield 106, 3) := by decide +kernel
theorem dX1_comesBy_26 : decode cX1_comesBy 26 = .ok (.irem, 1) := by decide +kernel
theorem dX1_comesBy_27 : decode cX1_comesBy 27 = .ok (.iadd, 1) := by decide +kernel
theorem dX1_comesBy_28 : decode cX1_comesBy 28 = .ok (.istore 6, 2) := by decide +kernel
theorem dX1_comesBy_30 : decode cX1_comesBy 30 = .ok (.aload_n 0, 1) := by decide +kernel
theorem dX1_comesBy_31 : decode cX1_comesBy 31 = .ok (.iload_n 2, 1) := by decide +kernel
theorem dX1_comesBy_32 : decode cX1_comesBy 32 = .ok (.iload_n 3, 1) := by decide +kernel
theorem dX1_comesBy_33 : decode cX1_comesBy 33 = .ok (.invokevirtual 89, 3) := by decide +kernel
theorem dX1_comesBy_36 : decode cX1_comesBy 36 = .ok (.iconst 0, 1) := by decide +kernel
theorem dX1_comesBy_37 : decode cX1_comesBy 37 = .ok (.istore 7, 2) := by decide +kernel
theorem dX1_comesBy_39 : decode cX1_comesBy 39 = .ok (.iload 7, 2) := by decide +kernel
theorem dX1_comesBy_41 : decode cX1_comesBy 41 = .ok (.sipush 5040, 3) := by decide +kernel
theorem dX1_comesBy_44 : decode cX1_comesBy 44 = .ok (.if_icmp .ge 23, 3) := by decide +kernel
theorem dX1_comesBy_47 : decode cX1_comesBy 47 = .ok (.aload_n 0, 1) := by decide +kernel
theorem dX1_comesBy_48 : decode cX1_comesBy 48 = .ok (.getfield 86, 3) := by decide +kernel
theorem dX1_comesBy_51 : decode cX1_comesBy 51 = .ok (.iload 6, 2) := by decide +kernel
theorem dX1_comesBy_53 : decode cX1_comesBy 53 = .ok (.if_icmp .ge 14, 3) := by decide +kernel
theorem dX1_comesBy_56 : decode cX1_comesBy 56 = .ok (.aload_n 0, 1) := by decide +kernel
theorem dX1_comesBy_57 : decode cX1_comesBy 57 = .ok (.aload_n 1, 1) := by decide +kernel
theorem dX1_comesBy_58 : decode cX1_comesBy 58 = .ok (.invokevirtual 93, 3) := by decide +kernel
theorem dX1_comesBy_61 : decode cX1_comesBy 61 = .ok (.iinc 7 1, 3) := by decide +kernel
theorem dX1_comesBy_64 : decode cX1_comesBy 64 = .ok (.goto (-25), 3) := by decide +kernel
theorem dX1_comesBy_67 : decode cX1_comesBy 67 = .ok (.aload_n 0, 1) := by decide +kernel
theorem dX1_comesBy_68 : decode cX1_comesBy 68 = .ok (.getfield 86, 3) := by decide +kernel
theorem dX1_comesBy_71 : decode cX1_comesBy 71 = .ok (.iload 6, 2) := by decide +kernel
theorem dX1_comesBy_73 : decode cX1_comesBy 73 = .ok (.if_icmp .ne 16, 3) := by decide +kernel
theorem dX1_comesBy_76 : decode cX1_comesBy 76 = .ok (.aload_n 0, 1) := by decide +kernel
theorem dX1_comesBy_77 : decode cX1_comesBy 77 = .ok (.getfield 83, 3) := by decide +kernel
theorem dX1_comesBy_80 : decode cX1_comesBy 80 = .ok (.iload 4, 2) := by decide +kernel
theorem dX1_comesBy_82 : decode cX1_comesBy 82 = .ok (.if_icmp .ne 7, 3) := by decide +kernel
theorem dX1_comesBy_85 : decode cX1_comesBy 85 = .ok (.iconst 1, 1) := by decide +kernel
theorem dX1_comesBy_86 : decode cX1_comesBy 86 = .ok (.goto 4, 3) := by decide +kernel
theorem dX1_comesBy_89 : decode cX1_comesBy 89 = .ok (.iconst 0, 1) := by decide +kernel
theorem dX1_comesBy_90 : decode cX1_comesBy 90 = .ok (.ireturn, 1) := by decide +kernel
set_option maxRecDepth 20000 in
theorem ggX1_firstDown_X1_begin : GoodIn wsX1_firstDown wsX1_begin := goodIn_r _ [7, 1, 2, 38, 39, 40, 41, 42, 43, 44, 45] (by decide +kernel) (by decide +kernel)
set_option maxRecDepth 20000 in
theorem gX1_firstDown_X1_begin : GoodIn wsX1_firstDown (wsV RX1 89 RX1 yX1_begin wsX1_begin) := goodIn_app (goodIn_of _ (by decide +kernel)) ggX1_firstDown_X1_begin
set_option maxRecDepth 20000 in
theorem ggX1_firstDown_X1_step : GoodIn wsX1_firstDown wsX1_step := goodIn_r _ [11, 1, 2, 12, 13, 14, 15, 16, 17, 18, 19, 20, 21, 22, 23, 24, 25, 26, 27, 28, 29, 30, 31, 32, 38, 39, 40, 41, 42, 43, 44, 45, 46, 47, 48, 49, 50, 51, 52, 53, 54, 55, 56, 57, 58, 59, 60, 61] (by decide +kernel) (by decide +kernel)
set_option maxRecDepth 20000 in
theorem gX1_firstDown_X1_step : GoodIn wsX1_firstDown (wsV RX1 93 RX1 yX1_step wsX1_step) := goodIn_app (goodIn_of _ (by decide +kernel)) ggX1_firstDown_X1_step
set_option maxRecDepth 20000 in
theorem ggX1_firstDown_X1_isRound : GoodIn wsX1_firstDown wsX1_isRound := goodIn_r _ [36, 1, 37, 2, 38, 39, 40, 41, 42, 43, 44, 45, 46, 47, 48, 49, 50, 51, 52, 53, 54, 55, 56, 57, 58, 59, 60, 61] (by decide +kernel) (by decide +kernel)
set_option maxRecDepth 20000 in
theorem gX1_firstDown_X1_isRound : GoodIn wsX1_firstDown (wsV RX1 102 RX1 yX1_isRound wsX1_isRound) := goodIn_app (goodIn_of _ (by decide +kernel)) ggX1_firstDown_X1_isRound
theorem dX1_firstDown_0 : decode cX1_firstDown 0 = .ok (.aload_n 0, 1) := by decide +kernel
theorem dX1_firstDown_1 : decode cX1_firstDown 1 = .ok (.iload_n 2, 1) := by decide +kernel
theorem dX1_firstDown_2 : decode cX1_firstDown 2 = .ok (.iload_n 3, 1) := by decide +kernel
theorem dX1_firstDown_3 : decode cX1_firstDown 3 = .ok (.invokevirtual 89, 3) := by decide +kernel
theorem dX1_firstDown_6 : decode cX1_firstDown 6 = .ok (.iconst 0, 1) := by decide +kernel
theorem dX1_firstDown_7 : decode cX1_firstDown 7 = .ok (.istore 5, 2) := by decide +kernel
theorem dX1_firstDown_9 : decode cX1_firstDown 9 = .ok (.iload 5, 2) := by decide +kernel
theorem dX1_firstDown_11 : decode cX1_firstDown 11 = .ok (.sipush 5040, 3) := by decide +kernel
theorem dX1_firstDown_14 : decode cX1_firstDown 14 = .ok (.if_icmp .ge 40, 3) := by decide +kernel
theorem dX1_firstDown_17 : decode cX1_firstDown 17 = .ok (.aload_n 0, 1) := by decide +kernel
theorem dX1_firstDown_18 : decode cX1_firstDown 18 = .ok (.aload_n 1, 1) := by decide +kernel
theorem dX1_firstDown_19 : decode cX1_firstDown 19 = .ok (.invokevirtual 93, 3) := by decide +kernel
theorem dX1_firstDown_22 : decode cX1_firstDown 22 = .ok (.aload_n 0, 1) := by decide +kernel
theorem dX1_firstDown_23 : decode cX1_firstDown 23 = .ok (.getfield 83, 3) := by decide +kernel
theorem dX1_firstDown_26 : decode cX1_firstDown 26 = .ok (.iload 4, 2) := by decide +kernel
theorem dX1_firstDown_28 : decode cX1_firstDown 28 = .ok (.if_icmp .ne 8, 3) := by decide +kernel
theorem dX1_firstDown_31 : decode cX1_firstDown 31 = .ok (.aload_n 0, 1) := by decide +kernel
theorem dX1_firstDown_32 : decode cX1_firstDown 32 = .ok (.getfield 86, 3) := by decide +kernel
theorem dX1_firstDown_35 : decode cX1_firstDown 35 = .ok (.ireturn, 1) := by decide +kernel
theorem dX1_firstDown_36 : decode cX1_firstDown 36 = .ok (.aload_n 0, 1) := by decide +kernel
theorem dX1_firstDown_37 : decode cX1_firstDown 37 = .ok (.aload_n 1, 1) := by decide +kernel
theorem dX1_firstDown_38 : decode cX1_firstDown 38 = .ok (.iload_n 2, 1) := by decide +kernel
theorem dX1_firstDown_39 : decode cX1_firstDown 39 = .ok (.iload_n 3, 1) := by decide +kernel
theorem dX1_firstDown_40 : decode cX1_firstDown 40 = .ok (.invokevirtual 102, 3) := by decide +kernel
theorem dX1_firstDown_43 : decode cX1_firstDown 43 = .ok (.ifCond .eq 5, 3) := by decide +kernel
theorem dX1_firstDown_46 : decode cX1_firstDown 46 = .ok (.iconst (-1), 1) := by decide +kernel
theorem dX1_firstDown_47 : decode cX1_firstDown 47 = .ok (.ireturn, 1) := by decide +kernel
theorem dX1_firstDown_48 : decode cX1_firstDown 48 = .ok (.iinc 5 1, 3) := by decide +kernel
theorem dX1_firstDown_51 : decode cX1_firstDown 51 = .ok (.goto (-42), 3) := by decide +kernel
theorem dX1_firstDown_54 : decode cX1_firstDown 54 = .ok (.iconst (-1), 1) := by decide +kernel
theorem dX1_firstDown_55 : decode cX1_firstDown 55 = .ok (.ireturn, 1) := by decide +kernel
set_option maxRecDepth 20000 in
theorem ggX1_timesDown_X1_begin : GoodIn wsX1_timesDown wsX1_begin := goodIn_r _ [7, 2, 1, 33, 34, 35, 36, 37, 38, 39, 40] (by decide +kernel) (by decide +kernel)
set_option maxRecDepth 20000 in
theorem gX1_timesDown_X1_begin : GoodIn wsX1_timesDown (wsV RX1 89 RX1 yX1_begin wsX1_begin) := goodIn_app (goodIn_of _ (by decide +kernel)) ggX1_timesDown_X1_begin
set_option maxRecDepth 20000 in
theorem ggX1_timesDown_X1_step : GoodIn wsX1_timesDown wsX1_step := goodIn_r _ [11, 2, 1, 12, 13, 14, 15, 16, 17, 18, 19, 20, 21, 22, 23, 24, 25, 26, 27, 28, 29, 30, 31, 32, 33, 34, 35, 36, 37, 38, 39, 40, 41, 42, 43, 44, 45, 46, 47, 48, 49, 50, 51, 52, 53, 54, 55, 56] (by decide +kernel) (by decide +kernel)
set_option maxRecDepth 20000 in
theorem gX1_timesDown_X1_step : GoodIn wsX1_timesDown (wsV RX1 93 RX1 yX1_step wsX1_step) := goodIn_app (goodIn_of _ (by decide +kernel)) ggX1_timesDown_X1_step
theorem dX1_timesDown_0 : decode cX1_timesDown 0 = .ok (.iconst 0, 1) := by decide +kernel
theorem dX1_timesDown_1 : decode cX1_timesDown 1 = .ok (.istore 6, 2) := by decide +kernel
theorem dX1_timesDown_3 : decode cX1_timesDown 3 = .ok (.aload_n 0, 1) := by decide +kernel
theorem dX1_timesDown_4 : decode cX1_timesDown 4 = .ok (.iload_n 2, 1) := by decide +kernel
theorem dX1_timesDown_5 : decode cX1_timesDown 5 = .ok (.iload_n 3, 1) := by decide +kernel
theorem dX1_timesDown_6 : decode cX1_timesDown 6 = .ok (.invokevirtual 89, 3) := by decide +kernel
theorem dX1_timesDown_9 : decode cX1_timesDown 9 = .ok (.iconst 0, 1) := by decide +kernel
theorem dX1_timesDown_10 : decode cX1_timesDown 10 = .ok (.istore 7, 2) := by decide +kernel
theorem dX1_timesDown_12 : decode cX1_timesDown 12 = .ok (.iload 7, 2) := by decide +kernel
theorem dX1_timesDown_14 : decode cX1_timesDown 14 = .ok (.iload 5, 2) := by decide +kernel
theorem dX1_timesDown_16 : decode cX1_timesDown 16 = .ok (.if_icmp .ge 40, 3) := by decide +kernel
theorem dX1_timesDown_19 : decode cX1_timesDown 19 = .ok (.aload_n 0, 1) := by decide +kernel
theorem dX1_timesDown_20 : decode cX1_timesDown 20 = .ok (.aload_n 1, 1) := by decide +kernel
theorem dX1_timesDown_21 : decode cX1_timesDown 21 = .ok (.invokevirtual 93, 3) := by decide +kernel
theorem dX1_timesDown_24 : decode cX1_timesDown 24 = .ok (.aload_n 0, 1) := by decide +kernel
theorem dX1_timesDown_25 : decode cX1_timesDown 25 = .ok (.getfield 86, 3) := by decide +kernel
theorem dX1_timesDown_28 : decode cX1_timesDown 28 = .ok (.iload_n 3, 1) := by decide +kernel
theorem dX1_timesDown_29 : decode cX1_timesDown 29 = .ok (.iload 5, 2) := by decide +kernel
theorem dX1_timesDown_31 : decode cX1_timesDown 31 = .ok (.iadd, 1) := by decide +kernel
theorem dX1_timesDown_32 : decode cX1_timesDown 32 = .ok (.if_icmp .le 6, 3) := by decide +kernel
theorem dX1_timesDown_35 : decode cX1_timesDown 35 = .ok (.goto 21, 3) := by decide +kernel
theorem dX1_timesDown_38 : decode cX1_timesDown 38 = .ok (.aload_n 0, 1) := by decide +kernel
theorem dX1_timesDown_39 : decode cX1_timesDown 39 = .ok (.getfield 83, 3) := by decide +kernel
theorem dX1_timesDown_42 : decode cX1_timesDown 42 = .ok (.iload 4, 2) := by decide +kernel
theorem dX1_timesDown_44 : decode cX1_timesDown 44 = .ok (.if_icmp .ne 6, 3) := by decide +kernel
theorem dX1_timesDown_47 : decode cX1_timesDown 47 = .ok (.iinc 6 1, 3) := by decide +kernel
theorem dX1_timesDown_50 : decode cX1_timesDown 50 = .ok (.iinc 7 1, 3) := by decide +kernel
theorem dX1_timesDown_53 : decode cX1_timesDown 53 = .ok (.goto (-41), 3) := by decide +kernel
theorem dX1_timesDown_56 : decode cX1_timesDown 56 = .ok (.iload 6, 2) := by decide +kernel
theorem dX1_timesDown_58 : decode cX1_timesDown 58 = .ok (.ireturn, 1) := by decide +kernel
set_option maxRecDepth 20000 in
theorem ggX1_roofsUpTo_X1_begin : GoodIn wsX1_roofsUpTo wsX1_begin := goodIn_r _ [7, 2, 1, 33, 34, 35, 36, 37, 38, 39, 40] (by decide +kernel) (by decide +kernel)
set_option maxRecDepth 20000 in
theorem gX1_roofsUpTo_X1_begin : GoodIn wsX1_roofsUpTo (wsV RX1 89 RX1 yX1_begin wsX1_begin) := goodIn_app (goodIn_of _ (by decide +kernel)) ggX1_roofsUpTo_X1_begin
set_option maxRecDepth 20000 in
theorem ggX1_roofsUpTo_X1_step : GoodIn wsX1_roofsUpTo wsX1_step := goodIn_r _ [11, 2, 1, 12, 13, 14, 15, 16, 17, 18, 19, 20, 21, 22, 23, 24, 25, 26, 27, 28, 29, 30, 31, 32, 33, 34, 35, 36, 37, 38, 39, 40, 41, 42, 43, 44, 45, 46, 47, 48, 49, 50, 51, 52, 53, 54, 55, 56] (by decide +kernel) (by decide +kernel)
set_option maxRecDepth 20000 in
theorem gX1_roofsUpTo_X1_step : GoodIn wsX1_roofsUpTo (wsV RX1 93 RX1 yX1_step wsX1_step) := goodIn_app (goodIn_of _ (by decide +kernel)) ggX1_roofsUpTo_X1_step
theorem dX1_roofsUpTo_0 : decode cX1_roofsUpTo 0 = .ok (.iconst 0, 1) := by decide +kernel
theorem dX1_roofsUpTo_1 : decode cX1_roofsUpTo 1 = .ok (.istore 5, 2) := by decide +kernel
theorem dX1_roofsUpTo_3 : decode cX1_roofsUpTo 3 = .ok (.aload_n 0, 1) := by decide +kernel
theorem dX1_roofsUpTo_4 : decode cX1_roofsUpTo 4 = .ok (.iload_n 2, 1) := by decide +kernel
theorem dX1_roofsUpTo_5 : decode cX1_roofsUpTo 5 = .ok (.iload_n 3, 1) := by decide +kernel
theorem dX1_roofsUpTo_6 : decode cX1_roofsUpTo 6 = .ok (.invokevirtual 89, 3) := by decide +kernel
theorem dX1_roofsUpTo_9 : decode cX1_roofsUpTo 9 = .ok (.iconst 0, 1) := by decide +kernel
theorem dX1_roofsUpTo_10 : decode cX1_roofsUpTo 10 = .ok (.istore 6, 2) := by decide +kernel
theorem dX1_roofsUpTo_12 : decode cX1_roofsUpTo 12 = .ok (.iload 6, 2) := by decide +kernel
theorem dX1_roofsUpTo_14 : decode cX1_roofsUpTo 14 = .ok (.sipush 5040, 3) := by decide +kernel
theorem dX1_roofsUpTo_17 : decode cX1_roofsUpTo 17 = .ok (.if_icmp .gt 34, 3) := by decide +kernel
theorem dX1_roofsUpTo_20 : decode cX1_roofsUpTo 20 = .ok (.aload_n 0, 1) := by decide +kernel
theorem dX1_roofsUpTo_21 : decode cX1_roofsUpTo 21 = .ok (.getfield 86, 3) := by decide +kernel
theorem dX1_roofsUpTo_24 : decode cX1_roofsUpTo 24 = .ok (.iload 4, 2) := by decide +kernel
theorem dX1_roofsUpTo_26 : decode cX1_roofsUpTo 26 = .ok (.if_icmp .gt 25, 3) := by decide +kernel
theorem dX1_roofsUpTo_29 : decode cX1_roofsUpTo 29 = .ok (.iload 5, 2) := by decide +kernel
theorem dX1_roofsUpTo_31 : decode cX1_roofsUpTo 31 = .ok (.iconst 1, 1) := by decide +kernel
theorem dX1_roofsUpTo_32 : decode cX1_roofsUpTo 32 = .ok (.aload_n 0, 1) := by decide +kernel
theorem dX1_roofsUpTo_33 : decode cX1_roofsUpTo 33 = .ok (.getfield 83, 3) := by decide +kernel
theorem dX1_roofsUpTo_36 : decode cX1_roofsUpTo 36 = .ok (.ishl, 1) := by decide +kernel
theorem dX1_roofsUpTo_37 : decode cX1_roofsUpTo 37 = .ok (.ior, 1) := by decide +kernel
theorem dX1_roofsUpTo_38 : decode cX1_roofsUpTo 38 = .ok (.istore 5, 2) := by decide +kernel
theorem dX1_roofsUpTo_40 : decode cX1_roofsUpTo 40 = .ok (.aload_n 0, 1) := by decide +kernel
theorem dX1_roofsUpTo_41 : decode cX1_roofsUpTo 41 = .ok (.aload_n 1, 1) := by decide +kernel
theorem dX1_roofsUpTo_42 : decode cX1_roofsUpTo 42 = .ok (.invokevirtual 93, 3) := by decide +kernel
theorem dX1_roofsUpTo_45 : decode cX1_roofsUpTo 45 = .ok (.iinc 6 1, 3) := by decide +kernel
theorem dX1_roofsUpTo_48 : decode cX1_roofsUpTo 48 = .ok (.goto (-36), 3) := by decide +kernel
theorem dX1_roofsUpTo_51 : decode cX1_roofsUpTo 51 = .ok (.iload 5, 2) := by decide +kernel
theorem dX1_roofsUpTo_53 : decode cX1_roofsUpTo 53 = .ok (.ireturn, 1) := by decide +kernel
theorem dX2_init_0 : decode cX2_init 0 = .ok (.aload_n 0, 1) := by decide +kernel
theorem dX2_init_1 : decode cX2_init 1 = .ok (.invokespecial 3, 3) := by decide +kernel
theorem dX2_init_4 : decode cX2_init 4 = .ok (.aload_n 0, 1) := by decide +kernel
theorem dX2_init_5 : decode cX2_init 5 = .ok (.bipush 6, 2) := by decide +kernel
theorem dX2_init_7 : decode cX2_init 7 = .ok (.newarray .int, 2) := by decide +kernel
theorem dX2_init_9 : decode cX2_init 9 = .ok (.putfield 9, 3) := by decide +kernel
theorem dX2_init_12 : decode cX2_init 12 = .ok (.aload_n 0, 1) := by decide +kernel
theorem dX2_init_13 : decode cX2_init 13 = .ok (.bipush 6, 2) := by decide +kernel
theorem dX2_init_15 : decode cX2_init 15 = .ok (.newarray .int, 2) := by decide +kernel
theorem dX2_init_17 : decode cX2_init 17 = .ok (.putfield 15, 3) := by decide +kernel
theorem dX2_init_20 : decode cX2_init 20 = .ok (.aload_n 0, 1) := by decide +kernel
theorem dX2_init_21 : decode cX2_init 21 = .ok (.sipush 576, 3) := by decide +kernel
theorem dX2_init_24 : decode cX2_init 24 = .ok (.newarray .int, 2) := by decide +kernel
theorem dX2_init_26 : decode cX2_init 26 = .ok (.putfield 18, 3) := by decide +kernel
theorem dX2_init_29 : decode cX2_init 29 = .ok (.return_, 1) := by decide +kernel
theorem dX2_take_0 : decode cX2_take 0 = .ok (.aload_n 0, 1) := by decide +kernel
theorem dX2_take_1 : decode cX2_take 1 = .ok (.aload_n 1, 1) := by decide +kernel
theorem dX2_take_2 : decode cX2_take 2 = .ok (.getfield 21, 3) := by decide +kernel
theorem dX2_take_5 : decode cX2_take 5 = .ok (.iconst 3, 1) := by decide +kernel
theorem dX2_take_6 : decode cX2_take 6 = .ok (.iload_n 2, 1) := by decide +kernel
theorem dX2_take_7 : decode cX2_take 7 = .ok (.imul, 1) := by decide +kernel
theorem dX2_take_8 : decode cX2_take 8 = .ok (.iaload, 1) := by decide +kernel
theorem dX2_take_9 : decode cX2_take 9 = .ok (.putfield 26, 3) := by decide +kernel
theorem dX2_take_12 : decode cX2_take 12 = .ok (.aload_n 0, 1) := by decide +kernel
theorem dX2_take_13 : decode cX2_take 13 = .ok (.aload_n 1, 1) := by decide +kernel
theorem dX2_take_14 : decode cX2_take 14 = .ok (.getfield 21, 3) := by decide +kernel
theorem dX2_take_17 : decode cX2_take 17 = .ok (.iconst 3, 1) := by decide +kernel
theorem dX2_take_18 : decode cX2_take 18 = .ok (.iload_n 2, 1) := by decide +kernel
theorem dX2_take_19 : decode cX2_take 19 = .ok (.imul, 1) := by decide +kernel
theorem dX2_take_20 : decode cX2_take 20 = .ok (.iconst 1, 1) := by decide +kernel
theorem dX2_take_21 : decode cX2_take 21 = .ok (.iadd, 1) := by decide +kernel
theorem dX2_take_22 : decode cX2_take 22 = .ok (.iaload, 1) := by decide +kernel
theorem dX2_take_23 : decode cX2_take 23 = .ok (.putfield 30, 3) := by decide +kernel
theorem dX2_take_26 : decode cX2_take 26 = .ok (.aload_n 0, 1) := by decide +kernel
theorem dX2_take_27 : decode cX2_take 27 = .ok (.aload_n 1, 1) := by decide +kernel
theorem dX2_take_28 : decode cX2_take 28 = .ok (.getfield 21, 3) := by decide +kernel
theorem dX2_take_31 : decode cX2_take 31 = .ok (.iconst 3, 1) := by decide +kernel
theorem dX2_take_32 : decode cX2_take 32 = .ok (.iload_n 2, 1) := by decide +kernel
theorem dX2_take_33 : decode cX2_take 33 = .ok (.imul, 1) := by decide +kernel
theorem dX2_take_34 : decode cX2_take 34 = .ok (.iconst 2, 1) := by decide +kernel
theorem dX2_take_35 : decode cX2_take 35 = .ok (.iadd, 1) := by decide +kernel
theorem dX2_take_36 : decode cX2_take 36 = .ok (.iaload, 1) := by decide +kernel
theorem dX2_take_37 : decode cX2_take 37 = .ok (.putfield 33, 3) := by decide +kernel
theorem dX2_take_40 : decode cX2_take 40 = .ok (.return_, 1) := by decide +kernel
set_option maxRecDepth 20000 in
theorem ggX2_plan_X2_take : GoodIn wsX2_plan wsX2_take := goodIn_r _ [8, 9, 10, 11, 12, 76, 77, 78, 79, 80, 81, 82, 83, 84, 85, 86, 87, 88, 89, 90, 91, 67, 68, 69, 70, 71, 72, 73, 74, 75] (by decide +kernel) (by decide +kernel)
set_option maxRecDepth 20000 in
theorem gX2_plan_X2_take : GoodIn wsX2_plan (wsV RX2 36 RX2 yX2_take wsX2_take) := goodIn_app (goodIn_of _ (by decide +kernel)) ggX2_plan_X2_take
set_option maxRecDepth 20000 in
theorem ggX2_plan_X2_firstArrival : GoodIn wsX2_plan wsX2_firstArrival := goodIn_r _ [16, 17, 18, 10, 11, 12, 19, 20, 21, 22, 23, 24, 25, 26, 27, 28, 29, 30, 31, 32, 33, 34, 35, 36, 37, 38, 39, 40, 41, 42, 43, 44, 45, 46, 47, 48, 67, 68, 69, 70, 71, 72, 73, 74, 75, 76, 77, 78, 79, 80, 81, 82, 83, 84, 85, 86, 87, 88, 89, 90, 91] (by decide +kernel) (by decide +kernel)
set_option maxRecDepth 20000 in
theorem gX2_plan_X2_firstArrival : GoodIn wsX2_plan (wsV RX2 46 RX2 yX2_firstArrival wsX2_firstArrival) := goodIn_app (goodIn_of _ (by decide +kernel)) ggX2_plan_X2_firstArrival
set_option maxRecDepth 20000 in
theorem ggX2_plan_X2_fillFewest : GoodIn wsX2_plan wsX2_fillFewest := goodIn_r _ [52, 3, 11, 19, 12, 20, 21, 22, 23, 53, 54, 55, 56, 7, 57, 58, 59, 60, 61, 28, 29, 30, 31, 32, 33, 34, 35, 36, 37, 38, 39, 40, 41, 42, 43, 44, 45, 46, 47, 48, 67, 68, 69, 70, 71, 72, 73, 74, 75, 76, 77, 78, 79, 80, 81, 82, 83, 84, 85, 86, 87, 88, 89, 90, 91] (by decide +kernel) (by decide +kernel)
set_option maxRecDepth 20000 in
theorem gX2_plan_X2_fillFewest : GoodIn wsX2_plan (wsV RX2 53 RX2 yX2_fillFewest wsX2_fillFewest) := goodIn_app (goodIn_of _ (by decide +kernel)) ggX2_plan_X2_fillFewest
set_option maxRecDepth 20000 in
theorem ggX2_plan_X2_trace : GoodIn wsX2_plan wsX2_trace := goodIn_r _ [65, 10, 11, 3, 1, 66, 2, 54, 55, 56, 7, 57, 53, 58, 59, 60, 61, 28, 29, 30, 31, 32, 33, 34, 35, 36, 37, 38, 39, 40, 41, 42, 43, 44, 45, 46, 47, 48, 67, 68, 69, 70, 71, 72, 73, 74, 75, 76, 77, 78, 79, 80, 81, 82, 83, 84, 85, 86, 87, 88, 89, 90, 91] (by decide +kernel) (by decide +kernel)
set_option maxRecDepth 20000 in
theorem gX2_plan_X2_trace : GoodIn wsX2_plan (wsV RX2 57 RX2 yX2_trace wsX2_trace) := goodIn_app (goodIn_of _ (by decide +kernel)) ggX2_plan_X2_trace
theorem dX2_plan_0 : decode cX2_plan 0 = .ok (.aload_n 0, 1) := by decide +kernel
theorem dX2_plan_1 : decode cX2_plan 1 = .ok (.aload_n 1, 1) := by decide +kernel
theorem dX2_plan_2 : decode cX2_plan 2 = .ok (.iload_n 2, 1) := by decide +kernel
theorem dX2_plan_3 : decode cX2_plan 3 = .ok (.invokevirtual 36, 3) := by decide +kernel
theorem dX2_plan_6 : decode cX2_plan 6 = .ok (.aload_n 0, 1) := by decide +kernel
theorem dX2_plan_7 : decode cX2_plan 7 = .ok (.iconst 0, 1) := by decide +kernel
theorem dX2_plan_8 : decode cX2_plan 8 = .ok (.putfield 40, 3) := by decide +kernel
theorem dX2_plan_11 : decode cX2_plan 11 = .ok (.aload_n 0, 1) := by decide +kernel
theorem dX2_plan_12 : decode cX2_plan 12 = .ok (.iconst 0, 1) := by decide +kernel
theorem dX2_plan_13 : decode cX2_plan 13 = .ok (.putfield 43, 3) := by decide +kernel
theorem dX2_plan_16 : decode cX2_plan 16 = .ok (.aload_n 0, 1) := by decide +kernel
theorem dX2_plan_17 : decode cX2_plan 17 = .ok (.aload_n 0, 1) := by decide +kernel
theorem dX2_plan_18 : decode cX2_plan 18 = .ok (.aload_n 1, 1) := by decide +kernel
theorem dX2_plan_19 : decode cX2_plan 19 = .ok (.invokevirtual 46, 3) := by decide +kernel
theorem dX2_plan_22 : decode cX2_plan 22 = .ok (.putfield 50, 3) := by decide +kernel
theorem dX2_plan_25 : decode cX2_plan 25 = .ok (.aload_n 0, 1) := by decide +kernel
theorem dX2_plan_26 : decode cX2_plan 26 = .ok (.getfield 50, 3) := by decide +kernel
theorem dX2_plan_29 : decode cX2_plan 29 = .ok (.iconst (-1), 1) := by decide +kernel
theorem dX2_plan_30 : decode cX2_plan 30 = .ok (.if_icmp .eq 13, 3) := by decide +kernel
theorem dX2_plan_33 : decode cX2_plan 33 = .ok (.aload_n 0, 1) := by decide +kernel
theorem dX2_plan_34 : decode cX2_plan 34 = .ok (.aload_n 1, 1) := by decide +kernel
theorem dX2_plan_35 : decode cX2_plan 35 = .ok (.invokevirtual 53, 3) := by decide +kernel
theorem dX2_plan_38 : decode cX2_plan 38 = .ok (.aload_n 0, 1) := by decide +kernel
theorem dX2_plan_39 : decode cX2_plan 39 = .ok (.aload_n 1, 1) := by decide +kernel
theorem dX2_plan_40 : decode cX2_plan 40 = .ok (.invokevirtual 57, 3) := by decide +kernel
theorem dX2_plan_43 : decode cX2_plan 43 = .ok (.return_, 1) := by decide +kernel
set_option maxRecDepth 20000 in
theorem ggX2_firstArrival_J7_fill_53178 : GoodIn wsX2_firstArrival wsJ7_fill_53178 := goodIn_r _ [14] (by decide +kernel) (by decide +kernel)
set_option maxRecDepth 20000 in
theorem gX2_firstArrival_J7_fill_53178 : GoodIn wsX2_firstArrival (va_wsS RX2 61 yJ7_fill_53178 wsJ7_fill_53178) := goodIn_app (goodIn_of _ (by decide +kernel)) ggX2_firstArrival_J7_fill_53178
set_option maxRecDepth 20000 in
theorem ggX2_firstArrival_X0_heightAt : GoodIn wsX2_firstArrival wsX0_heightAt := goodIn_r _ [19, 20, 21, 22, 23, 18, 24, 25, 26, 27, 28, 29, 30, 45, 46, 47, 48, 49, 50, 51, 52, 53, 54, 55, 56, 57, 58, 59, 60] (by decide +kernel) (by decide +kernel)
set_option maxRecDepth 20000 in
theorem gX2_firstArrival_X0_heightAt : GoodIn wsX2_firstArrival (wsV RX2 70 RX0 yX0_heightAt wsX0_heightAt) := goodIn_app (goodIn_of _ (by decide +kernel)) ggX2_firstArrival_X0_heightAt
set_option maxRecDepth 20000 in
theorem ggX2_firstArrival_X0_goalAt : GoodIn wsX2_firstArrival wsX0_goalAt := goodIn_r _ [34, 35, 21, 22, 23, 18, 24, 25, 26, 27, 28, 29, 30, 45, 46, 47, 48, 49, 50, 51, 52, 53, 54, 55, 56, 57, 58, 59, 60] (by decide +kernel) (by decide +kernel)
set_option maxRecDepth 20000 in
theorem gX2_firstArrival_X0_goalAt : GoodIn wsX2_firstArrival (wsV RX2 74 RX0 yX0_goalAt wsX0_goalAt) := goodIn_app (goodIn_of _ (by decide +kernel)) ggX2_firstArrival_X0_goalAt
theorem dX2_firstArrival_0 : decode cX2_firstArrival 0 = .ok (.aload_n 0, 1) := by decide +kernel
theorem dX2_firstArrival_1 : decode cX2_firstArrival 1 = .ok (.getfield 15, 3) := by decide +kernel
theorem dX2_firstArrival_4 : decode cX2_firstArrival 4 = .ok (.ldc 60, 2) := by decide +kernel
theorem dX2_firstArrival_6 : decode cX2_firstArrival 6 = .ok (.invokestatic 61, 3) := by decide +kernel
theorem dX2_firstArrival_9 : decode cX2_firstArrival 9 = .ok (.aload_n 0, 1) := by decide +kernel
