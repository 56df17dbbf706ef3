theorem dX2_firstArrival_10 : decode cX2_firstArrival 10 = .ok (.getfield 15, 3) := by decide +kernel
theorem dX2_firstArrival_13 : decode cX2_firstArrival 13 = .ok (.aload_n 0, 1) := by decide +kernel
theorem dX2_firstArrival_14 : decode cX2_firstArrival 14 = .ok (.getfield 26, 3) := by decide +kernel
theorem dX2_firstArrival_17 : decode cX2_firstArrival 17 = .ok (.aload_n 0, 1) := by decide +kernel
theorem dX2_firstArrival_18 : decode cX2_firstArrival 18 = .ok (.getfield 30, 3) := by decide +kernel
theorem dX2_firstArrival_21 : decode cX2_firstArrival 21 = .ok (.iastore, 1) := by decide +kernel
theorem dX2_firstArrival_22 : decode cX2_firstArrival 22 = .ok (.aload_n 0, 1) := by decide +kernel
theorem dX2_firstArrival_23 : decode cX2_firstArrival 23 = .ok (.getfield 30, 3) := by decide +kernel
theorem dX2_firstArrival_26 : decode cX2_firstArrival 26 = .ok (.istore_n 2, 1) := by decide +kernel
theorem dX2_firstArrival_27 : decode cX2_firstArrival 27 = .ok (.iload_n 2, 1) := by decide +kernel
theorem dX2_firstArrival_28 : decode cX2_firstArrival 28 = .ok (.aload_n 0, 1) := by decide +kernel
theorem dX2_firstArrival_29 : decode cX2_firstArrival 29 = .ok (.getfield 30, 3) := by decide +kernel
theorem dX2_firstArrival_32 : decode cX2_firstArrival 32 = .ok (.bipush 96, 2) := by decide +kernel
theorem dX2_firstArrival_34 : decode cX2_firstArrival 34 = .ok (.iadd, 1) := by decide +kernel
theorem dX2_firstArrival_35 : decode cX2_firstArrival 35 = .ok (.if_icmp .ge 90, 3) := by decide +kernel
theorem dX2_firstArrival_38 : decode cX2_firstArrival 38 = .ok (.iload_n 2, 1) := by decide +kernel
theorem dX2_firstArrival_39 : decode cX2_firstArrival 39 = .ok (.aload_n 0, 1) := by decide +kernel
theorem dX2_firstArrival_40 : decode cX2_firstArrival 40 = .ok (.getfield 15, 3) := by decide +kernel
theorem dX2_firstArrival_43 : decode cX2_firstArrival 43 = .ok (.aload_n 0, 1) := by decide +kernel
theorem dX2_firstArrival_44 : decode cX2_firstArrival 44 = .ok (.getfield 33, 3) := by decide +kernel
theorem dX2_firstArrival_47 : decode cX2_firstArrival 47 = .ok (.iaload, 1) := by decide +kernel
theorem dX2_firstArrival_48 : decode cX2_firstArrival 48 = .ok (.if_icmp .ge 77, 3) := by decide +kernel
theorem dX2_firstArrival_51 : decode cX2_firstArrival 51 = .ok (.iconst 0, 1) := by decide +kernel
theorem dX2_firstArrival_52 : decode cX2_firstArrival 52 = .ok (.istore_n 3, 1) := by decide +kernel
theorem dX2_firstArrival_53 : decode cX2_firstArrival 53 = .ok (.iload_n 3, 1) := by decide +kernel
theorem dX2_firstArrival_54 : decode cX2_firstArrival 54 = .ok (.aload_n 1, 1) := by decide +kernel
theorem dX2_firstArrival_55 : decode cX2_firstArrival 55 = .ok (.getfield 67, 3) := by decide +kernel
theorem dX2_firstArrival_58 : decode cX2_firstArrival 58 = .ok (.if_icmp .ge 61, 3) := by decide +kernel
theorem dX2_firstArrival_61 : decode cX2_firstArrival 61 = .ok (.aload_n 1, 1) := by decide +kernel
theorem dX2_firstArrival_62 : decode cX2_firstArrival 62 = .ok (.iload_n 3, 1) := by decide +kernel
theorem dX2_firstArrival_63 : decode cX2_firstArrival 63 = .ok (.iload_n 2, 1) := by decide +kernel
theorem dX2_firstArrival_64 : decode cX2_firstArrival 64 = .ok (.invokevirtual 70, 3) := by decide +kernel
theorem dX2_firstArrival_67 : decode cX2_firstArrival 67 = .ok (.istore 4, 2) := by decide +kernel
theorem dX2_firstArrival_69 : decode cX2_firstArrival 69 = .ok (.aload_n 0, 1) := by decide +kernel
theorem dX2_firstArrival_70 : decode cX2_firstArrival 70 = .ok (.getfield 15, 3) := by decide +kernel
theorem dX2_firstArrival_73 : decode cX2_firstArrival 73 = .ok (.iload_n 3, 1) := by decide +kernel
theorem dX2_firstArrival_74 : decode cX2_firstArrival 74 = .ok (.iaload, 1) := by decide +kernel
theorem dX2_firstArrival_75 : decode cX2_firstArrival 75 = .ok (.iload_n 2, 1) := by decide +kernel
theorem dX2_firstArrival_76 : decode cX2_firstArrival 76 = .ok (.if_icmp .gt 37, 3) := by decide +kernel
theorem dX2_firstArrival_79 : decode cX2_firstArrival 79 = .ok (.iload 4, 2) := by decide +kernel
theorem dX2_firstArrival_81 : decode cX2_firstArrival 81 = .ok (.ifCond .le 32, 3) := by decide +kernel
theorem dX2_firstArrival_84 : decode cX2_firstArrival 84 = .ok (.aload_n 1, 1) := by decide +kernel
theorem dX2_firstArrival_85 : decode cX2_firstArrival 85 = .ok (.iload_n 3, 1) := by decide +kernel
theorem dX2_firstArrival_86 : decode cX2_firstArrival 86 = .ok (.iload_n 2, 1) := by decide +kernel
theorem dX2_firstArrival_87 : decode cX2_firstArrival 87 = .ok (.invokevirtual 74, 3) := by decide +kernel
theorem dX2_firstArrival_90 : decode cX2_firstArrival 90 = .ok (.istore 5, 2) := by decide +kernel
theorem dX2_firstArrival_92 : decode cX2_firstArrival 92 = .ok (.aload_n 0, 1) := by decide +kernel
theorem dX2_firstArrival_93 : decode cX2_firstArrival 93 = .ok (.getfield 15, 3) := by decide +kernel
theorem dX2_firstArrival_96 : decode cX2_firstArrival 96 = .ok (.iload 5, 2) := by decide +kernel
theorem dX2_firstArrival_98 : decode cX2_firstArrival 98 = .ok (.aload_n 0, 1) := by decide +kernel
theorem dX2_firstArrival_99 : decode cX2_firstArrival 99 = .ok (.getfield 15, 3) := by decide +kernel
theorem dX2_firstArrival_102 : decode cX2_firstArrival 102 = .ok (.iload 5, 2) := by decide +kernel
theorem dX2_firstArrival_104 : decode cX2_firstArrival 104 = .ok (.iaload, 1) := by decide +kernel
theorem dX2_firstArrival_105 : decode cX2_firstArrival 105 = .ok (.iload_n 2, 1) := by decide +kernel
theorem dX2_firstArrival_106 : decode cX2_firstArrival 106 = .ok (.iload 4, 2) := by decide +kernel
theorem dX2_firstArrival_108 : decode cX2_firstArrival 108 = .ok (.iadd, 1) := by decide +kernel
theorem dX2_firstArrival_109 : decode cX2_firstArrival 109 = .ok (.invokestatic 77, 3) := by decide +kernel
theorem dX2_firstArrival_112 : decode cX2_firstArrival 112 = .ok (.iastore, 1) := by decide +kernel
theorem dX2_firstArrival_113 : decode cX2_firstArrival 113 = .ok (.iinc 3 1, 3) := by decide +kernel
theorem dX2_firstArrival_116 : decode cX2_firstArrival 116 = .ok (.goto (-63), 3) := by decide +kernel
theorem dX2_firstArrival_119 : decode cX2_firstArrival 119 = .ok (.iinc 2 1, 3) := by decide +kernel
theorem dX2_firstArrival_122 : decode cX2_firstArrival 122 = .ok (.goto (-95), 3) := by decide +kernel
theorem dX2_firstArrival_125 : decode cX2_firstArrival 125 = .ok (.aload_n 0, 1) := by decide +kernel
theorem dX2_firstArrival_126 : decode cX2_firstArrival 126 = .ok (.getfield 15, 3) := by decide +kernel
theorem dX2_firstArrival_129 : decode cX2_firstArrival 129 = .ok (.aload_n 0, 1) := by decide +kernel
theorem dX2_firstArrival_130 : decode cX2_firstArrival 130 = .ok (.getfield 33, 3) := by decide +kernel
theorem dX2_firstArrival_133 : decode cX2_firstArrival 133 = .ok (.iaload, 1) := by decide +kernel
theorem dX2_firstArrival_134 : decode cX2_firstArrival 134 = .ok (.aload_n 0, 1) := by decide +kernel
theorem dX2_firstArrival_135 : decode cX2_firstArrival 135 = .ok (.getfield 30, 3) := by decide +kernel
theorem dX2_firstArrival_138 : decode cX2_firstArrival 138 = .ok (.bipush 96, 2) := by decide +kernel
theorem dX2_firstArrival_140 : decode cX2_firstArrival 140 = .ok (.iadd, 1) := by decide +kernel
theorem dX2_firstArrival_141 : decode cX2_firstArrival 141 = .ok (.if_icmp .ge 15, 3) := by decide +kernel
theorem dX2_firstArrival_144 : decode cX2_firstArrival 144 = .ok (.aload_n 0, 1) := by decide +kernel
theorem dX2_firstArrival_145 : decode cX2_firstArrival 145 = .ok (.getfield 15, 3) := by decide +kernel
theorem dX2_firstArrival_148 : decode cX2_firstArrival 148 = .ok (.aload_n 0, 1) := by decide +kernel
theorem dX2_firstArrival_149 : decode cX2_firstArrival 149 = .ok (.getfield 33, 3) := by decide +kernel
theorem dX2_firstArrival_152 : decode cX2_firstArrival 152 = .ok (.iaload, 1) := by decide +kernel
theorem dX2_firstArrival_153 : decode cX2_firstArrival 153 = .ok (.goto 4, 3) := by decide +kernel
theorem dX2_firstArrival_156 : decode cX2_firstArrival 156 = .ok (.iconst (-1), 1) := by decide +kernel
theorem dX2_firstArrival_157 : decode cX2_firstArrival 157 = .ok (.ireturn, 1) := by decide +kernel
set_option maxRecDepth 20000 in
theorem ggX2_fillFewest_X2_fewestFrom : GoodIn wsX2_fillFewest wsX2_fewestFrom := goodIn_r _ [14, 2, 9, 1, 40, 41, 42, 43, 44, 45, 46, 47, 48] (by decide +kernel) (by decide +kernel)
set_option maxRecDepth 20000 in
theorem gX2_fillFewest_X2_fewestFrom : GoodIn wsX2_fillFewest (wsV RX2 82 RX2 yX2_fewestFrom wsX2_fewestFrom) := goodIn_app (goodIn_of _ (by decide +kernel)) ggX2_fillFewest_X2_fewestFrom
set_option maxRecDepth 20000 in
theorem ggX2_fillFewest_X2_fewestThrowing : GoodIn wsX2_fillFewest wsX2_fewestThrowing := goodIn_r _ [18, 19, 20, 21, 22, 23, 24, 25, 26, 27, 28, 29, 30, 31, 32, 33, 34, 35, 36, 37, 38, 39, 10, 11, 12, 13, 14, 2, 9, 1, 49, 50, 51, 52, 53, 54, 55, 56, 57, 58, 59, 60, 61, 62, 63, 64, 40, 41, 42, 43, 44, 45, 46, 47, 48] (by decide +kernel) (by decide +kernel)
set_option maxRecDepth 20000 in
theorem gX2_fillFewest_X2_fewestThrowing : GoodIn wsX2_fillFewest (wsV RX2 85 RX2 yX2_fewestThrowing wsX2_fewestThrowing) := goodIn_app (goodIn_of _ (by decide +kernel)) ggX2_fillFewest_X2_fewestThrowing
theorem dX2_fillFewest_0 : decode cX2_fillFewest 0 = .ok (.aload_n 0, 1) := by decide +kernel
theorem dX2_fillFewest_1 : decode cX2_fillFewest 1 = .ok (.getfield 50, 3) := by decide +kernel
theorem dX2_fillFewest_4 : decode cX2_fillFewest 4 = .ok (.istore_n 2, 1) := by decide +kernel
theorem dX2_fillFewest_5 : decode cX2_fillFewest 5 = .ok (.iload_n 2, 1) := by decide +kernel
theorem dX2_fillFewest_6 : decode cX2_fillFewest 6 = .ok (.aload_n 0, 1) := by decide +kernel
theorem dX2_fillFewest_7 : decode cX2_fillFewest 7 = .ok (.getfield 30, 3) := by decide +kernel
theorem dX2_fillFewest_10 : decode cX2_fillFewest 10 = .ok (.if_icmp .lt 92, 3) := by decide +kernel
theorem dX2_fillFewest_13 : decode cX2_fillFewest 13 = .ok (.iconst 0, 1) := by decide +kernel
theorem dX2_fillFewest_14 : decode cX2_fillFewest 14 = .ok (.istore_n 3, 1) := by decide +kernel
theorem dX2_fillFewest_15 : decode cX2_fillFewest 15 = .ok (.iload_n 3, 1) := by decide +kernel
theorem dX2_fillFewest_16 : decode cX2_fillFewest 16 = .ok (.aload_n 1, 1) := by decide +kernel
theorem dX2_fillFewest_17 : decode cX2_fillFewest 17 = .ok (.getfield 67, 3) := by decide +kernel
theorem dX2_fillFewest_20 : decode cX2_fillFewest 20 = .ok (.if_icmp .ge 76, 3) := by decide +kernel
theorem dX2_fillFewest_23 : decode cX2_fillFewest 23 = .ok (.iload_n 2, 1) := by decide +kernel
theorem dX2_fillFewest_24 : decode cX2_fillFewest 24 = .ok (.aload_n 0, 1) := by decide +kernel
theorem dX2_fillFewest_25 : decode cX2_fillFewest 25 = .ok (.getfield 50, 3) := by decide +kernel
theorem dX2_fillFewest_28 : decode cX2_fillFewest 28 = .ok (.if_icmp .ge 14, 3) := by decide +kernel
theorem dX2_fillFewest_31 : decode cX2_fillFewest 31 = .ok (.aload_n 0, 1) := by decide +kernel
theorem dX2_fillFewest_32 : decode cX2_fillFewest 32 = .ok (.iload_n 3, 1) := by decide +kernel
theorem dX2_fillFewest_33 : decode cX2_fillFewest 33 = .ok (.iload_n 2, 1) := by decide +kernel
theorem dX2_fillFewest_34 : decode cX2_fillFewest 34 = .ok (.iconst 1, 1) := by decide +kernel
theorem dX2_fillFewest_35 : decode cX2_fillFewest 35 = .ok (.iadd, 1) := by decide +kernel
theorem dX2_fillFewest_36 : decode cX2_fillFewest 36 = .ok (.invokevirtual 82, 3) := by decide +kernel
theorem dX2_fillFewest_39 : decode cX2_fillFewest 39 = .ok (.goto 5, 3) := by decide +kernel
theorem dX2_fillFewest_42 : decode cX2_fillFewest 42 = .ok (.bipush 99, 2) := by decide +kernel
theorem dX2_fillFewest_44 : decode cX2_fillFewest 44 = .ok (.istore 4, 2) := by decide +kernel
theorem dX2_fillFewest_46 : decode cX2_fillFewest 46 = .ok (.iload_n 3, 1) := by decide +kernel
theorem dX2_fillFewest_47 : decode cX2_fillFewest 47 = .ok (.aload_n 0, 1) := by decide +kernel
theorem dX2_fillFewest_48 : decode cX2_fillFewest 48 = .ok (.getfield 33, 3) := by decide +kernel
theorem dX2_fillFewest_51 : decode cX2_fillFewest 51 = .ok (.if_icmp .ne 7, 3) := by decide +kernel
theorem dX2_fillFewest_54 : decode cX2_fillFewest 54 = .ok (.iconst 0, 1) := by decide +kernel
theorem dX2_fillFewest_55 : decode cX2_fillFewest 55 = .ok (.goto 15, 3) := by decide +kernel
theorem dX2_fillFewest_58 : decode cX2_fillFewest 58 = .ok (.iload 4, 2) := by decide +kernel
theorem dX2_fillFewest_60 : decode cX2_fillFewest 60 = .ok (.aload_n 0, 1) := by decide +kernel
theorem dX2_fillFewest_61 : decode cX2_fillFewest 61 = .ok (.aload_n 1, 1) := by decide +kernel
theorem dX2_fillFewest_62 : decode cX2_fillFewest 62 = .ok (.iload_n 3, 1) := by decide +kernel
theorem dX2_fillFewest_63 : decode cX2_fillFewest 63 = .ok (.iload_n 2, 1) := by decide +kernel
theorem dX2_fillFewest_64 : decode cX2_fillFewest 64 = .ok (.invokevirtual 85, 3) := by decide +kernel
theorem dX2_fillFewest_67 : decode cX2_fillFewest 67 = .ok (.invokestatic 77, 3) := by decide +kernel
theorem dX2_fillFewest_70 : decode cX2_fillFewest 70 = .ok (.istore 5, 2) := by decide +kernel
theorem dX2_fillFewest_72 : decode cX2_fillFewest 72 = .ok (.aload_n 0, 1) := by decide +kernel
theorem dX2_fillFewest_73 : decode cX2_fillFewest 73 = .ok (.getfield 18, 3) := by decide +kernel
theorem dX2_fillFewest_76 : decode cX2_fillFewest 76 = .ok (.iload_n 2, 1) := by decide +kernel
theorem dX2_fillFewest_77 : decode cX2_fillFewest 77 = .ok (.aload_n 0, 1) := by decide +kernel
theorem dX2_fillFewest_78 : decode cX2_fillFewest 78 = .ok (.getfield 30, 3) := by decide +kernel
theorem dX2_fillFewest_81 : decode cX2_fillFewest 81 = .ok (.isub, 1) := by decide +kernel
theorem dX2_fillFewest_82 : decode cX2_fillFewest 82 = .ok (.bipush 6, 2) := by decide +kernel
theorem dX2_fillFewest_84 : decode cX2_fillFewest 84 = .ok (.imul, 1) := by decide +kernel
theorem dX2_fillFewest_85 : decode cX2_fillFewest 85 = .ok (.iload_n 3, 1) := by decide +kernel
theorem dX2_fillFewest_86 : decode cX2_fillFewest 86 = .ok (.iadd, 1) := by decide +kernel
theorem dX2_fillFewest_87 : decode cX2_fillFewest 87 = .ok (.iload 5, 2) := by decide +kernel
theorem dX2_fillFewest_89 : decode cX2_fillFewest 89 = .ok (.iastore, 1) := by decide +kernel
theorem dX2_fillFewest_90 : decode cX2_fillFewest 90 = .ok (.iinc 3 1, 3) := by decide +kernel
theorem dX2_fillFewest_93 : decode cX2_fillFewest 93 = .ok (.goto (-78), 3) := by decide +kernel
theorem dX2_fillFewest_96 : decode cX2_fillFewest 96 = .ok (.iinc 2 (-1), 3) := by decide +kernel
theorem dX2_fillFewest_99 : decode cX2_fillFewest 99 = .ok (.goto (-94), 3) := by decide +kernel
theorem dX2_fillFewest_102 : decode cX2_fillFewest 102 = .ok (.return_, 1) := by decide +kernel
theorem dX2_fewestFrom_0 : decode cX2_fewestFrom 0 = .ok (.iload_n 2, 1) := by decide +kernel
theorem dX2_fewestFrom_1 : decode cX2_fewestFrom 1 = .ok (.aload_n 0, 1) := by decide +kernel
theorem dX2_fewestFrom_2 : decode cX2_fewestFrom 2 = .ok (.getfield 30, 3) := by decide +kernel
theorem dX2_fewestFrom_5 : decode cX2_fewestFrom 5 = .ok (.isub, 1) := by decide +kernel
theorem dX2_fewestFrom_6 : decode cX2_fewestFrom 6 = .ok (.bipush 6, 2) := by decide +kernel
theorem dX2_fewestFrom_8 : decode cX2_fewestFrom 8 = .ok (.imul, 1) := by decide +kernel
theorem dX2_fewestFrom_9 : decode cX2_fewestFrom 9 = .ok (.iload_n 1, 1) := by decide +kernel
theorem dX2_fewestFrom_10 : decode cX2_fewestFrom 10 = .ok (.iadd, 1) := by decide +kernel
theorem dX2_fewestFrom_11 : decode cX2_fewestFrom 11 = .ok (.istore_n 3, 1) := by decide +kernel
theorem dX2_fewestFrom_12 : decode cX2_fewestFrom 12 = .ok (.iload_n 3, 1) := by decide +kernel
theorem dX2_fewestFrom_13 : decode cX2_fewestFrom 13 = .ok (.ifCond .lt 29, 3) := by decide +kernel
theorem dX2_fewestFrom_16 : decode cX2_fewestFrom 16 = .ok (.iload_n 3, 1) := by decide +kernel
theorem dX2_fewestFrom_17 : decode cX2_fewestFrom 17 = .ok (.aload_n 0, 1) := by decide +kernel
theorem dX2_fewestFrom_18 : decode cX2_fewestFrom 18 = .ok (.getfield 18, 3) := by decide +kernel
theorem dX2_fewestFrom_21 : decode cX2_fewestFrom 21 = .ok (.arraylength, 1) := by decide +kernel
theorem dX2_fewestFrom_22 : decode cX2_fewestFrom 22 = .ok (.if_icmp .ge 20, 3) := by decide +kernel
theorem dX2_fewestFrom_25 : decode cX2_fewestFrom 25 = .ok (.iload_n 2, 1) := by decide +kernel
theorem dX2_fewestFrom_26 : decode cX2_fewestFrom 26 = .ok (.aload_n 0, 1) := by decide +kernel
theorem dX2_fewestFrom_27 : decode cX2_fewestFrom 27 = .ok (.getfield 50, 3) := by decide +kernel
theorem dX2_fewestFrom_30 : decode cX2_fewestFrom 30 = .ok (.if_icmp .gt 12, 3) := by decide +kernel
theorem dX2_fewestFrom_33 : decode cX2_fewestFrom 33 = .ok (.aload_n 0, 1) := by decide +kernel
theorem dX2_fewestFrom_34 : decode cX2_fewestFrom 34 = .ok (.getfield 18, 3) := by decide +kernel
theorem dX2_fewestFrom_37 : decode cX2_fewestFrom 37 = .ok (.iload_n 3, 1) := by decide +kernel
theorem dX2_fewestFrom_38 : decode cX2_fewestFrom 38 = .ok (.iaload, 1) := by decide +kernel
theorem dX2_fewestFrom_39 : decode cX2_fewestFrom 39 = .ok (.goto 5, 3) := by decide +kernel
theorem dX2_fewestFrom_42 : decode cX2_fewestFrom 42 = .ok (.bipush 99, 2) := by decide +kernel
theorem dX2_fewestFrom_44 : decode cX2_fewestFrom 44 = .ok (.ireturn, 1) := by decide +kernel
set_option maxRecDepth 20000 in
theorem ggX2_fewestThrowing_X0_heightAt : GoodIn wsX2_fewestThrowing wsX0_heightAt := goodIn_r _ [5, 6, 7, 8, 9, 4, 10, 11, 12, 13, 14, 15, 16, 30, 31, 32, 33, 34, 35, 36, 37, 38, 39, 40, 41, 42, 43, 44, 45] (by decide +kernel) (by decide +kernel)
set_option maxRecDepth 20000 in
theorem gX2_fewestThrowing_X0_heightAt : GoodIn wsX2_fewestThrowing (wsV RX2 70 RX0 yX0_heightAt wsX0_heightAt) := goodIn_app (goodIn_of _ (by decide +kernel)) ggX2_fewestThrowing_X0_heightAt
set_option maxRecDepth 20000 in
theorem ggX2_fewestThrowing_X0_goalAt : GoodIn wsX2_fewestThrowing wsX0_goalAt := goodIn_r _ [20, 21, 7, 8, 9, 4, 10, 11, 12, 13, 14, 15, 16, 30, 31, 32, 33, 34, 35, 36, 37, 38, 39, 40, 41, 42, 43, 44, 45] (by decide +kernel) (by decide +kernel)
set_option maxRecDepth 20000 in
theorem gX2_fewestThrowing_X0_goalAt : GoodIn wsX2_fewestThrowing (wsV RX2 74 RX0 yX0_goalAt wsX0_goalAt) := goodIn_app (goodIn_of _ (by decide +kernel)) ggX2_fewestThrowing_X0_goalAt
set_option maxRecDepth 20000 in
theorem ggX2_fewestThrowing_X2_fewestFrom : GoodIn wsX2_fewestThrowing wsX2_fewestFrom := goodIn_r _ [26, 27, 28, 29, 46, 47, 48, 49, 50, 51, 52, 53, 54] (by decide +kernel) (by decide +kernel)
set_option maxRecDepth 20000 in
theorem gX2_fewestThrowing_X2_fewestFrom : GoodIn wsX2_fewestThrowing (wsV RX2 82 RX2 yX2_fewestFrom wsX2_fewestFrom) := goodIn_app (goodIn_of _ (by decide +kernel)) ggX2_fewestThrowing_X2_fewestFrom
theorem dX2_fewestThrowing_0 : decode cX2_fewestThrowing 0 = .ok (.aload_n 1, 1) := by decide +kernel
theorem dX2_fewestThrowing_1 : decode cX2_fewestThrowing 1 = .ok (.iload_n 2, 1) := by decide +kernel
theorem dX2_fewestThrowing_2 : decode cX2_fewestThrowing 2 = .ok (.iload_n 3, 1) := by decide +kernel
theorem dX2_fewestThrowing_3 : decode cX2_fewestThrowing 3 = .ok (.invokevirtual 70, 3) := by decide +kernel
theorem dX2_fewestThrowing_6 : decode cX2_fewestThrowing 6 = .ok (.istore 4, 2) := by decide +kernel
theorem dX2_fewestThrowing_8 : decode cX2_fewestThrowing 8 = .ok (.iload 4, 2) := by decide +kernel
theorem dX2_fewestThrowing_10 : decode cX2_fewestThrowing 10 = .ok (.ifCond .le 22, 3) := by decide +kernel
theorem dX2_fewestThrowing_13 : decode cX2_fewestThrowing 13 = .ok (.iconst 1, 1) := by decide +kernel
theorem dX2_fewestThrowing_14 : decode cX2_fewestThrowing 14 = .ok (.aload_n 0, 1) := by decide +kernel
theorem dX2_fewestThrowing_15 : decode cX2_fewestThrowing 15 = .ok (.aload_n 1, 1) := by decide +kernel
theorem dX2_fewestThrowing_16 : decode cX2_fewestThrowing 16 = .ok (.iload_n 2, 1) := by decide +kernel
theorem dX2_fewestThrowing_17 : decode cX2_fewestThrowing 17 = .ok (.iload_n 3, 1) := by decide +kernel
theorem dX2_fewestThrowing_18 : decode cX2_fewestThrowing 18 = .ok (.invokevirtual 74, 3) := by decide +kernel
theorem dX2_fewestThrowing_21 : decode cX2_fewestThrowing 21 = .ok (.iload_n 3, 1) := by decide +kernel
theorem dX2_fewestThrowing_22 : decode cX2_fewestThrowing 22 = .ok (.iload 4, 2) := by decide +kernel
theorem dX2_fewestThrowing_24 : decode cX2_fewestThrowing 24 = .ok (.iadd, 1) := by decide +kernel
theorem dX2_fewestThrowing_25 : decode cX2_fewestThrowing 25 = .ok (.invokevirtual 82, 3) := by decide +kernel
theorem dX2_fewestThrowing_28 : decode cX2_fewestThrowing 28 = .ok (.iadd, 1) := by decide +kernel
theorem dX2_fewestThrowing_29 : decode cX2_fewestThrowing 29 = .ok (.goto 5, 3) := by decide +kernel
theorem dX2_fewestThrowing_32 : decode cX2_fewestThrowing 32 = .ok (.bipush 99, 2) := by decide +kernel
theorem dX2_fewestThrowing_34 : decode cX2_fewestThrowing 34 = .ok (.ireturn, 1) := by decide +kernel
set_option maxRecDepth 20000 in
theorem ggX2_trace_X2_fewestFrom : GoodIn wsX2_trace wsX2_fewestFrom := goodIn_r _ [11, 2, 12, 3, 38, 39, 40, 41, 42, 43, 44, 45, 46] (by decide +kernel) (by decide +kernel)
set_option maxRecDepth 20000 in
theorem gX2_trace_X2_fewestFrom : GoodIn wsX2_trace (wsV RX2 82 RX2 yX2_fewestFrom wsX2_fewestFrom) := goodIn_app (goodIn_of _ (by decide +kernel)) ggX2_trace_X2_fewestFrom
set_option maxRecDepth 20000 in
theorem ggX2_trace_X2_fewestThrowing : GoodIn wsX2_trace wsX2_fewestThrowing := goodIn_r _ [16, 17, 18, 19, 20, 21, 22, 23, 24, 25, 26, 27, 28, 29, 30, 31, 32, 33, 34, 35, 36, 37, 7, 8, 9, 10, 11, 2, 12, 3, 47, 48, 49, 50, 51, 52, 53, 54, 55, 56, 57, 58, 59, 60, 61, 62, 38, 39, 40, 41, 42, 43, 44, 45, 46] (by decide +kernel) (by decide +kernel)
set_option maxRecDepth 20000 in
theorem gX2_trace_X2_fewestThrowing : GoodIn wsX2_trace (wsV RX2 85 RX2 yX2_fewestThrowing wsX2_fewestThrowing) := goodIn_app (goodIn_of _ (by decide +kernel)) ggX2_trace_X2_fewestThrowing
set_option maxRecDepth 20000 in
theorem ggX2_trace_X0_heightAt : GoodIn wsX2_trace wsX0_heightAt := goodIn_r _ [21, 22, 23, 24, 25, 20, 26, 27, 28, 29, 30, 31, 32, 47, 48, 49, 50, 51, 52, 53, 54, 55, 56, 57, 58, 59, 60, 61, 62] (by decide +kernel) (by decide +kernel)
set_option maxRecDepth 20000 in
theorem gX2_trace_X0_heightAt : GoodIn wsX2_trace (wsV RX2 70 RX0 yX0_heightAt wsX0_heightAt) := goodIn_app (goodIn_of _ (by decide +kernel)) ggX2_trace_X0_heightAt
set_option maxRecDepth 20000 in
theorem ggX2_trace_X0_goalAt : GoodIn wsX2_trace wsX0_goalAt := goodIn_r _ [36, 37, 23, 24, 25, 20, 26, 27, 28, 29, 30, 31, 32, 47, 48, 49, 50, 51, 52, 53, 54, 55, 56, 57, 58, 59, 60, 61, 62] (by decide +kernel) (by decide +kernel)
set_option maxRecDepth 20000 in
theorem gX2_trace_X0_goalAt : GoodIn wsX2_trace (wsV RX2 74 RX0 yX0_goalAt wsX0_goalAt) := goodIn_app (goodIn_of _ (by decide +kernel)) ggX2_trace_X0_goalAt
theorem dX2_trace_0 : decode cX2_trace 0 = .ok (.aload_n 0, 1) := by decide +kernel
theorem dX2_trace_1 : decode cX2_trace 1 = .ok (.getfield 26, 3) := by decide +kernel
theorem dX2_trace_4 : decode cX2_trace 4 = .ok (.istore_n 2, 1) := by decide +kernel
theorem dX2_trace_5 : decode cX2_trace 5 = .ok (.aload_n 0, 1) := by decide +kernel
theorem dX2_trace_6 : decode cX2_trace 6 = .ok (.aload_n 0, 1) := by decide +kernel
theorem dX2_trace_7 : decode cX2_trace 7 = .ok (.getfield 26, 3) := by decide +kernel
theorem dX2_trace_10 : decode cX2_trace 10 = .ok (.aload_n 0, 1) := by decide +kernel
theorem dX2_trace_11 : decode cX2_trace 11 = .ok (.getfield 30, 3) := by decide +kernel
theorem dX2_trace_14 : decode cX2_trace 14 = .ok (.invokevirtual 82, 3) := by decide +kernel
theorem dX2_trace_17 : decode cX2_trace 17 = .ok (.istore_n 3, 1) := by decide +kernel
theorem dX2_trace_18 : decode cX2_trace 18 = .ok (.aload_n 0, 1) := by decide +kernel
theorem dX2_trace_19 : decode cX2_trace 19 = .ok (.getfield 30, 3) := by decide +kernel
theorem dX2_trace_22 : decode cX2_trace 22 = .ok (.istore 4, 2) := by decide +kernel
theorem dX2_trace_24 : decode cX2_trace 24 = .ok (.aload_n 0, 1) := by decide +kernel
theorem dX2_trace_25 : decode cX2_trace 25 = .ok (.getfield 30, 3) := by decide +kernel
theorem dX2_trace_28 : decode cX2_trace 28 = .ok (.istore 5, 2) := by decide +kernel
theorem dX2_trace_30 : decode cX2_trace 30 = .ok (.iload 5, 2) := by decide +kernel
theorem dX2_trace_32 : decode cX2_trace 32 = .ok (.aload_n 0, 1) := by decide +kernel
theorem dX2_trace_33 : decode cX2_trace 33 = .ok (.getfield 50, 3) := by decide +kernel
theorem dX2_trace_36 : decode cX2_trace 36 = .ok (.if_icmp .ge 104, 3) := by decide +kernel
theorem dX2_trace_39 : decode cX2_trace 39 = .ok (.aload_n 0, 1) := by decide +kernel
theorem dX2_trace_40 : decode cX2_trace 40 = .ok (.getfield 40, 3) := by decide +kernel
theorem dX2_trace_43 : decode cX2_trace 43 = .ok (.bipush 6, 2) := by decide +kernel
theorem dX2_trace_45 : decode cX2_trace 45 = .ok (.if_icmp .ge 95, 3) := by decide +kernel
theorem dX2_trace_48 : decode cX2_trace 48 = .ok (.iload 5, 2) := by decide +kernel
theorem dX2_trace_50 : decode cX2_trace 50 = .ok (.iload 4, 2) := by decide +kernel
theorem dX2_trace_52 : decode cX2_trace 52 = .ok (.if_icmp .lt 82, 3) := by decide +kernel
theorem dX2_trace_55 : decode cX2_trace 55 = .ok (.iload_n 3, 1) := by decide +kernel
theorem dX2_trace_56 : decode cX2_trace 56 = .ok (.ifCond .le 78, 3) := by decide +kernel
theorem dX2_trace_59 : decode cX2_trace 59 = .ok (.aload_n 0, 1) := by decide +kernel
theorem dX2_trace_60 : decode cX2_trace 60 = .ok (.aload_n 1, 1) := by decide +kernel
theorem dX2_trace_61 : decode cX2_trace 61 = .ok (.iload_n 2, 1) := by decide +kernel
theorem dX2_trace_62 : decode cX2_trace 62 = .ok (.iload 5, 2) := by decide +kernel
theorem dX2_trace_64 : decode cX2_trace 64 = .ok (.invokevirtual 85, 3) := by decide +kernel
theorem dX2_trace_67 : decode cX2_trace 67 = .ok (.iload_n 3, 1) := by decide +kernel
theorem dX2_trace_68 : decode cX2_trace 68 = .ok (.if_icmp .ne 66, 3) := by decide +kernel
theorem dX2_trace_71 : decode cX2_trace 71 = .ok (.aload_n 0, 1) := by decide +kernel
theorem dX2_trace_72 : decode cX2_trace 72 = .ok (.getfield 9, 3) := by decide +kernel
theorem dX2_trace_75 : decode cX2_trace 75 = .ok (.aload_n 0, 1) := by decide +kernel
theorem dX2_trace_76 : decode cX2_trace 76 = .ok (.getfield 40, 3) := by decide +kernel
theorem dX2_trace_79 : decode cX2_trace 79 = .ok (.bipush 10, 2) := by decide +kernel
theorem dX2_trace_81 : decode cX2_trace 81 = .ok (.iload 5, 2) := by decide +kernel
theorem dX2_trace_83 : decode cX2_trace 83 = .ok (.imul, 1) := by decide +kernel
theorem dX2_trace_84 : decode cX2_trace 84 = .ok (.iload_n 2, 1) := by decide +kernel
theorem dX2_trace_85 : decode cX2_trace 85 = .ok (.iadd, 1) := by decide +kernel
theorem dX2_trace_86 : decode cX2_trace 86 = .ok (.iastore, 1) := by decide +kernel
theorem dX2_trace_87 : decode cX2_trace 87 = .ok (.aload_n 0, 1) := by decide +kernel
theorem dX2_trace_88 : decode cX2_trace 88 = .ok (.dup, 1) := by decide +kernel
theorem dX2_trace_89 : decode cX2_trace 89 = .ok (.getfield 40, 3) := by decide +kernel
theorem dX2_trace_92 : decode cX2_trace 92 = .ok (.iconst 1, 1) := by decide +kernel
theorem dX2_trace_93 : decode cX2_trace 93 = .ok (.iadd, 1) := by decide +kernel
theorem dX2_trace_94 : decode cX2_trace 94 = .ok (.putfield 40, 3) := by decide +kernel
theorem dX2_trace_97 : decode cX2_trace 97 = .ok (.iinc 3 (-1), 3) := by decide +kernel
theorem dX2_trace_100 : decode cX2_trace 100 = .ok (.aload_n 0, 1) := by decide +kernel
theorem dX2_trace_101 : decode cX2_trace 101 = .ok (.dup, 1) := by decide +kernel
theorem dX2_trace_102 : decode cX2_trace 102 = .ok (.getfield 43, 3) := by decide +kernel
theorem dX2_trace_105 : decode cX2_trace 105 = .ok (.iload 5, 2) := by decide +kernel
theorem dX2_trace_107 : decode cX2_trace 107 = .ok (.iload 4, 2) := by decide +kernel
theorem dX2_trace_109 : decode cX2_trace 109 = .ok (.isub, 1) := by decide +kernel
theorem dX2_trace_110 : decode cX2_trace 110 = .ok (.iadd, 1) := by decide +kernel
theorem dX2_trace_111 : decode cX2_trace 111 = .ok (.putfield 43, 3) := by decide +kernel
theorem dX2_trace_114 : decode cX2_trace 114 = .ok (.iload 5, 2) := by decide +kernel
theorem dX2_trace_116 : decode cX2_trace 116 = .ok (.aload_n 1, 1) := by decide +kernel
theorem dX2_trace_117 : decode cX2_trace 117 = .ok (.iload_n 2, 1) := by decide +kernel
theorem dX2_trace_118 : decode cX2_trace 118 = .ok (.iload 5, 2) := by decide +kernel
theorem dX2_trace_120 : decode cX2_trace 120 = .ok (.invokevirtual 70, 3) := by decide +kernel
theorem dX2_trace_123 : decode cX2_trace 123 = .ok (.iadd, 1) := by decide +kernel
theorem dX2_trace_124 : decode cX2_trace 124 = .ok (.istore 4, 2) := by decide +kernel
theorem dX2_trace_126 : decode cX2_trace 126 = .ok (.aload_n 1, 1) := by decide +kernel
theorem dX2_trace_127 : decode cX2_trace 127 = .ok (.iload_n 2, 1) := by decide +kernel
theorem dX2_trace_128 : decode cX2_trace 128 = .ok (.iload 5, 2) := by decide +kernel
theorem dX2_trace_130 : decode cX2_trace 130 = .ok (.invokevirtual 74, 3) := by decide +kernel
theorem dX2_trace_133 : decode cX2_trace 133 = .ok (.istore_n 2, 1) := by decide +kernel
theorem dX2_trace_134 : decode cX2_trace 134 = .ok (.iinc 5 1, 3) := by decide +kernel
theorem dX2_trace_137 : decode cX2_trace 137 = .ok (.goto (-107), 3) := by decide +kernel
theorem dX2_trace_140 : decode cX2_trace 140 = .ok (.return_, 1) := by decide +kernel
set_option maxRecDepth 20000 in
theorem ggX2_lastLeave_X2_take : GoodIn wsX2_lastLeave wsX2_take := goodIn_r _ [14, 15, 8, 3, 2, 50, 51, 52, 53, 54, 55, 56, 57, 58, 59, 60, 61, 62, 63, 64, 65, 41, 42, 43, 44, 45, 46, 47, 48, 49] (by decide +kernel) (by decide +kernel)
set_option maxRecDepth 20000 in
theorem gX2_lastLeave_X2_take : GoodIn wsX2_lastLeave (wsV RX2 36 RX2 yX2_take wsX2_take) := goodIn_app (goodIn_of _ (by decide +kernel)) ggX2_lastLeave_X2_take
set_option maxRecDepth 20000 in
theorem ggX2_lastLeave_J7_fill_53178 : GoodIn wsX2_lastLeave wsJ7_fill_53178 := goodIn_r _ [19] (by decide +kernel) (by decide +kernel)
set_option maxRecDepth 20000 in
theorem gX2_lastLeave_J7_fill_53178 : GoodIn wsX2_lastLeave (va_wsS RX2 61 yJ7_fill_53178 wsJ7_fill_53178) := goodIn_app (goodIn_of _ (by decide +kernel)) ggX2_lastLeave_J7_fill_53178
set_option maxRecDepth 20000 in
theorem ggX2_lastLeave_X0_heightAt : GoodIn wsX2_lastLeave wsX0_heightAt := goodIn_r _ [24, 25, 26, 27, 28, 23, 29, 30, 31, 32, 33, 34, 35, 50, 51, 52, 53, 54, 55, 56, 57, 58, 59, 60, 61, 62, 63, 64, 65] (by decide +kernel) (by decide +kernel)
set_option maxRecDepth 20000 in
theorem gX2_lastLeave_X0_heightAt : GoodIn wsX2_lastLeave (wsV RX2 70 RX0 yX0_heightAt wsX0_heightAt) := goodIn_app (goodIn_of _ (by decide +kernel)) ggX2_lastLeave_X0_heightAt
set_option maxRecDepth 20000 in
theorem ggX2_lastLeave_X0_goalAt : GoodIn wsX2_lastLeave wsX0_goalAt := goodIn_r _ [39, 40, 26, 27, 28, 23, 29, 30, 31, 32, 33, 34, 35, 50, 51, 52, 53, 54, 55, 56, 57, 58, 59, 60, 61, 62, 63, 64, 65] (by decide +kernel) (by decide +kernel)
set_option maxRecDepth 20000 in
theorem gX2_lastLeave_X0_goalAt : GoodIn wsX2_lastLeave (wsV RX2 74 RX0 yX0_goalAt wsX0_goalAt) := goodIn_app (goodIn_of _ (by decide +kernel)) ggX2_lastLeave_X0_goalAt
theorem dX2_lastLeave_0 : decode cX2_lastLeave 0 = .ok (.aload_n 0, 1) := by decide +kernel
theorem dX2_lastLeave_1 : decode cX2_lastLeave 1 = .ok (.aload_n 1, 1) := by decide +kernel
theorem dX2_lastLeave_2 : decode cX2_lastLeave 2 = .ok (.iload_n 2, 1) := by decide +kernel
theorem dX2_lastLeave_3 : decode cX2_lastLeave 3 = .ok (.invokevirtual 36, 3) := by decide +kernel
theorem dX2_lastLeave_6 : decode cX2_lastLeave 6 = .ok (.aload_n 0, 1) := by decide +kernel
theorem dX2_lastLeave_7 : decode cX2_lastLeave 7 = .ok (.getfield 15, 3) := by decide +kernel
theorem dX2_lastLeave_10 : decode cX2_lastLeave 10 = .ok (.iconst (-1), 1) := by decide +kernel
theorem dX2_lastLeave_11 : decode cX2_lastLeave 11 = .ok (.invokestatic 61, 3) := by decide +kernel
theorem dX2_lastLeave_14 : decode cX2_lastLeave 14 = .ok (.aload_n 0, 1) := by decide +kernel
theorem dX2_lastLeave_15 : decode cX2_lastLeave 15 = .ok (.getfield 15, 3) := by decide +kernel
theorem dX2_lastLeave_18 : decode cX2_lastLeave 18 = .ok (.aload_n 0, 1) := by decide +kernel
theorem dX2_lastLeave_19 : decode cX2_lastLeave 19 = .ok (.getfield 33, 3) := by decide +kernel
theorem dX2_lastLeave_22 : decode cX2_lastLeave 22 = .ok (.iload_n 3, 1) := by decide +kernel
theorem dX2_lastLeave_23 : decode cX2_lastLeave 23 = .ok (.iastore, 1) := by decide +kernel
theorem dX2_lastLeave_24 : decode cX2_lastLeave 24 = .ok (.aload_n 0, 1) := by decide +kernel
theorem dX2_lastLeave_25 : decode cX2_lastLeave 25 = .ok (.getfield 30, 3) := by decide +kernel
theorem dX2_lastLeave_28 : decode cX2_lastLeave 28 = .ok (.iload_n 3, 1) := by decide +kernel
theorem dX2_lastLeave_29 : decode cX2_lastLeave 29 = .ok (.bipush 96, 2) := by decide +kernel
theorem dX2_lastLeave_31 : decode cX2_lastLeave 31 = .ok (.isub, 1) := by decide +kernel
theorem dX2_lastLeave_32 : decode cX2_lastLeave 32 = .ok (.invokestatic 89, 3) := by decide +kernel
theorem dX2_lastLeave_35 : decode cX2_lastLeave 35 = .ok (.istore 4, 2) := by decide +kernel
theorem dX2_lastLeave_37 : decode cX2_lastLeave 37 = .ok (.iload_n 3, 1) := by decide +kernel
theorem dX2_lastLeave_38 : decode cX2_lastLeave 38 = .ok (.iconst 1, 1) := by decide +kernel
theorem dX2_lastLeave_39 : decode cX2_lastLeave 39 = .ok (.isub, 1) := by decide +kernel
theorem dX2_lastLeave_40 : decode cX2_lastLeave 40 = .ok (.istore 5, 2) := by decide +kernel
theorem dX2_lastLeave_42 : decode cX2_lastLeave 42 = .ok (.iload 5, 2) := by decide +kernel
theorem dX2_lastLeave_44 : decode cX2_lastLeave 44 = .ok (.iload 4, 2) := by decide +kernel
theorem dX2_lastLeave_46 : decode cX2_lastLeave 46 = .ok (.if_icmp .lt 108, 3) := by decide +kernel
theorem dX2_lastLeave_49 : decode cX2_lastLeave 49 = .ok (.aload_n 0, 1) := by decide +kernel
theorem dX2_lastLeave_50 : decode cX2_lastLeave 50 = .ok (.getfield 15, 3) := by decide +kernel
theorem dX2_lastLeave_53 : decode cX2_lastLeave 53 = .ok (.aload_n 0, 1) := by decide +kernel
theorem dX2_lastLeave_54 : decode cX2_lastLeave 54 = .ok (.getfield 26, 3) := by decide +kernel
theorem dX2_lastLeave_57 : decode cX2_lastLeave 57 = .ok (.iaload, 1) := by decide +kernel
theorem dX2_lastLeave_58 : decode cX2_lastLeave 58 = .ok (.iconst (-1), 1) := by decide +kernel
theorem dX2_lastLeave_59 : decode cX2_lastLeave 59 = .ok (.if_icmp .ne 95, 3) := by decide +kernel
theorem dX2_lastLeave_62 : decode cX2_lastLeave 62 = .ok (.iconst 0, 1) := by decide +kernel
theorem dX2_lastLeave_63 : decode cX2_lastLeave 63 = .ok (.istore 6, 2) := by decide +kernel
theorem dX2_lastLeave_65 : decode cX2_lastLeave 65 = .ok (.iload 6, 2) := by decide +kernel
theorem dX2_lastLeave_67 : decode cX2_lastLeave 67 = .ok (.aload_n 1, 1) := by decide +kernel
theorem dX2_lastLeave_68 : decode cX2_lastLeave 68 = .ok (.getfield 67, 3) := by decide +kernel
theorem dX2_lastLeave_71 : decode cX2_lastLeave 71 = .ok (.if_icmp .ge 77, 3) := by decide +kernel
theorem dX2_lastLeave_74 : decode cX2_lastLeave 74 = .ok (.aload_n 1, 1) := by decide +kernel
theorem dX2_lastLeave_75 : decode cX2_lastLeave 75 = .ok (.iload 6, 2) := by decide +kernel
theorem dX2_lastLeave_77 : decode cX2_lastLeave 77 = .ok (.iload 5, 2) := by decide +kernel
theorem dX2_lastLeave_79 : decode cX2_lastLeave 79 = .ok (.invokevirtual 70, 3) := by decide +kernel
theorem dX2_lastLeave_82 : decode cX2_lastLeave 82 = .ok (.istore 7, 2) := by decide +kernel
theorem dX2_lastLeave_84 : decode cX2_lastLeave 84 = .ok (.iload 7, 2) := by decide +kernel
theorem dX2_lastLeave_86 : decode cX2_lastLeave 86 = .ok (.ifCond .le 28, 3) := by decide +kernel
theorem dX2_lastLeave_89 : decode cX2_lastLeave 89 = .ok (.iload 5, 2) := by decide +kernel
theorem dX2_lastLeave_91 : decode cX2_lastLeave 91 = .ok (.iload 7, 2) := by decide +kernel
theorem dX2_lastLeave_93 : decode cX2_lastLeave 93 = .ok (.iadd, 1) := by decide +kernel
theorem dX2_lastLeave_94 : decode cX2_lastLeave 94 = .ok (.aload_n 0, 1) := by decide +kernel
theorem dX2_lastLeave_95 : decode cX2_lastLeave 95 = .ok (.getfield 15, 3) := by decide +kernel
theorem dX2_lastLeave_98 : decode cX2_lastLeave 98 = .ok (.aload_n 1, 1) := by decide +kernel
theorem dX2_lastLeave_99 : decode cX2_lastLeave 99 = .ok (.iload 6, 2) := by decide +kernel
theorem dX2_lastLeave_101 : decode cX2_lastLeave 101 = .ok (.iload 5, 2) := by decide +kernel
theorem dX2_lastLeave_103 : decode cX2_lastLeave 103 = .ok (.invokevirtual 74, 3) := by decide +kernel
theorem dX2_lastLeave_106 : decode cX2_lastLeave 106 = .ok (.iaload, 1) := by decide +kernel
theorem dX2_lastLeave_107 : decode cX2_lastLeave 107 = .ok (.if_icmp .gt 7, 3) := by decide +kernel
theorem dX2_lastLeave_110 : decode cX2_lastLeave 110 = .ok (.iconst 1, 1) := by decide +kernel
theorem dX2_lastLeave_111 : decode cX2_lastLeave 111 = .ok (.goto 4, 3) := by decide +kernel
theorem dX2_lastLeave_114 : decode cX2_lastLeave 114 = .ok (.iconst 0, 1) := by decide +kernel
theorem dX2_lastLeave_115 : decode cX2_lastLeave 115 = .ok (.istore 8, 2) := by decide +kernel
theorem dX2_lastLeave_117 : decode cX2_lastLeave 117 = .ok (.aload_n 0, 1) := by decide +kernel
theorem dX2_lastLeave_118 : decode cX2_lastLeave 118 = .ok (.getfield 15, 3) := by decide +kernel
theorem dX2_lastLeave_121 : decode cX2_lastLeave 121 = .ok (.iload 6, 2) := by decide +kernel
theorem dX2_lastLeave_123 : decode cX2_lastLeave 123 = .ok (.iaload, 1) := by decide +kernel
theorem dX2_lastLeave_124 : decode cX2_lastLeave 124 = .ok (.iconst (-1), 1) := by decide +kernel
theorem dX2_lastLeave_125 : decode cX2_lastLeave 125 = .ok (.if_icmp .ne 17, 3) := by decide +kernel
theorem dX2_lastLeave_128 : decode cX2_lastLeave 128 = .ok (.iload 8, 2) := by decide +kernel
theorem dX2_lastLeave_130 : decode cX2_lastLeave 130 = .ok (.ifCond .eq 12, 3) := by decide +kernel
theorem dX2_lastLeave_133 : decode cX2_lastLeave 133 = .ok (.aload_n 0, 1) := by decide +kernel
theorem dX2_lastLeave_134 : decode cX2_lastLeave 134 = .ok (.getfield 15, 3) := by decide +kernel
theorem dX2_lastLeave_137 : decode cX2_lastLeave 137 = .ok (.iload 6, 2) := by decide +kernel
theorem dX2_lastLeave_139 : decode cX2_lastLeave 139 = .ok (.iload 5, 2) := by decide +kernel
theorem dX2_lastLeave_141 : decode cX2_lastLeave 141 = .ok (.iastore, 1) := by decide +kernel
theorem dX2_lastLeave_142 : decode cX2_lastLeave 142 = .ok (.iinc 6 1, 3) := by decide +kernel
theorem dX2_lastLeave_145 : decode cX2_lastLeave 145 = .ok (.goto (-80), 3) := by decide +kernel
theorem dX2_lastLeave_148 : decode cX2_lastLeave 148 = .ok (.iinc 5 (-1), 3) := by decide +kernel
theorem dX2_lastLeave_151 : decode cX2_lastLeave 151 = .ok (.goto (-109), 3) := by decide +kernel
theorem dX2_lastLeave_154 : decode cX2_lastLeave 154 = .ok (.aload_n 0, 1) := by decide +kernel
theorem dX2_lastLeave_155 : decode cX2_lastLeave 155 = .ok (.getfield 15, 3) := by decide +kernel
theorem dX2_lastLeave_158 : decode cX2_lastLeave 158 = .ok (.aload_n 0, 1) := by decide +kernel
theorem dX2_lastLeave_159 : decode cX2_lastLeave 159 = .ok (.getfield 26, 3) := by decide +kernel
theorem dX2_lastLeave_162 : decode cX2_lastLeave 162 = .ok (.iaload, 1) := by decide +kernel
theorem dX2_lastLeave_163 : decode cX2_lastLeave 163 = .ok (.ireturn, 1) := by decide +kernel
theorem dX3_init_0 : decode cX3_init 0 = .ok (.aload_n 0, 1) := by decide +kernel
theorem dX3_init_1 : decode cX3_init 1 = .ok (.invokespecial 3, 3) := by decide +kernel
theorem dX3_init_4 : decode cX3_init 4 = .ok (.aload_n 0, 1) := by decide +kernel
theorem dX3_init_5 : decode cX3_init 5 = .ok (.sipush 1600, 3) := by decide +kernel
theorem dX3_init_8 : decode cX3_init 8 = .ok (.newarray .byte, 2) := by decide +kernel
theorem dX3_init_10 : decode cX3_init 10 = .ok (.putfield 11, 3) := by decide +kernel
theorem dX3_init_13 : decode cX3_init 13 = .ok (.aload_n 0, 1) := by decide +kernel
theorem dX3_init_14 : decode cX3_init 14 = .ok (.iconst (-1), 1) := by decide +kernel
theorem dX3_init_15 : decode cX3_init 15 = .ok (.putfield 15, 3) := by decide +kernel
theorem dX3_init_18 : decode cX3_init 18 = .ok (.aload_n 0, 1) := by decide +kernel
theorem dX3_init_19 : decode cX3_init 19 = .ok (.aload_n 1, 1) := by decide +kernel
theorem dX3_init_20 : decode cX3_init 20 = .ok (.putfield 19, 3) := by decide +kernel
theorem dX3_init_23 : decode cX3_init 23 = .ok (.return_, 1) := by decide +kernel
theorem dX3_hasRoom_0 : decode cX3_hasRoom 0 = .ok (.aload_n 0, 1) := by decide +kernel
theorem dX3_hasRoom_1 : decode cX3_hasRoom 1 = .ok (.getfield 23, 3) := by decide +kernel
theorem dX3_hasRoom_4 : decode cX3_hasRoom 4 = .ok (.iload_n 1, 1) := by decide +kernel
theorem dX3_hasRoom_5 : decode cX3_hasRoom 5 = .ok (.iadd, 1) := by decide +kernel
theorem dX3_hasRoom_6 : decode cX3_hasRoom 6 = .ok (.sipush 1600, 3) := by decide +kernel
theorem dX3_hasRoom_9 : decode cX3_hasRoom 9 = .ok (.if_icmp .gt 7, 3) := by decide +kernel
theorem dX3_hasRoom_12 : decode cX3_hasRoom 12 = .ok (.iconst 1, 1) := by decide +kernel
theorem dX3_hasRoom_13 : decode cX3_hasRoom 13 = .ok (.goto 4, 3) := by decide +kernel
theorem dX3_hasRoom_16 : decode cX3_hasRoom 16 = .ok (.iconst 0, 1) := by decide +kernel
theorem dX3_hasRoom_17 : decode cX3_hasRoom 17 = .ok (.ireturn, 1) := by decide +kernel
set_option maxRecDepth 20000 in
theorem ggX3_append_X3_hasRoom : GoodIn wsX3_append wsX3_hasRoom := goodIn_r _ [7, 2, 8, 9, 10, 11, 12, 13, 14, 15, 16, 17, 18, 19] (by decide +kernel) (by decide +kernel)
set_option maxRecDepth 20000 in
theorem gX3_append_X3_hasRoom : GoodIn wsX3_append (wsV RX3 26 RX3 yX3_hasRoom wsX3_hasRoom) := goodIn_app (goodIn_of _ (by decide +kernel)) ggX3_append_X3_hasRoom
theorem dX3_append_0 : decode cX3_append 0 = .ok (.bipush 24, 2) := by decide +kernel
theorem dX3_append_2 : decode cX3_append 2 = .ok (.istore_n 2, 1) := by decide +kernel
theorem dX3_append_3 : decode cX3_append 3 = .ok (.iload_n 2, 1) := by decide +kernel
theorem dX3_append_4 : decode cX3_append 4 = .ok (.ifCond .lt 40, 3) := by decide +kernel
theorem dX3_append_7 : decode cX3_append 7 = .ok (.aload_n 0, 1) := by decide +kernel
theorem dX3_append_8 : decode cX3_append 8 = .ok (.iconst 1, 1) := by decide +kernel
theorem dX3_append_9 : decode cX3_append 9 = .ok (.invokevirtual 26, 3) := by decide +kernel
theorem dX3_append_12 : decode cX3_append 12 = .ok (.ifCond .eq 32, 3) := by decide +kernel
theorem dX3_append_15 : decode cX3_append 15 = .ok (.aload_n 0, 1) := by decide +kernel
theorem dX3_append_16 : decode cX3_append 16 = .ok (.getfield 11, 3) := by decide +kernel
theorem dX3_append_19 : decode cX3_append 19 = .ok (.aload_n 0, 1) := by decide +kernel
theorem dX3_append_20 : decode cX3_append 20 = .ok (.getfield 23, 3) := by decide +kernel
theorem dX3_append_23 : decode cX3_append 23 = .ok (.iload_n 1, 1) := by decide +kernel
theorem dX3_append_24 : decode cX3_append 24 = .ok (.iload_n 2, 1) := by decide +kernel
theorem dX3_append_25 : decode cX3_append 25 = .ok (.ishr, 1) := by decide +kernel
theorem dX3_append_26 : decode cX3_append 26 = .ok (.i2b, 1) := by decide +kernel
theorem dX3_append_27 : decode cX3_append 27 = .ok (.bastore, 1) := by decide +kernel
theorem dX3_append_28 : decode cX3_append 28 = .ok (.aload_n 0, 1) := by decide +kernel
theorem dX3_append_29 : decode cX3_append 29 = .ok (.dup, 1) := by decide +kernel
theorem dX3_append_30 : decode cX3_append 30 = .ok (.getfield 23, 3) := by decide +kernel
theorem dX3_append_33 : decode cX3_append 33 = .ok (.iconst 1, 1) := by decide +kernel
theorem dX3_append_34 : decode cX3_append 34 = .ok (.iadd, 1) := by decide +kernel
theorem dX3_append_35 : decode cX3_append 35 = .ok (.putfield 23, 3) := by decide +kernel
theorem dX3_append_38 : decode cX3_append 38 = .ok (.iinc 2 (-8), 3) := by decide +kernel
theorem dX3_append_41 : decode cX3_append 41 = .ok (.goto (-38), 3) := by decide +kernel
theorem dX3_append_44 : decode cX3_append 44 = .ok (.return_, 1) := by decide +kernel
set_option maxRecDepth 20000 in
theorem ggX3_readAll_X0_wipe : GoodIn wsX3_readAll wsX0_wipe := goodIn_r _ [13, 14, 15, 16, 17, 18, 19, 213, 214, 215, 216, 217, 218, 219, 220, 221, 222, 223, 224, 225, 226, 227, 228] (by decide +kernel) (by decide +kernel)
set_option maxRecDepth 20000 in
theorem gX3_readAll_X0_wipe : GoodIn wsX3_readAll (wsV RX3 30 RX0 yX0_wipe wsX0_wipe) := goodIn_app (goodIn_of _ (by decide +kernel)) ggX3_readAll_X0_wipe
set_option maxRecDepth 20000 in
theorem ggX3_readAll_X3_advance : GoodIn wsX3_readAll wsX3_advance := goodIn_r _ [24, 2, 25, 26, 27, 7, 28, 29, 30, 31, 32, 33, 34, 35, 23, 36, 37, 38, 39, 40, 41, 42, 43, 201, 202, 203, 204, 205, 206, 207, 208, 209, 210, 211, 212] (by decide +kernel) (by decide +kernel)
set_option maxRecDepth 20000 in
theorem gX3_readAll_X3_advance : GoodIn wsX3_readAll (wsV RX3 48 RX3 yX3_advance wsX3_advance) := goodIn_app (goodIn_of _ (by decide +kernel)) ggX3_readAll_X3_advance
set_option maxRecDepth 20000 in
theorem ggX3_readAll_X3_readLine : GoodIn wsX3_readAll wsX3_readLine := goodIn_r _ [47, 1, 8, 48, 49, 50, 23, 51, 52, 53, 54, 55, 56, 57, 58, 59, 60, 7, 2, 26, 61, 62, 63, 64, 65, 66, 67, 68, 69, 70, 71, 72, 33, 34, 35, 36, 25, 37, 73, 74, 75, 76, 77, 78, 79, 80, 81, 82, 83, 84, 85, 86, 87, 88, 89, 90, 91, 92, 93, 94, 95, 96, 97, 98, 99, 100, 101, 102, 103, 104, 105, 106, 107, 108, 109, 110, 111, 112, 113, 5, 6, 20, 21, 22, 24, 27, 28, 29, 30, 31, 32, 38, 39, 40, 41, 42, 43, 114, 115, 116, 117, 118, 119, 120, 12, 121, 122, 14, 17, 123, 124, 125, 126, 127, 128, 129, 130, 131, 19, 132, 133, 134, 135, 136, 137, 138, 139, 140, 141, 142, 143, 144, 145, 146, 147, 148, 149, 150, 151, 152, 153, 154, 155, 156, 157, 158, 159, 160, 161, 162, 163, 164, 165, 166, 167, 168, 169, 170, 171, 172, 173, 174, 175, 176, 3, 177, 178, 179, 180, 181, 182, 183, 184, 185, 186, 187, 188, 189, 16, 190, 191, 192, 193, 194, 4, 195, 196, 197, 198, 199, 200, 201, 202, 203, 204, 205, 206, 207, 208, 209, 210, 211, 212, 213, 214, 215, 216, 217, 218, 219, 220, 221, 222, 223, 224, 225, 226, 227, 228] (by decide +kernel) (by decide +kernel)
set_option maxRecDepth 20000 in
theorem gX3_readAll_X3_readLine : GoodIn wsX3_readAll (wsV RX3 54 RX3 yX3_readLine wsX3_readLine) := goodIn_app (goodIn_of _ (by decide +kernel)) ggX3_readAll_X3_readLine
theorem dX3_readAll_0 : decode cX3_readAll 0 = .ok (.aload_n 0, 1) := by decide +kernel
theorem dX3_readAll_1 : decode cX3_readAll 1 = .ok (.getfield 19, 3) := by decide +kernel
theorem dX3_readAll_4 : decode cX3_readAll 4 = .ok (.invokevirtual 30, 3) := by decide +kernel
theorem dX3_readAll_7 : decode cX3_readAll 7 = .ok (.aload_n 0, 1) := by decide +kernel
theorem dX3_readAll_8 : decode cX3_readAll 8 = .ok (.iconst 0, 1) := by decide +kernel
theorem dX3_readAll_9 : decode cX3_readAll 9 = .ok (.putfield 35, 3) := by decide +kernel
theorem dX3_readAll_12 : decode cX3_readAll 12 = .ok (.aload_n 0, 1) := by decide +kernel
theorem dX3_readAll_13 : decode cX3_readAll 13 = .ok (.iconst 0, 1) := by decide +kernel
theorem dX3_readAll_14 : decode cX3_readAll 14 = .ok (.putfield 38, 3) := by decide +kernel
theorem dX3_readAll_17 : decode cX3_readAll 17 = .ok (.aload_n 0, 1) := by decide +kernel
theorem dX3_readAll_18 : decode cX3_readAll 18 = .ok (.iconst 0, 1) := by decide +kernel
theorem dX3_readAll_19 : decode cX3_readAll 19 = .ok (.putfield 41, 3) := by decide +kernel
theorem dX3_readAll_22 : decode cX3_readAll 22 = .ok (.aload_n 0, 1) := by decide +kernel
theorem dX3_readAll_23 : decode cX3_readAll 23 = .ok (.iconst 0, 1) := by decide +kernel
theorem dX3_readAll_24 : decode cX3_readAll 24 = .ok (.putfield 45, 3) := by decide +kernel
theorem dX3_readAll_27 : decode cX3_readAll 27 = .ok (.aload_n 0, 1) := by decide +kernel
theorem dX3_readAll_28 : decode cX3_readAll 28 = .ok (.iconst (-1), 1) := by decide +kernel
theorem dX3_readAll_29 : decode cX3_readAll 29 = .ok (.putfield 15, 3) := by decide +kernel
theorem dX3_readAll_32 : decode cX3_readAll 32 = .ok (.aload_n 0, 1) := by decide +kernel
theorem dX3_readAll_33 : decode cX3_readAll 33 = .ok (.invokevirtual 48, 3) := by decide +kernel
theorem dX3_readAll_36 : decode cX3_readAll 36 = .ok (.iconst 0, 1) := by decide +kernel
theorem dX3_readAll_37 : decode cX3_readAll 37 = .ok (.istore_n 1, 1) := by decide +kernel
theorem dX3_readAll_38 : decode cX3_readAll 38 = .ok (.iload_n 1, 1) := by decide +kernel
theorem dX3_readAll_39 : decode cX3_readAll 39 = .ok (.sipush 1600, 3) := by decide +kernel
theorem dX3_readAll_42 : decode cX3_readAll 42 = .ok (.if_icmp .ge 38, 3) := by decide +kernel
theorem dX3_readAll_45 : decode cX3_readAll 45 = .ok (.aload_n 0, 1) := by decide +kernel
theorem dX3_readAll_46 : decode cX3_readAll 46 = .ok (.getfield 51, 3) := by decide +kernel
theorem dX3_readAll_49 : decode cX3_readAll 49 = .ok (.ifCond .eq 31, 3) := by decide +kernel
theorem dX3_readAll_52 : decode cX3_readAll 52 = .ok (.aload_n 0, 1) := by decide +kernel
theorem dX3_readAll_53 : decode cX3_readAll 53 = .ok (.invokevirtual 54, 3) := by decide +kernel
theorem dX3_readAll_56 : decode cX3_readAll 56 = .ok (.ifCond .ne 5, 3) := by decide +kernel
theorem dX3_readAll_59 : decode cX3_readAll 59 = .ok (.iconst 0, 1) := by decide +kernel
theorem dX3_readAll_60 : decode cX3_readAll 60 = .ok (.ireturn, 1) := by decide +kernel
theorem dX3_readAll_61 : decode cX3_readAll 61 = .ok (.aload_n 0, 1) := by decide +kernel
theorem dX3_readAll_62 : decode cX3_readAll 62 = .ok (.getfield 19, 3) := by decide +kernel
theorem dX3_readAll_65 : decode cX3_readAll 65 = .ok (.dup, 1) := by decide +kernel
theorem dX3_readAll_66 : decode cX3_readAll 66 = .ok (.getfield 58, 3) := by decide +kernel
theorem dX3_readAll_69 : decode cX3_readAll 69 = .ok (.iconst 1, 1) := by decide +kernel
theorem dX3_readAll_70 : decode cX3_readAll 70 = .ok (.iadd, 1) := by decide +kernel
theorem dX3_readAll_71 : decode cX3_readAll 71 = .ok (.putfield 58, 3) := by decide +kernel
theorem dX3_readAll_74 : decode cX3_readAll 74 = .ok (.iinc 1 1, 3) := by decide +kernel
theorem dX3_readAll_77 : decode cX3_readAll 77 = .ok (.goto (-39), 3) := by decide +kernel
theorem dX3_readAll_80 : decode cX3_readAll 80 = .ok (.iconst 1, 1) := by decide +kernel
theorem dX3_readAll_81 : decode cX3_readAll 81 = .ok (.ireturn, 1) := by decide +kernel
set_option maxRecDepth 20000 in
theorem ggX3_readLine_X3_readRoofs : GoodIn wsX3_readLine wsX3_readRoofs := goodIn_r _ [7, 1, 8, 9, 10, 11, 6, 12, 13, 14, 15, 16, 17, 18, 19, 20, 21, 22, 23, 24, 25, 26, 27, 28, 29, 30, 31, 32, 33, 34, 35, 36, 37, 38, 39, 40, 41, 42, 43, 44, 45, 46, 47, 48, 49, 50, 51, 52, 53, 54, 55, 56, 57, 58, 59, 60, 61, 62, 63, 64, 65, 66, 67, 68, 69, 70, 71, 72, 73, 74, 75, 76, 77, 78, 79, 80, 81, 82, 83, 84, 85, 86, 87, 88, 89, 90, 91, 92, 93, 94, 95, 96, 97, 98, 99, 100, 101, 102, 103, 104, 105, 106, 107, 108, 109, 110, 111, 112, 113, 114, 115, 116, 117, 118, 119, 120, 121, 122, 123, 124, 125, 126, 127, 128, 129, 191, 192, 193, 194, 195, 196, 197, 198, 199, 200, 201, 202, 203, 204, 205, 206, 207, 208, 209, 210, 211, 212, 213, 214, 215, 216, 217, 218] (by decide +kernel) (by decide +kernel)
set_option maxRecDepth 20000 in
theorem gX3_readLine_X3_readRoofs : GoodIn wsX3_readLine (wsV RX3 61 RX3 yX3_readRoofs wsX3_readRoofs) := goodIn_app (goodIn_of _ (by decide +kernel)) ggX3_readLine_X3_readRoofs
set_option maxRecDepth 20000 in
theorem ggX3_readLine_X3_isWord : GoodIn wsX3_readLine wsX3_isWord := goodIn_r _ [16, 17, 18, 19, 20, 21, 22, 23, 24, 25, 26, 27, 28, 29, 30, 31, 32, 33, 34, 6, 35, 36, 37, 38, 39, 40, 41, 42, 43, 44, 45, 46, 47, 48, 49, 50, 51, 52, 53, 54, 55, 56, 57, 58, 59, 60, 61, 62, 63, 64, 65, 66, 67, 68, 69, 70, 71, 72, 73, 74, 191, 192, 193, 194, 195, 196, 197, 198, 199, 200, 201, 202] (by decide +kernel) (by decide +kernel)
set_option maxRecDepth 20000 in
theorem gX3_readLine_X3_isWord : GoodIn wsX3_readLine (wsV RX3 66 RX3 yX3_isWord wsX3_isWord) := goodIn_app (goodIn_of _ (by decide +kernel)) ggX3_readLine_X3_isWord
set_option maxRecDepth 20000 in
theorem ggX3_readLine_X3_readThrower : GoodIn wsX3_readLine wsX3_readThrower := goodIn_r _ [133, 1, 8, 81, 82, 83, 6, 84, 18, 36, 19, 85, 17, 86, 87, 88, 89, 90, 32, 33, 34, 35, 37, 91, 92, 93, 94, 95, 96, 134, 135, 136, 137, 138, 97, 98, 99, 100, 75, 76, 77, 78, 79, 80, 139, 140, 141, 142, 13, 14, 15, 16, 20, 21, 22, 23, 24, 25, 26, 27, 28, 29, 30, 31, 38, 39, 40, 41, 42, 43, 44, 45, 46, 47, 48, 49, 50, 51, 52, 53, 54, 55, 56, 57, 58, 59, 60, 61, 62, 63, 64, 65, 66, 67, 68, 69, 70, 71, 72, 73, 74, 143, 144, 145, 104, 146, 110, 123, 124, 125, 126, 107, 191, 192, 193, 194, 195, 196, 197, 198, 199, 200, 201, 202, 203, 204, 205, 206, 207, 208, 209, 210, 211, 212, 213, 214, 215, 216, 217, 218] (by decide +kernel) (by decide +kernel)
set_option maxRecDepth 20000 in
theorem gX3_readLine_X3_readThrower : GoodIn wsX3_readLine (wsV RX3 70 RX3 yX3_readThrower wsX3_readThrower) := goodIn_app (goodIn_of _ (by decide +kernel)) ggX3_readLine_X3_readThrower
set_option maxRecDepth 20000 in
theorem ggX3_readLine_X3_readThrows : GoodIn wsX3_readLine wsX3_readThrows := goodIn_r _ [150, 8, 17, 85, 81, 82, 83, 6, 84, 18, 36, 19, 86, 87, 88, 89, 90, 32, 33, 34, 35, 37, 91, 92, 93, 94, 95, 96, 134, 135, 136, 137, 1, 138, 97, 98, 99, 100, 75, 76, 77, 78, 79, 80, 151, 152, 153, 154, 13, 14, 15, 16, 20, 21, 22, 23, 24, 25, 26, 27, 28, 29, 30, 31, 38, 39, 40, 41, 42, 43, 44, 45, 46, 47, 48, 49, 50, 51, 52, 53, 54, 55, 56, 57, 58, 59, 60, 61, 62, 63, 64, 65, 66, 67, 68, 69, 70, 71, 72, 73, 74, 155, 156, 157, 104, 158, 109, 118, 123, 124, 125, 126, 107, 159, 113, 114, 115, 116, 117, 119, 120, 121, 122, 127, 128, 129, 191, 192, 193, 194, 195, 196, 197, 198, 199, 200, 201, 202, 203, 204, 205, 206, 207, 208, 209, 210, 211, 212, 213, 214, 215, 216, 217, 218] (by decide +kernel) (by decide +kernel)
set_option maxRecDepth 20000 in
theorem gX3_readLine_X3_readThrows : GoodIn wsX3_readLine (wsV RX3 75 RX3 yX3_readThrows wsX3_readThrows) := goodIn_app (goodIn_of _ (by decide +kernel)) ggX3_readLine_X3_readThrows
set_option maxRecDepth 20000 in
theorem ggX3_readLine_X3_readCross : GoodIn wsX3_readLine wsX3_readCross := goodIn_r _ [163, 164, 8, 1, 75, 76, 77, 6, 78, 79, 19, 80, 81, 82, 83, 84, 18, 36, 85, 17, 86, 87, 88, 89, 90, 32, 33, 34, 35, 37, 91, 92, 93, 94, 95, 96, 134, 135, 136, 137, 138, 97, 98, 99, 100, 165, 166, 167, 104, 168, 111, 123, 124, 125, 126, 107, 191, 192, 193, 194, 195, 196, 197, 198, 199, 200, 201, 202, 203, 204, 205, 206, 207, 208, 209, 210, 211, 212, 213, 214, 215, 216, 217, 218] (by decide +kernel) (by decide +kernel)
set_option maxRecDepth 20000 in
theorem gX3_readLine_X3_readCross : GoodIn wsX3_readLine (wsV RX3 80 RX3 yX3_readCross wsX3_readCross) := goodIn_app (goodIn_of _ (by decide +kernel)) ggX3_readLine_X3_readCross
set_option maxRecDepth 20000 in
theorem ggX3_readLine_X3_readLetter : GoodIn wsX3_readLine wsX3_readLetter := goodIn_r _ [172, 1, 173, 8, 75, 76, 77, 6, 78, 79, 19, 80, 81, 82, 83, 84, 18, 36, 85, 17, 86, 87, 88, 89, 90, 32, 33, 34, 35, 37, 91, 92, 93, 94, 95, 96, 134, 135, 136, 137, 138, 97, 98, 99, 100, 9, 10, 11, 12, 13, 14, 15, 16, 20, 21, 22, 23, 24, 25, 26, 27, 28, 29, 30, 31, 38, 39, 40, 41, 42, 43, 44, 45, 46, 47, 48, 49, 50, 51, 52, 53, 54, 55, 56, 57, 58, 59, 60, 61, 62, 63, 64, 65, 66, 67, 68, 69, 70, 71, 72, 73, 74, 174, 175, 176, 104, 177, 178, 179, 123, 124, 125, 126, 107, 191, 192, 193, 194, 195, 196, 197, 198, 199, 200, 201, 202, 203, 204, 205, 206, 207, 208, 209, 210, 211, 212, 213, 214, 215, 216, 217, 218] (by decide +kernel) (by decide +kernel)
set_option maxRecDepth 20000 in
theorem gX3_readLine_X3_readLetter : GoodIn wsX3_readLine (wsV RX3 85 RX3 yX3_readLetter wsX3_readLetter) := goodIn_app (goodIn_of _ (by decide +kernel)) ggX3_readLine_X3_readLetter
set_option maxRecDepth 20000 in
theorem ggX3_readLine_X3_readGusts : GoodIn wsX3_readLine wsX3_readGusts := goodIn_r _ [183, 184, 1, 8, 185, 186, 75, 76, 77, 6, 78, 79, 19, 80, 81, 82, 83, 84, 18, 36, 85, 17, 86, 87, 88, 89, 90, 32, 33, 34, 35, 37, 91, 92, 93, 94, 95, 96, 9, 10, 11, 12, 13, 14, 15, 16, 20, 21, 22, 23, 24, 25, 26, 27, 28, 29, 30, 31, 38, 39, 40, 41, 42, 43, 44, 45, 46, 47, 48, 49, 50, 51, 52, 53, 54, 55, 56, 57, 58, 59, 60, 61, 62, 63, 64, 65, 66, 67, 68, 69, 70, 71, 72, 73, 74, 97, 98, 99, 100, 191, 192, 193, 194, 195, 196, 197, 198, 199, 200, 201, 202, 203, 204, 205, 206, 207, 208, 209, 210, 211, 212, 213, 214, 215, 216, 217, 218] (by decide +kernel) (by decide +kernel)
set_option maxRecDepth 20000 in
theorem gX3_readLine_X3_readGusts : GoodIn wsX3_readLine (wsV RX3 90 RX3 yX3_readGusts wsX3_readGusts) := goodIn_app (goodIn_of _ (by decide +kernel)) ggX3_readLine_X3_readGusts
set_option maxRecDepth 20000 in
theorem ggX3_readLine_X3_fail : GoodIn wsX3_readLine wsX3_fail := goodIn_r _ [78, 79, 19, 80, 191, 192, 193, 194, 195, 196, 197, 198, 199, 200, 201, 202] (by decide +kernel) (by decide +kernel)
set_option maxRecDepth 20000 in
theorem gX3_readLine_X3_fail : GoodIn wsX3_readLine (wsV RX3 93 RX3 yX3_fail wsX3_fail) := goodIn_app (goodIn_of _ (by decide +kernel)) ggX3_readLine_X3_fail
set_option maxRecDepth 20000 in
theorem ggX3_readLine_X3_takeSign : GoodIn wsX3_readLine wsX3_takeSign := goodIn_r _ [190, 17, 75, 76, 77, 6, 78, 79, 19, 80, 81, 82, 83, 84, 18, 36, 85, 86, 87, 88, 89, 90, 32, 33, 34, 35, 37, 91, 92, 93, 94, 95, 96, 191, 192, 193, 194, 195, 196, 197, 198, 199, 200, 201, 202] (by decide +kernel) (by decide +kernel)
set_option maxRecDepth 20000 in
theorem gX3_readLine_X3_takeSign : GoodIn wsX3_readLine (wsV RX3 96 RX3 yX3_takeSign wsX3_takeSign) := goodIn_app (goodIn_of _ (by decide +kernel)) ggX3_readLine_X3_takeSign
theorem dX3_readLine_0 : decode cX3_readLine 0 = .ok (.aload_n 0, 1) := by decide +kernel
theorem dX3_readLine_1 : decode cX3_readLine 1 = .ok (.getfield 19, 3) := by decide +kernel
theorem dX3_readLine_4 : decode cX3_readLine 4 = .ok (.getfield 58, 3) := by decide +kernel
theorem dX3_readLine_7 : decode cX3_readLine 7 = .ok (.ifCond .ne 11, 3) := by decide +kernel
theorem dX3_readLine_10 : decode cX3_readLine 10 = .ok (.aload_n 0, 1) := by decide +kernel
theorem dX3_readLine_11 : decode cX3_readLine 11 = .ok (.invokevirtual 61, 3) := by decide +kernel
theorem dX3_readLine_14 : decode cX3_readLine 14 = .ok (.istore_n 1, 1) := by decide +kernel
theorem dX3_readLine_15 : decode cX3_readLine 15 = .ok (.goto 94, 3) := by decide +kernel
theorem dX3_readLine_18 : decode cX3_readLine 18 = .ok (.aload_n 0, 1) := by decide +kernel
theorem dX3_readLine_19 : decode cX3_readLine 19 = .ok (.ldc 64, 2) := by decide +kernel
theorem dX3_readLine_21 : decode cX3_readLine 21 = .ok (.invokevirtual 66, 3) := by decide +kernel
theorem dX3_readLine_24 : decode cX3_readLine 24 = .ok (.ifCond .eq 11, 3) := by decide +kernel
theorem dX3_readLine_27 : decode cX3_readLine 27 = .ok (.aload_n 0, 1) := by decide +kernel
theorem dX3_readLine_28 : decode cX3_readLine 28 = .ok (.invokevirtual 70, 3) := by decide +kernel
theorem dX3_readLine_31 : decode cX3_readLine 31 = .ok (.istore_n 1, 1) := by decide +kernel
theorem dX3_readLine_32 : decode cX3_readLine 32 = .ok (.goto 77, 3) := by decide +kernel
theorem dX3_readLine_35 : decode cX3_readLine 35 = .ok (.aload_n 0, 1) := by decide +kernel
theorem dX3_readLine_36 : decode cX3_readLine 36 = .ok (.ldc 73, 2) := by decide +kernel
theorem dX3_readLine_38 : decode cX3_readLine 38 = .ok (.invokevirtual 66, 3) := by decide +kernel
theorem dX3_readLine_41 : decode cX3_readLine 41 = .ok (.ifCond .eq 11, 3) := by decide +kernel
theorem dX3_readLine_44 : decode cX3_readLine 44 = .ok (.aload_n 0, 1) := by decide +kernel
theorem dX3_readLine_45 : decode cX3_readLine 45 = .ok (.invokevirtual 75, 3) := by decide +kernel
theorem dX3_readLine_48 : decode cX3_readLine 48 = .ok (.istore_n 1, 1) := by decide +kernel
theorem dX3_readLine_49 : decode cX3_readLine 49 = .ok (.goto 60, 3) := by decide +kernel
theorem dX3_readLine_52 : decode cX3_readLine 52 = .ok (.aload_n 0, 1) := by decide +kernel
theorem dX3_readLine_53 : decode cX3_readLine 53 = .ok (.ldc 78, 2) := by decide +kernel
theorem dX3_readLine_55 : decode cX3_readLine 55 = .ok (.invokevirtual 66, 3) := by decide +kernel
theorem dX3_readLine_58 : decode cX3_readLine 58 = .ok (.ifCond .eq 11, 3) := by decide +kernel
theorem dX3_readLine_61 : decode cX3_readLine 61 = .ok (.aload_n 0, 1) := by decide +kernel
theorem dX3_readLine_62 : decode cX3_readLine 62 = .ok (.invokevirtual 80, 3) := by decide +kernel
theorem dX3_readLine_65 : decode cX3_readLine 65 = .ok (.istore_n 1, 1) := by decide +kernel
theorem dX3_readLine_66 : decode cX3_readLine 66 = .ok (.goto 43, 3) := by decide +kernel
theorem dX3_readLine_69 : decode cX3_readLine 69 = .ok (.aload_n 0, 1) := by decide +kernel
theorem dX3_readLine_70 : decode cX3_readLine 70 = .ok (.ldc 83, 2) := by decide +kernel
theorem dX3_readLine_72 : decode cX3_readLine 72 = .ok (.invokevirtual 66, 3) := by decide +kernel
theorem dX3_readLine_75 : decode cX3_readLine 75 = .ok (.ifCond .eq 11, 3) := by decide +kernel
theorem dX3_readLine_78 : decode cX3_readLine 78 = .ok (.aload_n 0, 1) := by decide +kernel
theorem dX3_readLine_79 : decode cX3_readLine 79 = .ok (.invokevirtual 85, 3) := by decide +kernel
theorem dX3_readLine_82 : decode cX3_readLine 82 = .ok (.istore_n 1, 1) := by decide +kernel
theorem dX3_readLine_83 : decode cX3_readLine 83 = .ok (.goto 26, 3) := by decide +kernel
theorem dX3_readLine_86 : decode cX3_readLine 86 = .ok (.aload_n 0, 1) := by decide +kernel
theorem dX3_readLine_87 : decode cX3_readLine 87 = .ok (.ldc 88, 2) := by decide +kernel
theorem dX3_readLine_89 : decode cX3_readLine 89 = .ok (.invokevirtual 66, 3) := by decide +kernel
theorem dX3_readLine_92 : decode cX3_readLine 92 = .ok (.ifCond .eq 11, 3) := by decide +kernel
theorem dX3_readLine_95 : decode cX3_readLine 95 = .ok (.aload_n 0, 1) := by decide +kernel
theorem dX3_readLine_96 : decode cX3_readLine 96 = .ok (.invokevirtual 90, 3) := by decide +kernel
theorem dX3_readLine_99 : decode cX3_readLine 99 = .ok (.istore_n 1, 1) := by decide +kernel
theorem dX3_readLine_100 : decode cX3_readLine 100 = .ok (.goto 9, 3) := by decide +kernel
theorem dX3_readLine_103 : decode cX3_readLine 103 = .ok (.aload_n 0, 1) := by decide +kernel
theorem dX3_readLine_104 : decode cX3_readLine 104 = .ok (.iconst 1, 1) := by decide +kernel
theorem dX3_readLine_105 : decode cX3_readLine 105 = .ok (.invokevirtual 93, 3) := by decide +kernel
theorem dX3_readLine_108 : decode cX3_readLine 108 = .ok (.istore_n 1, 1) := by decide +kernel
theorem dX3_readLine_109 : decode cX3_readLine 109 = .ok (.iload_n 1, 1) := by decide +kernel
theorem dX3_readLine_110 : decode cX3_readLine 110 = .ok (.ifCond .eq 14, 3) := by decide +kernel
theorem dX3_readLine_113 : decode cX3_readLine 113 = .ok (.aload_n 0, 1) := by decide +kernel
theorem dX3_readLine_114 : decode cX3_readLine 114 = .ok (.invokevirtual 96, 3) := by decide +kernel
theorem dX3_readLine_117 : decode cX3_readLine 117 = .ok (.ifCond .eq 7, 3) := by decide +kernel
theorem dX3_readLine_120 : decode cX3_readLine 120 = .ok (.iconst 1, 1) := by decide +kernel
theorem dX3_readLine_121 : decode cX3_readLine 121 = .ok (.goto 4, 3) := by decide +kernel
theorem dX3_readLine_124 : decode cX3_readLine 124 = .ok (.iconst 0, 1) := by decide +kernel
theorem dX3_readLine_125 : decode cX3_readLine 125 = .ok (.ireturn, 1) := by decide +kernel
set_option maxRecDepth 20000 in
theorem ggX3_readRoofs_X3_takeWord : GoodIn wsX3_readRoofs wsX3_takeWord := goodIn_r _ [7, 8, 9, 10, 6, 11, 12, 13, 14, 15, 16, 17, 18, 19, 20, 21, 22, 23, 24, 25, 26, 27, 28, 29, 30, 31, 32, 33, 34, 35, 36, 37, 38, 39, 40, 41, 42, 43, 44, 45, 46, 47, 48, 49, 50, 51, 52, 53, 54, 55, 56, 57, 58, 59, 60, 61, 62, 63, 64, 65, 66, 67, 68, 69, 70, 71, 72, 73, 74, 75, 76, 77, 78, 79, 80, 81, 82, 83, 84, 85, 86, 87, 88, 89, 90, 91, 125, 126, 127, 128, 129, 130, 131, 132, 133, 134, 135, 136] (by decide +kernel) (by decide +kernel)
set_option maxRecDepth 20000 in
theorem gX3_readRoofs_X3_takeWord : GoodIn wsX3_readRoofs (wsV RX3 101 RX3 yX3_takeWord wsX3_takeWord) := goodIn_app (goodIn_of _ (by decide +kernel)) ggX3_readRoofs_X3_takeWord
set_option maxRecDepth 20000 in
theorem ggX3_readRoofs_X3_takeNumber : GoodIn wsX3_readRoofs wsX3_takeNumber := goodIn_r _ [95, 12, 80, 2, 70, 71, 72, 6, 73, 74, 14, 75, 76, 77, 78, 79, 13, 31, 81, 82, 83, 84, 85, 27, 28, 29, 30, 32, 86, 87, 88, 89, 90, 91, 125, 126, 127, 128, 129, 130, 131, 132, 133, 134, 135, 136] (by decide +kernel) (by decide +kernel)
set_option maxRecDepth 20000 in
theorem gX3_readRoofs_X3_takeNumber : GoodIn wsX3_readRoofs (wsV RX3 104 RX3 yX3_takeNumber wsX3_takeNumber) := goodIn_app (goodIn_of _ (by decide +kernel)) ggX3_readRoofs_X3_takeNumber
set_option maxRecDepth 20000 in
theorem ggX3_readRoofs_X0_found : GoodIn wsX3_readRoofs wsX0_found := goodIn_r _ [100, 101, 83, 84, 85, 102, 103, 104, 105, 106, 107, 108, 109, 99, 110, 111, 112, 113, 114, 115, 116, 117, 118, 119, 120, 121, 122, 123, 124, 137, 138, 139, 140, 141, 142, 143, 144, 145, 146, 147, 148, 149, 150, 151, 152] (by decide +kernel) (by decide +kernel)
set_option maxRecDepth 20000 in
theorem gX3_readRoofs_X0_found : GoodIn wsX3_readRoofs (wsV RX3 111 RX0 yX0_found wsX0_found) := goodIn_app (goodIn_of _ (by decide +kernel)) ggX3_readRoofs_X0_found
theorem dX3_readRoofs_0 : decode cX3_readRoofs 0 = .ok (.aload_n 0, 1) := by decide +kernel
theorem dX3_readRoofs_1 : decode cX3_readRoofs 1 = .ok (.ldc 99, 2) := by decide +kernel
theorem dX3_readRoofs_3 : decode cX3_readRoofs 3 = .ok (.invokevirtual 101, 3) := by decide +kernel
theorem dX3_readRoofs_6 : decode cX3_readRoofs 6 = .ok (.ifCond .eq 14, 3) := by decide +kernel
theorem dX3_readRoofs_9 : decode cX3_readRoofs 9 = .ok (.aload_n 0, 1) := by decide +kernel
theorem dX3_readRoofs_10 : decode cX3_readRoofs 10 = .ok (.iconst 1, 1) := by decide +kernel
theorem dX3_readRoofs_11 : decode cX3_readRoofs 11 = .ok (.bipush 6, 2) := by decide +kernel
theorem dX3_readRoofs_13 : decode cX3_readRoofs 13 = .ok (.iconst (-1), 1) := by decide +kernel
theorem dX3_readRoofs_14 : decode cX3_readRoofs 14 = .ok (.invokevirtual 104, 3) := by decide +kernel
theorem dX3_readRoofs_17 : decode cX3_readRoofs 17 = .ok (.ifCond .ne 5, 3) := by decide +kernel
theorem dX3_readRoofs_20 : decode cX3_readRoofs 20 = .ok (.iconst 0, 1) := by decide +kernel
theorem dX3_readRoofs_21 : decode cX3_readRoofs 21 = .ok (.ireturn, 1) := by decide +kernel
theorem dX3_readRoofs_22 : decode cX3_readRoofs 22 = .ok (.aload_n 0, 1) := by decide +kernel
theorem dX3_readRoofs_23 : decode cX3_readRoofs 23 = .ok (.getfield 19, 3) := by decide +kernel
theorem dX3_readRoofs_26 : decode cX3_readRoofs 26 = .ok (.aload_n 0, 1) := by decide +kernel
theorem dX3_readRoofs_27 : decode cX3_readRoofs 27 = .ok (.getfield 108, 3) := by decide +kernel
theorem dX3_readRoofs_30 : decode cX3_readRoofs 30 = .ok (.invokevirtual 111, 3) := by decide +kernel
theorem dX3_readRoofs_33 : decode cX3_readRoofs 33 = .ok (.iconst 1, 1) := by decide +kernel
theorem dX3_readRoofs_34 : decode cX3_readRoofs 34 = .ok (.ireturn, 1) := by decide +kernel
set_option maxRecDepth 20000 in
theorem ggX3_readThrower_X3_advance : GoodIn wsX3_readThrower wsX3_advance := goodIn_r _ [7, 8, 9, 10, 11, 12, 13, 14, 15, 16, 17, 18, 19, 20, 6, 21, 22, 23, 24, 25, 26, 27, 28, 112, 113, 114, 115, 116, 117, 118, 119, 120, 121, 122, 123] (by decide +kernel) (by decide +kernel)
set_option maxRecDepth 20000 in
theorem gX3_readThrower_X3_advance : GoodIn wsX3_readThrower (wsV RX3 48 RX3 yX3_advance wsX3_advance) := goodIn_app (goodIn_of _ (by decide +kernel)) ggX3_readThrower_X3_advance
set_option maxRecDepth 20000 in
theorem ggX3_readThrower_X3_takeRoof : GoodIn wsX3_readThrower wsX3_takeRoof := goodIn_r _ [32, 1, 33, 34, 35, 36, 6, 37, 12, 11, 2, 38, 39, 40, 41, 42, 10, 43, 3, 4, 5, 7, 8, 9, 13, 14, 15, 16, 17, 18, 19, 20, 21, 22, 23, 24, 25, 26, 27, 28, 112, 113, 114, 115, 116, 117, 118, 119, 120, 121, 122, 123, 124, 125, 126, 127, 128, 129, 130, 131, 132, 133, 134, 135, 136, 137, 138, 139] (by decide +kernel) (by decide +kernel)
set_option maxRecDepth 20000 in
theorem gX3_readThrower_X3_takeRoof : GoodIn wsX3_readThrower (wsV RX3 115 RX3 yX3_takeRoof wsX3_takeRoof) := goodIn_app (goodIn_of _ (by decide +kernel)) ggX3_readThrower_X3_takeRoof
set_option maxRecDepth 20000 in
theorem ggX3_readThrower_X3_kindTold : GoodIn wsX3_readThrower wsX3_kindTold := goodIn_r _ [47, 48, 49, 50, 6, 51, 12, 8, 10, 52, 53, 54, 55, 56, 57, 58, 59, 60, 61, 62, 63, 18, 19, 20, 21, 9, 22, 64, 65, 66, 67, 68, 69, 70, 71, 72, 73, 74, 75, 76, 77, 78, 79, 80, 81, 82, 83, 84, 85, 86, 87, 88, 89, 90, 91, 92, 93, 94, 95, 96, 97, 98, 99, 100, 112, 113, 114, 115, 116, 117, 118, 119, 120, 121, 122, 123] (by decide +kernel) (by decide +kernel)
set_option maxRecDepth 20000 in
theorem gX3_readThrower_X3_kindTold : GoodIn wsX3_readThrower (wsV RX3 118 RX3 yX3_kindTold wsX3_kindTold) := goodIn_app (goodIn_of _ (by decide +kernel)) ggX3_readThrower_X3_kindTold
set_option maxRecDepth 20000 in
theorem ggX3_readThrower_X3_fail : GoodIn wsX3_readThrower wsX3_fail := goodIn_r _ [41, 42, 10, 43, 112, 113, 114, 115, 116, 117, 118, 119, 120, 121, 122, 123] (by decide +kernel) (by decide +kernel)
set_option maxRecDepth 20000 in
theorem gX3_readThrower_X3_fail : GoodIn wsX3_readThrower (wsV RX3 93 RX3 yX3_fail wsX3_fail) := goodIn_app (goodIn_of _ (by decide +kernel)) ggX3_readThrower_X3_fail
set_option maxRecDepth 20000 in
theorem ggX3_readThrower_X0_employ : GoodIn wsX3_readThrower wsX0_employ := goodIn_r _ [105, 106, 107, 108, 109, 104, 110, 111, 124, 125, 126, 127, 128, 129, 130, 131, 132, 133, 134, 135, 136, 137, 138, 139] (by decide +kernel) (by decide +kernel)
set_option maxRecDepth 20000 in
theorem gX3_readThrower_X0_employ : GoodIn wsX3_readThrower (wsV RX3 122 RX0 yX0_employ wsX0_employ) := goodIn_app (goodIn_of _ (by decide +kernel)) ggX3_readThrower_X0_employ
theorem dX3_readThrower_0 : decode cX3_readThrower 0 = .ok (.aload_n 0, 1) := by decide +kernel
theorem dX3_readThrower_1 : decode cX3_readThrower 1 = .ok (.invokevirtual 48, 3) := by decide +kernel
theorem dX3_readThrower_4 : decode cX3_readThrower 4 = .ok (.aload_n 0, 1) := by decide +kernel
theorem dX3_readThrower_5 : decode cX3_readThrower 5 = .ok (.iconst (-1), 1) := by decide +kernel
theorem dX3_readThrower_6 : decode cX3_readThrower 6 = .ok (.invokevirtual 115, 3) := by decide +kernel
theorem dX3_readThrower_9 : decode cX3_readThrower 9 = .ok (.ifCond .ne 5, 3) := by decide +kernel
theorem dX3_readThrower_12 : decode cX3_readThrower 12 = .ok (.iconst 0, 1) := by decide +kernel
theorem dX3_readThrower_13 : decode cX3_readThrower 13 = .ok (.ireturn, 1) := by decide +kernel
theorem dX3_readThrower_14 : decode cX3_readThrower 14 = .ok (.aload_n 0, 1) := by decide +kernel
theorem dX3_readThrower_15 : decode cX3_readThrower 15 = .ok (.invokevirtual 118, 3) := by decide +kernel
theorem dX3_readThrower_18 : decode cX3_readThrower 18 = .ok (.istore_n 1, 1) := by decide +kernel
theorem dX3_readThrower_19 : decode cX3_readThrower 19 = .ok (.iload_n 1, 1) := by decide +kernel
theorem dX3_readThrower_20 : decode cX3_readThrower 20 = .ok (.iconst (-1), 1) := by decide +kernel
theorem dX3_readThrower_21 : decode cX3_readThrower 21 = .ok (.if_icmp .ne 9, 3) := by decide +kernel
theorem dX3_readThrower_24 : decode cX3_readThrower 24 = .ok (.aload_n 0, 1) := by decide +kernel
theorem dX3_readThrower_25 : decode cX3_readThrower 25 = .ok (.iconst 1, 1) := by decide +kernel
theorem dX3_readThrower_26 : decode cX3_readThrower 26 = .ok (.invokevirtual 93, 3) := by decide +kernel
theorem dX3_readThrower_29 : decode cX3_readThrower 29 = .ok (.ireturn, 1) := by decide +kernel
theorem dX3_readThrower_30 : decode cX3_readThrower 30 = .ok (.aload_n 0, 1) := by decide +kernel
theorem dX3_readThrower_31 : decode cX3_readThrower 31 = .ok (.getfield 19, 3) := by decide +kernel
theorem dX3_readThrower_34 : decode cX3_readThrower 34 = .ok (.aload_n 0, 1) := by decide +kernel
theorem dX3_readThrower_35 : decode cX3_readThrower 35 = .ok (.getfield 108, 3) := by decide +kernel
theorem dX3_readThrower_38 : decode cX3_readThrower 38 = .ok (.iload_n 1, 1) := by decide +kernel
theorem dX3_readThrower_39 : decode cX3_readThrower 39 = .ok (.invokevirtual 122, 3) := by decide +kernel
theorem dX3_readThrower_42 : decode cX3_readThrower 42 = .ok (.aload_n 0, 1) := by decide +kernel
theorem dX3_readThrower_43 : decode cX3_readThrower 43 = .ok (.invokevirtual 48, 3) := by decide +kernel
theorem dX3_readThrower_46 : decode cX3_readThrower 46 = .ok (.iconst 1, 1) := by decide +kernel
theorem dX3_readThrower_47 : decode cX3_readThrower 47 = .ok (.ireturn, 1) := by decide +kernel
set_option maxRecDepth 20000 in
theorem ggX3_kindTold_X3_isWord : GoodIn wsX3_kindTold wsX3_isWord := goodIn_r _ [5, 6, 7, 8, 9, 10, 11, 12, 13, 14, 15, 16, 17, 18, 19, 20, 21, 22, 23, 4, 24, 25, 26, 27, 28, 29, 30, 31, 32, 33, 34, 35, 36, 37, 38, 39, 40, 41, 42, 43, 44, 45, 46, 47, 48, 49, 50, 51, 52, 53, 54, 55, 56, 57, 58, 59, 60, 61, 62, 63, 64, 65, 66, 67, 68, 69, 70, 71, 72, 73, 74, 75] (by decide +kernel) (by decide +kernel)
set_option maxRecDepth 20000 in
theorem gX3_kindTold_X3_isWord : GoodIn wsX3_kindTold (wsV RX3 66 RX3 yX3_isWord wsX3_isWord) := goodIn_app (goodIn_of _ (by decide +kernel)) ggX3_kindTold_X3_isWord
theorem dX3_kindTold_0 : decode cX3_kindTold 0 = .ok (.aload_n 0, 1) := by decide +kernel
theorem dX3_kindTold_1 : decode cX3_kindTold 1 = .ok (.ldc 126, 2) := by decide +kernel
theorem dX3_kindTold_3 : decode cX3_kindTold 3 = .ok (.invokevirtual 66, 3) := by decide +kernel
theorem dX3_kindTold_6 : decode cX3_kindTold 6 = .ok (.ifCond .eq 5, 3) := by decide +kernel
theorem dX3_kindTold_9 : decode cX3_kindTold 9 = .ok (.iconst 0, 1) := by decide +kernel
theorem dX3_kindTold_10 : decode cX3_kindTold 10 = .ok (.ireturn, 1) := by decide +kernel
theorem dX3_kindTold_11 : decode cX3_kindTold 11 = .ok (.aload_n 0, 1) := by decide +kernel
theorem dX3_kindTold_12 : decode cX3_kindTold 12 = .ok (.ldc 128, 2) := by decide +kernel
theorem dX3_kindTold_14 : decode cX3_kindTold 14 = .ok (.invokevirtual 66, 3) := by decide +kernel
theorem dX3_kindTold_17 : decode cX3_kindTold 17 = .ok (.ifCond .eq 5, 3) := by decide +kernel
theorem dX3_kindTold_20 : decode cX3_kindTold 20 = .ok (.iconst 1, 1) := by decide +kernel
theorem dX3_kindTold_21 : decode cX3_kindTold 21 = .ok (.ireturn, 1) := by decide +kernel
theorem dX3_kindTold_22 : decode cX3_kindTold 22 = .ok (.aload_n 0, 1) := by decide +kernel
theorem dX3_kindTold_23 : decode cX3_kindTold 23 = .ok (.ldc 130, 2) := by decide +kernel
theorem dX3_kindTold_25 : decode cX3_kindTold 25 = .ok (.invokevirtual 66, 3) := by decide +kernel
theorem dX3_kindTold_28 : decode cX3_kindTold 28 = .ok (.ifCond .eq 5, 3) := by decide +kernel
theorem dX3_kindTold_31 : decode cX3_kindTold 31 = .ok (.iconst 2, 1) := by decide +kernel
theorem dX3_kindTold_32 : decode cX3_kindTold 32 = .ok (.ireturn, 1) := by decide +kernel
theorem dX3_kindTold_33 : decode cX3_kindTold 33 = .ok (.aload_n 0, 1) := by decide +kernel
theorem dX3_kindTold_34 : decode cX3_kindTold 34 = .ok (.ldc 132, 2) := by decide +kernel
theorem dX3_kindTold_36 : decode cX3_kindTold 36 = .ok (.invokevirtual 66, 3) := by decide +kernel
theorem dX3_kindTold_39 : decode cX3_kindTold 39 = .ok (.ifCond .eq 5, 3) := by decide +kernel
theorem dX3_kindTold_42 : decode cX3_kindTold 42 = .ok (.iconst 3, 1) := by decide +kernel
theorem dX3_kindTold_43 : decode cX3_kindTold 43 = .ok (.ireturn, 1) := by decide +kernel
theorem dX3_kindTold_44 : decode cX3_kindTold 44 = .ok (.aload_n 0, 1) := by decide +kernel
theorem dX3_kindTold_45 : decode cX3_kindTold 45 = .ok (.ldc 134, 2) := by decide +kernel
theorem dX3_kindTold_47 : decode cX3_kindTold 47 = .ok (.invokevirtual 66, 3) := by decide +kernel
theorem dX3_kindTold_50 : decode cX3_kindTold 50 = .ok (.ifCond .eq 7, 3) := by decide +kernel
theorem dX3_kindTold_53 : decode cX3_kindTold 53 = .ok (.iconst 4, 1) := by decide +kernel
theorem dX3_kindTold_54 : decode cX3_kindTold 54 = .ok (.goto 4, 3) := by decide +kernel
theorem dX3_kindTold_57 : decode cX3_kindTold 57 = .ok (.iconst (-1), 1) := by decide +kernel
theorem dX3_kindTold_58 : decode cX3_kindTold 58 = .ok (.ireturn, 1) := by decide +kernel
set_option maxRecDepth 20000 in
theorem ggX3_readThrows_X3_advance : GoodIn wsX3_readThrows wsX3_advance := goodIn_r _ [8, 9, 10, 11, 3, 2, 12, 13, 14, 15, 16, 17, 18, 19, 7, 20, 21, 22, 23, 24, 25, 26, 27, 126, 127, 128, 129, 130, 131, 132, 133, 134, 135, 136, 137] (by decide +kernel) (by decide +kernel)
set_option maxRecDepth 20000 in
theorem gX3_readThrows_X3_advance : GoodIn wsX3_readThrows (wsV RX3 48 RX3 yX3_advance wsX3_advance) := goodIn_app (goodIn_of _ (by decide +kernel)) ggX3_readThrows_X3_advance
set_option maxRecDepth 20000 in
theorem ggX3_readThrows_X3_takeRoof : GoodIn wsX3_readThrows wsX3_takeRoof := goodIn_r _ [31, 32, 33, 34, 35, 36, 7, 37, 2, 3, 1, 38, 39, 40, 41, 42, 11, 43, 4, 5, 6, 8, 9, 10, 12, 13, 14, 15, 16, 17, 18, 19, 20, 21, 22, 23, 24, 25, 26, 27, 126, 127, 128, 129, 130, 131, 132, 133, 134, 135, 136, 137, 138, 139, 140, 141, 142, 143, 144, 145, 146, 147, 148, 149, 150, 151, 152, 153] (by decide +kernel) (by decide +kernel)
set_option maxRecDepth 20000 in
theorem gX3_readThrows_X3_takeRoof : GoodIn wsX3_readThrows (wsV RX3 115 RX3 yX3_takeRoof wsX3_takeRoof) := goodIn_app (goodIn_of _ (by decide +kernel)) ggX3_readThrows_X3_takeRoof
set_option maxRecDepth 20000 in
theorem ggX3_readThrows_X3_fail : GoodIn wsX3_readThrows wsX3_fail := goodIn_r _ [41, 42, 11, 43, 126, 127, 128, 129, 130, 131, 132, 133, 134, 135, 136, 137] (by decide +kernel) (by decide +kernel)
set_option maxRecDepth 20000 in
theorem gX3_readThrows_X3_fail : GoodIn wsX3_readThrows (wsV RX3 93 RX3 yX3_fail wsX3_fail) := goodIn_app (goodIn_of _ (by decide +kernel)) ggX3_readThrows_X3_fail
set_option maxRecDepth 20000 in
theorem ggX3_readThrows_X3_readThrow : GoodIn wsX3_readThrows wsX3_readThrow := goodIn_r _ [47, 1, 32, 33, 34, 35, 36, 7, 37, 2, 3, 38, 39, 40, 41, 42, 11, 43, 4, 5, 6, 8, 9, 10, 12, 13, 14, 15, 16, 17, 18, 19, 20, 21, 22, 23, 24, 25, 26, 27, 48, 49, 50, 51, 52, 53, 54, 55, 56, 57, 58, 59, 60, 61, 62, 63, 64, 65, 66, 67, 68, 69, 70, 71, 72, 73, 74, 75, 76, 77, 78, 79, 80, 81, 82, 83, 84, 85, 86, 87, 88, 89, 90, 91, 92, 93, 94, 95, 96, 97, 98, 99, 100, 101, 102, 103, 104, 105, 106, 107, 108, 109, 110, 111, 112, 113, 114, 115, 116, 117, 118, 119, 120, 121, 122, 123, 124, 125, 126, 127, 128, 129, 130, 131, 132, 133, 134, 135, 136, 137, 138, 139, 140, 141, 142, 143, 144, 145, 146, 147, 148, 149, 150, 151, 152, 153] (by decide +kernel) (by decide +kernel)
set_option maxRecDepth 20000 in
theorem gX3_readThrows_X3_readThrow : GoodIn wsX3_readThrows (wsV RX3 139 RX3 yX3_readThrow wsX3_readThrow) := goodIn_app (goodIn_of _ (by decide +kernel)) ggX3_readThrows_X3_readThrow
theorem dX3_readThrows_0 : decode cX3_readThrows 0 = .ok (.aload_n 0, 1) := by decide +kernel
theorem dX3_readThrows_1 : decode cX3_readThrows 1 = .ok (.invokevirtual 48, 3) := by decide +kernel
theorem dX3_readThrows_4 : decode cX3_readThrows 4 = .ok (.aload_n 0, 1) := by decide +kernel
theorem dX3_readThrows_5 : decode cX3_readThrows 5 = .ok (.iconst (-1), 1) := by decide +kernel
theorem dX3_readThrows_6 : decode cX3_readThrows 6 = .ok (.invokevirtual 115, 3) := by decide +kernel
theorem dX3_readThrows_9 : decode cX3_readThrows 9 = .ok (.ifCond .ne 5, 3) := by decide +kernel
theorem dX3_readThrows_12 : decode cX3_readThrows 12 = .ok (.iconst 0, 1) := by decide +kernel
theorem dX3_readThrows_13 : decode cX3_readThrows 13 = .ok (.ireturn, 1) := by decide +kernel
theorem dX3_readThrows_14 : decode cX3_readThrows 14 = .ok (.aload_n 0, 1) := by decide +kernel
theorem dX3_readThrows_15 : decode cX3_readThrows 15 = .ok (.getfield 108, 3) := by decide +kernel
theorem dX3_readThrows_18 : decode cX3_readThrows 18 = .ok (.istore_n 1, 1) := by decide +kernel
theorem dX3_readThrows_19 : decode cX3_readThrows 19 = .ok (.iconst 0, 1) := by decide +kernel
theorem dX3_readThrows_20 : decode cX3_readThrows 20 = .ok (.istore_n 2, 1) := by decide +kernel
theorem dX3_readThrows_21 : decode cX3_readThrows 21 = .ok (.iload_n 2, 1) := by decide +kernel
theorem dX3_readThrows_22 : decode cX3_readThrows 22 = .ok (.bipush 8, 2) := by decide +kernel
theorem dX3_readThrows_24 : decode cX3_readThrows 24 = .ok (.if_icmp .gt 55, 3) := by decide +kernel
theorem dX3_readThrows_27 : decode cX3_readThrows 27 = .ok (.iload_n 2, 1) := by decide +kernel
theorem dX3_readThrows_28 : decode cX3_readThrows 28 = .ok (.ifCond .le 13, 3) := by decide +kernel
theorem dX3_readThrows_31 : decode cX3_readThrows 31 = .ok (.aload_n 0, 1) := by decide +kernel
theorem dX3_readThrows_32 : decode cX3_readThrows 32 = .ok (.getfield 51, 3) := by decide +kernel
theorem dX3_readThrows_35 : decode cX3_readThrows 35 = .ok (.iconst 2, 1) := by decide +kernel
theorem dX3_readThrows_36 : decode cX3_readThrows 36 = .ok (.if_icmp .eq 5, 3) := by decide +kernel
theorem dX3_readThrows_39 : decode cX3_readThrows 39 = .ok (.iconst 1, 1) := by decide +kernel
theorem dX3_readThrows_40 : decode cX3_readThrows 40 = .ok (.ireturn, 1) := by decide +kernel
theorem dX3_readThrows_41 : decode cX3_readThrows 41 = .ok (.iload_n 2, 1) := by decide +kernel
theorem dX3_readThrows_42 : decode cX3_readThrows 42 = .ok (.bipush 8, 2) := by decide +kernel
theorem dX3_readThrows_44 : decode cX3_readThrows 44 = .ok (.if_icmp .ne 18, 3) := by decide +kernel
theorem dX3_readThrows_47 : decode cX3_readThrows 47 = .ok (.aload_n 0, 1) := by decide +kernel
theorem dX3_readThrows_48 : decode cX3_readThrows 48 = .ok (.getfield 136, 3) := by decide +kernel
theorem dX3_readThrows_51 : decode cX3_readThrows 51 = .ok (.bipush 9, 2) := by decide +kernel
theorem dX3_readThrows_53 : decode cX3_readThrows 53 = .ok (.if_icmp .gt 9, 3) := by decide +kernel
theorem dX3_readThrows_56 : decode cX3_readThrows 56 = .ok (.aload_n 0, 1) := by decide +kernel
theorem dX3_readThrows_57 : decode cX3_readThrows 57 = .ok (.iconst 3, 1) := by decide +kernel
theorem dX3_readThrows_58 : decode cX3_readThrows 58 = .ok (.invokevirtual 93, 3) := by decide +kernel
theorem dX3_readThrows_61 : decode cX3_readThrows 61 = .ok (.ireturn, 1) := by decide +kernel
theorem dX3_readThrows_62 : decode cX3_readThrows 62 = .ok (.aload_n 0, 1) := by decide +kernel
theorem dX3_readThrows_63 : decode cX3_readThrows 63 = .ok (.iload_n 1, 1) := by decide +kernel
theorem dX3_readThrows_64 : decode cX3_readThrows 64 = .ok (.iload_n 2, 1) := by decide +kernel
theorem dX3_readThrows_65 : decode cX3_readThrows 65 = .ok (.invokevirtual 139, 3) := by decide +kernel
theorem dX3_readThrows_68 : decode cX3_readThrows 68 = .ok (.ifCond .ne 5, 3) := by decide +kernel
theorem dX3_readThrows_71 : decode cX3_readThrows 71 = .ok (.iconst 0, 1) := by decide +kernel
theorem dX3_readThrows_72 : decode cX3_readThrows 72 = .ok (.ireturn, 1) := by decide +kernel
theorem dX3_readThrows_73 : decode cX3_readThrows 73 = .ok (.iinc 2 1, 3) := by decide +kernel
theorem dX3_readThrows_76 : decode cX3_readThrows 76 = .ok (.goto (-55), 3) := by decide +kernel
theorem dX3_readThrows_79 : decode cX3_readThrows 79 = .ok (.iconst 1, 1) := by decide +kernel
theorem dX3_readThrows_80 : decode cX3_readThrows 80 = .ok (.ireturn, 1) := by decide +kernel
set_option maxRecDepth 20000 in
theorem ggX3_readThrow_X3_takeNumber : GoodIn wsX3_readThrow wsX3_takeNumber := goodIn_r _ [8, 9, 10, 1, 11, 12, 13, 7, 14, 15, 16, 17, 18, 19, 20, 21, 22, 23, 24, 25, 26, 27, 28, 29, 30, 31, 32, 33, 34, 35, 36, 37, 38, 39, 118, 119, 120, 121, 122, 123, 124, 125, 126, 127, 128, 129] (by decide +kernel) (by decide +kernel)
set_option maxRecDepth 20000 in
theorem gX3_readThrow_X3_takeNumber : GoodIn wsX3_readThrow (wsV RX3 104 RX3 yX3_takeNumber wsX3_takeNumber) := goodIn_app (goodIn_of _ (by decide +kernel)) ggX3_readThrow_X3_takeNumber
set_option maxRecDepth 20000 in
theorem ggX3_readThrow_X3_isWord : GoodIn wsX3_readThrow wsX3_isWord := goodIn_r _ [43, 9, 22, 16, 44, 45, 46, 47, 48, 49, 50, 51, 52, 53, 54, 55, 29, 30, 31, 7, 32, 23, 33, 56, 57, 58, 59, 60, 61, 62, 63, 64, 65, 66, 67, 68, 69, 70, 71, 72, 73, 74, 75, 76, 77, 78, 79, 80, 81, 82, 83, 84, 85, 86, 87, 88, 89, 90, 91, 92, 118, 119, 120, 121, 122, 123, 124, 125, 126, 127, 128, 129] (by decide +kernel) (by decide +kernel)
set_option maxRecDepth 20000 in
theorem gX3_readThrow_X3_isWord : GoodIn wsX3_readThrow (wsV RX3 66 RX3 yX3_isWord wsX3_isWord) := goodIn_app (goodIn_of _ (by decide +kernel)) ggX3_readThrow_X3_isWord
set_option maxRecDepth 20000 in
theorem ggX3_readThrow_X3_advance : GoodIn wsX3_readThrow wsX3_advance := goodIn_r _ [21, 22, 23, 16, 10, 9, 24, 25, 26, 27, 28, 29, 30, 31, 7, 32, 33, 34, 35, 36, 37, 38, 39, 118, 119, 120, 121, 122, 123, 124, 125, 126, 127, 128, 129] (by decide +kernel) (by decide +kernel)
set_option maxRecDepth 20000 in
theorem gX3_readThrow_X3_advance : GoodIn wsX3_readThrow (wsV RX3 48 RX3 yX3_advance wsX3_advance) := goodIn_app (goodIn_of _ (by decide +kernel)) ggX3_readThrow_X3_advance
set_option maxRecDepth 20000 in
theorem ggX3_readThrow_X0_resize : GoodIn wsX3_readThrow wsX0_resize := goodIn_r _ [97, 98, 99, 100, 101, 102, 96, 103, 104, 130, 131, 132, 133, 134, 135, 136, 137, 138, 139, 140, 141, 142, 143, 144, 145] (by decide +kernel) (by decide +kernel)
set_option maxRecDepth 20000 in
theorem gX3_readThrow_X0_resize : GoodIn wsX3_readThrow (wsV RX3 147 RX0 yX0_resize wsX0_resize) := goodIn_app (goodIn_of _ (by decide +kernel)) ggX3_readThrow_X0_resize
set_option maxRecDepth 20000 in
theorem ggX3_readThrow_X0_put : GoodIn wsX3_readThrow wsX0_put := goodIn_r _ [108, 109, 110, 99, 111, 112, 113, 96, 114, 98, 100, 101, 102, 103, 104, 115, 116, 117, 130, 131, 132, 133, 134, 135, 136, 137, 138, 139, 140, 141, 142, 143, 144, 145] (by decide +kernel) (by decide +kernel)
set_option maxRecDepth 20000 in
theorem gX3_readThrow_X0_put : GoodIn wsX3_readThrow (wsV RX3 150 RX0 yX0_put wsX0_put) := goodIn_app (goodIn_of _ (by decide +kernel)) ggX3_readThrow_X0_put
theorem dX3_readThrow_0 : decode cX3_readThrow 0 = .ok (.aload_n 0, 1) := by decide +kernel
theorem dX3_readThrow_1 : decode cX3_readThrow 1 = .ok (.iconst 0, 1) := by decide +kernel
theorem dX3_readThrow_2 : decode cX3_readThrow 2 = .ok (.bipush 9, 2) := by decide +kernel
theorem dX3_readThrow_4 : decode cX3_readThrow 4 = .ok (.iconst (-1), 1) := by decide +kernel
theorem dX3_readThrow_5 : decode cX3_readThrow 5 = .ok (.invokevirtual 104, 3) := by decide +kernel
theorem dX3_readThrow_8 : decode cX3_readThrow 8 = .ok (.ifCond .ne 5, 3) := by decide +kernel
theorem dX3_readThrow_11 : decode cX3_readThrow 11 = .ok (.iconst 0, 1) := by decide +kernel
theorem dX3_readThrow_12 : decode cX3_readThrow 12 = .ok (.ireturn, 1) := by decide +kernel
theorem dX3_readThrow_13 : decode cX3_readThrow 13 = .ok (.aload_n 0, 1) := by decide +kernel
theorem dX3_readThrow_14 : decode cX3_readThrow 14 = .ok (.getfield 108, 3) := by decide +kernel
theorem dX3_readThrow_17 : decode cX3_readThrow 17 = .ok (.istore_n 3, 1) := by decide +kernel
theorem dX3_readThrow_18 : decode cX3_readThrow 18 = .ok (.iload_n 1, 1) := by decide +kernel
theorem dX3_readThrow_19 : decode cX3_readThrow 19 = .ok (.istore 4, 2) := by decide +kernel
theorem dX3_readThrow_21 : decode cX3_readThrow 21 = .ok (.aload_n 0, 1) := by decide +kernel
theorem dX3_readThrow_22 : decode cX3_readThrow 22 = .ok (.ldc 143, 2) := by decide +kernel
theorem dX3_readThrow_24 : decode cX3_readThrow 24 = .ok (.invokevirtual 66, 3) := by decide +kernel
theorem dX3_readThrow_27 : decode cX3_readThrow 27 = .ok (.ifCond .eq 57, 3) := by decide +kernel
theorem dX3_readThrow_30 : decode cX3_readThrow 30 = .ok (.aload_n 0, 1) := by decide +kernel
theorem dX3_readThrow_31 : decode cX3_readThrow 31 = .ok (.invokevirtual 48, 3) := by decide +kernel
theorem dX3_readThrow_34 : decode cX3_readThrow 34 = .ok (.iload_n 3, 1) := by decide +kernel
theorem dX3_readThrow_35 : decode cX3_readThrow 35 = .ok (.ifCond .ne 7, 3) := by decide +kernel
theorem dX3_readThrow_38 : decode cX3_readThrow 38 = .ok (.iload_n 1, 1) := by decide +kernel
theorem dX3_readThrow_39 : decode cX3_readThrow 39 = .ok (.goto 4, 3) := by decide +kernel
theorem dX3_readThrow_42 : decode cX3_readThrow 42 = .ok (.iconst 0, 1) := by decide +kernel
theorem dX3_readThrow_43 : decode cX3_readThrow 43 = .ok (.istore 5, 2) := by decide +kernel
theorem dX3_readThrow_45 : decode cX3_readThrow 45 = .ok (.iload_n 3, 1) := by decide +kernel
theorem dX3_readThrow_46 : decode cX3_readThrow 46 = .ok (.ifCond .ne 7, 3) := by decide +kernel
theorem dX3_readThrow_49 : decode cX3_readThrow 49 = .ok (.iload_n 1, 1) := by decide +kernel
theorem dX3_readThrow_50 : decode cX3_readThrow 50 = .ok (.goto 12, 3) := by decide +kernel
theorem dX3_readThrow_53 : decode cX3_readThrow 53 = .ok (.aload_n 0, 1) := by decide +kernel
theorem dX3_readThrow_54 : decode cX3_readThrow 54 = .ok (.getfield 19, 3) := by decide +kernel
theorem dX3_readThrow_57 : decode cX3_readThrow 57 = .ok (.getfield 145, 3) := by decide +kernel
theorem dX3_readThrow_60 : decode cX3_readThrow 60 = .ok (.iconst 1, 1) := by decide +kernel
theorem dX3_readThrow_61 : decode cX3_readThrow 61 = .ok (.isub, 1) := by decide +kernel
theorem dX3_readThrow_62 : decode cX3_readThrow 62 = .ok (.istore 6, 2) := by decide +kernel
theorem dX3_readThrow_64 : decode cX3_readThrow 64 = .ok (.aload_n 0, 1) := by decide +kernel
theorem dX3_readThrow_65 : decode cX3_readThrow 65 = .ok (.iload 5, 2) := by decide +kernel
theorem dX3_readThrow_67 : decode cX3_readThrow 67 = .ok (.iload 6, 2) := by decide +kernel
theorem dX3_readThrow_69 : decode cX3_readThrow 69 = .ok (.iconst (-1), 1) := by decide +kernel
theorem dX3_readThrow_70 : decode cX3_readThrow 70 = .ok (.invokevirtual 104, 3) := by decide +kernel
theorem dX3_readThrow_73 : decode cX3_readThrow 73 = .ok (.ifCond .ne 5, 3) := by decide +kernel
theorem dX3_readThrow_76 : decode cX3_readThrow 76 = .ok (.iconst 0, 1) := by decide +kernel
theorem dX3_readThrow_77 : decode cX3_readThrow 77 = .ok (.ireturn, 1) := by decide +kernel
theorem dX3_readThrow_78 : decode cX3_readThrow 78 = .ok (.aload_n 0, 1) := by decide +kernel
theorem dX3_readThrow_79 : decode cX3_readThrow 79 = .ok (.getfield 108, 3) := by decide +kernel
theorem dX3_readThrow_82 : decode cX3_readThrow 82 = .ok (.istore 4, 2) := by decide +kernel
theorem dX3_readThrow_84 : decode cX3_readThrow 84 = .ok (.aload_n 0, 1) := by decide +kernel
theorem dX3_readThrow_85 : decode cX3_readThrow 85 = .ok (.getfield 19, 3) := by decide +kernel
theorem dX3_readThrow_88 : decode cX3_readThrow 88 = .ok (.iload_n 1, 1) := by decide +kernel
theorem dX3_readThrow_89 : decode cX3_readThrow 89 = .ok (.iload_n 2, 1) := by decide +kernel
theorem dX3_readThrow_90 : decode cX3_readThrow 90 = .ok (.iconst 1, 1) := by decide +kernel
theorem dX3_readThrow_91 : decode cX3_readThrow 91 = .ok (.iadd, 1) := by decide +kernel
theorem dX3_readThrow_92 : decode cX3_readThrow 92 = .ok (.invokevirtual 147, 3) := by decide +kernel
theorem dX3_readThrow_95 : decode cX3_readThrow 95 = .ok (.aload_n 0, 1) := by decide +kernel
theorem dX3_readThrow_96 : decode cX3_readThrow 96 = .ok (.getfield 19, 3) := by decide +kernel
theorem dX3_readThrow_99 : decode cX3_readThrow 99 = .ok (.iload_n 1, 1) := by decide +kernel
theorem dX3_readThrow_100 : decode cX3_readThrow 100 = .ok (.iload_n 2, 1) := by decide +kernel
theorem dX3_readThrow_101 : decode cX3_readThrow 101 = .ok (.iload_n 3, 1) := by decide +kernel
theorem dX3_readThrow_102 : decode cX3_readThrow 102 = .ok (.iload 4, 2) := by decide +kernel
theorem dX3_readThrow_104 : decode cX3_readThrow 104 = .ok (.invokevirtual 150, 3) := by decide +kernel
theorem dX3_readThrow_107 : decode cX3_readThrow 107 = .ok (.iconst 1, 1) := by decide +kernel
theorem dX3_readThrow_108 : decode cX3_readThrow 108 = .ok (.ireturn, 1) := by decide +kernel
set_option maxRecDepth 20000 in
theorem ggX3_readCross_X3_fail : GoodIn wsX3_readCross wsX3_fail := goodIn_r _ [8, 9, 10, 11, 56, 57, 58, 59, 60, 61, 62, 63, 64, 65, 66, 67] (by decide +kernel) (by decide +kernel)
set_option maxRecDepth 20000 in
theorem gX3_readCross_X3_fail : GoodIn wsX3_readCross (wsV RX3 93 RX3 yX3_fail wsX3_fail) := goodIn_app (goodIn_of _ (by decide +kernel)) ggX3_readCross_X3_fail
set_option maxRecDepth 20000 in
theorem ggX3_readCross_X3_advance : GoodIn wsX3_readCross wsX3_advance := goodIn_r _ [15, 16, 17, 10, 18, 19, 20, 21, 22, 23, 24, 25, 26, 27, 7, 28, 29, 30, 31, 32, 33, 34, 35, 56, 57, 58, 59, 60, 61, 62, 63, 64, 65, 66, 67] (by decide +kernel) (by decide +kernel)
set_option maxRecDepth 20000 in
theorem gX3_readCross_X3_advance : GoodIn wsX3_readCross (wsV RX3 48 RX3 yX3_advance wsX3_advance) := goodIn_app (goodIn_of _ (by decide +kernel)) ggX3_readCross_X3_advance
set_option maxRecDepth 20000 in
theorem ggX3_readCross_X3_takeRoof : GoodIn wsX3_readCross wsX3_takeRoof := goodIn_r _ [39, 3, 40, 41, 42, 43, 7, 44, 19, 18, 2, 4, 5, 6, 8, 9, 10, 11, 12, 13, 14, 15, 16, 17, 20, 21, 22, 23, 24, 25, 26, 27, 28, 29, 30, 31, 32, 33, 34, 35, 56, 57, 58, 59, 60, 61, 62, 63, 64, 65, 66, 67, 68, 69, 70, 71, 72, 73, 74, 75, 76, 77, 78, 79, 80, 81, 82, 83] (by decide +kernel) (by decide +kernel)
set_option maxRecDepth 20000 in
theorem gX3_readCross_X3_takeRoof : GoodIn wsX3_readCross (wsV RX3 115 RX3 yX3_takeRoof wsX3_takeRoof) := goodIn_app (goodIn_of _ (by decide +kernel)) ggX3_readCross_X3_takeRoof
set_option maxRecDepth 20000 in
theorem ggX3_readCross_X0_forbid : GoodIn wsX3_readCross wsX0_forbid := goodIn_r _ [49, 50, 51, 52, 53, 48, 54, 55, 68, 69, 70, 71, 72, 73, 74, 75, 76, 77, 78, 79, 80, 81, 82, 83] (by decide +kernel) (by decide +kernel)
set_option maxRecDepth 20000 in
theorem gX3_readCross_X0_forbid : GoodIn wsX3_readCross (wsV RX3 154 RX0 yX0_forbid wsX0_forbid) := goodIn_app (goodIn_of _ (by decide +kernel)) ggX3_readCross_X0_forbid
theorem dX3_readCross_0 : decode cX3_readCross 0 = .ok (.aload_n 0, 1) := by decide +kernel
theorem dX3_readCross_1 : decode cX3_readCross 1 = .ok (.getfield 38, 3) := by decide +kernel
theorem dX3_readCross_4 : decode cX3_readCross 4 = .ok (.bipush 6, 2) := by decide +kernel
theorem dX3_readCross_6 : decode cX3_readCross 6 = .ok (.if_icmp .ne 9, 3) := by decide +kernel
theorem dX3_readCross_9 : decode cX3_readCross 9 = .ok (.aload_n 0, 1) := by decide +kernel
theorem dX3_readCross_10 : decode cX3_readCross 10 = .ok (.iconst 3, 1) := by decide +kernel
theorem dX3_readCross_11 : decode cX3_readCross 11 = .ok (.invokevirtual 93, 3) := by decide +kernel
theorem dX3_readCross_14 : decode cX3_readCross 14 = .ok (.ireturn, 1) := by decide +kernel
theorem dX3_readCross_15 : decode cX3_readCross 15 = .ok (.aload_n 0, 1) := by decide +kernel
theorem dX3_readCross_16 : decode cX3_readCross 16 = .ok (.invokevirtual 48, 3) := by decide +kernel
theorem dX3_readCross_19 : decode cX3_readCross 19 = .ok (.aload_n 0, 1) := by decide +kernel
theorem dX3_readCross_20 : decode cX3_readCross 20 = .ok (.iconst (-1), 1) := by decide +kernel
theorem dX3_readCross_21 : decode cX3_readCross 21 = .ok (.invokevirtual 115, 3) := by decide +kernel
theorem dX3_readCross_24 : decode cX3_readCross 24 = .ok (.ifCond .ne 5, 3) := by decide +kernel
theorem dX3_readCross_27 : decode cX3_readCross 27 = .ok (.iconst 0, 1) := by decide +kernel
theorem dX3_readCross_28 : decode cX3_readCross 28 = .ok (.ireturn, 1) := by decide +kernel
theorem dX3_readCross_29 : decode cX3_readCross 29 = .ok (.aload_n 0, 1) := by decide +kernel
theorem dX3_readCross_30 : decode cX3_readCross 30 = .ok (.getfield 108, 3) := by decide +kernel
theorem dX3_readCross_33 : decode cX3_readCross 33 = .ok (.istore_n 1, 1) := by decide +kernel
theorem dX3_readCross_34 : decode cX3_readCross 34 = .ok (.aload_n 0, 1) := by decide +kernel
theorem dX3_readCross_35 : decode cX3_readCross 35 = .ok (.iload_n 1, 1) := by decide +kernel
theorem dX3_readCross_36 : decode cX3_readCross 36 = .ok (.invokevirtual 115, 3) := by decide +kernel
theorem dX3_readCross_39 : decode cX3_readCross 39 = .ok (.ifCond .ne 5, 3) := by decide +kernel
theorem dX3_readCross_42 : decode cX3_readCross 42 = .ok (.iconst 0, 1) := by decide +kernel
theorem dX3_readCross_43 : decode cX3_readCross 43 = .ok (.ireturn, 1) := by decide +kernel
theorem dX3_readCross_44 : decode cX3_readCross 44 = .ok (.aload_n 0, 1) := by decide +kernel
theorem dX3_readCross_45 : decode cX3_readCross 45 = .ok (.getfield 19, 3) := by decide +kernel
theorem dX3_readCross_48 : decode cX3_readCross 48 = .ok (.iload_n 1, 1) := by decide +kernel
theorem dX3_readCross_49 : decode cX3_readCross 49 = .ok (.aload_n 0, 1) := by decide +kernel
theorem dX3_readCross_50 : decode cX3_readCross 50 = .ok (.getfield 108, 3) := by decide +kernel
theorem dX3_readCross_53 : decode cX3_readCross 53 = .ok (.invokevirtual 154, 3) := by decide +kernel
theorem dX3_readCross_56 : decode cX3_readCross 56 = .ok (.aload_n 0, 1) := by decide +kernel
theorem dX3_readCross_57 : decode cX3_readCross 57 = .ok (.dup, 1) := by decide +kernel
theorem dX3_readCross_58 : decode cX3_readCross 58 = .ok (.getfield 38, 3) := by decide +kernel
theorem dX3_readCross_61 : decode cX3_readCross 61 = .ok (.iconst 1, 1) := by decide +kernel
theorem dX3_readCross_62 : decode cX3_readCross 62 = .ok (.iadd, 1) := by decide +kernel
theorem dX3_readCross_63 : decode cX3_readCross 63 = .ok (.putfield 38, 3) := by decide +kernel
theorem dX3_readCross_66 : decode cX3_readCross 66 = .ok (.iconst 1, 1) := by decide +kernel
theorem dX3_readCross_67 : decode cX3_readCross 67 = .ok (.ireturn, 1) := by decide +kernel
set_option maxRecDepth 20000 in
theorem ggX3_readLetter_X3_fail : GoodIn wsX3_readLetter wsX3_fail := goodIn_r _ [8, 9, 10, 11, 114, 115, 116, 117, 118, 119, 120, 121, 122, 123, 124, 125] (by decide +kernel) (by decide +kernel)
set_option maxRecDepth 20000 in
theorem gX3_readLetter_X3_fail : GoodIn wsX3_readLetter (wsV RX3 93 RX3 yX3_fail wsX3_fail) := goodIn_app (goodIn_of _ (by decide +kernel)) ggX3_readLetter_X3_fail
set_option maxRecDepth 20000 in
theorem ggX3_readLetter_X3_advance : GoodIn wsX3_readLetter wsX3_advance := goodIn_r _ [15, 16, 17, 10, 18, 19, 20, 21, 22, 23, 24, 25, 26, 27, 7, 28, 29, 30, 31, 32, 33, 34, 35, 114, 115, 116, 117, 118, 119, 120, 121, 122, 123, 124, 125] (by decide +kernel) (by decide +kernel)
set_option maxRecDepth 20000 in
theorem gX3_readLetter_X3_advance : GoodIn wsX3_readLetter (wsV RX3 48 RX3 yX3_advance wsX3_advance) := goodIn_app (goodIn_of _ (by decide +kernel)) ggX3_readLetter_X3_advance
set_option maxRecDepth 20000 in
theorem ggX3_readLetter_X3_takeRoof : GoodIn wsX3_readLetter wsX3_takeRoof := goodIn_r _ [39, 1, 40, 41, 42, 43, 7, 44, 19, 18, 3, 4, 5, 6, 8, 9, 10, 11, 12, 13, 14, 15, 16, 17, 20, 21, 22, 23, 24, 25, 26, 27, 28, 29, 30, 31, 32, 33, 34, 35, 114, 115, 116, 117, 118, 119, 120, 121, 122, 123, 124, 125, 126, 127, 128, 129, 130, 131, 132, 133, 134, 135, 136, 137, 138, 139, 140, 141] (by decide +kernel) (by decide +kernel)
set_option maxRecDepth 20000 in
theorem gX3_readLetter_X3_takeRoof : GoodIn wsX3_readLetter (wsV RX3 115 RX3 yX3_takeRoof wsX3_takeRoof) := goodIn_app (goodIn_of _ (by decide +kernel)) ggX3_readLetter_X3_takeRoof
set_option maxRecDepth 20000 in
theorem ggX3_readLetter_X3_takeWord : GoodIn wsX3_readLetter wsX3_takeWord := goodIn_r _ [48, 49, 50, 51, 7, 52, 19, 16, 10, 53, 54, 55, 56, 57, 58, 59, 60, 61, 62, 63, 64, 25, 26, 27, 28, 17, 29, 65, 66, 67, 68, 69, 70, 71, 72, 73, 74, 75, 76, 77, 78, 79, 80, 81, 82, 83, 84, 85, 86, 87, 88, 89, 90, 91, 92, 93, 94, 95, 96, 97, 98, 99, 100, 101, 4, 5, 6, 8, 9, 11, 12, 13, 14, 15, 18, 20, 21, 22, 23, 24, 30, 31, 32, 33, 34, 35, 114, 115, 116, 117, 118, 119, 120, 121, 122, 123, 124, 125] (by decide +kernel) (by decide +kernel)
set_option maxRecDepth 20000 in
theorem gX3_readLetter_X3_takeWord : GoodIn wsX3_readLetter (wsV RX3 101 RX3 yX3_takeWord wsX3_takeWord) := goodIn_app (goodIn_of _ (by decide +kernel)) ggX3_readLetter_X3_takeWord
set_option maxRecDepth 20000 in
theorem ggX3_readLetter_X3_takeNumber : GoodIn wsX3_readLetter wsX3_takeNumber := goodIn_r _ [44, 19, 18, 3, 4, 5, 6, 7, 8, 9, 10, 11, 12, 13, 14, 15, 16, 17, 20, 21, 22, 23, 24, 25, 26, 27, 28, 29, 30, 31, 32, 33, 34, 35, 114, 115, 116, 117, 118, 119, 120, 121, 122, 123, 124, 125] (by decide +kernel) (by decide +kernel)
set_option maxRecDepth 20000 in
theorem gX3_readLetter_X3_takeNumber : GoodIn wsX3_readLetter (wsV RX3 104 RX3 yX3_takeNumber wsX3_takeNumber) := goodIn_app (goodIn_of _ (by decide +kernel)) ggX3_readLetter_X3_takeNumber
set_option maxRecDepth 20000 in
theorem ggX3_readLetter_X0_post : GoodIn wsX3_readLetter wsX0_post := goodIn_r _ [106, 107, 108, 109, 110, 111, 105, 112, 113, 126, 127, 128, 129, 130, 131, 132, 133, 134, 135, 136, 137, 138, 139, 140, 141] (by decide +kernel) (by decide +kernel)
set_option maxRecDepth 20000 in
theorem gX3_readLetter_X0_post : GoodIn wsX3_readLetter (wsV RX3 162 RX0 yX0_post wsX0_post) := goodIn_app (goodIn_of _ (by decide +kernel)) ggX3_readLetter_X0_post
theorem dX3_readLetter_0 : decode cX3_readLetter 0 = .ok (.aload_n 0, 1) := by decide +kernel
theorem dX3_readLetter_1 : decode cX3_readLetter 1 = .ok (.getfield 19, 3) := by decide +kernel
theorem dX3_readLetter_4 : decode cX3_readLetter 4 = .ok (.getfield 157, 3) := by decide +kernel
theorem dX3_readLetter_7 : decode cX3_readLetter 7 = .ok (.bipush 8, 2) := by decide +kernel
theorem dX3_readLetter_9 : decode cX3_readLetter 9 = .ok (.if_icmp .ne 9, 3) := by decide +kernel
theorem dX3_readLetter_12 : decode cX3_readLetter 12 = .ok (.aload_n 0, 1) := by decide +kernel
theorem dX3_readLetter_13 : decode cX3_readLetter 13 = .ok (.iconst 3, 1) := by decide +kernel
theorem dX3_readLetter_14 : decode cX3_readLetter 14 = .ok (.invokevirtual 93, 3) := by decide +kernel
theorem dX3_readLetter_17 : decode cX3_readLetter 17 = .ok (.ireturn, 1) := by decide +kernel
theorem dX3_readLetter_18 : decode cX3_readLetter 18 = .ok (.aload_n 0, 1) := by decide +kernel
theorem dX3_readLetter_19 : decode cX3_readLetter 19 = .ok (.invokevirtual 48, 3) := by decide +kernel
theorem dX3_readLetter_22 : decode cX3_readLetter 22 = .ok (.aload_n 0, 1) := by decide +kernel
theorem dX3_readLetter_23 : decode cX3_readLetter 23 = .ok (.iconst (-1), 1) := by decide +kernel
theorem dX3_readLetter_24 : decode cX3_readLetter 24 = .ok (.invokevirtual 115, 3) := by decide +kernel
theorem dX3_readLetter_27 : decode cX3_readLetter 27 = .ok (.ifCond .ne 5, 3) := by decide +kernel
theorem dX3_readLetter_30 : decode cX3_readLetter 30 = .ok (.iconst 0, 1) := by decide +kernel
theorem dX3_readLetter_31 : decode cX3_readLetter 31 = .ok (.ireturn, 1) := by decide +kernel
theorem dX3_readLetter_32 : decode cX3_readLetter 32 = .ok (.aload_n 0, 1) := by decide +kernel
theorem dX3_readLetter_33 : decode cX3_readLetter 33 = .ok (.getfield 108, 3) := by decide +kernel
theorem dX3_readLetter_36 : decode cX3_readLetter 36 = .ok (.istore_n 1, 1) := by decide +kernel
theorem dX3_readLetter_37 : decode cX3_readLetter 37 = .ok (.aload_n 0, 1) := by decide +kernel
theorem dX3_readLetter_38 : decode cX3_readLetter 38 = .ok (.ldc 160, 2) := by decide +kernel
theorem dX3_readLetter_40 : decode cX3_readLetter 40 = .ok (.invokevirtual 101, 3) := by decide +kernel
theorem dX3_readLetter_43 : decode cX3_readLetter 43 = .ok (.ifCond .eq 15, 3) := by decide +kernel
theorem dX3_readLetter_46 : decode cX3_readLetter 46 = .ok (.aload_n 0, 1) := by decide +kernel
theorem dX3_readLetter_47 : decode cX3_readLetter 47 = .ok (.iconst 0, 1) := by decide +kernel
theorem dX3_readLetter_48 : decode cX3_readLetter 48 = .ok (.sipush 9999, 3) := by decide +kernel
theorem dX3_readLetter_51 : decode cX3_readLetter 51 = .ok (.iconst (-1), 1) := by decide +kernel
theorem dX3_readLetter_52 : decode cX3_readLetter 52 = .ok (.invokevirtual 104, 3) := by decide +kernel
theorem dX3_readLetter_55 : decode cX3_readLetter 55 = .ok (.ifCond .ne 5, 3) := by decide +kernel
theorem dX3_readLetter_58 : decode cX3_readLetter 58 = .ok (.iconst 0, 1) := by decide +kernel
theorem dX3_readLetter_59 : decode cX3_readLetter 59 = .ok (.ireturn, 1) := by decide +kernel
theorem dX3_readLetter_60 : decode cX3_readLetter 60 = .ok (.aload_n 0, 1) := by decide +kernel
theorem dX3_readLetter_61 : decode cX3_readLetter 61 = .ok (.getfield 108, 3) := by decide +kernel
theorem dX3_readLetter_64 : decode cX3_readLetter 64 = .ok (.istore_n 2, 1) := by decide +kernel
theorem dX3_readLetter_65 : decode cX3_readLetter 65 = .ok (.aload_n 0, 1) := by decide +kernel
theorem dX3_readLetter_66 : decode cX3_readLetter 66 = .ok (.ldc 143, 2) := by decide +kernel
theorem dX3_readLetter_68 : decode cX3_readLetter 68 = .ok (.invokevirtual 101, 3) := by decide +kernel
theorem dX3_readLetter_71 : decode cX3_readLetter 71 = .ok (.ifCond .eq 11, 3) := by decide +kernel
theorem dX3_readLetter_74 : decode cX3_readLetter 74 = .ok (.aload_n 0, 1) := by decide +kernel
theorem dX3_readLetter_75 : decode cX3_readLetter 75 = .ok (.iload_n 1, 1) := by decide +kernel
theorem dX3_readLetter_76 : decode cX3_readLetter 76 = .ok (.invokevirtual 115, 3) := by decide +kernel
theorem dX3_readLetter_79 : decode cX3_readLetter 79 = .ok (.ifCond .ne 5, 3) := by decide +kernel
theorem dX3_readLetter_82 : decode cX3_readLetter 82 = .ok (.iconst 0, 1) := by decide +kernel
theorem dX3_readLetter_83 : decode cX3_readLetter 83 = .ok (.ireturn, 1) := by decide +kernel
theorem dX3_readLetter_84 : decode cX3_readLetter 84 = .ok (.aload_n 0, 1) := by decide +kernel
theorem dX3_readLetter_85 : decode cX3_readLetter 85 = .ok (.getfield 19, 3) := by decide +kernel
theorem dX3_readLetter_88 : decode cX3_readLetter 88 = .ok (.iload_n 1, 1) := by decide +kernel
theorem dX3_readLetter_89 : decode cX3_readLetter 89 = .ok (.iload_n 2, 1) := by decide +kernel
theorem dX3_readLetter_90 : decode cX3_readLetter 90 = .ok (.aload_n 0, 1) := by decide +kernel
theorem dX3_readLetter_91 : decode cX3_readLetter 91 = .ok (.getfield 108, 3) := by decide +kernel
theorem dX3_readLetter_94 : decode cX3_readLetter 94 = .ok (.invokevirtual 162, 3) := by decide +kernel
theorem dX3_readLetter_97 : decode cX3_readLetter 97 = .ok (.iconst 1, 1) := by decide +kernel
theorem dX3_readLetter_98 : decode cX3_readLetter 98 = .ok (.ireturn, 1) := by decide +kernel
set_option maxRecDepth 20000 in
theorem ggX3_readGusts_X3_fail : GoodIn wsX3_readGusts wsX3_fail := goodIn_r _ [10, 11, 12, 13, 99, 100, 101, 102, 103, 104, 105, 106, 107, 108, 109, 110] (by decide +kernel) (by decide +kernel)
set_option maxRecDepth 20000 in
theorem gX3_readGusts_X3_fail : GoodIn wsX3_readGusts (wsV RX3 93 RX3 yX3_fail wsX3_fail) := goodIn_app (goodIn_of _ (by decide +kernel)) ggX3_readGusts_X3_fail
set_option maxRecDepth 20000 in
theorem ggX3_readGusts_X3_advance : GoodIn wsX3_readGusts wsX3_advance := goodIn_r _ [17, 18, 19, 12, 20, 21, 22, 23, 24, 25, 26, 27, 28, 29, 9, 30, 31, 32, 33, 34, 35, 36, 37, 99, 100, 101, 102, 103, 104, 105, 106, 107, 108, 109, 110] (by decide +kernel) (by decide +kernel)
set_option maxRecDepth 20000 in
theorem gX3_readGusts_X3_advance : GoodIn wsX3_readGusts (wsV RX3 48 RX3 yX3_advance wsX3_advance) := goodIn_app (goodIn_of _ (by decide +kernel)) ggX3_readGusts_X3_advance
set_option maxRecDepth 20000 in
theorem ggX3_readGusts_X3_takeWord : GoodIn wsX3_readGusts wsX3_takeWord := goodIn_r _ [41, 42, 43, 44, 9, 45, 21, 18, 12, 46, 47, 48, 49, 50, 51, 52, 53, 54, 55, 56, 57, 27, 28, 29, 30, 19, 31, 58, 59, 60, 61, 62, 63, 64, 65, 66, 67, 68, 69, 70, 71, 72, 73, 74, 75, 76, 77, 78, 79, 80, 81, 82, 83, 84, 85, 86, 87, 88, 89, 90, 91, 92, 93, 94, 6, 7, 8, 10, 11, 13, 14, 15, 16, 17, 20, 22, 23, 24, 25, 26, 32, 33, 34, 35, 36, 37, 99, 100, 101, 102, 103, 104, 105, 106, 107, 108, 109, 110] (by decide +kernel) (by decide +kernel)
set_option maxRecDepth 20000 in
theorem gX3_readGusts_X3_takeWord : GoodIn wsX3_readGusts (wsV RX3 101 RX3 yX3_takeWord wsX3_takeWord) := goodIn_app (goodIn_of _ (by decide +kernel)) ggX3_readGusts_X3_takeWord
set_option maxRecDepth 20000 in
theorem ggX3_readGusts_X3_takeNumber : GoodIn wsX3_readGusts wsX3_takeNumber := goodIn_r _ [98, 21, 20, 3, 6, 7, 8, 9, 10, 11, 12, 13, 14, 15, 16, 17, 18, 19, 22, 23, 24, 25, 26, 27, 28, 29, 30, 31, 32, 33, 34, 35, 36, 37, 99, 100, 101, 102, 103, 104, 105, 106, 107, 108, 109, 110] (by decide +kernel) (by decide +kernel)
set_option maxRecDepth 20000 in
theorem gX3_readGusts_X3_takeNumber : GoodIn wsX3_readGusts (wsV RX3 104 RX3 yX3_takeNumber wsX3_takeNumber) := goodIn_app (goodIn_of _ (by decide +kernel)) ggX3_readGusts_X3_takeNumber
theorem dX3_readGusts_0 : decode cX3_readGusts 0 = .ok (.aload_n 0, 1) := by decide +kernel
theorem dX3_readGusts_1 : decode cX3_readGusts 1 = .ok (.getfield 41, 3) := by decide +kernel
theorem dX3_readGusts_4 : decode cX3_readGusts 4 = .ok (.ifCond .eq 9, 3) := by decide +kernel
theorem dX3_readGusts_7 : decode cX3_readGusts 7 = .ok (.aload_n 0, 1) := by decide +kernel
theorem dX3_readGusts_8 : decode cX3_readGusts 8 = .ok (.iconst 2, 1) := by decide +kernel
theorem dX3_readGusts_9 : decode cX3_readGusts 9 = .ok (.invokevirtual 93, 3) := by decide +kernel
theorem dX3_readGusts_12 : decode cX3_readGusts 12 = .ok (.ireturn, 1) := by decide +kernel
theorem dX3_readGusts_13 : decode cX3_readGusts 13 = .ok (.aload_n 0, 1) := by decide +kernel
theorem dX3_readGusts_14 : decode cX3_readGusts 14 = .ok (.iconst 1, 1) := by decide +kernel
theorem dX3_readGusts_15 : decode cX3_readGusts 15 = .ok (.putfield 41, 3) := by decide +kernel
theorem dX3_readGusts_18 : decode cX3_readGusts 18 = .ok (.aload_n 0, 1) := by decide +kernel
theorem dX3_readGusts_19 : decode cX3_readGusts 19 = .ok (.invokevirtual 48, 3) := by decide +kernel
theorem dX3_readGusts_22 : decode cX3_readGusts 22 = .ok (.aload_n 0, 1) := by decide +kernel
theorem dX3_readGusts_23 : decode cX3_readGusts 23 = .ok (.ldc 166, 2) := by decide +kernel
theorem dX3_readGusts_25 : decode cX3_readGusts 25 = .ok (.invokevirtual 101, 3) := by decide +kernel
theorem dX3_readGusts_28 : decode cX3_readGusts 28 = .ok (.ifCond .eq 14, 3) := by decide +kernel
theorem dX3_readGusts_31 : decode cX3_readGusts 31 = .ok (.aload_n 0, 1) := by decide +kernel
theorem dX3_readGusts_32 : decode cX3_readGusts 32 = .ok (.iconst 1, 1) := by decide +kernel
theorem dX3_readGusts_33 : decode cX3_readGusts 33 = .ok (.bipush 9, 2) := by decide +kernel
theorem dX3_readGusts_35 : decode cX3_readGusts 35 = .ok (.iconst (-1), 1) := by decide +kernel
theorem dX3_readGusts_36 : decode cX3_readGusts 36 = .ok (.invokevirtual 104, 3) := by decide +kernel
theorem dX3_readGusts_39 : decode cX3_readGusts 39 = .ok (.ifCond .ne 5, 3) := by decide +kernel
theorem dX3_readGusts_42 : decode cX3_readGusts 42 = .ok (.iconst 0, 1) := by decide +kernel
theorem dX3_readGusts_43 : decode cX3_readGusts 43 = .ok (.ireturn, 1) := by decide +kernel
theorem dX3_readGusts_44 : decode cX3_readGusts 44 = .ok (.aload_n 0, 1) := by decide +kernel
theorem dX3_readGusts_45 : decode cX3_readGusts 45 = .ok (.getfield 19, 3) := by decide +kernel
theorem dX3_readGusts_48 : decode cX3_readGusts 48 = .ok (.aload_n 0, 1) := by decide +kernel
theorem dX3_readGusts_49 : decode cX3_readGusts 49 = .ok (.getfield 108, 3) := by decide +kernel
theorem dX3_readGusts_52 : decode cX3_readGusts 52 = .ok (.putfield 168, 3) := by decide +kernel
theorem dX3_readGusts_55 : decode cX3_readGusts 55 = .ok (.aload_n 0, 1) := by decide +kernel
theorem dX3_readGusts_56 : decode cX3_readGusts 56 = .ok (.ldc 171, 2) := by decide +kernel
theorem dX3_readGusts_58 : decode cX3_readGusts 58 = .ok (.invokevirtual 101, 3) := by decide +kernel
theorem dX3_readGusts_61 : decode cX3_readGusts 61 = .ok (.ifCond .eq 14, 3) := by decide +kernel
theorem dX3_readGusts_64 : decode cX3_readGusts 64 = .ok (.aload_n 0, 1) := by decide +kernel
theorem dX3_readGusts_65 : decode cX3_readGusts 65 = .ok (.iconst 0, 1) := by decide +kernel
theorem dX3_readGusts_66 : decode cX3_readGusts 66 = .ok (.bipush 100, 2) := by decide +kernel
theorem dX3_readGusts_68 : decode cX3_readGusts 68 = .ok (.iconst (-1), 1) := by decide +kernel
theorem dX3_readGusts_69 : decode cX3_readGusts 69 = .ok (.invokevirtual 104, 3) := by decide +kernel
theorem dX3_readGusts_72 : decode cX3_readGusts 72 = .ok (.ifCond .ne 5, 3) := by decide +kernel
theorem dX3_readGusts_75 : decode cX3_readGusts 75 = .ok (.iconst 0, 1) := by decide +kernel
theorem dX3_readGusts_76 : decode cX3_readGusts 76 = .ok (.ireturn, 1) := by decide +kernel
theorem dX3_readGusts_77 : decode cX3_readGusts 77 = .ok (.aload_n 0, 1) := by decide +kernel
theorem dX3_readGusts_78 : decode cX3_readGusts 78 = .ok (.getfield 19, 3) := by decide +kernel
theorem dX3_readGusts_81 : decode cX3_readGusts 81 = .ok (.aload_n 0, 1) := by decide +kernel
theorem dX3_readGusts_82 : decode cX3_readGusts 82 = .ok (.getfield 108, 3) := by decide +kernel
theorem dX3_readGusts_85 : decode cX3_readGusts 85 = .ok (.putfield 173, 3) := by decide +kernel
theorem dX3_readGusts_88 : decode cX3_readGusts 88 = .ok (.iconst 1, 1) := by decide +kernel
theorem dX3_readGusts_89 : decode cX3_readGusts 89 = .ok (.ireturn, 1) := by decide +kernel
set_option maxRecDepth 20000 in
theorem ggX3_takeSign_X3_fail : GoodIn wsX3_takeSign wsX3_fail := goodIn_r _ [6, 7, 8, 9, 33, 34, 35, 36, 37, 38, 39, 40, 41, 42, 43, 44] (by decide +kernel) (by decide +kernel)
set_option maxRecDepth 20000 in
theorem gX3_takeSign_X3_fail : GoodIn wsX3_takeSign (wsV RX3 93 RX3 yX3_fail wsX3_fail) := goodIn_app (goodIn_of _ (by decide +kernel)) ggX3_takeSign_X3_fail
set_option maxRecDepth 20000 in
theorem ggX3_takeSign_X3_advance : GoodIn wsX3_takeSign wsX3_advance := goodIn_r _ [13, 14, 15, 8, 16, 1, 17, 18, 19, 20, 21, 22, 23, 24, 5, 25, 26, 27, 28, 29, 30, 31, 32, 33, 34, 35, 36, 37, 38, 39, 40, 41, 42, 43, 44] (by decide +kernel) (by decide +kernel)
set_option maxRecDepth 20000 in
theorem gX3_takeSign_X3_advance : GoodIn wsX3_takeSign (wsV RX3 48 RX3 yX3_advance wsX3_advance) := goodIn_app (goodIn_of _ (by decide +kernel)) ggX3_takeSign_X3_advance
theorem dX3_takeSign_0 : decode cX3_takeSign 0 = .ok (.aload_n 0, 1) := by decide +kernel
theorem dX3_takeSign_1 : decode cX3_takeSign 1 = .ok (.getfield 51, 3) := by decide +kernel
theorem dX3_takeSign_4 : decode cX3_takeSign 4 = .ok (.iconst 3, 1) := by decide +kernel
theorem dX3_takeSign_5 : decode cX3_takeSign 5 = .ok (.if_icmp .eq 9, 3) := by decide +kernel
theorem dX3_takeSign_8 : decode cX3_takeSign 8 = .ok (.aload_n 0, 1) := by decide +kernel
theorem dX3_takeSign_9 : decode cX3_takeSign 9 = .ok (.iconst 1, 1) := by decide +kernel
theorem dX3_takeSign_10 : decode cX3_takeSign 10 = .ok (.invokevirtual 93, 3) := by decide +kernel
theorem dX3_takeSign_13 : decode cX3_takeSign 13 = .ok (.ireturn, 1) := by decide +kernel
theorem dX3_takeSign_14 : decode cX3_takeSign 14 = .ok (.aload_n 0, 1) := by decide +kernel
theorem dX3_takeSign_15 : decode cX3_takeSign 15 = .ok (.invokevirtual 48, 3) := by decide +kernel
theorem dX3_takeSign_18 : decode cX3_takeSign 18 = .ok (.iconst 1, 1) := by decide +kernel
theorem dX3_takeSign_19 : decode cX3_takeSign 19 = .ok (.ireturn, 1) := by decide +kernel
set_option maxRecDepth 20000 in
theorem ggX3_takeWord_X3_isWord : GoodIn wsX3_takeWord wsX3_isWord := goodIn_r _ [5, 6, 7, 8, 9, 10, 11, 12, 13, 14, 15, 16, 17, 18, 19, 20, 21, 22, 23, 4, 24, 25, 26, 27, 28, 29, 30, 31, 32, 33, 34, 35, 36, 37, 38, 39, 40, 41, 42, 43, 44, 45, 46, 47, 48, 49, 50, 51, 52, 53, 54, 55, 56, 57, 58, 59, 60, 61, 62, 63, 86, 87, 88, 89, 90, 91, 92, 93, 94, 95, 96, 97] (by decide +kernel) (by decide +kernel)
set_option maxRecDepth 20000 in
theorem gX3_takeWord_X3_isWord : GoodIn wsX3_takeWord (wsV RX3 66 RX3 yX3_isWord wsX3_isWord) := goodIn_app (goodIn_of _ (by decide +kernel)) ggX3_takeWord_X3_isWord
set_option maxRecDepth 20000 in
theorem ggX3_takeWord_X3_fail : GoodIn wsX3_takeWord wsX3_fail := goodIn_r _ [67, 68, 8, 69, 86, 87, 88, 89, 90, 91, 92, 93, 94, 95, 96, 97] (by decide +kernel) (by decide +kernel)
set_option maxRecDepth 20000 in
theorem gX3_takeWord_X3_fail : GoodIn wsX3_takeWord (wsV RX3 93 RX3 yX3_fail wsX3_fail) := goodIn_app (goodIn_of _ (by decide +kernel)) ggX3_takeWord_X3_fail
set_option maxRecDepth 20000 in
theorem ggX3_takeWord_X3_advance : GoodIn wsX3_takeWord wsX3_advance := goodIn_r _ [73, 7, 25, 8, 74, 6, 75, 76, 77, 78, 79, 21, 22, 23, 4, 24, 26, 80, 81, 82, 83, 84, 85, 86, 87, 88, 89, 90, 91, 92, 93, 94, 95, 96, 97] (by decide +kernel) (by decide +kernel)
set_option maxRecDepth 20000 in
theorem gX3_takeWord_X3_advance : GoodIn wsX3_takeWord (wsV RX3 48 RX3 yX3_advance wsX3_advance) := goodIn_app (goodIn_of _ (by decide +kernel)) ggX3_takeWord_X3_advance
theorem dX3_takeWord_0 : decode cX3_takeWord 0 = .ok (.aload_n 0, 1) := by decide +kernel
theorem dX3_takeWord_1 : decode cX3_takeWord 1 = .ok (.aload_n 1, 1) := by decide +kernel
theorem dX3_takeWord_2 : decode cX3_takeWord 2 = .ok (.invokevirtual 66, 3) := by decide +kernel
theorem dX3_takeWord_5 : decode cX3_takeWord 5 = .ok (.ifCond .ne 9, 3) := by decide +kernel
theorem dX3_takeWord_8 : decode cX3_takeWord 8 = .ok (.aload_n 0, 1) := by decide +kernel
theorem dX3_takeWord_9 : decode cX3_takeWord 9 = .ok (.iconst 1, 1) := by decide +kernel
theorem dX3_takeWord_10 : decode cX3_takeWord 10 = .ok (.invokevirtual 93, 3) := by decide +kernel
theorem dX3_takeWord_13 : decode cX3_takeWord 13 = .ok (.ireturn, 1) := by decide +kernel
theorem dX3_takeWord_14 : decode cX3_takeWord 14 = .ok (.aload_n 0, 1) := by decide +kernel
theorem dX3_takeWord_15 : decode cX3_takeWord 15 = .ok (.invokevirtual 48, 3) := by decide +kernel
theorem dX3_takeWord_18 : decode cX3_takeWord 18 = .ok (.iconst 1, 1) := by decide +kernel
theorem dX3_takeWord_19 : decode cX3_takeWord 19 = .ok (.ireturn, 1) := by decide +kernel
set_option maxRecDepth 20000 in
theorem ggX3_takeNumber_X3_fail : GoodIn wsX3_takeNumber wsX3_fail := goodIn_r _ [8, 9, 10, 11, 34, 35, 36, 37, 38, 39, 40, 41, 42, 43, 44, 45] (by decide +kernel) (by decide +kernel)
set_option maxRecDepth 20000 in
theorem gX3_takeNumber_X3_fail : GoodIn wsX3_takeNumber (wsV RX3 93 RX3 yX3_fail wsX3_fail) := goodIn_app (goodIn_of _ (by decide +kernel)) ggX3_takeNumber_X3_fail
set_option maxRecDepth 20000 in
theorem ggX3_takeNumber_X3_advance : GoodIn wsX3_takeNumber wsX3_advance := goodIn_r _ [15, 16, 17, 10, 2, 1, 18, 19, 20, 21, 22, 23, 24, 25, 7, 26, 27, 28, 29, 30, 31, 32, 33, 34, 35, 36, 37, 38, 39, 40, 41, 42, 43, 44, 45] (by decide +kernel) (by decide +kernel)
set_option maxRecDepth 20000 in
theorem gX3_takeNumber_X3_advance : GoodIn wsX3_takeNumber (wsV RX3 48 RX3 yX3_advance wsX3_advance) := goodIn_app (goodIn_of _ (by decide +kernel)) ggX3_takeNumber_X3_advance
theorem dX3_takeNumber_0 : decode cX3_takeNumber 0 = .ok (.aload_n 0, 1) := by decide +kernel
theorem dX3_takeNumber_1 : decode cX3_takeNumber 1 = .ok (.getfield 51, 3) := by decide +kernel
theorem dX3_takeNumber_4 : decode cX3_takeNumber 4 = .ok (.iconst 2, 1) := by decide +kernel
theorem dX3_takeNumber_5 : decode cX3_takeNumber 5 = .ok (.if_icmp .eq 9, 3) := by decide +kernel
theorem dX3_takeNumber_8 : decode cX3_takeNumber 8 = .ok (.aload_n 0, 1) := by decide +kernel
theorem dX3_takeNumber_9 : decode cX3_takeNumber 9 = .ok (.iconst 1, 1) := by decide +kernel
theorem dX3_takeNumber_10 : decode cX3_takeNumber 10 = .ok (.invokevirtual 93, 3) := by decide +kernel
theorem dX3_takeNumber_13 : decode cX3_takeNumber 13 = .ok (.ireturn, 1) := by decide +kernel
theorem dX3_takeNumber_14 : decode cX3_takeNumber 14 = .ok (.aload_n 0, 1) := by decide +kernel
theorem dX3_takeNumber_15 : decode cX3_takeNumber 15 = .ok (.getfield 136, 3) := by decide +kernel
theorem dX3_takeNumber_18 : decode cX3_takeNumber 18 = .ok (.iload_n 1, 1) := by decide +kernel
theorem dX3_takeNumber_19 : decode cX3_takeNumber 19 = .ok (.if_icmp .lt 19, 3) := by decide +kernel
theorem dX3_takeNumber_22 : decode cX3_takeNumber 22 = .ok (.aload_n 0, 1) := by decide +kernel
theorem dX3_takeNumber_23 : decode cX3_takeNumber 23 = .ok (.getfield 136, 3) := by decide +kernel
theorem dX3_takeNumber_26 : decode cX3_takeNumber 26 = .ok (.iload_n 2, 1) := by decide +kernel
theorem dX3_takeNumber_27 : decode cX3_takeNumber 27 = .ok (.if_icmp .gt 11, 3) := by decide +kernel
theorem dX3_takeNumber_30 : decode cX3_takeNumber 30 = .ok (.aload_n 0, 1) := by decide +kernel
theorem dX3_takeNumber_31 : decode cX3_takeNumber 31 = .ok (.getfield 136, 3) := by decide +kernel
theorem dX3_takeNumber_34 : decode cX3_takeNumber 34 = .ok (.iload_n 3, 1) := by decide +kernel
theorem dX3_takeNumber_35 : decode cX3_takeNumber 35 = .ok (.if_icmp .ne 9, 3) := by decide +kernel
theorem dX3_takeNumber_38 : decode cX3_takeNumber 38 = .ok (.aload_n 0, 1) := by decide +kernel
theorem dX3_takeNumber_39 : decode cX3_takeNumber 39 = .ok (.iconst 2, 1) := by decide +kernel
theorem dX3_takeNumber_40 : decode cX3_takeNumber 40 = .ok (.invokevirtual 93, 3) := by decide +kernel
theorem dX3_takeNumber_43 : decode cX3_takeNumber 43 = .ok (.ireturn, 1) := by decide +kernel
theorem dX3_takeNumber_44 : decode cX3_takeNumber 44 = .ok (.aload_n 0, 1) := by decide +kernel
theorem dX3_takeNumber_45 : decode cX3_takeNumber 45 = .ok (.aload_n 0, 1) := by decide +kernel
theorem dX3_takeNumber_46 : decode cX3_takeNumber 46 = .ok (.getfield 136, 3) := by decide +kernel
theorem dX3_takeNumber_49 : decode cX3_takeNumber 49 = .ok (.putfield 108, 3) := by decide +kernel
theorem dX3_takeNumber_52 : decode cX3_takeNumber 52 = .ok (.aload_n 0, 1) := by decide +kernel
theorem dX3_takeNumber_53 : decode cX3_takeNumber 53 = .ok (.invokevirtual 48, 3) := by decide +kernel
theorem dX3_takeNumber_56 : decode cX3_takeNumber 56 = .ok (.iconst 1, 1) := by decide +kernel
theorem dX3_takeNumber_57 : decode cX3_takeNumber 57 = .ok (.ireturn, 1) := by decide +kernel
set_option maxRecDepth 20000 in
theorem ggX3_takeRoof_X3_takeNumber : GoodIn wsX3_takeRoof wsX3_takeNumber := goodIn_r _ [7, 8, 9, 10, 11, 12, 13, 6, 14, 15, 16, 17, 18, 19, 20, 21, 22, 23, 24, 25, 26, 27, 28, 29, 30, 31, 32, 33, 34, 35, 36, 37, 38, 39, 40, 41, 42, 43, 44, 45, 46, 47, 48, 49, 50, 51] (by decide +kernel) (by decide +kernel)
set_option maxRecDepth 20000 in
theorem gX3_takeRoof_X3_takeNumber : GoodIn wsX3_takeRoof (wsV RX3 104 RX3 yX3_takeNumber wsX3_takeNumber) := goodIn_app (goodIn_of _ (by decide +kernel)) ggX3_takeRoof_X3_takeNumber
theorem dX3_takeRoof_0 : decode cX3_takeRoof 0 = .ok (.aload_n 0, 1) := by decide +kernel
theorem dX3_takeRoof_1 : decode cX3_takeRoof 1 = .ok (.iconst 0, 1) := by decide +kernel
theorem dX3_takeRoof_2 : decode cX3_takeRoof 2 = .ok (.aload_n 0, 1) := by decide +kernel
theorem dX3_takeRoof_3 : decode cX3_takeRoof 3 = .ok (.getfield 19, 3) := by decide +kernel
theorem dX3_takeRoof_6 : decode cX3_takeRoof 6 = .ok (.getfield 145, 3) := by decide +kernel
theorem dX3_takeRoof_9 : decode cX3_takeRoof 9 = .ok (.iconst 1, 1) := by decide +kernel
theorem dX3_takeRoof_10 : decode cX3_takeRoof 10 = .ok (.isub, 1) := by decide +kernel
theorem dX3_takeRoof_11 : decode cX3_takeRoof 11 = .ok (.iload_n 1, 1) := by decide +kernel
theorem dX3_takeRoof_12 : decode cX3_takeRoof 12 = .ok (.invokevirtual 104, 3) := by decide +kernel
theorem dX3_takeRoof_15 : decode cX3_takeRoof 15 = .ok (.ireturn, 1) := by decide +kernel
theorem dX3_fail_0 : decode cX3_fail 0 = .ok (.aload_n 0, 1) := by decide +kernel
theorem dX3_fail_1 : decode cX3_fail 1 = .ok (.iload_n 1, 1) := by decide +kernel
theorem dX3_fail_2 : decode cX3_fail 2 = .ok (.putfield 45, 3) := by decide +kernel
theorem dX3_fail_5 : decode cX3_fail 5 = .ok (.aload_n 0, 1) := by decide +kernel
theorem dX3_fail_6 : decode cX3_fail 6 = .ok (.aload_n 0, 1) := by decide +kernel
theorem dX3_fail_7 : decode cX3_fail 7 = .ok (.getfield 175, 3) := by decide +kernel
theorem dX3_fail_10 : decode cX3_fail 10 = .ok (.putfield 15, 3) := by decide +kernel
theorem dX3_fail_13 : decode cX3_fail 13 = .ok (.iconst 0, 1) := by decide +kernel
theorem dX3_fail_14 : decode cX3_fail 14 = .ok (.ireturn, 1) := by decide +kernel
set_option maxRecDepth 20000 in
theorem ggX3_isWord_J0_length_8abf5 : GoodIn wsX3_isWord wsJ0_length_8abf5 := goodIn_r _ [8, 9, 10, 11, 12, 7, 13, 14, 15] (by decide +kernel) (by decide +kernel)
set_option maxRecDepth 20000 in
theorem gX3_isWord_J0_length_8abf5 : GoodIn wsX3_isWord (wsV RX3 178 RJ0 yJ0_length_8abf5 wsJ0_length_8abf5) := goodIn_app (goodIn_of _ (by decide +kernel)) ggX3_isWord_J0_length_8abf5
set_option maxRecDepth 20000 in
theorem ggX3_isWord_X3_byteAt : GoodIn wsX3_isWord wsX3_byteAt := goodIn_r _ [20, 21, 22, 60, 61, 62, 63, 64, 65, 66, 67, 68, 69, 70, 71] (by decide +kernel) (by decide +kernel)
set_option maxRecDepth 20000 in
theorem gX3_isWord_X3_byteAt : GoodIn wsX3_isWord (wsV RX3 182 RX3 yX3_byteAt wsX3_byteAt) := goodIn_app (goodIn_of _ (by decide +kernel)) ggX3_isWord_X3_byteAt
set_option maxRecDepth 20000 in
theorem ggX3_isWord_J0_charAt_5068e : GoodIn wsX3_isWord wsJ0_charAt_5068e := goodIn_r _ [26, 9, 27, 28, 29, 7, 30, 14, 15, 31, 32, 33, 34, 35, 36, 37, 38, 39, 40, 41, 42, 43, 44, 45, 46, 47, 48, 49, 50, 51, 52, 53, 54, 55, 56, 57, 58, 59] (by decide +kernel) (by decide +kernel)
set_option maxRecDepth 20000 in
theorem gX3_isWord_J0_charAt_5068e : GoodIn wsX3_isWord (wsV RX3 186 RJ0 yJ0_charAt_5068e wsJ0_charAt_5068e) := goodIn_app (goodIn_of _ (by decide +kernel)) ggX3_isWord_J0_charAt_5068e
theorem dX3_isWord_0 : decode cX3_isWord 0 = .ok (.aload_n 0, 1) := by decide +kernel
theorem dX3_isWord_1 : decode cX3_isWord 1 = .ok (.getfield 51, 3) := by decide +kernel
theorem dX3_isWord_4 : decode cX3_isWord 4 = .ok (.iconst 1, 1) := by decide +kernel
theorem dX3_isWord_5 : decode cX3_isWord 5 = .ok (.if_icmp .ne 19, 3) := by decide +kernel
theorem dX3_isWord_8 : decode cX3_isWord 8 = .ok (.aload_n 0, 1) := by decide +kernel
theorem dX3_isWord_9 : decode cX3_isWord 9 = .ok (.getfield 35, 3) := by decide +kernel
theorem dX3_isWord_12 : decode cX3_isWord 12 = .ok (.aload_n 0, 1) := by decide +kernel
theorem dX3_isWord_13 : decode cX3_isWord 13 = .ok (.getfield 175, 3) := by decide +kernel
theorem dX3_isWord_16 : decode cX3_isWord 16 = .ok (.isub, 1) := by decide +kernel
theorem dX3_isWord_17 : decode cX3_isWord 17 = .ok (.aload_n 1, 1) := by decide +kernel
theorem dX3_isWord_18 : decode cX3_isWord 18 = .ok (.invokevirtual 178, 3) := by decide +kernel
theorem dX3_isWord_21 : decode cX3_isWord 21 = .ok (.if_icmp .eq 5, 3) := by decide +kernel
theorem dX3_isWord_24 : decode cX3_isWord 24 = .ok (.iconst 0, 1) := by decide +kernel
theorem dX3_isWord_25 : decode cX3_isWord 25 = .ok (.ireturn, 1) := by decide +kernel
theorem dX3_isWord_26 : decode cX3_isWord 26 = .ok (.iconst 0, 1) := by decide +kernel
theorem dX3_isWord_27 : decode cX3_isWord 27 = .ok (.istore_n 2, 1) := by decide +kernel
theorem dX3_isWord_28 : decode cX3_isWord 28 = .ok (.iload_n 2, 1) := by decide +kernel
theorem dX3_isWord_29 : decode cX3_isWord 29 = .ok (.aload_n 1, 1) := by decide +kernel
theorem dX3_isWord_30 : decode cX3_isWord 30 = .ok (.invokevirtual 178, 3) := by decide +kernel
theorem dX3_isWord_33 : decode cX3_isWord 33 = .ok (.if_icmp .ge 29, 3) := by decide +kernel
theorem dX3_isWord_36 : decode cX3_isWord 36 = .ok (.aload_n 0, 1) := by decide +kernel
theorem dX3_isWord_37 : decode cX3_isWord 37 = .ok (.aload_n 0, 1) := by decide +kernel
theorem dX3_isWord_38 : decode cX3_isWord 38 = .ok (.getfield 175, 3) := by decide +kernel
theorem dX3_isWord_41 : decode cX3_isWord 41 = .ok (.iload_n 2, 1) := by decide +kernel
theorem dX3_isWord_42 : decode cX3_isWord 42 = .ok (.iadd, 1) := by decide +kernel
theorem dX3_isWord_43 : decode cX3_isWord 43 = .ok (.invokevirtual 182, 3) := by decide +kernel
theorem dX3_isWord_46 : decode cX3_isWord 46 = .ok (.aload_n 1, 1) := by decide +kernel
theorem dX3_isWord_47 : decode cX3_isWord 47 = .ok (.iload_n 2, 1) := by decide +kernel
theorem dX3_isWord_48 : decode cX3_isWord 48 = .ok (.invokevirtual 186, 3) := by decide +kernel
theorem dX3_isWord_51 : decode cX3_isWord 51 = .ok (.if_icmp .eq 5, 3) := by decide +kernel
theorem dX3_isWord_54 : decode cX3_isWord 54 = .ok (.iconst 0, 1) := by decide +kernel
theorem dX3_isWord_55 : decode cX3_isWord 55 = .ok (.ireturn, 1) := by decide +kernel
theorem dX3_isWord_56 : decode cX3_isWord 56 = .ok (.iinc 2 1, 3) := by decide +kernel
theorem dX3_isWord_59 : decode cX3_isWord 59 = .ok (.goto (-31), 3) := by decide +kernel
theorem dX3_isWord_62 : decode cX3_isWord 62 = .ok (.iconst 1, 1) := by decide +kernel
theorem dX3_isWord_63 : decode cX3_isWord 63 = .ok (.ireturn, 1) := by decide +kernel
set_option maxRecDepth 20000 in
theorem ggX3_advance_X3_byteAt : GoodIn wsX3_advance wsX3_byteAt := goodIn_r _ [15, 2, 16, 23, 24, 25, 26, 27, 28, 29, 30, 31, 32, 33, 34] (by decide +kernel) (by decide +kernel)
set_option maxRecDepth 20000 in
theorem gX3_advance_X3_byteAt : GoodIn wsX3_advance (wsV RX3 182 RX3 yX3_byteAt wsX3_byteAt) := goodIn_app (goodIn_of _ (by decide +kernel)) ggX3_advance_X3_byteAt
set_option maxRecDepth 20000 in
theorem ggX3_advance_X3_isLowerCase : GoodIn wsX3_advance wsX3_isLowerCase := goodIn_r _ [19] (by decide +kernel) (by decide +kernel)
set_option maxRecDepth 20000 in
theorem gX3_advance_X3_isLowerCase : GoodIn wsX3_advance (va_wsS RX3 190 yX3_isLowerCase wsX3_isLowerCase) := goodIn_app (goodIn_of _ (by decide +kernel)) ggX3_advance_X3_isLowerCase
set_option maxRecDepth 20000 in
theorem ggX3_advance_X3_isDigit : GoodIn wsX3_advance wsX3_isDigit := goodIn_r _ [22] (by decide +kernel) (by decide +kernel)
set_option maxRecDepth 20000 in
theorem gX3_advance_X3_isDigit : GoodIn wsX3_advance (va_wsS RX3 193 yX3_isDigit wsX3_isDigit) := goodIn_app (goodIn_of _ (by decide +kernel)) ggX3_advance_X3_isDigit
theorem dX3_advance_0 : decode cX3_advance 0 = .ok (.aload_n 0, 1) := by decide +kernel
theorem dX3_advance_1 : decode cX3_advance 1 = .ok (.getfield 35, 3) := by decide +kernel
theorem dX3_advance_4 : decode cX3_advance 4 = .ok (.aload_n 0, 1) := by decide +kernel
theorem dX3_advance_5 : decode cX3_advance 5 = .ok (.getfield 23, 3) := by decide +kernel
theorem dX3_advance_8 : decode cX3_advance 8 = .ok (.if_icmp .ge 42, 3) := by decide +kernel
theorem dX3_advance_11 : decode cX3_advance 11 = .ok (.aload_n 0, 1) := by decide +kernel
theorem dX3_advance_12 : decode cX3_advance 12 = .ok (.aload_n 0, 1) := by decide +kernel
theorem dX3_advance_13 : decode cX3_advance 13 = .ok (.getfield 35, 3) := by decide +kernel
theorem dX3_advance_16 : decode cX3_advance 16 = .ok (.invokevirtual 182, 3) := by decide +kernel
theorem dX3_advance_19 : decode cX3_advance 19 = .ok (.bipush 32, 2) := by decide +kernel
theorem dX3_advance_21 : decode cX3_advance 21 = .ok (.if_icmp .eq 16, 3) := by decide +kernel
theorem dX3_advance_24 : decode cX3_advance 24 = .ok (.aload_n 0, 1) := by decide +kernel
theorem dX3_advance_25 : decode cX3_advance 25 = .ok (.aload_n 0, 1) := by decide +kernel
theorem dX3_advance_26 : decode cX3_advance 26 = .ok (.getfield 35, 3) := by decide +kernel
theorem dX3_advance_29 : decode cX3_advance 29 = .ok (.invokevirtual 182, 3) := by decide +kernel
theorem dX3_advance_32 : decode cX3_advance 32 = .ok (.bipush 10, 2) := by decide +kernel
theorem dX3_advance_34 : decode cX3_advance 34 = .ok (.if_icmp .ne 16, 3) := by decide +kernel
theorem dX3_advance_37 : decode cX3_advance 37 = .ok (.aload_n 0, 1) := by decide +kernel
theorem dX3_advance_38 : decode cX3_advance 38 = .ok (.dup, 1) := by decide +kernel
theorem dX3_advance_39 : decode cX3_advance 39 = .ok (.getfield 35, 3) := by decide +kernel
theorem dX3_advance_42 : decode cX3_advance 42 = .ok (.iconst 1, 1) := by decide +kernel
theorem dX3_advance_43 : decode cX3_advance 43 = .ok (.iadd, 1) := by decide +kernel
theorem dX3_advance_44 : decode cX3_advance 44 = .ok (.putfield 35, 3) := by decide +kernel
theorem dX3_advance_47 : decode cX3_advance 47 = .ok (.goto (-47), 3) := by decide +kernel
theorem dX3_advance_50 : decode cX3_advance 50 = .ok (.aload_n 0, 1) := by decide +kernel
theorem dX3_advance_51 : decode cX3_advance 51 = .ok (.aload_n 0, 1) := by decide +kernel
theorem dX3_advance_52 : decode cX3_advance 52 = .ok (.getfield 35, 3) := by decide +kernel
theorem dX3_advance_55 : decode cX3_advance 55 = .ok (.putfield 175, 3) := by decide +kernel
theorem dX3_advance_58 : decode cX3_advance 58 = .ok (.aload_n 0, 1) := by decide +kernel
theorem dX3_advance_59 : decode cX3_advance 59 = .ok (.iconst 0, 1) := by decide +kernel
theorem dX3_advance_60 : decode cX3_advance 60 = .ok (.putfield 136, 3) := by decide +kernel
theorem dX3_advance_63 : decode cX3_advance 63 = .ok (.aload_n 0, 1) := by decide +kernel
theorem dX3_advance_64 : decode cX3_advance 64 = .ok (.getfield 35, 3) := by decide +kernel
theorem dX3_advance_67 : decode cX3_advance 67 = .ok (.aload_n 0, 1) := by decide +kernel
theorem dX3_advance_68 : decode cX3_advance 68 = .ok (.getfield 23, 3) := by decide +kernel
theorem dX3_advance_71 : decode cX3_advance 71 = .ok (.if_icmp .lt 11, 3) := by decide +kernel
theorem dX3_advance_74 : decode cX3_advance 74 = .ok (.aload_n 0, 1) := by decide +kernel
theorem dX3_advance_75 : decode cX3_advance 75 = .ok (.iconst 0, 1) := by decide +kernel
theorem dX3_advance_76 : decode cX3_advance 76 = .ok (.putfield 51, 3) := by decide +kernel
theorem dX3_advance_79 : decode cX3_advance 79 = .ok (.goto 177, 3) := by decide +kernel
theorem dX3_advance_82 : decode cX3_advance 82 = .ok (.aload_n 0, 1) := by decide +kernel
theorem dX3_advance_83 : decode cX3_advance 83 = .ok (.aload_n 0, 1) := by decide +kernel
theorem dX3_advance_84 : decode cX3_advance 84 = .ok (.getfield 35, 3) := by decide +kernel
theorem dX3_advance_87 : decode cX3_advance 87 = .ok (.invokevirtual 182, 3) := by decide +kernel
theorem dX3_advance_90 : decode cX3_advance 90 = .ok (.invokestatic 190, 3) := by decide +kernel
theorem dX3_advance_93 : decode cX3_advance 93 = .ok (.ifCond .eq 46, 3) := by decide +kernel
theorem dX3_advance_96 : decode cX3_advance 96 = .ok (.aload_n 0, 1) := by decide +kernel
theorem dX3_advance_97 : decode cX3_advance 97 = .ok (.iconst 1, 1) := by decide +kernel
theorem dX3_advance_98 : decode cX3_advance 98 = .ok (.putfield 51, 3) := by decide +kernel
theorem dX3_advance_101 : decode cX3_advance 101 = .ok (.aload_n 0, 1) := by decide +kernel
theorem dX3_advance_102 : decode cX3_advance 102 = .ok (.getfield 35, 3) := by decide +kernel
theorem dX3_advance_105 : decode cX3_advance 105 = .ok (.aload_n 0, 1) := by decide +kernel
theorem dX3_advance_106 : decode cX3_advance 106 = .ok (.getfield 23, 3) := by decide +kernel
theorem dX3_advance_109 : decode cX3_advance 109 = .ok (.if_icmp .ge 147, 3) := by decide +kernel
theorem dX3_advance_112 : decode cX3_advance 112 = .ok (.aload_n 0, 1) := by decide +kernel
theorem dX3_advance_113 : decode cX3_advance 113 = .ok (.aload_n 0, 1) := by decide +kernel
theorem dX3_advance_114 : decode cX3_advance 114 = .ok (.getfield 35, 3) := by decide +kernel
theorem dX3_advance_117 : decode cX3_advance 117 = .ok (.invokevirtual 182, 3) := by decide +kernel
theorem dX3_advance_120 : decode cX3_advance 120 = .ok (.invokestatic 190, 3) := by decide +kernel
theorem dX3_advance_123 : decode cX3_advance 123 = .ok (.ifCond .eq 133, 3) := by decide +kernel
theorem dX3_advance_126 : decode cX3_advance 126 = .ok (.aload_n 0, 1) := by decide +kernel
theorem dX3_advance_127 : decode cX3_advance 127 = .ok (.dup, 1) := by decide +kernel
theorem dX3_advance_128 : decode cX3_advance 128 = .ok (.getfield 35, 3) := by decide +kernel
theorem dX3_advance_131 : decode cX3_advance 131 = .ok (.iconst 1, 1) := by decide +kernel
theorem dX3_advance_132 : decode cX3_advance 132 = .ok (.iadd, 1) := by decide +kernel
theorem dX3_advance_133 : decode cX3_advance 133 = .ok (.putfield 35, 3) := by decide +kernel
theorem dX3_advance_136 : decode cX3_advance 136 = .ok (.goto (-35), 3) := by decide +kernel
theorem dX3_advance_139 : decode cX3_advance 139 = .ok (.aload_n 0, 1) := by decide +kernel
theorem dX3_advance_140 : decode cX3_advance 140 = .ok (.aload_n 0, 1) := by decide +kernel
theorem dX3_advance_141 : decode cX3_advance 141 = .ok (.getfield 35, 3) := by decide +kernel
theorem dX3_advance_144 : decode cX3_advance 144 = .ok (.invokevirtual 182, 3) := by decide +kernel
theorem dX3_advance_147 : decode cX3_advance 147 = .ok (.invokestatic 193, 3) := by decide +kernel
theorem dX3_advance_150 : decode cX3_advance 150 = .ok (.ifCond .eq 74, 3) := by decide +kernel
theorem dX3_advance_153 : decode cX3_advance 153 = .ok (.aload_n 0, 1) := by decide +kernel
theorem dX3_advance_154 : decode cX3_advance 154 = .ok (.iconst 2, 1) := by decide +kernel
theorem dX3_advance_155 : decode cX3_advance 155 = .ok (.putfield 51, 3) := by decide +kernel
theorem dX3_advance_158 : decode cX3_advance 158 = .ok (.aload_n 0, 1) := by decide +kernel
theorem dX3_advance_159 : decode cX3_advance 159 = .ok (.getfield 35, 3) := by decide +kernel
theorem dX3_advance_162 : decode cX3_advance 162 = .ok (.aload_n 0, 1) := by decide +kernel
theorem dX3_advance_163 : decode cX3_advance 163 = .ok (.getfield 23, 3) := by decide +kernel
theorem dX3_advance_166 : decode cX3_advance 166 = .ok (.if_icmp .ge 90, 3) := by decide +kernel
theorem dX3_advance_169 : decode cX3_advance 169 = .ok (.aload_n 0, 1) := by decide +kernel
theorem dX3_advance_170 : decode cX3_advance 170 = .ok (.aload_n 0, 1) := by decide +kernel
theorem dX3_advance_171 : decode cX3_advance 171 = .ok (.getfield 35, 3) := by decide +kernel
theorem dX3_advance_174 : decode cX3_advance 174 = .ok (.invokevirtual 182, 3) := by decide +kernel
theorem dX3_advance_177 : decode cX3_advance 177 = .ok (.invokestatic 193, 3) := by decide +kernel
theorem dX3_advance_180 : decode cX3_advance 180 = .ok (.ifCond .eq 76, 3) := by decide +kernel
theorem dX3_advance_183 : decode cX3_advance 183 = .ok (.aload_n 0, 1) := by decide +kernel
theorem dX3_advance_184 : decode cX3_advance 184 = .ok (.bipush 10, 2) := by decide +kernel
theorem dX3_advance_186 : decode cX3_advance 186 = .ok (.aload_n 0, 1) := by decide +kernel
theorem dX3_advance_187 : decode cX3_advance 187 = .ok (.getfield 136, 3) := by decide +kernel
theorem dX3_advance_190 : decode cX3_advance 190 = .ok (.imul, 1) := by decide +kernel
theorem dX3_advance_191 : decode cX3_advance 191 = .ok (.aload_n 0, 1) := by decide +kernel
theorem dX3_advance_192 : decode cX3_advance 192 = .ok (.aload_n 0, 1) := by decide +kernel
theorem dX3_advance_193 : decode cX3_advance 193 = .ok (.getfield 35, 3) := by decide +kernel
theorem dX3_advance_196 : decode cX3_advance 196 = .ok (.invokevirtual 182, 3) := by decide +kernel
theorem dX3_advance_199 : decode cX3_advance 199 = .ok (.iadd, 1) := by decide +kernel
theorem dX3_advance_200 : decode cX3_advance 200 = .ok (.bipush 48, 2) := by decide +kernel
theorem dX3_advance_202 : decode cX3_advance 202 = .ok (.isub, 1) := by decide +kernel
theorem dX3_advance_203 : decode cX3_advance 203 = .ok (.ldc 196, 2) := by decide +kernel
theorem dX3_advance_205 : decode cX3_advance 205 = .ok (.invokestatic 197, 3) := by decide +kernel
theorem dX3_advance_208 : decode cX3_advance 208 = .ok (.putfield 136, 3) := by decide +kernel
theorem dX3_advance_211 : decode cX3_advance 211 = .ok (.aload_n 0, 1) := by decide +kernel
theorem dX3_advance_212 : decode cX3_advance 212 = .ok (.dup, 1) := by decide +kernel
theorem dX3_advance_213 : decode cX3_advance 213 = .ok (.getfield 35, 3) := by decide +kernel
theorem dX3_advance_216 : decode cX3_advance 216 = .ok (.iconst 1, 1) := by decide +kernel
theorem dX3_advance_217 : decode cX3_advance 217 = .ok (.iadd, 1) := by decide +kernel
theorem dX3_advance_218 : decode cX3_advance 218 = .ok (.putfield 35, 3) := by decide +kernel
theorem dX3_advance_221 : decode cX3_advance 221 = .ok (.goto (-63), 3) := by decide +kernel
theorem dX3_advance_224 : decode cX3_advance 224 = .ok (.aload_n 0, 1) := by decide +kernel
theorem dX3_advance_225 : decode cX3_advance 225 = .ok (.aload_n 0, 1) := by decide +kernel
theorem dX3_advance_226 : decode cX3_advance 226 = .ok (.aload_n 0, 1) := by decide +kernel
theorem dX3_advance_227 : decode cX3_advance 227 = .ok (.getfield 35, 3) := by decide +kernel
theorem dX3_advance_230 : decode cX3_advance 230 = .ok (.invokevirtual 182, 3) := by decide +kernel
theorem dX3_advance_233 : decode cX3_advance 233 = .ok (.bipush 59, 2) := by decide +kernel
theorem dX3_advance_235 : decode cX3_advance 235 = .ok (.if_icmp .ne 7, 3) := by decide +kernel
theorem dX3_advance_238 : decode cX3_advance 238 = .ok (.iconst 3, 1) := by decide +kernel
theorem dX3_advance_239 : decode cX3_advance 239 = .ok (.goto 4, 3) := by decide +kernel
theorem dX3_advance_242 : decode cX3_advance 242 = .ok (.iconst 4, 1) := by decide +kernel
theorem dX3_advance_243 : decode cX3_advance 243 = .ok (.putfield 51, 3) := by decide +kernel
theorem dX3_advance_246 : decode cX3_advance 246 = .ok (.aload_n 0, 1) := by decide +kernel
theorem dX3_advance_247 : decode cX3_advance 247 = .ok (.dup, 1) := by decide +kernel
theorem dX3_advance_248 : decode cX3_advance 248 = .ok (.getfield 35, 3) := by decide +kernel
theorem dX3_advance_251 : decode cX3_advance 251 = .ok (.iconst 1, 1) := by decide +kernel
theorem dX3_advance_252 : decode cX3_advance 252 = .ok (.iadd, 1) := by decide +kernel
theorem dX3_advance_253 : decode cX3_advance 253 = .ok (.putfield 35, 3) := by decide +kernel
theorem dX3_advance_256 : decode cX3_advance 256 = .ok (.return_, 1) := by decide +kernel
theorem dX3_byteAt_0 : decode cX3_byteAt 0 = .ok (.iload_n 1, 1) := by decide +kernel
theorem dX3_byteAt_1 : decode cX3_byteAt 1 = .ok (.ifCond .lt 24, 3) := by decide +kernel
theorem dX3_byteAt_4 : decode cX3_byteAt 4 = .ok (.iload_n 1, 1) := by decide +kernel
theorem dX3_byteAt_5 : decode cX3_byteAt 5 = .ok (.aload_n 0, 1) := by decide +kernel
theorem dX3_byteAt_6 : decode cX3_byteAt 6 = .ok (.getfield 23, 3) := by decide +kernel
theorem dX3_byteAt_9 : decode cX3_byteAt 9 = .ok (.if_icmp .ge 16, 3) := by decide +kernel
theorem dX3_byteAt_12 : decode cX3_byteAt 12 = .ok (.aload_n 0, 1) := by decide +kernel
theorem dX3_byteAt_13 : decode cX3_byteAt 13 = .ok (.getfield 11, 3) := by decide +kernel
theorem dX3_byteAt_16 : decode cX3_byteAt 16 = .ok (.iload_n 1, 1) := by decide +kernel
theorem dX3_byteAt_17 : decode cX3_byteAt 17 = .ok (.baload, 1) := by decide +kernel
theorem dX3_byteAt_18 : decode cX3_byteAt 18 = .ok (.sipush 255, 3) := by decide +kernel
theorem dX3_byteAt_21 : decode cX3_byteAt 21 = .ok (.iand, 1) := by decide +kernel
theorem dX3_byteAt_22 : decode cX3_byteAt 22 = .ok (.goto 4, 3) := by decide +kernel
theorem dX3_byteAt_25 : decode cX3_byteAt 25 = .ok (.iconst 0, 1) := by decide +kernel
theorem dX3_byteAt_26 : decode cX3_byteAt 26 = .ok (.ireturn, 1) := by decide +kernel
theorem dX3_isLowerCase_0 : decode cX3_isLowerCase 0 = .ok (.iload_n 0, 1) := by decide +kernel
theorem dX3_isLowerCase_1 : decode cX3_isLowerCase 1 = .ok (.bipush 97, 2) := by decide +kernel
theorem dX3_isLowerCase_3 : decode cX3_isLowerCase 3 = .ok (.if_icmp .lt 13, 3) := by decide +kernel
theorem dX3_isLowerCase_6 : decode cX3_isLowerCase 6 = .ok (.iload_n 0, 1) := by decide +kernel
theorem dX3_isLowerCase_7 : decode cX3_isLowerCase 7 = .ok (.bipush 122, 2) := by decide +kernel
theorem dX3_isLowerCase_9 : decode cX3_isLowerCase 9 = .ok (.if_icmp .gt 7, 3) := by decide +kernel
theorem dX3_isLowerCase_12 : decode cX3_isLowerCase 12 = .ok (.iconst 1, 1) := by decide +kernel
theorem dX3_isLowerCase_13 : decode cX3_isLowerCase 13 = .ok (.goto 4, 3) := by decide +kernel
theorem dX3_isLowerCase_16 : decode cX3_isLowerCase 16 = .ok (.iconst 0, 1) := by decide +kernel
theorem dX3_isLowerCase_17 : decode cX3_isLowerCase 17 = .ok (.ireturn, 1) := by decide +kernel
theorem dX3_isDigit_0 : decode cX3_isDigit 0 = .ok (.iload_n 0, 1) := by decide +kernel
theorem dX3_isDigit_1 : decode cX3_isDigit 1 = .ok (.bipush 48, 2) := by decide +kernel
theorem dX3_isDigit_3 : decode cX3_isDigit 3 = .ok (.if_icmp .lt 13, 3) := by decide +kernel
theorem dX3_isDigit_6 : decode cX3_isDigit 6 = .ok (.iload_n 0, 1) := by decide +kernel
theorem dX3_isDigit_7 : decode cX3_isDigit 7 = .ok (.bipush 57, 2) := by decide +kernel
theorem dX3_isDigit_9 : decode cX3_isDigit 9 = .ok (.if_icmp .gt 7, 3) := by decide +kernel
theorem dX3_isDigit_12 : decode cX3_isDigit 12 = .ok (.iconst 1, 1) := by decide +kernel
theorem dX3_isDigit_13 : decode cX3_isDigit 13 = .ok (.goto 4, 3) := by decide +kernel
theorem dX3_isDigit_16 : decode cX3_isDigit 16 = .ok (.iconst 0, 1) := by decide +kernel
theorem dX3_isDigit_17 : decode cX3_isDigit 17 = .ok (.ireturn, 1) := by decide +kernel
set_option maxRecDepth 20000 in
theorem ggX4_init_J7_fill_53178 : GoodIn wsX4_init wsJ7_fill_53178 := goodIn_r _ [12] (by decide +kernel) (by decide +kernel)
set_option maxRecDepth 20000 in
theorem gX4_init_J7_fill_53178 : GoodIn wsX4_init (va_wsS RX4 22 yJ7_fill_53178 wsJ7_fill_53178) := goodIn_app (goodIn_of _ (by decide +kernel)) ggX4_init_J7_fill_53178
theorem dX4_init_0 : decode cX4_init 0 = .ok (.aload_n 0, 1) := by decide +kernel
theorem dX4_init_1 : decode cX4_init 1 = .ok (.invokespecial 3, 3) := by decide +kernel
theorem dX4_init_4 : decode cX4_init 4 = .ok (.aload_n 0, 1) := by decide +kernel
theorem dX4_init_5 : decode cX4_init 5 = .ok (.iconst 4, 1) := by decide +kernel
theorem dX4_init_6 : decode cX4_init 6 = .ok (.newarray .int, 2) := by decide +kernel
theorem dX4_init_8 : decode cX4_init 8 = .ok (.putfield 11, 3) := by decide +kernel
theorem dX4_init_11 : decode cX4_init 11 = .ok (.aload_n 0, 1) := by decide +kernel
theorem dX4_init_12 : decode cX4_init 12 = .ok (.iconst 4, 1) := by decide +kernel
theorem dX4_init_13 : decode cX4_init 13 = .ok (.newarray .int, 2) := by decide +kernel
theorem dX4_init_15 : decode cX4_init 15 = .ok (.putfield 15, 3) := by decide +kernel
theorem dX4_init_18 : decode cX4_init 18 = .ok (.aload_n 0, 1) := by decide +kernel
theorem dX4_init_19 : decode cX4_init 19 = .ok (.sipush 240, 3) := by decide +kernel
theorem dX4_init_22 : decode cX4_init 22 = .ok (.newarray .long, 2) := by decide +kernel
theorem dX4_init_24 : decode cX4_init 24 = .ok (.putfield 18, 3) := by decide +kernel
theorem dX4_init_27 : decode cX4_init 27 = .ok (.aload_n 0, 1) := by decide +kernel
theorem dX4_init_28 : decode cX4_init 28 = .ok (.getfield 15, 3) := by decide +kernel
theorem dX4_init_31 : decode cX4_init 31 = .ok (.iconst (-1), 1) := by decide +kernel
theorem dX4_init_32 : decode cX4_init 32 = .ok (.invokestatic 22, 3) := by decide +kernel
theorem dX4_init_35 : decode cX4_init 35 = .ok (.return_, 1) := by decide +kernel
theorem dX4_isSlot_0 : decode cX4_isSlot 0 = .ok (.iload_n 1, 1) := by decide +kernel
theorem dX4_isSlot_1 : decode cX4_isSlot 1 = .ok (.ifCond .lt 12, 3) := by decide +kernel
theorem dX4_isSlot_4 : decode cX4_isSlot 4 = .ok (.iload_n 1, 1) := by decide +kernel
theorem dX4_isSlot_5 : decode cX4_isSlot 5 = .ok (.iconst 4, 1) := by decide +kernel
theorem dX4_isSlot_6 : decode cX4_isSlot 6 = .ok (.if_icmp .ge 7, 3) := by decide +kernel
theorem dX4_isSlot_9 : decode cX4_isSlot 9 = .ok (.iconst 1, 1) := by decide +kernel
theorem dX4_isSlot_10 : decode cX4_isSlot 10 = .ok (.goto 4, 3) := by decide +kernel
theorem dX4_isSlot_13 : decode cX4_isSlot 13 = .ok (.iconst 0, 1) := by decide +kernel
theorem dX4_isSlot_14 : decode cX4_isSlot 14 = .ok (.ireturn, 1) := by decide +kernel
set_option maxRecDepth 20000 in
theorem ggX4_isFilled_X4_isSlot : GoodIn wsX4_isFilled wsX4_isSlot := goodIn_r _ [6] (by decide +kernel) (by decide +kernel)
set_option maxRecDepth 20000 in
theorem gX4_isFilled_X4_isSlot : GoodIn wsX4_isFilled (wsV RX4 28 RX4 yX4_isSlot wsX4_isSlot) := goodIn_app (goodIn_of _ (by decide +kernel)) ggX4_isFilled_X4_isSlot
theorem dX4_isFilled_0 : decode cX4_isFilled 0 = .ok (.aload_n 0, 1) := by decide +kernel
theorem dX4_isFilled_1 : decode cX4_isFilled 1 = .ok (.iload_n 1, 1) := by decide +kernel
theorem dX4_isFilled_2 : decode cX4_isFilled 2 = .ok (.invokevirtual 28, 3) := by decide +kernel
theorem dX4_isFilled_5 : decode cX4_isFilled 5 = .ok (.ifCond .eq 17, 3) := by decide +kernel
theorem dX4_isFilled_8 : decode cX4_isFilled 8 = .ok (.aload_n 0, 1) := by decide +kernel
theorem dX4_isFilled_9 : decode cX4_isFilled 9 = .ok (.getfield 15, 3) := by decide +kernel
theorem dX4_isFilled_12 : decode cX4_isFilled 12 = .ok (.iload_n 1, 1) := by decide +kernel
theorem dX4_isFilled_13 : decode cX4_isFilled 13 = .ok (.iaload, 1) := by decide +kernel
theorem dX4_isFilled_14 : decode cX4_isFilled 14 = .ok (.iconst (-1), 1) := by decide +kernel
theorem dX4_isFilled_15 : decode cX4_isFilled 15 = .ok (.if_icmp .eq 7, 3) := by decide +kernel
theorem dX4_isFilled_18 : decode cX4_isFilled 18 = .ok (.iconst 1, 1) := by decide +kernel
theorem dX4_isFilled_19 : decode cX4_isFilled 19 = .ok (.goto 4, 3) := by decide +kernel
theorem dX4_isFilled_22 : decode cX4_isFilled 22 = .ok (.iconst 0, 1) := by decide +kernel
theorem dX4_isFilled_23 : decode cX4_isFilled 23 = .ok (.ireturn, 1) := by decide +kernel
set_option maxRecDepth 20000 in
theorem ggX4_filled_X4_isFilled : GoodIn wsX4_filled wsX4_isFilled := goodIn_r _ [5, 6, 7, 8, 9, 4, 10, 11, 12, 13] (by decide +kernel) (by decide +kernel)
set_option maxRecDepth 20000 in
theorem gX4_filled_X4_isFilled : GoodIn wsX4_filled (wsV RX4 32 RX4 yX4_isFilled wsX4_isFilled) := goodIn_app (goodIn_of _ (by decide +kernel)) ggX4_filled_X4_isFilled
theorem dX4_filled_0 : decode cX4_filled 0 = .ok (.iconst 0, 1) := by decide +kernel
theorem dX4_filled_1 : decode cX4_filled 1 = .ok (.istore_n 1, 1) := by decide +kernel
theorem dX4_filled_2 : decode cX4_filled 2 = .ok (.iconst 0, 1) := by decide +kernel
theorem dX4_filled_3 : decode cX4_filled 3 = .ok (.istore_n 2, 1) := by decide +kernel
theorem dX4_filled_4 : decode cX4_filled 4 = .ok (.iload_n 2, 1) := by decide +kernel
theorem dX4_filled_5 : decode cX4_filled 5 = .ok (.iconst 4, 1) := by decide +kernel
theorem dX4_filled_6 : decode cX4_filled 6 = .ok (.if_icmp .ge 20, 3) := by decide +kernel
theorem dX4_filled_9 : decode cX4_filled 9 = .ok (.aload_n 0, 1) := by decide +kernel
theorem dX4_filled_10 : decode cX4_filled 10 = .ok (.iload_n 2, 1) := by decide +kernel
theorem dX4_filled_11 : decode cX4_filled 11 = .ok (.invokevirtual 32, 3) := by decide +kernel
theorem dX4_filled_14 : decode cX4_filled 14 = .ok (.ifCond .eq 6, 3) := by decide +kernel
theorem dX4_filled_17 : decode cX4_filled 17 = .ok (.iinc 1 1, 3) := by decide +kernel
theorem dX4_filled_20 : decode cX4_filled 20 = .ok (.iinc 2 1, 3) := by decide +kernel
theorem dX4_filled_23 : decode cX4_filled 23 = .ok (.goto (-19), 3) := by decide +kernel
theorem dX4_filled_26 : decode cX4_filled 26 = .ok (.iload_n 1, 1) := by decide +kernel
theorem dX4_filled_27 : decode cX4_filled 27 = .ok (.ireturn, 1) := by decide +kernel
set_option maxRecDepth 20000 in
theorem ggX4_open_X4_isSlot : GoodIn wsX4_open wsX4_isSlot := goodIn_r _ [8] (by decide +kernel) (by decide +kernel)
set_option maxRecDepth 20000 in
theorem gX4_open_X4_isSlot : GoodIn wsX4_open (wsV RX4 28 RX4 yX4_isSlot wsX4_isSlot) := goodIn_app (goodIn_of _ (by decide +kernel)) ggX4_open_X4_isSlot
theorem dX4_open_0 : decode cX4_open 0 = .ok (.aload_n 0, 1) := by decide +kernel
theorem dX4_open_1 : decode cX4_open 1 = .ok (.iload_n 1, 1) := by decide +kernel
theorem dX4_open_2 : decode cX4_open 2 = .ok (.invokevirtual 28, 3) := by decide +kernel
theorem dX4_open_5 : decode cX4_open 5 = .ok (.ifCond .eq 55, 3) := by decide +kernel
theorem dX4_open_8 : decode cX4_open 8 = .ok (.iload_n 3, 1) := by decide +kernel
theorem dX4_open_9 : decode cX4_open 9 = .ok (.ifCond .lt 51, 3) := by decide +kernel
theorem dX4_open_12 : decode cX4_open 12 = .ok (.iload_n 3, 1) := by decide +kernel
theorem dX4_open_13 : decode cX4_open 13 = .ok (.bipush 60, 2) := by decide +kernel
theorem dX4_open_15 : decode cX4_open 15 = .ok (.if_icmp .gt 45, 3) := by decide +kernel
theorem dX4_open_18 : decode cX4_open 18 = .ok (.aload_n 0, 1) := by decide +kernel
theorem dX4_open_19 : decode cX4_open 19 = .ok (.getfield 11, 3) := by decide +kernel
theorem dX4_open_22 : decode cX4_open 22 = .ok (.iload_n 1, 1) := by decide +kernel
theorem dX4_open_23 : decode cX4_open 23 = .ok (.iload_n 2, 1) := by decide +kernel
theorem dX4_open_24 : decode cX4_open 24 = .ok (.iastore, 1) := by decide +kernel
theorem dX4_open_25 : decode cX4_open 25 = .ok (.aload_n 0, 1) := by decide +kernel
theorem dX4_open_26 : decode cX4_open 26 = .ok (.getfield 15, 3) := by decide +kernel
theorem dX4_open_29 : decode cX4_open 29 = .ok (.iload_n 1, 1) := by decide +kernel
theorem dX4_open_30 : decode cX4_open 30 = .ok (.iload_n 3, 1) := by decide +kernel
theorem dX4_open_31 : decode cX4_open 31 = .ok (.iastore, 1) := by decide +kernel
theorem dX4_open_32 : decode cX4_open 32 = .ok (.iconst 0, 1) := by decide +kernel
theorem dX4_open_33 : decode cX4_open 33 = .ok (.istore 4, 2) := by decide +kernel
theorem dX4_open_35 : decode cX4_open 35 = .ok (.iload 4, 2) := by decide +kernel
theorem dX4_open_37 : decode cX4_open 37 = .ok (.iload_n 3, 1) := by decide +kernel
theorem dX4_open_38 : decode cX4_open 38 = .ok (.if_icmp .ge 22, 3) := by decide +kernel
theorem dX4_open_41 : decode cX4_open 41 = .ok (.aload_n 0, 1) := by decide +kernel
theorem dX4_open_42 : decode cX4_open 42 = .ok (.getfield 18, 3) := by decide +kernel
theorem dX4_open_45 : decode cX4_open 45 = .ok (.iload_n 1, 1) := by decide +kernel
theorem dX4_open_46 : decode cX4_open 46 = .ok (.bipush 60, 2) := by decide +kernel
theorem dX4_open_48 : decode cX4_open 48 = .ok (.imul, 1) := by decide +kernel
theorem dX4_open_49 : decode cX4_open 49 = .ok (.iload 4, 2) := by decide +kernel
theorem dX4_open_51 : decode cX4_open 51 = .ok (.iadd, 1) := by decide +kernel
theorem dX4_open_52 : decode cX4_open 52 = .ok (.lconst 0, 1) := by decide +kernel
theorem dX4_open_53 : decode cX4_open 53 = .ok (.lastore, 1) := by decide +kernel
theorem dX4_open_54 : decode cX4_open 54 = .ok (.iinc 4 1, 3) := by decide +kernel
theorem dX4_open_57 : decode cX4_open 57 = .ok (.goto (-22), 3) := by decide +kernel
theorem dX4_open_60 : decode cX4_open 60 = .ok (.return_, 1) := by decide +kernel
set_option maxRecDepth 20000 in
theorem ggX4_hasRun_X4_isFilled : GoodIn wsX4_hasRun wsX4_isFilled := goodIn_r _ [6, 1, 7, 8, 9, 5, 10, 11, 12, 13] (by decide +kernel) (by decide +kernel)
set_option maxRecDepth 20000 in
theorem gX4_hasRun_X4_isFilled : GoodIn wsX4_hasRun (wsV RX4 32 RX4 yX4_isFilled wsX4_isFilled) := goodIn_app (goodIn_of _ (by decide +kernel)) ggX4_hasRun_X4_isFilled
theorem dX4_hasRun_0 : decode cX4_hasRun 0 = .ok (.aload_n 0, 1) := by decide +kernel
theorem dX4_hasRun_1 : decode cX4_hasRun 1 = .ok (.iload_n 1, 1) := by decide +kernel
theorem dX4_hasRun_2 : decode cX4_hasRun 2 = .ok (.invokevirtual 32, 3) := by decide +kernel
theorem dX4_hasRun_5 : decode cX4_hasRun 5 = .ok (.ifCond .eq 37, 3) := by decide +kernel
theorem dX4_hasRun_8 : decode cX4_hasRun 8 = .ok (.iload_n 2, 1) := by decide +kernel
theorem dX4_hasRun_9 : decode cX4_hasRun 9 = .ok (.ifCond .lt 33, 3) := by decide +kernel
theorem dX4_hasRun_12 : decode cX4_hasRun 12 = .ok (.iload_n 3, 1) := by decide +kernel
theorem dX4_hasRun_13 : decode cX4_hasRun 13 = .ok (.ifCond .lt 29, 3) := by decide +kernel
theorem dX4_hasRun_16 : decode cX4_hasRun 16 = .ok (.iload_n 2, 1) := by decide +kernel
theorem dX4_hasRun_17 : decode cX4_hasRun 17 = .ok (.aload_n 0, 1) := by decide +kernel
theorem dX4_hasRun_18 : decode cX4_hasRun 18 = .ok (.getfield 15, 3) := by decide +kernel
theorem dX4_hasRun_21 : decode cX4_hasRun 21 = .ok (.iload_n 1, 1) := by decide +kernel
theorem dX4_hasRun_22 : decode cX4_hasRun 22 = .ok (.iaload, 1) := by decide +kernel
theorem dX4_hasRun_23 : decode cX4_hasRun 23 = .ok (.if_icmp .gt 19, 3) := by decide +kernel
theorem dX4_hasRun_26 : decode cX4_hasRun 26 = .ok (.iload_n 3, 1) := by decide +kernel
theorem dX4_hasRun_27 : decode cX4_hasRun 27 = .ok (.aload_n 0, 1) := by decide +kernel
theorem dX4_hasRun_28 : decode cX4_hasRun 28 = .ok (.getfield 15, 3) := by decide +kernel
theorem dX4_hasRun_31 : decode cX4_hasRun 31 = .ok (.iload_n 1, 1) := by decide +kernel
theorem dX4_hasRun_32 : decode cX4_hasRun 32 = .ok (.iaload, 1) := by decide +kernel
theorem dX4_hasRun_33 : decode cX4_hasRun 33 = .ok (.iload_n 2, 1) := by decide +kernel
theorem dX4_hasRun_34 : decode cX4_hasRun 34 = .ok (.isub, 1) := by decide +kernel
theorem dX4_hasRun_35 : decode cX4_hasRun 35 = .ok (.if_icmp .gt 7, 3) := by decide +kernel
theorem dX4_hasRun_38 : decode cX4_hasRun 38 = .ok (.iconst 1, 1) := by decide +kernel
theorem dX4_hasRun_39 : decode cX4_hasRun 39 = .ok (.goto 4, 3) := by decide +kernel
theorem dX4_hasRun_42 : decode cX4_hasRun 42 = .ok (.iconst 0, 1) := by decide +kernel
theorem dX4_hasRun_43 : decode cX4_hasRun 43 = .ok (.ireturn, 1) := by decide +kernel
set_option maxRecDepth 20000 in
theorem ggX4_store_X4_hasRun : GoodIn wsX4_store wsX4_hasRun := goodIn_r _ [7, 8, 9, 10, 11, 6, 12, 13, 14, 15, 16, 20, 21, 22] (by decide +kernel) (by decide +kernel)
set_option maxRecDepth 20000 in
theorem gX4_store_X4_hasRun : GoodIn wsX4_store (wsV RX4 35 RX4 yX4_hasRun wsX4_hasRun) := goodIn_app (goodIn_of _ (by decide +kernel)) ggX4_store_X4_hasRun
set_option maxRecDepth 20000 in
theorem ggX4_store_X4_cut : GoodIn wsX4_store wsX4_cut := goodIn_r _ [19] (by decide +kernel) (by decide +kernel)
set_option maxRecDepth 20000 in
theorem gX4_store_X4_cut : GoodIn wsX4_store (va_wsS RX4 39 yX4_cut wsX4_cut) := goodIn_app (goodIn_of _ (by decide +kernel)) ggX4_store_X4_cut
theorem dX4_store_0 : decode cX4_store 0 = .ok (.aload_n 0, 1) := by decide +kernel
theorem dX4_store_1 : decode cX4_store 1 = .ok (.iload_n 1, 1) := by decide +kernel
theorem dX4_store_2 : decode cX4_store 2 = .ok (.iload_n 2, 1) := by decide +kernel
theorem dX4_store_3 : decode cX4_store 3 = .ok (.iconst 1, 1) := by decide +kernel
theorem dX4_store_4 : decode cX4_store 4 = .ok (.invokevirtual 35, 3) := by decide +kernel
theorem dX4_store_7 : decode cX4_store 7 = .ok (.ifCond .eq 24, 3) := by decide +kernel
theorem dX4_store_10 : decode cX4_store 10 = .ok (.aload_n 0, 1) := by decide +kernel
theorem dX4_store_11 : decode cX4_store 11 = .ok (.getfield 18, 3) := by decide +kernel
theorem dX4_store_14 : decode cX4_store 14 = .ok (.iload_n 1, 1) := by decide +kernel
theorem dX4_store_15 : decode cX4_store 15 = .ok (.bipush 60, 2) := by decide +kernel
theorem dX4_store_17 : decode cX4_store 17 = .ok (.imul, 1) := by decide +kernel
theorem dX4_store_18 : decode cX4_store 18 = .ok (.iload_n 2, 1) := by decide +kernel
theorem dX4_store_19 : decode cX4_store 19 = .ok (.iadd, 1) := by decide +kernel
theorem dX4_store_20 : decode cX4_store 20 = .ok (.aload_n 0, 1) := by decide +kernel
theorem dX4_store_21 : decode cX4_store 21 = .ok (.getfield 11, 3) := by decide +kernel
theorem dX4_store_24 : decode cX4_store 24 = .ok (.iload_n 1, 1) := by decide +kernel
theorem dX4_store_25 : decode cX4_store 25 = .ok (.iaload, 1) := by decide +kernel
theorem dX4_store_26 : decode cX4_store 26 = .ok (.lload_n 3, 1) := by decide +kernel
theorem dX4_store_27 : decode cX4_store 27 = .ok (.invokestatic 39, 3) := by decide +kernel
theorem dX4_store_30 : decode cX4_store 30 = .ok (.lastore, 1) := by decide +kernel
theorem dX4_store_31 : decode cX4_store 31 = .ok (.return_, 1) := by decide +kernel
theorem dX4_cut_0 : decode cX4_cut 0 = .ok (.iload_n 0, 1) := by decide +kernel
theorem dX4_cut_1 : decode cX4_cut 1 = .ok (.tableswitch 41 0 2 #[27, 32, 37], 27) := by decide +kernel
theorem dX4_cut_28 : decode cX4_cut 28 = .ok (.lload_n 1, 1) := by decide +kernel
theorem dX4_cut_29 : decode cX4_cut 29 = .ok (.l2i, 1) := by decide +kernel
theorem dX4_cut_30 : decode cX4_cut 30 = .ok (.i2b, 1) := by decide +kernel
theorem dX4_cut_31 : decode cX4_cut 31 = .ok (.i2l, 1) := by decide +kernel
theorem dX4_cut_32 : decode cX4_cut 32 = .ok (.lreturn, 1) := by decide +kernel
theorem dX4_cut_33 : decode cX4_cut 33 = .ok (.lload_n 1, 1) := by decide +kernel
theorem dX4_cut_34 : decode cX4_cut 34 = .ok (.l2i, 1) := by decide +kernel
theorem dX4_cut_35 : decode cX4_cut 35 = .ok (.i2s, 1) := by decide +kernel
theorem dX4_cut_36 : decode cX4_cut 36 = .ok (.i2l, 1) := by decide +kernel
theorem dX4_cut_37 : decode cX4_cut 37 = .ok (.lreturn, 1) := by decide +kernel
theorem dX4_cut_38 : decode cX4_cut 38 = .ok (.lload_n 1, 1) := by decide +kernel
theorem dX4_cut_39 : decode cX4_cut 39 = .ok (.l2i, 1) := by decide +kernel
theorem dX4_cut_40 : decode cX4_cut 40 = .ok (.i2l, 1) := by decide +kernel
theorem dX4_cut_41 : decode cX4_cut 41 = .ok (.lreturn, 1) := by decide +kernel
theorem dX4_cut_42 : decode cX4_cut 42 = .ok (.lload_n 1, 1) := by decide +kernel
theorem dX4_cut_43 : decode cX4_cut 43 = .ok (.lreturn, 1) := by decide +kernel
set_option maxRecDepth 20000 in
theorem ggX4_numberAt_X4_hasRun : GoodIn wsX4_numberAt wsX4_hasRun := goodIn_r _ [7, 8, 9, 10, 11, 6, 12, 13, 14, 15, 16, 17, 18, 19] (by decide +kernel) (by decide +kernel)
set_option maxRecDepth 20000 in
theorem gX4_numberAt_X4_hasRun : GoodIn wsX4_numberAt (wsV RX4 35 RX4 yX4_hasRun wsX4_hasRun) := goodIn_app (goodIn_of _ (by decide +kernel)) ggX4_numberAt_X4_hasRun
theorem dX4_numberAt_0 : decode cX4_numberAt 0 = .ok (.aload_n 0, 1) := by decide +kernel
theorem dX4_numberAt_1 : decode cX4_numberAt 1 = .ok (.iload_n 1, 1) := by decide +kernel
theorem dX4_numberAt_2 : decode cX4_numberAt 2 = .ok (.iload_n 2, 1) := by decide +kernel
theorem dX4_numberAt_3 : decode cX4_numberAt 3 = .ok (.iconst 1, 1) := by decide +kernel
theorem dX4_numberAt_4 : decode cX4_numberAt 4 = .ok (.invokevirtual 35, 3) := by decide +kernel
theorem dX4_numberAt_7 : decode cX4_numberAt 7 = .ok (.ifCond .eq 17, 3) := by decide +kernel
theorem dX4_numberAt_10 : decode cX4_numberAt 10 = .ok (.aload_n 0, 1) := by decide +kernel
theorem dX4_numberAt_11 : decode cX4_numberAt 11 = .ok (.getfield 18, 3) := by decide +kernel
theorem dX4_numberAt_14 : decode cX4_numberAt 14 = .ok (.iload_n 1, 1) := by decide +kernel
theorem dX4_numberAt_15 : decode cX4_numberAt 15 = .ok (.bipush 60, 2) := by decide +kernel
theorem dX4_numberAt_17 : decode cX4_numberAt 17 = .ok (.imul, 1) := by decide +kernel
theorem dX4_numberAt_18 : decode cX4_numberAt 18 = .ok (.iload_n 2, 1) := by decide +kernel
theorem dX4_numberAt_19 : decode cX4_numberAt 19 = .ok (.iadd, 1) := by decide +kernel
theorem dX4_numberAt_20 : decode cX4_numberAt 20 = .ok (.laload, 1) := by decide +kernel
theorem dX4_numberAt_21 : decode cX4_numberAt 21 = .ok (.goto 6, 3) := by decide +kernel
theorem dX4_numberAt_24 : decode cX4_numberAt 24 = .ok (.ldc2_w 43, 3) := by decide +kernel
theorem dX4_numberAt_27 : decode cX4_numberAt 27 = .ok (.lreturn, 1) := by decide +kernel
set_option maxRecDepth 20000 in
theorem ggX4_carry_X4_hasRun : GoodIn wsX4_carry wsX4_hasRun := goodIn_r _ [10, 11, 12, 13, 14, 9, 15, 16, 17, 18, 19, 20, 21, 22] (by decide +kernel) (by decide +kernel)
set_option maxRecDepth 20000 in
theorem gX4_carry_X4_hasRun : GoodIn wsX4_carry (wsV RX4 35 RX4 yX4_hasRun wsX4_hasRun) := goodIn_app (goodIn_of _ (by decide +kernel)) ggX4_carry_X4_hasRun
theorem dX4_carry_0 : decode cX4_carry 0 = .ok (.aload_n 0, 1) := by decide +kernel
theorem dX4_carry_1 : decode cX4_carry 1 = .ok (.iload_n 1, 1) := by decide +kernel
theorem dX4_carry_2 : decode cX4_carry 2 = .ok (.iload_n 2, 1) := by decide +kernel
theorem dX4_carry_3 : decode cX4_carry 3 = .ok (.iload 5, 2) := by decide +kernel
theorem dX4_carry_5 : decode cX4_carry 5 = .ok (.invokevirtual 35, 3) := by decide +kernel
theorem dX4_carry_8 : decode cX4_carry 8 = .ok (.ifCond .eq 41, 3) := by decide +kernel
theorem dX4_carry_11 : decode cX4_carry 11 = .ok (.aload_n 0, 1) := by decide +kernel
theorem dX4_carry_12 : decode cX4_carry 12 = .ok (.iload_n 3, 1) := by decide +kernel
theorem dX4_carry_13 : decode cX4_carry 13 = .ok (.iload 4, 2) := by decide +kernel
theorem dX4_carry_15 : decode cX4_carry 15 = .ok (.iload 5, 2) := by decide +kernel
theorem dX4_carry_17 : decode cX4_carry 17 = .ok (.invokevirtual 35, 3) := by decide +kernel
theorem dX4_carry_20 : decode cX4_carry 20 = .ok (.ifCond .eq 29, 3) := by decide +kernel
theorem dX4_carry_23 : decode cX4_carry 23 = .ok (.aload_n 0, 1) := by decide +kernel
theorem dX4_carry_24 : decode cX4_carry 24 = .ok (.getfield 18, 3) := by decide +kernel
theorem dX4_carry_27 : decode cX4_carry 27 = .ok (.iload_n 1, 1) := by decide +kernel
theorem dX4_carry_28 : decode cX4_carry 28 = .ok (.bipush 60, 2) := by decide +kernel
theorem dX4_carry_30 : decode cX4_carry 30 = .ok (.imul, 1) := by decide +kernel
theorem dX4_carry_31 : decode cX4_carry 31 = .ok (.iload_n 2, 1) := by decide +kernel
theorem dX4_carry_32 : decode cX4_carry 32 = .ok (.iadd, 1) := by decide +kernel
theorem dX4_carry_33 : decode cX4_carry 33 = .ok (.aload_n 0, 1) := by decide +kernel
theorem dX4_carry_34 : decode cX4_carry 34 = .ok (.getfield 18, 3) := by decide +kernel
theorem dX4_carry_37 : decode cX4_carry 37 = .ok (.iload_n 3, 1) := by decide +kernel
theorem dX4_carry_38 : decode cX4_carry 38 = .ok (.bipush 60, 2) := by decide +kernel
theorem dX4_carry_40 : decode cX4_carry 40 = .ok (.imul, 1) := by decide +kernel
theorem dX4_carry_41 : decode cX4_carry 41 = .ok (.iload 4, 2) := by decide +kernel
theorem dX4_carry_43 : decode cX4_carry 43 = .ok (.iadd, 1) := by decide +kernel
theorem dX4_carry_44 : decode cX4_carry 44 = .ok (.iload 5, 2) := by decide +kernel
theorem dX4_carry_46 : decode cX4_carry 46 = .ok (.invokestatic 45, 3) := by decide +kernel
theorem dX4_carry_49 : decode cX4_carry 49 = .ok (.return_, 1) := by decide +kernel
theorem dX5_init_0 : decode cX5_init 0 = .ok (.aload_n 0, 1) := by decide +kernel
theorem dX5_init_1 : decode cX5_init 1 = .ok (.invokespecial 3, 3) := by decide +kernel
theorem dX5_init_4 : decode cX5_init 4 = .ok (.aload_n 0, 1) := by decide +kernel
theorem dX5_init_5 : decode cX5_init 5 = .ok (.sipush 512, 3) := by decide +kernel
theorem dX5_init_8 : decode cX5_init 8 = .ok (.newarray .int, 2) := by decide +kernel
theorem dX5_init_10 : decode cX5_init 10 = .ok (.putfield 11, 3) := by decide +kernel
theorem dX5_init_13 : decode cX5_init 13 = .ok (.aload_n 0, 1) := by decide +kernel
theorem dX5_init_14 : decode cX5_init 14 = .ok (.sipush 512, 3) := by decide +kernel
theorem dX5_init_17 : decode cX5_init 17 = .ok (.newarray .int, 2) := by decide +kernel
theorem dX5_init_19 : decode cX5_init 19 = .ok (.putfield 15, 3) := by decide +kernel
theorem dX5_init_22 : decode cX5_init 22 = .ok (.return_, 1) := by decide +kernel
set_option maxRecDepth 20000 in
theorem ggX5_stateOf_X5_isKeptUpAlone : GoodIn wsX5_stateOf wsX5_isKeptUpAlone := goodIn_r _ [4, 5, 6, 7, 8, 9, 10, 11, 12, 13, 14, 15, 16, 17, 18, 19, 20, 21, 22, 23, 24, 25, 26, 27, 28, 29, 30, 31, 32, 33, 34, 35, 36, 37, 38, 39, 40, 41, 42] (by decide +kernel) (by decide +kernel)
set_option maxRecDepth 20000 in
theorem gX5_stateOf_X5_isKeptUpAlone : GoodIn wsX5_stateOf (va_wsS RX5 18 yX5_isKeptUpAlone wsX5_isKeptUpAlone) := goodIn_app (goodIn_of _ (by decide +kernel)) ggX5_stateOf_X5_isKeptUpAlone
set_option maxRecDepth 20000 in
theorem ggX5_stateOf_X0_heightAt : GoodIn wsX5_stateOf wsX0_heightAt := goodIn_r _ [10, 11, 12, 13, 14, 9, 15, 16, 17, 18, 19, 20, 21, 27, 28, 29, 30, 31, 32, 33, 34, 35, 36, 37, 38, 39, 40, 41, 42] (by decide +kernel) (by decide +kernel)
set_option maxRecDepth 20000 in
theorem gX5_stateOf_X0_heightAt : GoodIn wsX5_stateOf (wsV RX5 22 RX0 yX0_heightAt wsX0_heightAt) := goodIn_app (goodIn_of _ (by decide +kernel)) ggX5_stateOf_X0_heightAt
theorem dX5_stateOf_0 : decode cX5_stateOf 0 = .ok (.aload_n 1, 1) := by decide +kernel
theorem dX5_stateOf_1 : decode cX5_stateOf 1 = .ok (.iload_n 2, 1) := by decide +kernel
theorem dX5_stateOf_2 : decode cX5_stateOf 2 = .ok (.invokestatic 18, 3) := by decide +kernel
theorem dX5_stateOf_5 : decode cX5_stateOf 5 = .ok (.ifCond .ne 5, 3) := by decide +kernel
theorem dX5_stateOf_8 : decode cX5_stateOf 8 = .ok (.iconst (-1), 1) := by decide +kernel
theorem dX5_stateOf_9 : decode cX5_stateOf 9 = .ok (.ireturn, 1) := by decide +kernel
theorem dX5_stateOf_10 : decode cX5_stateOf 10 = .ok (.iconst 0, 1) := by decide +kernel
theorem dX5_stateOf_11 : decode cX5_stateOf 11 = .ok (.istore 4, 2) := by decide +kernel
theorem dX5_stateOf_13 : decode cX5_stateOf 13 = .ok (.iconst 1, 1) := by decide +kernel
theorem dX5_stateOf_14 : decode cX5_stateOf 14 = .ok (.istore 5, 2) := by decide +kernel
theorem dX5_stateOf_16 : decode cX5_stateOf 16 = .ok (.iload 5, 2) := by decide +kernel
theorem dX5_stateOf_18 : decode cX5_stateOf 18 = .ok (.bipush 9, 2) := by decide +kernel
theorem dX5_stateOf_20 : decode cX5_stateOf 20 = .ok (.if_icmp .gt 37, 3) := by decide +kernel
theorem dX5_stateOf_23 : decode cX5_stateOf 23 = .ok (.aload_n 1, 1) := by decide +kernel
theorem dX5_stateOf_24 : decode cX5_stateOf 24 = .ok (.iload_n 2, 1) := by decide +kernel
theorem dX5_stateOf_25 : decode cX5_stateOf 25 = .ok (.iload_n 3, 1) := by decide +kernel
