theorem dX9_clears_41 : decode cX9_clears 41 = .ok (.aload_n 0, 1) := by decide +kernel
theorem dX9_clears_42 : decode cX9_clears 42 = .ok (.getfield 43, 3) := by decide +kernel
theorem dX9_clears_45 : decode cX9_clears 45 = .ok (.bipush 8, 2) := by decide +kernel
theorem dX9_clears_47 : decode cX9_clears 47 = .ok (.iload_n 2, 1) := by decide +kernel
theorem dX9_clears_48 : decode cX9_clears 48 = .ok (.imul, 1) := by decide +kernel
theorem dX9_clears_49 : decode cX9_clears 49 = .ok (.iconst 0, 1) := by decide +kernel
theorem dX9_clears_50 : decode cX9_clears 50 = .ok (.iastore, 1) := by decide +kernel
theorem dX9_clears_51 : decode cX9_clears 51 = .ok (.aload_n 0, 1) := by decide +kernel
theorem dX9_clears_52 : decode cX9_clears 52 = .ok (.getfield 46, 3) := by decide +kernel
theorem dX9_clears_55 : decode cX9_clears 55 = .ok (.bipush 8, 2) := by decide +kernel
theorem dX9_clears_57 : decode cX9_clears 57 = .ok (.iload_n 2, 1) := by decide +kernel
theorem dX9_clears_58 : decode cX9_clears 58 = .ok (.imul, 1) := by decide +kernel
theorem dX9_clears_59 : decode cX9_clears 59 = .ok (.iload_n 1, 1) := by decide +kernel
theorem dX9_clears_60 : decode cX9_clears 60 = .ok (.iastore, 1) := by decide +kernel
theorem dX9_clears_61 : decode cX9_clears 61 = .ok (.iinc 1 1, 3) := by decide +kernel
theorem dX9_clears_64 : decode cX9_clears 64 = .ok (.goto (-48), 3) := by decide +kernel
theorem dX9_clears_67 : decode cX9_clears 67 = .ok (.aload_n 0, 1) := by decide +kernel
theorem dX9_clears_68 : decode cX9_clears 68 = .ok (.getfield 49, 3) := by decide +kernel
theorem dX9_clears_71 : decode cX9_clears 71 = .ok (.bipush 8, 2) := by decide +kernel
theorem dX9_clears_73 : decode cX9_clears 73 = .ok (.iconst 0, 1) := by decide +kernel
theorem dX9_clears_74 : decode cX9_clears 74 = .ok (.iastore, 1) := by decide +kernel
theorem dX9_clears_75 : decode cX9_clears 75 = .ok (.aload_n 0, 1) := by decide +kernel
theorem dX9_clears_76 : decode cX9_clears 76 = .ok (.getfield 49, 3) := by decide +kernel
theorem dX9_clears_79 : decode cX9_clears 79 = .ok (.bipush 9, 2) := by decide +kernel
theorem dX9_clears_81 : decode cX9_clears 81 = .ok (.iconst 0, 1) := by decide +kernel
theorem dX9_clears_82 : decode cX9_clears 82 = .ok (.iastore, 1) := by decide +kernel
theorem dX9_clears_83 : decode cX9_clears 83 = .ok (.aload_n 0, 1) := by decide +kernel
theorem dX9_clears_84 : decode cX9_clears 84 = .ok (.getfield 58, 3) := by decide +kernel
theorem dX9_clears_87 : decode cX9_clears 87 = .ok (.bipush 8, 2) := by decide +kernel
theorem dX9_clears_89 : decode cX9_clears 89 = .ok (.bipush 9, 2) := by decide +kernel
theorem dX9_clears_91 : decode cX9_clears 91 = .ok (.iastore, 1) := by decide +kernel
theorem dX9_clears_92 : decode cX9_clears 92 = .ok (.aload_n 0, 1) := by decide +kernel
theorem dX9_clears_93 : decode cX9_clears 93 = .ok (.getfield 58, 3) := by decide +kernel
theorem dX9_clears_96 : decode cX9_clears 96 = .ok (.bipush 9, 2) := by decide +kernel
theorem dX9_clears_98 : decode cX9_clears 98 = .ok (.iconst 0, 1) := by decide +kernel
theorem dX9_clears_99 : decode cX9_clears 99 = .ok (.iastore, 1) := by decide +kernel
theorem dX9_clears_100 : decode cX9_clears 100 = .ok (.aload_n 0, 1) := by decide +kernel
theorem dX9_clears_101 : decode cX9_clears 101 = .ok (.iconst 0, 1) := by decide +kernel
theorem dX9_clears_102 : decode cX9_clears 102 = .ok (.putfield 188, 3) := by decide +kernel
theorem dX9_clears_105 : decode cX9_clears 105 = .ok (.return_, 1) := by decide +kernel
set_option maxRecDepth 20000 in
theorem ggX9_city_X9_clears : GoodIn wsX9_city wsX9_clears := goodIn_r _ [11, 3, 5, 12, 13, 14, 15, 16, 17, 18, 124, 125, 126, 127, 128, 129, 130, 131, 132, 133, 134, 135, 136, 137, 138, 139, 140, 141, 142, 143, 144, 145, 146, 147, 148, 149, 150, 151, 152, 153, 154, 155, 156, 157, 158, 159, 160, 161, 162, 163, 164, 165, 166, 167, 168, 169] (by decide +kernel) (by decide +kernel)
set_option maxRecDepth 20000 in
theorem gX9_city_X9_clears : GoodIn wsX9_city (wsV RX9 226 RX9 yX9_clears wsX9_clears) := goodIn_app (goodIn_of _ (by decide +kernel)) ggX9_city_X9_clears
set_option maxRecDepth 20000 in
theorem ggX9_city_X9_begins : GoodIn wsX9_city wsX9_begins := goodIn_r _ [22, 6, 23, 24, 25, 26, 27, 10, 28, 29, 30, 31, 32, 2, 33, 34, 35, 36, 37, 38, 39, 40, 41, 42, 124, 125, 126, 127, 128, 129, 130, 131, 132, 133, 134, 135, 136, 137, 138, 139, 140, 141, 142, 143, 144, 145, 146, 147, 148, 149, 150, 151, 152, 153, 154, 155, 156, 157, 158, 159, 160, 161, 162, 163, 164, 165, 166, 167, 168, 169] (by decide +kernel) (by decide +kernel)
set_option maxRecDepth 20000 in
theorem gX9_city_X9_begins : GoodIn wsX9_city (wsV RX9 229 RX9 yX9_begins wsX9_begins) := goodIn_app (goodIn_of _ (by decide +kernel)) ggX9_city_X9_begins
set_option maxRecDepth 20000 in
theorem ggX9_city_X9_isGood : GoodIn wsX9_city wsX9_isGood := goodIn_r _ [46, 6, 124, 125, 126, 127, 128, 129, 130, 131, 132, 133, 134, 135, 136, 137, 138, 139, 140, 141, 142, 143, 144, 145, 146, 147, 148, 149, 150, 151, 152, 153, 154, 155, 156, 157, 158, 159, 160, 161, 162, 163, 164, 165, 166, 167, 168, 169] (by decide +kernel) (by decide +kernel)
set_option maxRecDepth 20000 in
theorem gX9_city_X9_isGood : GoodIn wsX9_city (wsV RX9 178 RX9 yX9_isGood wsX9_isGood) := goodIn_app (goodIn_of _ (by decide +kernel)) ggX9_city_X9_isGood
set_option maxRecDepth 20000 in
theorem ggX9_city_X9_asks : GoodIn wsX9_city wsX9_asks := goodIn_r _ [50, 51, 52, 53, 10, 54, 55, 56, 57, 58, 6, 2, 31, 25, 26, 27, 28, 24, 29, 30, 32, 33, 34, 35, 36, 37, 38, 39, 40, 41, 42, 59, 60, 61, 62, 23, 124, 125, 126, 127, 128, 129, 130, 131, 132, 133, 134, 135, 136, 137, 138, 139, 140, 141, 142, 143, 144, 145, 146, 147, 148, 149, 150, 151, 152, 153, 154, 155, 156, 157, 158, 159, 160, 161, 162, 163, 164, 165, 166, 167, 168, 169] (by decide +kernel) (by decide +kernel)
set_option maxRecDepth 20000 in
theorem gX9_city_X9_asks : GoodIn wsX9_city (wsV RX9 163 RX9 yX9_asks wsX9_asks) := goodIn_app (goodIn_of _ (by decide +kernel)) ggX9_city_X9_asks
set_option maxRecDepth 20000 in
theorem ggX9_city_X9_number : GoodIn wsX9_city wsX9_number := goodIn_r _ [66, 6, 2, 30, 59, 60, 61, 10, 62, 29, 23, 67, 68, 69, 25, 26, 27, 28, 24, 31, 32, 33, 34, 35, 36, 37, 38, 39, 40, 41, 42, 124, 125, 126, 127, 128, 129, 130, 131, 132, 133, 134, 135, 136, 137, 138, 139, 140, 141, 142, 143, 144, 145, 146, 147, 148, 149, 150, 151, 152, 153, 154, 155, 156, 157, 158, 159, 160, 161, 162, 163, 164, 165, 166, 167, 168, 169] (by decide +kernel) (by decide +kernel)
set_option maxRecDepth 20000 in
theorem gX9_city_X9_number : GoodIn wsX9_city (wsV RX9 167 RX9 yX9_number wsX9_number) := goodIn_app (goodIn_of _ (by decide +kernel)) ggX9_city_X9_number
set_option maxRecDepth 20000 in
theorem ggX9_city_X9_line : GoodIn wsX9_city wsX9_line := goodIn_r _ [73, 74, 18, 6, 17, 75, 76, 77, 78, 16, 79, 80, 81, 82, 83, 84, 85, 86, 87, 88, 12, 89, 55, 56, 57, 10, 58, 2, 31, 59, 60, 61, 62, 29, 23, 25, 26, 27, 28, 24, 30, 32, 33, 34, 35, 36, 37, 38, 39, 40, 41, 42, 90, 91, 92, 93, 47, 48, 49, 50, 51, 52, 53, 54, 63, 64, 65, 66, 67, 68, 69, 94, 95, 96, 97, 5, 98, 99, 100, 101, 43, 44, 45, 46, 102, 103, 104, 105, 106, 14, 15, 13, 124, 125, 126, 127, 128, 129, 130, 131, 132, 133, 134, 135, 136, 137, 138, 139, 140, 141, 142, 143, 144, 145, 146, 147, 148, 149, 150, 151, 152, 153, 154, 155, 156, 157, 158, 159, 160, 161, 162, 163, 164, 165, 166, 167, 168, 169] (by decide +kernel) (by decide +kernel)
set_option maxRecDepth 20000 in
theorem gX9_city_X9_line : GoodIn wsX9_city (wsV RX9 234 RX9 yX9_line wsX9_line) := goodIn_app (goodIn_of _ (by decide +kernel)) ggX9_city_X9_line
set_option maxRecDepth 20000 in
theorem ggX9_city_X9_ends : GoodIn wsX9_city wsX9_ends := goodIn_r _ [110, 2, 6, 59, 60, 61, 10, 62, 29, 23, 25, 26, 27, 28, 24, 30, 31, 32, 33, 34, 35, 36, 37, 38, 39, 40, 41, 42, 124, 125, 126, 127, 128, 129, 130, 131, 132, 133, 134, 135, 136, 137, 138, 139, 140, 141, 142, 143, 144, 145, 146, 147, 148, 149, 150, 151, 152, 153, 154, 155, 156, 157, 158, 159, 160, 161, 162, 163, 164, 165, 166, 167, 168, 169] (by decide +kernel) (by decide +kernel)
set_option maxRecDepth 20000 in
theorem gX9_city_X9_ends : GoodIn wsX9_city (wsV RX9 237 RX9 yX9_ends wsX9_ends) := goodIn_app (goodIn_of _ (by decide +kernel)) ggX9_city_X9_ends
set_option maxRecDepth 20000 in
theorem ggX9_city_X9_isOver : GoodIn wsX9_city wsX9_isOver := goodIn_r _ [114, 32, 6, 115, 23, 116, 124, 125, 126, 127, 128, 129, 130, 131, 132, 133, 134, 135, 136, 137, 138, 139, 140, 141, 142, 143, 144, 145, 146, 147, 148, 149, 150, 151, 152, 153, 154, 155, 156, 157, 158, 159, 160, 161, 162, 163, 164, 165, 166, 167, 168, 169] (by decide +kernel) (by decide +kernel)
set_option maxRecDepth 20000 in
theorem gX9_city_X9_isOver : GoodIn wsX9_city (wsV RX9 240 RX9 yX9_isOver wsX9_isOver) := goodIn_app (goodIn_of _ (by decide +kernel)) ggX9_city_X9_isOver
set_option maxRecDepth 20000 in
theorem ggX9_city_X9_copyCity : GoodIn wsX9_city wsX9_copyCity := goodIn_r _ [120, 3, 5, 12, 13, 14, 15, 16, 79, 80, 17, 121, 122, 10, 123, 124, 125, 126, 127, 128, 129, 130, 131, 132, 133, 134, 135, 136, 137, 138, 139, 140, 141, 142, 143, 144, 145, 146, 147, 148, 149, 150, 151, 152, 153, 154, 155, 156, 157, 158, 159, 160, 161, 162, 163, 164, 165, 166, 167, 168, 169] (by decide +kernel) (by decide +kernel)
set_option maxRecDepth 20000 in
theorem gX9_city_X9_copyCity : GoodIn wsX9_city (wsV RX9 243 RX9 yX9_copyCity wsX9_copyCity) := goodIn_app (goodIn_of _ (by decide +kernel)) ggX9_city_X9_copyCity
theorem dX9_city_0 : decode cX9_city 0 = .ok (.aload_n 0, 1) := by decide +kernel
theorem dX9_city_1 : decode cX9_city 1 = .ok (.iconst 0, 1) := by decide +kernel
theorem dX9_city_2 : decode cX9_city 2 = .ok (.putfield 92, 3) := by decide +kernel
theorem dX9_city_5 : decode cX9_city 5 = .ok (.aload_n 0, 1) := by decide +kernel
theorem dX9_city_6 : decode cX9_city 6 = .ok (.invokevirtual 226, 3) := by decide +kernel
theorem dX9_city_9 : decode cX9_city 9 = .ok (.aload_n 0, 1) := by decide +kernel
theorem dX9_city_10 : decode cX9_city 10 = .ok (.invokevirtual 229, 3) := by decide +kernel
theorem dX9_city_13 : decode cX9_city 13 = .ok (.aload_n 0, 1) := by decide +kernel
theorem dX9_city_14 : decode cX9_city 14 = .ok (.invokevirtual 178, 3) := by decide +kernel
theorem dX9_city_17 : decode cX9_city 17 = .ok (.ifCond .eq 70, 3) := by decide +kernel
theorem dX9_city_20 : decode cX9_city 20 = .ok (.aload_n 0, 1) := by decide +kernel
theorem dX9_city_21 : decode cX9_city 21 = .ok (.getfield 133, 3) := by decide +kernel
theorem dX9_city_24 : decode cX9_city 24 = .ok (.ifCond .eq 63, 3) := by decide +kernel
theorem dX9_city_27 : decode cX9_city 27 = .ok (.aload_n 0, 1) := by decide +kernel
theorem dX9_city_28 : decode cX9_city 28 = .ok (.getfield 31, 3) := by decide +kernel
theorem dX9_city_31 : decode cX9_city 31 = .ok (.iconst 4, 1) := by decide +kernel
theorem dX9_city_32 : decode cX9_city 32 = .ok (.iaload, 1) := by decide +kernel
theorem dX9_city_33 : decode cX9_city 33 = .ok (.ifCond .ne 26, 3) := by decide +kernel
theorem dX9_city_36 : decode cX9_city 36 = .ok (.aload_n 0, 1) := by decide +kernel
theorem dX9_city_37 : decode cX9_city 37 = .ok (.ldc2_w 232, 3) := by decide +kernel
theorem dX9_city_40 : decode cX9_city 40 = .ok (.invokevirtual 163, 3) := by decide +kernel
theorem dX9_city_43 : decode cX9_city 43 = .ok (.aload_n 0, 1) := by decide +kernel
theorem dX9_city_44 : decode cX9_city 44 = .ok (.getfield 34, 3) := by decide +kernel
theorem dX9_city_47 : decode cX9_city 47 = .ok (.iconst 4, 1) := by decide +kernel
theorem dX9_city_48 : decode cX9_city 48 = .ok (.aload_n 0, 1) := by decide +kernel
theorem dX9_city_49 : decode cX9_city 49 = .ok (.iconst 1, 1) := by decide +kernel
theorem dX9_city_50 : decode cX9_city 50 = .ok (.bipush 6, 2) := by decide +kernel
theorem dX9_city_52 : decode cX9_city 52 = .ok (.invokevirtual 167, 3) := by decide +kernel
theorem dX9_city_55 : decode cX9_city 55 = .ok (.iastore, 1) := by decide +kernel
theorem dX9_city_56 : decode cX9_city 56 = .ok (.goto 7, 3) := by decide +kernel
theorem dX9_city_59 : decode cX9_city 59 = .ok (.aload_n 0, 1) := by decide +kernel
theorem dX9_city_60 : decode cX9_city 60 = .ok (.invokevirtual 234, 3) := by decide +kernel
theorem dX9_city_63 : decode cX9_city 63 = .ok (.aload_n 0, 1) := by decide +kernel
theorem dX9_city_64 : decode cX9_city 64 = .ok (.invokevirtual 178, 3) := by decide +kernel
theorem dX9_city_67 : decode cX9_city 67 = .ok (.ifCond .eq 7, 3) := by decide +kernel
theorem dX9_city_70 : decode cX9_city 70 = .ok (.aload_n 0, 1) := by decide +kernel
theorem dX9_city_71 : decode cX9_city 71 = .ok (.invokevirtual 237, 3) := by decide +kernel
theorem dX9_city_74 : decode cX9_city 74 = .ok (.aload_n 0, 1) := by decide +kernel
theorem dX9_city_75 : decode cX9_city 75 = .ok (.getfield 31, 3) := by decide +kernel
theorem dX9_city_78 : decode cX9_city 78 = .ok (.iconst 4, 1) := by decide +kernel
theorem dX9_city_79 : decode cX9_city 79 = .ok (.dup2, 1) := by decide +kernel
theorem dX9_city_80 : decode cX9_city 80 = .ok (.iaload, 1) := by decide +kernel
theorem dX9_city_81 : decode cX9_city 81 = .ok (.iconst 1, 1) := by decide +kernel
theorem dX9_city_82 : decode cX9_city 82 = .ok (.iadd, 1) := by decide +kernel
theorem dX9_city_83 : decode cX9_city 83 = .ok (.iastore, 1) := by decide +kernel
theorem dX9_city_84 : decode cX9_city 84 = .ok (.goto (-71), 3) := by decide +kernel
theorem dX9_city_87 : decode cX9_city 87 = .ok (.aload_n 0, 1) := by decide +kernel
theorem dX9_city_88 : decode cX9_city 88 = .ok (.invokevirtual 240, 3) := by decide +kernel
theorem dX9_city_91 : decode cX9_city 91 = .ok (.aload_n 0, 1) := by decide +kernel
theorem dX9_city_92 : decode cX9_city 92 = .ok (.getfield 144, 3) := by decide +kernel
theorem dX9_city_95 : decode cX9_city 95 = .ok (.ifCond .eq 6, 3) := by decide +kernel
theorem dX9_city_98 : decode cX9_city 98 = .ok (.bipush (-4), 2) := by decide +kernel
theorem dX9_city_100 : decode cX9_city 100 = .ok (.ireturn, 1) := by decide +kernel
theorem dX9_city_101 : decode cX9_city 101 = .ok (.aload_n 0, 1) := by decide +kernel
theorem dX9_city_102 : decode cX9_city 102 = .ok (.iconst 4, 1) := by decide +kernel
theorem dX9_city_103 : decode cX9_city 103 = .ok (.iconst 0, 1) := by decide +kernel
theorem dX9_city_104 : decode cX9_city 104 = .ok (.invokevirtual 243, 3) := by decide +kernel
theorem dX9_city_107 : decode cX9_city 107 = .ok (.aload_n 0, 1) := by decide +kernel
theorem dX9_city_108 : decode cX9_city 108 = .ok (.getfield 31, 3) := by decide +kernel
theorem dX9_city_111 : decode cX9_city 111 = .ok (.iconst 0, 1) := by decide +kernel
theorem dX9_city_112 : decode cX9_city 112 = .ok (.iaload, 1) := by decide +kernel
theorem dX9_city_113 : decode cX9_city 113 = .ok (.ireturn, 1) := by decide +kernel
theorem dX9_copyRow_0 : decode cX9_copyRow 0 = .ok (.iconst 0, 1) := by decide +kernel
theorem dX9_copyRow_1 : decode cX9_copyRow 1 = .ok (.istore 4, 2) := by decide +kernel
theorem dX9_copyRow_3 : decode cX9_copyRow 3 = .ok (.iload 4, 2) := by decide +kernel
theorem dX9_copyRow_5 : decode cX9_copyRow 5 = .ok (.iload_n 1, 1) := by decide +kernel
theorem dX9_copyRow_6 : decode cX9_copyRow 6 = .ok (.if_icmp .ge 25, 3) := by decide +kernel
theorem dX9_copyRow_9 : decode cX9_copyRow 9 = .ok (.aload_n 0, 1) := by decide +kernel
theorem dX9_copyRow_10 : decode cX9_copyRow 10 = .ok (.iload_n 1, 1) := by decide +kernel
theorem dX9_copyRow_11 : decode cX9_copyRow 11 = .ok (.iload_n 3, 1) := by decide +kernel
theorem dX9_copyRow_12 : decode cX9_copyRow 12 = .ok (.imul, 1) := by decide +kernel
theorem dX9_copyRow_13 : decode cX9_copyRow 13 = .ok (.iload 4, 2) := by decide +kernel
theorem dX9_copyRow_15 : decode cX9_copyRow 15 = .ok (.iadd, 1) := by decide +kernel
theorem dX9_copyRow_16 : decode cX9_copyRow 16 = .ok (.aload_n 0, 1) := by decide +kernel
theorem dX9_copyRow_17 : decode cX9_copyRow 17 = .ok (.iload_n 1, 1) := by decide +kernel
theorem dX9_copyRow_18 : decode cX9_copyRow 18 = .ok (.iload_n 2, 1) := by decide +kernel
theorem dX9_copyRow_19 : decode cX9_copyRow 19 = .ok (.imul, 1) := by decide +kernel
theorem dX9_copyRow_20 : decode cX9_copyRow 20 = .ok (.iload 4, 2) := by decide +kernel
theorem dX9_copyRow_22 : decode cX9_copyRow 22 = .ok (.iadd, 1) := by decide +kernel
theorem dX9_copyRow_23 : decode cX9_copyRow 23 = .ok (.iaload, 1) := by decide +kernel
theorem dX9_copyRow_24 : decode cX9_copyRow 24 = .ok (.iastore, 1) := by decide +kernel
theorem dX9_copyRow_25 : decode cX9_copyRow 25 = .ok (.iinc 4 1, 3) := by decide +kernel
theorem dX9_copyRow_28 : decode cX9_copyRow 28 = .ok (.goto (-25), 3) := by decide +kernel
theorem dX9_copyRow_31 : decode cX9_copyRow 31 = .ok (.return_, 1) := by decide +kernel
set_option maxRecDepth 20000 in
theorem ggX9_copyCity_X9_copyRow : GoodIn wsX9_copyCity wsX9_copyRow := goodIn_r _ [14] (by decide +kernel) (by decide +kernel)
set_option maxRecDepth 20000 in
theorem gX9_copyCity_X9_copyRow : GoodIn wsX9_copyCity (va_wsS RX9 247 yX9_copyRow wsX9_copyRow) := goodIn_app (goodIn_of _ (by decide +kernel)) ggX9_copyCity_X9_copyRow
theorem dX9_copyCity_0 : decode cX9_copyCity 0 = .ok (.aload_n 0, 1) := by decide +kernel
theorem dX9_copyCity_1 : decode cX9_copyCity 1 = .ok (.getfield 31, 3) := by decide +kernel
theorem dX9_copyCity_4 : decode cX9_copyCity 4 = .ok (.iconst 1, 1) := by decide +kernel
theorem dX9_copyCity_5 : decode cX9_copyCity 5 = .ok (.iload_n 1, 1) := by decide +kernel
theorem dX9_copyCity_6 : decode cX9_copyCity 6 = .ok (.iload_n 2, 1) := by decide +kernel
theorem dX9_copyCity_7 : decode cX9_copyCity 7 = .ok (.invokestatic 247, 3) := by decide +kernel
theorem dX9_copyCity_10 : decode cX9_copyCity 10 = .ok (.aload_n 0, 1) := by decide +kernel
theorem dX9_copyCity_11 : decode cX9_copyCity 11 = .ok (.getfield 34, 3) := by decide +kernel
theorem dX9_copyCity_14 : decode cX9_copyCity 14 = .ok (.iconst 1, 1) := by decide +kernel
theorem dX9_copyCity_15 : decode cX9_copyCity 15 = .ok (.iload_n 1, 1) := by decide +kernel
theorem dX9_copyCity_16 : decode cX9_copyCity 16 = .ok (.iload_n 2, 1) := by decide +kernel
theorem dX9_copyCity_17 : decode cX9_copyCity 17 = .ok (.invokestatic 247, 3) := by decide +kernel
theorem dX9_copyCity_20 : decode cX9_copyCity 20 = .ok (.aload_n 0, 1) := by decide +kernel
theorem dX9_copyCity_21 : decode cX9_copyCity 21 = .ok (.getfield 37, 3) := by decide +kernel
theorem dX9_copyCity_24 : decode cX9_copyCity 24 = .ok (.bipush 6, 2) := by decide +kernel
theorem dX9_copyCity_26 : decode cX9_copyCity 26 = .ok (.iload_n 1, 1) := by decide +kernel
theorem dX9_copyCity_27 : decode cX9_copyCity 27 = .ok (.iload_n 2, 1) := by decide +kernel
theorem dX9_copyCity_28 : decode cX9_copyCity 28 = .ok (.invokestatic 247, 3) := by decide +kernel
theorem dX9_copyCity_31 : decode cX9_copyCity 31 = .ok (.aload_n 0, 1) := by decide +kernel
theorem dX9_copyCity_32 : decode cX9_copyCity 32 = .ok (.getfield 40, 3) := by decide +kernel
theorem dX9_copyCity_35 : decode cX9_copyCity 35 = .ok (.bipush 6, 2) := by decide +kernel
theorem dX9_copyCity_37 : decode cX9_copyCity 37 = .ok (.iload_n 1, 1) := by decide +kernel
theorem dX9_copyCity_38 : decode cX9_copyCity 38 = .ok (.iload_n 2, 1) := by decide +kernel
theorem dX9_copyCity_39 : decode cX9_copyCity 39 = .ok (.invokestatic 247, 3) := by decide +kernel
theorem dX9_copyCity_42 : decode cX9_copyCity 42 = .ok (.aload_n 0, 1) := by decide +kernel
theorem dX9_copyCity_43 : decode cX9_copyCity 43 = .ok (.getfield 43, 3) := by decide +kernel
theorem dX9_copyCity_46 : decode cX9_copyCity 46 = .ok (.bipush 48, 2) := by decide +kernel
theorem dX9_copyCity_48 : decode cX9_copyCity 48 = .ok (.iload_n 1, 1) := by decide +kernel
theorem dX9_copyCity_49 : decode cX9_copyCity 49 = .ok (.iload_n 2, 1) := by decide +kernel
theorem dX9_copyCity_50 : decode cX9_copyCity 50 = .ok (.invokestatic 247, 3) := by decide +kernel
theorem dX9_copyCity_53 : decode cX9_copyCity 53 = .ok (.aload_n 0, 1) := by decide +kernel
theorem dX9_copyCity_54 : decode cX9_copyCity 54 = .ok (.getfield 46, 3) := by decide +kernel
theorem dX9_copyCity_57 : decode cX9_copyCity 57 = .ok (.bipush 48, 2) := by decide +kernel
theorem dX9_copyCity_59 : decode cX9_copyCity 59 = .ok (.iload_n 1, 1) := by decide +kernel
theorem dX9_copyCity_60 : decode cX9_copyCity 60 = .ok (.iload_n 2, 1) := by decide +kernel
theorem dX9_copyCity_61 : decode cX9_copyCity 61 = .ok (.invokestatic 247, 3) := by decide +kernel
theorem dX9_copyCity_64 : decode cX9_copyCity 64 = .ok (.aload_n 0, 1) := by decide +kernel
theorem dX9_copyCity_65 : decode cX9_copyCity 65 = .ok (.getfield 49, 3) := by decide +kernel
theorem dX9_copyCity_68 : decode cX9_copyCity 68 = .ok (.iconst 2, 1) := by decide +kernel
theorem dX9_copyCity_69 : decode cX9_copyCity 69 = .ok (.iload_n 1, 1) := by decide +kernel
theorem dX9_copyCity_70 : decode cX9_copyCity 70 = .ok (.iload_n 2, 1) := by decide +kernel
theorem dX9_copyCity_71 : decode cX9_copyCity 71 = .ok (.invokestatic 247, 3) := by decide +kernel
theorem dX9_copyCity_74 : decode cX9_copyCity 74 = .ok (.aload_n 0, 1) := by decide +kernel
theorem dX9_copyCity_75 : decode cX9_copyCity 75 = .ok (.getfield 52, 3) := by decide +kernel
theorem dX9_copyCity_78 : decode cX9_copyCity 78 = .ok (.bipush 12, 2) := by decide +kernel
theorem dX9_copyCity_80 : decode cX9_copyCity 80 = .ok (.iload_n 1, 1) := by decide +kernel
theorem dX9_copyCity_81 : decode cX9_copyCity 81 = .ok (.iload_n 2, 1) := by decide +kernel
theorem dX9_copyCity_82 : decode cX9_copyCity 82 = .ok (.invokestatic 247, 3) := by decide +kernel
theorem dX9_copyCity_85 : decode cX9_copyCity 85 = .ok (.aload_n 0, 1) := by decide +kernel
theorem dX9_copyCity_86 : decode cX9_copyCity 86 = .ok (.getfield 55, 3) := by decide +kernel
theorem dX9_copyCity_89 : decode cX9_copyCity 89 = .ok (.bipush 24, 2) := by decide +kernel
theorem dX9_copyCity_91 : decode cX9_copyCity 91 = .ok (.iload_n 1, 1) := by decide +kernel
theorem dX9_copyCity_92 : decode cX9_copyCity 92 = .ok (.iload_n 2, 1) := by decide +kernel
theorem dX9_copyCity_93 : decode cX9_copyCity 93 = .ok (.invokestatic 247, 3) := by decide +kernel
theorem dX9_copyCity_96 : decode cX9_copyCity 96 = .ok (.aload_n 0, 1) := by decide +kernel
theorem dX9_copyCity_97 : decode cX9_copyCity 97 = .ok (.getfield 58, 3) := by decide +kernel
theorem dX9_copyCity_100 : decode cX9_copyCity 100 = .ok (.iconst 2, 1) := by decide +kernel
theorem dX9_copyCity_101 : decode cX9_copyCity 101 = .ok (.iload_n 1, 1) := by decide +kernel
theorem dX9_copyCity_102 : decode cX9_copyCity 102 = .ok (.iload_n 2, 1) := by decide +kernel
theorem dX9_copyCity_103 : decode cX9_copyCity 103 = .ok (.invokestatic 247, 3) := by decide +kernel
theorem dX9_copyCity_106 : decode cX9_copyCity 106 = .ok (.return_, 1) := by decide +kernel
theorem dX9_isCity_0 : decode cX9_isCity 0 = .ok (.aload_n 0, 1) := by decide +kernel
theorem dX9_isCity_1 : decode cX9_isCity 1 = .ok (.getfield 34, 3) := by decide +kernel
theorem dX9_isCity_4 : decode cX9_isCity 4 = .ok (.iconst 0, 1) := by decide +kernel
theorem dX9_isCity_5 : decode cX9_isCity 5 = .ok (.iaload, 1) := by decide +kernel
theorem dX9_isCity_6 : decode cX9_isCity 6 = .ok (.ifCond .le 7, 3) := by decide +kernel
theorem dX9_isCity_9 : decode cX9_isCity 9 = .ok (.iconst 1, 1) := by decide +kernel
theorem dX9_isCity_10 : decode cX9_isCity 10 = .ok (.goto 4, 3) := by decide +kernel
theorem dX9_isCity_13 : decode cX9_isCity 13 = .ok (.iconst 0, 1) := by decide +kernel
theorem dX9_isCity_14 : decode cX9_isCity 14 = .ok (.ireturn, 1) := by decide +kernel
set_option maxRecDepth 20000 in
theorem ggX9_isRoof_X9_in : GoodIn wsX9_isRoof wsX9_in := goodIn_r _ [5] (by decide +kernel) (by decide +kernel)
set_option maxRecDepth 20000 in
theorem gX9_isRoof_X9_in : GoodIn wsX9_isRoof (va_wsS RX9 97 yX9_in wsX9_in) := goodIn_app (goodIn_of _ (by decide +kernel)) ggX9_isRoof_X9_in
theorem dX9_isRoof_0 : decode cX9_isRoof 0 = .ok (.iload_n 1, 1) := by decide +kernel
theorem dX9_isRoof_1 : decode cX9_isRoof 1 = .ok (.i2l, 1) := by decide +kernel
theorem dX9_isRoof_2 : decode cX9_isRoof 2 = .ok (.lconst 0, 1) := by decide +kernel
theorem dX9_isRoof_3 : decode cX9_isRoof 3 = .ok (.aload_n 0, 1) := by decide +kernel
theorem dX9_isRoof_4 : decode cX9_isRoof 4 = .ok (.getfield 34, 3) := by decide +kernel
theorem dX9_isRoof_7 : decode cX9_isRoof 7 = .ok (.iconst 0, 1) := by decide +kernel
theorem dX9_isRoof_8 : decode cX9_isRoof 8 = .ok (.iaload, 1) := by decide +kernel
theorem dX9_isRoof_9 : decode cX9_isRoof 9 = .ok (.iconst 1, 1) := by decide +kernel
theorem dX9_isRoof_10 : decode cX9_isRoof 10 = .ok (.isub, 1) := by decide +kernel
theorem dX9_isRoof_11 : decode cX9_isRoof 11 = .ok (.i2l, 1) := by decide +kernel
theorem dX9_isRoof_12 : decode cX9_isRoof 12 = .ok (.invokestatic 97, 3) := by decide +kernel
theorem dX9_isRoof_15 : decode cX9_isRoof 15 = .ok (.ireturn, 1) := by decide +kernel
set_option maxRecDepth 20000 in
theorem ggX9_isBeat_X9_in : GoodIn wsX9_isBeat wsX9_in := goodIn_r _ [5] (by decide +kernel) (by decide +kernel)
set_option maxRecDepth 20000 in
theorem gX9_isBeat_X9_in : GoodIn wsX9_isBeat (va_wsS RX9 97 yX9_in wsX9_in) := goodIn_app (goodIn_of _ (by decide +kernel)) ggX9_isBeat_X9_in
theorem dX9_isBeat_0 : decode cX9_isBeat 0 = .ok (.iload_n 0, 1) := by decide +kernel
theorem dX9_isBeat_1 : decode cX9_isBeat 1 = .ok (.i2l, 1) := by decide +kernel
theorem dX9_isBeat_2 : decode cX9_isBeat 2 = .ok (.lconst 0, 1) := by decide +kernel
theorem dX9_isBeat_3 : decode cX9_isBeat 3 = .ok (.ldc2_w 251, 3) := by decide +kernel
theorem dX9_isBeat_6 : decode cX9_isBeat 6 = .ok (.invokestatic 97, 3) := by decide +kernel
theorem dX9_isBeat_9 : decode cX9_isBeat 9 = .ok (.ireturn, 1) := by decide +kernel
theorem dX9_placeOf_0 : decode cX9_placeOf 0 = .ok (.iload_n 2, 1) := by decide +kernel
theorem dX9_placeOf_1 : decode cX9_placeOf 1 = .ok (.aload_n 0, 1) := by decide +kernel
theorem dX9_placeOf_2 : decode cX9_placeOf 2 = .ok (.getfield 40, 3) := by decide +kernel
theorem dX9_placeOf_5 : decode cX9_placeOf 5 = .ok (.iload_n 1, 1) := by decide +kernel
theorem dX9_placeOf_6 : decode cX9_placeOf 6 = .ok (.iaload, 1) := by decide +kernel
theorem dX9_placeOf_7 : decode cX9_placeOf 7 = .ok (.irem, 1) := by decide +kernel
theorem dX9_placeOf_8 : decode cX9_placeOf 8 = .ok (.istore_n 3, 1) := by decide +kernel
theorem dX9_placeOf_9 : decode cX9_placeOf 9 = .ok (.bipush 8, 2) := by decide +kernel
theorem dX9_placeOf_11 : decode cX9_placeOf 11 = .ok (.iload_n 1, 1) := by decide +kernel
theorem dX9_placeOf_12 : decode cX9_placeOf 12 = .ok (.imul, 1) := by decide +kernel
theorem dX9_placeOf_13 : decode cX9_placeOf 13 = .ok (.iload_n 3, 1) := by decide +kernel
theorem dX9_placeOf_14 : decode cX9_placeOf 14 = .ok (.ifCond .ge 14, 3) := by decide +kernel
theorem dX9_placeOf_17 : decode cX9_placeOf 17 = .ok (.iload_n 3, 1) := by decide +kernel
theorem dX9_placeOf_18 : decode cX9_placeOf 18 = .ok (.aload_n 0, 1) := by decide +kernel
theorem dX9_placeOf_19 : decode cX9_placeOf 19 = .ok (.getfield 40, 3) := by decide +kernel
theorem dX9_placeOf_22 : decode cX9_placeOf 22 = .ok (.iload_n 1, 1) := by decide +kernel
theorem dX9_placeOf_23 : decode cX9_placeOf 23 = .ok (.iaload, 1) := by decide +kernel
theorem dX9_placeOf_24 : decode cX9_placeOf 24 = .ok (.iadd, 1) := by decide +kernel
theorem dX9_placeOf_25 : decode cX9_placeOf 25 = .ok (.goto 4, 3) := by decide +kernel
theorem dX9_placeOf_28 : decode cX9_placeOf 28 = .ok (.iload_n 3, 1) := by decide +kernel
theorem dX9_placeOf_29 : decode cX9_placeOf 29 = .ok (.iadd, 1) := by decide +kernel
theorem dX9_placeOf_30 : decode cX9_placeOf 30 = .ok (.ireturn, 1) := by decide +kernel
set_option maxRecDepth 20000 in
theorem ggX9_highOf_X9_placeOf : GoodIn wsX9_highOf wsX9_placeOf := goodIn_r _ [6, 7, 8, 9, 10, 11, 12, 13, 14, 15, 16, 17, 18, 19, 20, 21, 22, 23, 24, 25, 26, 27, 28, 29, 30, 31, 32, 33, 34, 35, 36, 37, 38, 39, 40, 41, 42, 43, 44, 45, 46, 47, 48, 49, 50, 51, 52, 53] (by decide +kernel) (by decide +kernel)
set_option maxRecDepth 20000 in
theorem gX9_highOf_X9_placeOf : GoodIn wsX9_highOf (wsV RX9 253 RX9 yX9_placeOf wsX9_placeOf) := goodIn_app (goodIn_of _ (by decide +kernel)) ggX9_highOf_X9_placeOf
theorem dX9_highOf_0 : decode cX9_highOf 0 = .ok (.aload_n 0, 1) := by decide +kernel
theorem dX9_highOf_1 : decode cX9_highOf 1 = .ok (.getfield 43, 3) := by decide +kernel
theorem dX9_highOf_4 : decode cX9_highOf 4 = .ok (.aload_n 0, 1) := by decide +kernel
theorem dX9_highOf_5 : decode cX9_highOf 5 = .ok (.iload_n 1, 1) := by decide +kernel
theorem dX9_highOf_6 : decode cX9_highOf 6 = .ok (.iload_n 2, 1) := by decide +kernel
theorem dX9_highOf_7 : decode cX9_highOf 7 = .ok (.invokevirtual 253, 3) := by decide +kernel
theorem dX9_highOf_10 : decode cX9_highOf 10 = .ok (.iaload, 1) := by decide +kernel
theorem dX9_highOf_11 : decode cX9_highOf 11 = .ok (.ireturn, 1) := by decide +kernel
set_option maxRecDepth 20000 in
theorem ggX9_toOf_X9_placeOf : GoodIn wsX9_toOf wsX9_placeOf := goodIn_r _ [6, 7, 8, 9, 10, 11, 12, 13, 14, 15, 16, 17, 18, 19, 20, 21, 22, 23, 24, 25, 26, 27, 28, 29, 30, 31, 32, 33, 34, 35, 36, 37, 38, 39, 40, 41, 42, 43, 44, 45, 46, 47, 48, 49, 50, 51, 52, 53] (by decide +kernel) (by decide +kernel)
set_option maxRecDepth 20000 in
theorem gX9_toOf_X9_placeOf : GoodIn wsX9_toOf (wsV RX9 253 RX9 yX9_placeOf wsX9_placeOf) := goodIn_app (goodIn_of _ (by decide +kernel)) ggX9_toOf_X9_placeOf
theorem dX9_toOf_0 : decode cX9_toOf 0 = .ok (.aload_n 0, 1) := by decide +kernel
theorem dX9_toOf_1 : decode cX9_toOf 1 = .ok (.getfield 46, 3) := by decide +kernel
theorem dX9_toOf_4 : decode cX9_toOf 4 = .ok (.aload_n 0, 1) := by decide +kernel
theorem dX9_toOf_5 : decode cX9_toOf 5 = .ok (.iload_n 1, 1) := by decide +kernel
theorem dX9_toOf_6 : decode cX9_toOf 6 = .ok (.iload_n 2, 1) := by decide +kernel
theorem dX9_toOf_7 : decode cX9_toOf 7 = .ok (.invokevirtual 253, 3) := by decide +kernel
theorem dX9_toOf_10 : decode cX9_toOf 10 = .ok (.iaload, 1) := by decide +kernel
theorem dX9_toOf_11 : decode cX9_toOf 11 = .ok (.ireturn, 1) := by decide +kernel
set_option maxRecDepth 20000 in
theorem ggX9_tosses_X9_isRoof : GoodIn wsX9_tosses wsX9_isRoof := goodIn_r _ [8, 9, 10, 11, 7, 12, 32, 33, 34, 35, 36, 37, 38, 39, 40, 41, 42, 43, 44, 45, 46, 47, 48, 49, 50, 51, 52, 53, 54, 55, 56, 57, 58, 59, 60, 61, 62, 63, 64, 65, 66, 67, 68, 69, 70, 71, 72, 73, 74, 75, 76, 77] (by decide +kernel) (by decide +kernel)
set_option maxRecDepth 20000 in
theorem gX9_tosses_X9_isRoof : GoodIn wsX9_tosses (wsV RX9 256 RX9 yX9_isRoof wsX9_isRoof) := goodIn_app (goodIn_of _ (by decide +kernel)) ggX9_tosses_X9_isRoof
set_option maxRecDepth 20000 in
theorem ggX9_tosses_X9_isBeat : GoodIn wsX9_tosses wsX9_isBeat := goodIn_r _ [15, 16, 10, 11, 7, 12] (by decide +kernel) (by decide +kernel)
set_option maxRecDepth 20000 in
theorem gX9_tosses_X9_isBeat : GoodIn wsX9_tosses (va_wsS RX9 259 yX9_isBeat wsX9_isBeat) := goodIn_app (goodIn_of _ (by decide +kernel)) ggX9_tosses_X9_isBeat
set_option maxRecDepth 20000 in
theorem ggX9_tosses_X9_in : GoodIn wsX9_tosses wsX9_in := goodIn_r _ [12] (by decide +kernel) (by decide +kernel)
set_option maxRecDepth 20000 in
theorem gX9_tosses_X9_in : GoodIn wsX9_tosses (va_wsS RX9 97 yX9_in wsX9_in) := goodIn_app (goodIn_of _ (by decide +kernel)) ggX9_tosses_X9_in
set_option maxRecDepth 20000 in
theorem ggX9_tosses_X9_highOf : GoodIn wsX9_tosses wsX9_highOf := goodIn_r _ [20, 21, 22, 23, 24, 7, 25, 26, 32, 33, 34, 35, 36, 37, 38, 39, 40, 41, 42, 43, 44, 45, 46, 47, 48, 49, 50, 51, 52, 53, 54, 55, 56, 57, 58, 59, 60, 61, 62, 63, 64, 65, 66, 67, 68, 69, 70, 71, 72, 73, 74, 75, 76, 77] (by decide +kernel) (by decide +kernel)
set_option maxRecDepth 20000 in
theorem gX9_tosses_X9_highOf : GoodIn wsX9_tosses (wsV RX9 264 RX9 yX9_highOf wsX9_highOf) := goodIn_app (goodIn_of _ (by decide +kernel)) ggX9_tosses_X9_highOf
set_option maxRecDepth 20000 in
theorem ggX9_tosses_X9_toOf : GoodIn wsX9_tosses wsX9_toOf := goodIn_r _ [30, 31, 22, 23, 24, 7, 25, 26, 32, 33, 34, 35, 36, 37, 38, 39, 40, 41, 42, 43, 44, 45, 46, 47, 48, 49, 50, 51, 52, 53, 54, 55, 56, 57, 58, 59, 60, 61, 62, 63, 64, 65, 66, 67, 68, 69, 70, 71, 72, 73, 74, 75, 76, 77] (by decide +kernel) (by decide +kernel)
set_option maxRecDepth 20000 in
theorem gX9_tosses_X9_toOf : GoodIn wsX9_tosses (wsV RX9 267 RX9 yX9_toOf wsX9_toOf) := goodIn_app (goodIn_of _ (by decide +kernel)) ggX9_tosses_X9_toOf
theorem dX9_tosses_0 : decode cX9_tosses 0 = .ok (.aload_n 0, 1) := by decide +kernel
theorem dX9_tosses_1 : decode cX9_tosses 1 = .ok (.iconst 0, 1) := by decide +kernel
theorem dX9_tosses_2 : decode cX9_tosses 2 = .ok (.putfield 92, 3) := by decide +kernel
theorem dX9_tosses_5 : decode cX9_tosses 5 = .ok (.aload_n 0, 1) := by decide +kernel
theorem dX9_tosses_6 : decode cX9_tosses 6 = .ok (.iload_n 1, 1) := by decide +kernel
theorem dX9_tosses_7 : decode cX9_tosses 7 = .ok (.invokevirtual 256, 3) := by decide +kernel
theorem dX9_tosses_10 : decode cX9_tosses 10 = .ok (.ifCond .eq 22, 3) := by decide +kernel
theorem dX9_tosses_13 : decode cX9_tosses 13 = .ok (.iload_n 2, 1) := by decide +kernel
theorem dX9_tosses_14 : decode cX9_tosses 14 = .ok (.invokestatic 259, 3) := by decide +kernel
theorem dX9_tosses_17 : decode cX9_tosses 17 = .ok (.ifCond .eq 15, 3) := by decide +kernel
theorem dX9_tosses_20 : decode cX9_tosses 20 = .ok (.iload_n 3, 1) := by decide +kernel
theorem dX9_tosses_21 : decode cX9_tosses 21 = .ok (.i2l, 1) := by decide +kernel
theorem dX9_tosses_22 : decode cX9_tosses 22 = .ok (.lconst 0, 1) := by decide +kernel
theorem dX9_tosses_23 : decode cX9_tosses 23 = .ok (.ldc2_w 262, 3) := by decide +kernel
theorem dX9_tosses_26 : decode cX9_tosses 26 = .ok (.invokestatic 97, 3) := by decide +kernel
theorem dX9_tosses_29 : decode cX9_tosses 29 = .ok (.ifCond .ne 6, 3) := by decide +kernel
theorem dX9_tosses_32 : decode cX9_tosses 32 = .ok (.bipush (-2), 2) := by decide +kernel
theorem dX9_tosses_34 : decode cX9_tosses 34 = .ok (.ireturn, 1) := by decide +kernel
theorem dX9_tosses_35 : decode cX9_tosses 35 = .ok (.iload_n 3, 1) := by decide +kernel
theorem dX9_tosses_36 : decode cX9_tosses 36 = .ok (.ifCond .ne 12, 3) := by decide +kernel
theorem dX9_tosses_39 : decode cX9_tosses 39 = .ok (.aload_n 0, 1) := by decide +kernel
theorem dX9_tosses_40 : decode cX9_tosses 40 = .ok (.iload_n 1, 1) := by decide +kernel
theorem dX9_tosses_41 : decode cX9_tosses 41 = .ok (.iload_n 2, 1) := by decide +kernel
theorem dX9_tosses_42 : decode cX9_tosses 42 = .ok (.invokevirtual 264, 3) := by decide +kernel
theorem dX9_tosses_45 : decode cX9_tosses 45 = .ok (.goto 38, 3) := by decide +kernel
theorem dX9_tosses_48 : decode cX9_tosses 48 = .ok (.iload_n 3, 1) := by decide +kernel
theorem dX9_tosses_49 : decode cX9_tosses 49 = .ok (.iconst 1, 1) := by decide +kernel
theorem dX9_tosses_50 : decode cX9_tosses 50 = .ok (.if_icmp .ne 12, 3) := by decide +kernel
theorem dX9_tosses_53 : decode cX9_tosses 53 = .ok (.aload_n 0, 1) := by decide +kernel
theorem dX9_tosses_54 : decode cX9_tosses 54 = .ok (.iload_n 1, 1) := by decide +kernel
theorem dX9_tosses_55 : decode cX9_tosses 55 = .ok (.iload_n 2, 1) := by decide +kernel
theorem dX9_tosses_56 : decode cX9_tosses 56 = .ok (.invokevirtual 267, 3) := by decide +kernel
theorem dX9_tosses_59 : decode cX9_tosses 59 = .ok (.goto 24, 3) := by decide +kernel
theorem dX9_tosses_62 : decode cX9_tosses 62 = .ok (.aload_n 0, 1) := by decide +kernel
theorem dX9_tosses_63 : decode cX9_tosses 63 = .ok (.getfield 37, 3) := by decide +kernel
theorem dX9_tosses_66 : decode cX9_tosses 66 = .ok (.iload_n 1, 1) := by decide +kernel
theorem dX9_tosses_67 : decode cX9_tosses 67 = .ok (.iaload, 1) := by decide +kernel
theorem dX9_tosses_68 : decode cX9_tosses 68 = .ok (.iconst 1, 1) := by decide +kernel
theorem dX9_tosses_69 : decode cX9_tosses 69 = .ok (.if_icmp .ne 11, 3) := by decide +kernel
theorem dX9_tosses_72 : decode cX9_tosses 72 = .ok (.iconst 1, 1) := by decide +kernel
theorem dX9_tosses_73 : decode cX9_tosses 73 = .ok (.iload_n 2, 1) := by decide +kernel
theorem dX9_tosses_74 : decode cX9_tosses 74 = .ok (.iconst 2, 1) := by decide +kernel
theorem dX9_tosses_75 : decode cX9_tosses 75 = .ok (.irem, 1) := by decide +kernel
theorem dX9_tosses_76 : decode cX9_tosses 76 = .ok (.isub, 1) := by decide +kernel
theorem dX9_tosses_77 : decode cX9_tosses 77 = .ok (.goto 6, 3) := by decide +kernel
theorem dX9_tosses_80 : decode cX9_tosses 80 = .ok (.iload_n 2, 1) := by decide +kernel
theorem dX9_tosses_81 : decode cX9_tosses 81 = .ok (.iconst 2, 1) := by decide +kernel
theorem dX9_tosses_82 : decode cX9_tosses 82 = .ok (.irem, 1) := by decide +kernel
theorem dX9_tosses_83 : decode cX9_tosses 83 = .ok (.ireturn, 1) := by decide +kernel
set_option maxRecDepth 20000 in
theorem ggX9_period_X9_isRoof : GoodIn wsX9_period wsX9_isRoof := goodIn_r _ [7, 8, 9, 10, 6, 11, 12, 13, 14, 15, 16, 17, 18, 19, 20, 21, 22, 23, 24, 25, 26, 27, 28, 29, 30, 31, 32, 33, 34, 35, 36, 37, 38, 39, 40, 41, 42, 43, 44, 45, 46, 47, 48, 49, 50, 51, 52, 53, 54, 55, 56, 57] (by decide +kernel) (by decide +kernel)
set_option maxRecDepth 20000 in
theorem gX9_period_X9_isRoof : GoodIn wsX9_period (wsV RX9 256 RX9 yX9_isRoof wsX9_isRoof) := goodIn_app (goodIn_of _ (by decide +kernel)) ggX9_period_X9_isRoof
theorem dX9_period_0 : decode cX9_period 0 = .ok (.aload_n 0, 1) := by decide +kernel
theorem dX9_period_1 : decode cX9_period 1 = .ok (.iconst 0, 1) := by decide +kernel
theorem dX9_period_2 : decode cX9_period 2 = .ok (.putfield 92, 3) := by decide +kernel
theorem dX9_period_5 : decode cX9_period 5 = .ok (.aload_n 0, 1) := by decide +kernel
theorem dX9_period_6 : decode cX9_period 6 = .ok (.iload_n 1, 1) := by decide +kernel
theorem dX9_period_7 : decode cX9_period 7 = .ok (.invokevirtual 256, 3) := by decide +kernel
theorem dX9_period_10 : decode cX9_period 10 = .ok (.ifCond .eq 12, 3) := by decide +kernel
theorem dX9_period_13 : decode cX9_period 13 = .ok (.aload_n 0, 1) := by decide +kernel
theorem dX9_period_14 : decode cX9_period 14 = .ok (.getfield 40, 3) := by decide +kernel
theorem dX9_period_17 : decode cX9_period 17 = .ok (.iload_n 1, 1) := by decide +kernel
theorem dX9_period_18 : decode cX9_period 18 = .ok (.iaload, 1) := by decide +kernel
theorem dX9_period_19 : decode cX9_period 19 = .ok (.goto 5, 3) := by decide +kernel
theorem dX9_period_22 : decode cX9_period 22 = .ok (.bipush (-2), 2) := by decide +kernel
theorem dX9_period_24 : decode cX9_period 24 = .ok (.ireturn, 1) := by decide +kernel
theorem dX9_round_0 : decode cX9_round 0 = .ok (.iconst 1, 1) := by decide +kernel
theorem dX9_round_1 : decode cX9_round 1 = .ok (.istore_n 1, 1) := by decide +kernel
theorem dX9_round_2 : decode cX9_round 2 = .ok (.iconst 0, 1) := by decide +kernel
theorem dX9_round_3 : decode cX9_round 3 = .ok (.istore_n 2, 1) := by decide +kernel
theorem dX9_round_4 : decode cX9_round 4 = .ok (.iload_n 2, 1) := by decide +kernel
theorem dX9_round_5 : decode cX9_round 5 = .ok (.aload_n 0, 1) := by decide +kernel
theorem dX9_round_6 : decode cX9_round 6 = .ok (.getfield 34, 3) := by decide +kernel
theorem dX9_round_9 : decode cX9_round 9 = .ok (.iconst 0, 1) := by decide +kernel
theorem dX9_round_10 : decode cX9_round 10 = .ok (.iaload, 1) := by decide +kernel
theorem dX9_round_11 : decode cX9_round 11 = .ok (.if_icmp .ge 31, 3) := by decide +kernel
theorem dX9_round_14 : decode cX9_round 14 = .ok (.iload_n 1, 1) := by decide +kernel
theorem dX9_round_15 : decode cX9_round 15 = .ok (.istore_n 3, 1) := by decide +kernel
theorem dX9_round_16 : decode cX9_round 16 = .ok (.iload_n 3, 1) := by decide +kernel
theorem dX9_round_17 : decode cX9_round 17 = .ok (.aload_n 0, 1) := by decide +kernel
theorem dX9_round_18 : decode cX9_round 18 = .ok (.getfield 40, 3) := by decide +kernel
theorem dX9_round_21 : decode cX9_round 21 = .ok (.iload_n 2, 1) := by decide +kernel
theorem dX9_round_22 : decode cX9_round 22 = .ok (.iaload, 1) := by decide +kernel
theorem dX9_round_23 : decode cX9_round 23 = .ok (.irem, 1) := by decide +kernel
theorem dX9_round_24 : decode cX9_round 24 = .ok (.ifCond .eq 10, 3) := by decide +kernel
theorem dX9_round_27 : decode cX9_round 27 = .ok (.iload_n 3, 1) := by decide +kernel
theorem dX9_round_28 : decode cX9_round 28 = .ok (.iload_n 1, 1) := by decide +kernel
theorem dX9_round_29 : decode cX9_round 29 = .ok (.iadd, 1) := by decide +kernel
theorem dX9_round_30 : decode cX9_round 30 = .ok (.istore_n 3, 1) := by decide +kernel
theorem dX9_round_31 : decode cX9_round 31 = .ok (.goto (-15), 3) := by decide +kernel
theorem dX9_round_34 : decode cX9_round 34 = .ok (.iload_n 3, 1) := by decide +kernel
theorem dX9_round_35 : decode cX9_round 35 = .ok (.istore_n 1, 1) := by decide +kernel
theorem dX9_round_36 : decode cX9_round 36 = .ok (.iinc 2 1, 3) := by decide +kernel
theorem dX9_round_39 : decode cX9_round 39 = .ok (.goto (-35), 3) := by decide +kernel
theorem dX9_round_42 : decode cX9_round 42 = .ok (.iload_n 1, 1) := by decide +kernel
theorem dX9_round_43 : decode cX9_round 43 = .ok (.ireturn, 1) := by decide +kernel
set_option maxRecDepth 20000 in
theorem ggX9_turn_X9_isCity : GoodIn wsX9_turn wsX9_isCity := goodIn_r _ [6, 7, 13, 14, 15, 16, 17, 18, 19, 20, 21, 22, 23, 24, 25, 26, 27, 28, 29, 30, 31, 32, 33, 34, 35, 36, 37, 38, 39, 40, 41, 42, 43, 44, 45, 46, 47, 48, 49, 50, 51, 52, 53, 54, 55, 56, 57, 58] (by decide +kernel) (by decide +kernel)
set_option maxRecDepth 20000 in
theorem gX9_turn_X9_isCity : GoodIn wsX9_turn (wsV RX9 270 RX9 yX9_isCity wsX9_isCity) := goodIn_app (goodIn_of _ (by decide +kernel)) ggX9_turn_X9_isCity
set_option maxRecDepth 20000 in
theorem ggX9_turn_X9_round : GoodIn wsX9_turn wsX9_round := goodIn_r _ [11, 7, 12, 13, 14, 15, 16, 17, 18, 19, 20, 21, 22, 23, 24, 25, 26, 27, 28, 29, 30, 31, 32, 33, 34, 35, 36, 37, 38, 39, 40, 41, 42, 43, 44, 45, 46, 47, 48, 49, 50, 51, 52, 53, 54, 55, 56, 57, 58] (by decide +kernel) (by decide +kernel)
set_option maxRecDepth 20000 in
theorem gX9_turn_X9_round : GoodIn wsX9_turn (wsV RX9 273 RX9 yX9_round wsX9_round) := goodIn_app (goodIn_of _ (by decide +kernel)) ggX9_turn_X9_round
theorem dX9_turn_0 : decode cX9_turn 0 = .ok (.aload_n 0, 1) := by decide +kernel
theorem dX9_turn_1 : decode cX9_turn 1 = .ok (.iconst 0, 1) := by decide +kernel
theorem dX9_turn_2 : decode cX9_turn 2 = .ok (.putfield 92, 3) := by decide +kernel
theorem dX9_turn_5 : decode cX9_turn 5 = .ok (.aload_n 0, 1) := by decide +kernel
theorem dX9_turn_6 : decode cX9_turn 6 = .ok (.invokevirtual 270, 3) := by decide +kernel
theorem dX9_turn_9 : decode cX9_turn 9 = .ok (.ifCond .eq 10, 3) := by decide +kernel
theorem dX9_turn_12 : decode cX9_turn 12 = .ok (.aload_n 0, 1) := by decide +kernel
theorem dX9_turn_13 : decode cX9_turn 13 = .ok (.invokevirtual 273, 3) := by decide +kernel
theorem dX9_turn_16 : decode cX9_turn 16 = .ok (.goto 5, 3) := by decide +kernel
theorem dX9_turn_19 : decode cX9_turn 19 = .ok (.bipush (-2), 2) := by decide +kernel
theorem dX9_turn_21 : decode cX9_turn 21 = .ok (.ireturn, 1) := by decide +kernel
set_option maxRecDepth 20000 in
theorem ggX9_isThrow_X9_isRoof : GoodIn wsX9_isThrow wsX9_isRoof := goodIn_r _ [6, 7, 8, 9, 5, 10, 11, 12, 13, 14, 15, 16, 17, 18, 19, 20, 21, 22, 23, 24, 25, 26, 27, 28, 29, 30, 31, 32, 33, 34, 35, 36, 37, 38, 39, 40, 41, 42, 43, 44, 45, 46, 47, 48, 49, 50, 51, 52, 53, 54, 55, 56] (by decide +kernel) (by decide +kernel)
set_option maxRecDepth 20000 in
theorem gX9_isThrow_X9_isRoof : GoodIn wsX9_isThrow (wsV RX9 256 RX9 yX9_isRoof wsX9_isRoof) := goodIn_app (goodIn_of _ (by decide +kernel)) ggX9_isThrow_X9_isRoof
set_option maxRecDepth 20000 in
theorem ggX9_isThrow_X9_in : GoodIn wsX9_isThrow wsX9_in := goodIn_r _ [10] (by decide +kernel) (by decide +kernel)
set_option maxRecDepth 20000 in
theorem gX9_isThrow_X9_in : GoodIn wsX9_isThrow (va_wsS RX9 97 yX9_in wsX9_in) := goodIn_app (goodIn_of _ (by decide +kernel)) ggX9_isThrow_X9_in
theorem dX9_isThrow_0 : decode cX9_isThrow 0 = .ok (.aload_n 0, 1) := by decide +kernel
theorem dX9_isThrow_1 : decode cX9_isThrow 1 = .ok (.iload_n 1, 1) := by decide +kernel
theorem dX9_isThrow_2 : decode cX9_isThrow 2 = .ok (.invokevirtual 256, 3) := by decide +kernel
theorem dX9_isThrow_5 : decode cX9_isThrow 5 = .ok (.ifCond .eq 25, 3) := by decide +kernel
theorem dX9_isThrow_8 : decode cX9_isThrow 8 = .ok (.iload_n 2, 1) := by decide +kernel
theorem dX9_isThrow_9 : decode cX9_isThrow 9 = .ok (.i2l, 1) := by decide +kernel
theorem dX9_isThrow_10 : decode cX9_isThrow 10 = .ok (.lconst 0, 1) := by decide +kernel
theorem dX9_isThrow_11 : decode cX9_isThrow 11 = .ok (.aload_n 0, 1) := by decide +kernel
theorem dX9_isThrow_12 : decode cX9_isThrow 12 = .ok (.getfield 40, 3) := by decide +kernel
theorem dX9_isThrow_15 : decode cX9_isThrow 15 = .ok (.iload_n 1, 1) := by decide +kernel
theorem dX9_isThrow_16 : decode cX9_isThrow 16 = .ok (.iaload, 1) := by decide +kernel
theorem dX9_isThrow_17 : decode cX9_isThrow 17 = .ok (.iconst 1, 1) := by decide +kernel
theorem dX9_isThrow_18 : decode cX9_isThrow 18 = .ok (.isub, 1) := by decide +kernel
theorem dX9_isThrow_19 : decode cX9_isThrow 19 = .ok (.i2l, 1) := by decide +kernel
theorem dX9_isThrow_20 : decode cX9_isThrow 20 = .ok (.invokestatic 97, 3) := by decide +kernel
theorem dX9_isThrow_23 : decode cX9_isThrow 23 = .ok (.ifCond .eq 7, 3) := by decide +kernel
theorem dX9_isThrow_26 : decode cX9_isThrow 26 = .ok (.iconst 1, 1) := by decide +kernel
theorem dX9_isThrow_27 : decode cX9_isThrow 27 = .ok (.goto 4, 3) := by decide +kernel
theorem dX9_isThrow_30 : decode cX9_isThrow 30 = .ok (.iconst 0, 1) := by decide +kernel
theorem dX9_isThrow_31 : decode cX9_isThrow 31 = .ok (.ireturn, 1) := by decide +kernel
set_option maxRecDepth 20000 in
theorem ggX9_set_X9_isThrow : GoodIn wsX9_set wsX9_isThrow := goodIn_r _ [9, 10, 11, 12, 13, 8, 14, 15, 16, 17, 18, 19, 20, 21, 22, 23, 24, 25, 26, 27, 28, 29, 30, 31, 32, 33, 34, 35, 36, 37, 38, 39, 40, 41, 42, 43, 44, 45, 46, 47, 48, 49, 50, 51, 52, 53, 54, 55, 56, 57, 58, 59, 60, 61, 62, 63, 64] (by decide +kernel) (by decide +kernel)
set_option maxRecDepth 20000 in
theorem gX9_set_X9_isThrow : GoodIn wsX9_set (wsV RX9 276 RX9 yX9_isThrow wsX9_isThrow) := goodIn_app (goodIn_of _ (by decide +kernel)) ggX9_set_X9_isThrow
set_option maxRecDepth 20000 in
theorem ggX9_set_X9_in : GoodIn wsX9_set wsX9_in := goodIn_r _ [18] (by decide +kernel) (by decide +kernel)
set_option maxRecDepth 20000 in
theorem gX9_set_X9_in : GoodIn wsX9_set (va_wsS RX9 97 yX9_in wsX9_in) := goodIn_app (goodIn_of _ (by decide +kernel)) ggX9_set_X9_in
set_option maxRecDepth 20000 in
theorem ggX9_set_X9_isRoof : GoodIn wsX9_set wsX9_isRoof := goodIn_r _ [14, 15, 16, 17, 8, 18, 19, 20, 21, 22, 23, 24, 25, 26, 27, 28, 29, 30, 31, 32, 33, 34, 35, 36, 37, 38, 39, 40, 41, 42, 43, 44, 45, 46, 47, 48, 49, 50, 51, 52, 53, 54, 55, 56, 57, 58, 59, 60, 61, 62, 63, 64] (by decide +kernel) (by decide +kernel)
set_option maxRecDepth 20000 in
theorem gX9_set_X9_isRoof : GoodIn wsX9_set (wsV RX9 256 RX9 yX9_isRoof wsX9_isRoof) := goodIn_app (goodIn_of _ (by decide +kernel)) ggX9_set_X9_isRoof
theorem dX9_set_0 : decode cX9_set 0 = .ok (.aload_n 0, 1) := by decide +kernel
theorem dX9_set_1 : decode cX9_set 1 = .ok (.iconst 0, 1) := by decide +kernel
theorem dX9_set_2 : decode cX9_set 2 = .ok (.putfield 92, 3) := by decide +kernel
theorem dX9_set_5 : decode cX9_set 5 = .ok (.aload_n 0, 1) := by decide +kernel
theorem dX9_set_6 : decode cX9_set 6 = .ok (.iload_n 1, 1) := by decide +kernel
theorem dX9_set_7 : decode cX9_set 7 = .ok (.iload_n 2, 1) := by decide +kernel
theorem dX9_set_8 : decode cX9_set 8 = .ok (.invokevirtual 276, 3) := by decide +kernel
theorem dX9_set_11 : decode cX9_set 11 = .ok (.ifCond .eq 34, 3) := by decide +kernel
theorem dX9_set_14 : decode cX9_set 14 = .ok (.iload_n 3, 1) := by decide +kernel
theorem dX9_set_15 : decode cX9_set 15 = .ok (.i2l, 1) := by decide +kernel
theorem dX9_set_16 : decode cX9_set 16 = .ok (.lconst 0, 1) := by decide +kernel
theorem dX9_set_17 : decode cX9_set 17 = .ok (.ldc2_w 182, 3) := by decide +kernel
theorem dX9_set_20 : decode cX9_set 20 = .ok (.invokestatic 97, 3) := by decide +kernel
theorem dX9_set_23 : decode cX9_set 23 = .ok (.ifCond .eq 22, 3) := by decide +kernel
theorem dX9_set_26 : decode cX9_set 26 = .ok (.aload_n 0, 1) := by decide +kernel
theorem dX9_set_27 : decode cX9_set 27 = .ok (.iload 4, 2) := by decide +kernel
theorem dX9_set_29 : decode cX9_set 29 = .ok (.invokevirtual 256, 3) := by decide +kernel
theorem dX9_set_32 : decode cX9_set 32 = .ok (.ifCond .eq 13, 3) := by decide +kernel
theorem dX9_set_35 : decode cX9_set 35 = .ok (.iload_n 3, 1) := by decide +kernel
theorem dX9_set_36 : decode cX9_set 36 = .ok (.ifCond .ne 12, 3) := by decide +kernel
theorem dX9_set_39 : decode cX9_set 39 = .ok (.iload 4, 2) := by decide +kernel
theorem dX9_set_41 : decode cX9_set 41 = .ok (.iload_n 1, 1) := by decide +kernel
theorem dX9_set_42 : decode cX9_set 42 = .ok (.if_icmp .eq 6, 3) := by decide +kernel
theorem dX9_set_45 : decode cX9_set 45 = .ok (.bipush (-2), 2) := by decide +kernel
theorem dX9_set_47 : decode cX9_set 47 = .ok (.ireturn, 1) := by decide +kernel
theorem dX9_set_48 : decode cX9_set 48 = .ok (.bipush 8, 2) := by decide +kernel
theorem dX9_set_50 : decode cX9_set 50 = .ok (.iload_n 1, 1) := by decide +kernel
theorem dX9_set_51 : decode cX9_set 51 = .ok (.imul, 1) := by decide +kernel
theorem dX9_set_52 : decode cX9_set 52 = .ok (.iload_n 2, 1) := by decide +kernel
theorem dX9_set_53 : decode cX9_set 53 = .ok (.iadd, 1) := by decide +kernel
theorem dX9_set_54 : decode cX9_set 54 = .ok (.istore 5, 2) := by decide +kernel
theorem dX9_set_56 : decode cX9_set 56 = .ok (.bipush 10, 2) := by decide +kernel
theorem dX9_set_58 : decode cX9_set 58 = .ok (.aload_n 0, 1) := by decide +kernel
theorem dX9_set_59 : decode cX9_set 59 = .ok (.getfield 43, 3) := by decide +kernel
theorem dX9_set_62 : decode cX9_set 62 = .ok (.iload 5, 2) := by decide +kernel
theorem dX9_set_64 : decode cX9_set 64 = .ok (.iaload, 1) := by decide +kernel
theorem dX9_set_65 : decode cX9_set 65 = .ok (.imul, 1) := by decide +kernel
theorem dX9_set_66 : decode cX9_set 66 = .ok (.aload_n 0, 1) := by decide +kernel
theorem dX9_set_67 : decode cX9_set 67 = .ok (.getfield 46, 3) := by decide +kernel
theorem dX9_set_70 : decode cX9_set 70 = .ok (.iload 5, 2) := by decide +kernel
theorem dX9_set_72 : decode cX9_set 72 = .ok (.iaload, 1) := by decide +kernel
theorem dX9_set_73 : decode cX9_set 73 = .ok (.iadd, 1) := by decide +kernel
theorem dX9_set_74 : decode cX9_set 74 = .ok (.istore 6, 2) := by decide +kernel
theorem dX9_set_76 : decode cX9_set 76 = .ok (.aload_n 0, 1) := by decide +kernel
theorem dX9_set_77 : decode cX9_set 77 = .ok (.getfield 43, 3) := by decide +kernel
theorem dX9_set_80 : decode cX9_set 80 = .ok (.iload 5, 2) := by decide +kernel
theorem dX9_set_82 : decode cX9_set 82 = .ok (.iload_n 3, 1) := by decide +kernel
theorem dX9_set_83 : decode cX9_set 83 = .ok (.iastore, 1) := by decide +kernel
theorem dX9_set_84 : decode cX9_set 84 = .ok (.aload_n 0, 1) := by decide +kernel
theorem dX9_set_85 : decode cX9_set 85 = .ok (.getfield 46, 3) := by decide +kernel
theorem dX9_set_88 : decode cX9_set 88 = .ok (.iload 5, 2) := by decide +kernel
theorem dX9_set_90 : decode cX9_set 90 = .ok (.iload 4, 2) := by decide +kernel
theorem dX9_set_92 : decode cX9_set 92 = .ok (.iastore, 1) := by decide +kernel
theorem dX9_set_93 : decode cX9_set 93 = .ok (.iload 6, 2) := by decide +kernel
theorem dX9_set_95 : decode cX9_set 95 = .ok (.ireturn, 1) := by decide +kernel
set_option maxRecDepth 20000 in
theorem ggX9_swap_X9_isThrow : GoodIn wsX9_swap wsX9_isThrow := goodIn_r _ [9, 10, 11, 12, 13, 8, 14, 15, 16, 17, 18, 19, 20, 21, 22, 23, 24, 25, 26, 27, 28, 29, 30, 31, 32, 33, 34, 35, 36, 37, 38, 39, 40, 41, 42, 43, 44, 45, 46, 47, 48, 49, 50, 51, 52, 53, 54, 55, 56, 57, 58, 59, 60, 61, 62, 63, 64] (by decide +kernel) (by decide +kernel)
set_option maxRecDepth 20000 in
theorem gX9_swap_X9_isThrow : GoodIn wsX9_swap (wsV RX9 276 RX9 yX9_isThrow wsX9_isThrow) := goodIn_app (goodIn_of _ (by decide +kernel)) ggX9_swap_X9_isThrow
set_option maxRecDepth 20000 in
theorem ggX9_swap_X9_in : GoodIn wsX9_swap wsX9_in := goodIn_r _ [18] (by decide +kernel) (by decide +kernel)
set_option maxRecDepth 20000 in
theorem gX9_swap_X9_in : GoodIn wsX9_swap (va_wsS RX9 97 yX9_in wsX9_in) := goodIn_app (goodIn_of _ (by decide +kernel)) ggX9_swap_X9_in
theorem dX9_swap_0 : decode cX9_swap 0 = .ok (.aload_n 0, 1) := by decide +kernel
theorem dX9_swap_1 : decode cX9_swap 1 = .ok (.iconst 0, 1) := by decide +kernel
theorem dX9_swap_2 : decode cX9_swap 2 = .ok (.putfield 92, 3) := by decide +kernel
theorem dX9_swap_5 : decode cX9_swap 5 = .ok (.aload_n 0, 1) := by decide +kernel
theorem dX9_swap_6 : decode cX9_swap 6 = .ok (.iload_n 1, 1) := by decide +kernel
theorem dX9_swap_7 : decode cX9_swap 7 = .ok (.iload_n 2, 1) := by decide +kernel
theorem dX9_swap_8 : decode cX9_swap 8 = .ok (.invokevirtual 276, 3) := by decide +kernel
theorem dX9_swap_11 : decode cX9_swap 11 = .ok (.ifCond .eq 17, 3) := by decide +kernel
theorem dX9_swap_14 : decode cX9_swap 14 = .ok (.aload_n 0, 1) := by decide +kernel
theorem dX9_swap_15 : decode cX9_swap 15 = .ok (.iload_n 1, 1) := by decide +kernel
theorem dX9_swap_16 : decode cX9_swap 16 = .ok (.iload_n 3, 1) := by decide +kernel
theorem dX9_swap_17 : decode cX9_swap 17 = .ok (.invokevirtual 276, 3) := by decide +kernel
theorem dX9_swap_20 : decode cX9_swap 20 = .ok (.ifCond .eq 8, 3) := by decide +kernel
theorem dX9_swap_23 : decode cX9_swap 23 = .ok (.iload_n 2, 1) := by decide +kernel
theorem dX9_swap_24 : decode cX9_swap 24 = .ok (.iload_n 3, 1) := by decide +kernel
theorem dX9_swap_25 : decode cX9_swap 25 = .ok (.if_icmp .ne 6, 3) := by decide +kernel
theorem dX9_swap_28 : decode cX9_swap 28 = .ok (.bipush (-2), 2) := by decide +kernel
theorem dX9_swap_30 : decode cX9_swap 30 = .ok (.ireturn, 1) := by decide +kernel
theorem dX9_swap_31 : decode cX9_swap 31 = .ok (.bipush 8, 2) := by decide +kernel
theorem dX9_swap_33 : decode cX9_swap 33 = .ok (.iload_n 1, 1) := by decide +kernel
theorem dX9_swap_34 : decode cX9_swap 34 = .ok (.imul, 1) := by decide +kernel
theorem dX9_swap_35 : decode cX9_swap 35 = .ok (.iload_n 2, 1) := by decide +kernel
theorem dX9_swap_36 : decode cX9_swap 36 = .ok (.iadd, 1) := by decide +kernel
theorem dX9_swap_37 : decode cX9_swap 37 = .ok (.istore 4, 2) := by decide +kernel
theorem dX9_swap_39 : decode cX9_swap 39 = .ok (.bipush 8, 2) := by decide +kernel
theorem dX9_swap_41 : decode cX9_swap 41 = .ok (.iload_n 1, 1) := by decide +kernel
theorem dX9_swap_42 : decode cX9_swap 42 = .ok (.imul, 1) := by decide +kernel
theorem dX9_swap_43 : decode cX9_swap 43 = .ok (.iload_n 3, 1) := by decide +kernel
theorem dX9_swap_44 : decode cX9_swap 44 = .ok (.iadd, 1) := by decide +kernel
theorem dX9_swap_45 : decode cX9_swap 45 = .ok (.istore 5, 2) := by decide +kernel
theorem dX9_swap_47 : decode cX9_swap 47 = .ok (.aload_n 0, 1) := by decide +kernel
theorem dX9_swap_48 : decode cX9_swap 48 = .ok (.getfield 43, 3) := by decide +kernel
theorem dX9_swap_51 : decode cX9_swap 51 = .ok (.iload 5, 2) := by decide +kernel
theorem dX9_swap_53 : decode cX9_swap 53 = .ok (.iaload, 1) := by decide +kernel
theorem dX9_swap_54 : decode cX9_swap 54 = .ok (.iload_n 3, 1) := by decide +kernel
theorem dX9_swap_55 : decode cX9_swap 55 = .ok (.iadd, 1) := by decide +kernel
theorem dX9_swap_56 : decode cX9_swap 56 = .ok (.iload_n 2, 1) := by decide +kernel
theorem dX9_swap_57 : decode cX9_swap 57 = .ok (.isub, 1) := by decide +kernel
theorem dX9_swap_58 : decode cX9_swap 58 = .ok (.istore 6, 2) := by decide +kernel
theorem dX9_swap_60 : decode cX9_swap 60 = .ok (.aload_n 0, 1) := by decide +kernel
theorem dX9_swap_61 : decode cX9_swap 61 = .ok (.getfield 43, 3) := by decide +kernel
theorem dX9_swap_64 : decode cX9_swap 64 = .ok (.iload 4, 2) := by decide +kernel
theorem dX9_swap_66 : decode cX9_swap 66 = .ok (.iaload, 1) := by decide +kernel
theorem dX9_swap_67 : decode cX9_swap 67 = .ok (.iload_n 2, 1) := by decide +kernel
theorem dX9_swap_68 : decode cX9_swap 68 = .ok (.iadd, 1) := by decide +kernel
theorem dX9_swap_69 : decode cX9_swap 69 = .ok (.iload_n 3, 1) := by decide +kernel
theorem dX9_swap_70 : decode cX9_swap 70 = .ok (.isub, 1) := by decide +kernel
theorem dX9_swap_71 : decode cX9_swap 71 = .ok (.istore 7, 2) := by decide +kernel
theorem dX9_swap_73 : decode cX9_swap 73 = .ok (.aload_n 0, 1) := by decide +kernel
theorem dX9_swap_74 : decode cX9_swap 74 = .ok (.getfield 43, 3) := by decide +kernel
theorem dX9_swap_77 : decode cX9_swap 77 = .ok (.iload 4, 2) := by decide +kernel
theorem dX9_swap_79 : decode cX9_swap 79 = .ok (.iaload, 1) := by decide +kernel
theorem dX9_swap_80 : decode cX9_swap 80 = .ok (.ifCond .eq 39, 3) := by decide +kernel
theorem dX9_swap_83 : decode cX9_swap 83 = .ok (.aload_n 0, 1) := by decide +kernel
theorem dX9_swap_84 : decode cX9_swap 84 = .ok (.getfield 43, 3) := by decide +kernel
theorem dX9_swap_87 : decode cX9_swap 87 = .ok (.iload 5, 2) := by decide +kernel
theorem dX9_swap_89 : decode cX9_swap 89 = .ok (.iaload, 1) := by decide +kernel
theorem dX9_swap_90 : decode cX9_swap 90 = .ok (.ifCond .eq 29, 3) := by decide +kernel
theorem dX9_swap_93 : decode cX9_swap 93 = .ok (.iload 6, 2) := by decide +kernel
theorem dX9_swap_95 : decode cX9_swap 95 = .ok (.i2l, 1) := by decide +kernel
theorem dX9_swap_96 : decode cX9_swap 96 = .ok (.lconst 1, 1) := by decide +kernel
theorem dX9_swap_97 : decode cX9_swap 97 = .ok (.ldc2_w 182, 3) := by decide +kernel
theorem dX9_swap_100 : decode cX9_swap 100 = .ok (.invokestatic 97, 3) := by decide +kernel
theorem dX9_swap_103 : decode cX9_swap 103 = .ok (.ifCond .eq 16, 3) := by decide +kernel
theorem dX9_swap_106 : decode cX9_swap 106 = .ok (.iload 7, 2) := by decide +kernel
theorem dX9_swap_108 : decode cX9_swap 108 = .ok (.i2l, 1) := by decide +kernel
theorem dX9_swap_109 : decode cX9_swap 109 = .ok (.lconst 1, 1) := by decide +kernel
theorem dX9_swap_110 : decode cX9_swap 110 = .ok (.ldc2_w 182, 3) := by decide +kernel
theorem dX9_swap_113 : decode cX9_swap 113 = .ok (.invokestatic 97, 3) := by decide +kernel
theorem dX9_swap_116 : decode cX9_swap 116 = .ok (.ifCond .ne 6, 3) := by decide +kernel
theorem dX9_swap_119 : decode cX9_swap 119 = .ok (.bipush (-5), 2) := by decide +kernel
theorem dX9_swap_121 : decode cX9_swap 121 = .ok (.ireturn, 1) := by decide +kernel
theorem dX9_swap_122 : decode cX9_swap 122 = .ok (.aload_n 0, 1) := by decide +kernel
theorem dX9_swap_123 : decode cX9_swap 123 = .ok (.getfield 43, 3) := by decide +kernel
theorem dX9_swap_126 : decode cX9_swap 126 = .ok (.iload 4, 2) := by decide +kernel
theorem dX9_swap_128 : decode cX9_swap 128 = .ok (.iload 6, 2) := by decide +kernel
theorem dX9_swap_130 : decode cX9_swap 130 = .ok (.iastore, 1) := by decide +kernel
theorem dX9_swap_131 : decode cX9_swap 131 = .ok (.aload_n 0, 1) := by decide +kernel
theorem dX9_swap_132 : decode cX9_swap 132 = .ok (.getfield 43, 3) := by decide +kernel
theorem dX9_swap_135 : decode cX9_swap 135 = .ok (.iload 5, 2) := by decide +kernel
theorem dX9_swap_137 : decode cX9_swap 137 = .ok (.iload 7, 2) := by decide +kernel
theorem dX9_swap_139 : decode cX9_swap 139 = .ok (.iastore, 1) := by decide +kernel
theorem dX9_swap_140 : decode cX9_swap 140 = .ok (.aload_n 0, 1) := by decide +kernel
theorem dX9_swap_141 : decode cX9_swap 141 = .ok (.getfield 46, 3) := by decide +kernel
theorem dX9_swap_144 : decode cX9_swap 144 = .ok (.iload 4, 2) := by decide +kernel
theorem dX9_swap_146 : decode cX9_swap 146 = .ok (.iaload, 1) := by decide +kernel
theorem dX9_swap_147 : decode cX9_swap 147 = .ok (.istore 8, 2) := by decide +kernel
theorem dX9_swap_149 : decode cX9_swap 149 = .ok (.aload_n 0, 1) := by decide +kernel
theorem dX9_swap_150 : decode cX9_swap 150 = .ok (.getfield 46, 3) := by decide +kernel
theorem dX9_swap_153 : decode cX9_swap 153 = .ok (.iload 4, 2) := by decide +kernel
theorem dX9_swap_155 : decode cX9_swap 155 = .ok (.aload_n 0, 1) := by decide +kernel
theorem dX9_swap_156 : decode cX9_swap 156 = .ok (.getfield 46, 3) := by decide +kernel
theorem dX9_swap_159 : decode cX9_swap 159 = .ok (.iload 5, 2) := by decide +kernel
theorem dX9_swap_161 : decode cX9_swap 161 = .ok (.iaload, 1) := by decide +kernel
theorem dX9_swap_162 : decode cX9_swap 162 = .ok (.iastore, 1) := by decide +kernel
theorem dX9_swap_163 : decode cX9_swap 163 = .ok (.aload_n 0, 1) := by decide +kernel
theorem dX9_swap_164 : decode cX9_swap 164 = .ok (.getfield 46, 3) := by decide +kernel
theorem dX9_swap_167 : decode cX9_swap 167 = .ok (.iload 5, 2) := by decide +kernel
theorem dX9_swap_169 : decode cX9_swap 169 = .ok (.iload 8, 2) := by decide +kernel
theorem dX9_swap_171 : decode cX9_swap 171 = .ok (.iastore, 1) := by decide +kernel
theorem dX9_swap_172 : decode cX9_swap 172 = .ok (.iconst 0, 1) := by decide +kernel
theorem dX9_swap_173 : decode cX9_swap 173 = .ok (.ireturn, 1) := by decide +kernel
set_option maxRecDepth 20000 in
theorem ggX9_shift_X9_isThrow : GoodIn wsX9_shift wsX9_isThrow := goodIn_r _ [11, 2, 12, 13, 14, 10, 15, 16, 17, 18, 19, 20, 21, 22, 23, 24, 25, 26, 27, 28, 29, 30, 31, 32, 33, 34, 35, 36, 37, 38, 39, 40, 41, 42, 43, 44, 45, 46, 47, 48, 49, 50, 51, 52, 53, 54, 55, 56, 57, 58, 59, 60, 61, 62, 63, 64, 65] (by decide +kernel) (by decide +kernel)
set_option maxRecDepth 20000 in
theorem gX9_shift_X9_isThrow : GoodIn wsX9_shift (wsV RX9 276 RX9 yX9_isThrow wsX9_isThrow) := goodIn_app (goodIn_of _ (by decide +kernel)) ggX9_shift_X9_isThrow
theorem dX9_shift_0 : decode cX9_shift 0 = .ok (.aload_n 0, 1) := by decide +kernel
theorem dX9_shift_1 : decode cX9_shift 1 = .ok (.iconst 0, 1) := by decide +kernel
theorem dX9_shift_2 : decode cX9_shift 2 = .ok (.putfield 92, 3) := by decide +kernel
theorem dX9_shift_5 : decode cX9_shift 5 = .ok (.aload_n 0, 1) := by decide +kernel
theorem dX9_shift_6 : decode cX9_shift 6 = .ok (.iload_n 1, 1) := by decide +kernel
theorem dX9_shift_7 : decode cX9_shift 7 = .ok (.iload_n 2, 1) := by decide +kernel
theorem dX9_shift_8 : decode cX9_shift 8 = .ok (.invokevirtual 276, 3) := by decide +kernel
theorem dX9_shift_11 : decode cX9_shift 11 = .ok (.ifCond .ne 6, 3) := by decide +kernel
theorem dX9_shift_14 : decode cX9_shift 14 = .ok (.bipush (-2), 2) := by decide +kernel
theorem dX9_shift_16 : decode cX9_shift 16 = .ok (.ireturn, 1) := by decide +kernel
theorem dX9_shift_17 : decode cX9_shift 17 = .ok (.iconst 0, 1) := by decide +kernel
theorem dX9_shift_18 : decode cX9_shift 18 = .ok (.istore_n 3, 1) := by decide +kernel
theorem dX9_shift_19 : decode cX9_shift 19 = .ok (.iload_n 3, 1) := by decide +kernel
theorem dX9_shift_20 : decode cX9_shift 20 = .ok (.aload_n 0, 1) := by decide +kernel
theorem dX9_shift_21 : decode cX9_shift 21 = .ok (.getfield 40, 3) := by decide +kernel
theorem dX9_shift_24 : decode cX9_shift 24 = .ok (.iload_n 1, 1) := by decide +kernel
theorem dX9_shift_25 : decode cX9_shift 25 = .ok (.iaload, 1) := by decide +kernel
theorem dX9_shift_26 : decode cX9_shift 26 = .ok (.if_icmp .ge 43, 3) := by decide +kernel
theorem dX9_shift_29 : decode cX9_shift 29 = .ok (.aload_n 0, 1) := by decide +kernel
theorem dX9_shift_30 : decode cX9_shift 30 = .ok (.getfield 65, 3) := by decide +kernel
theorem dX9_shift_33 : decode cX9_shift 33 = .ok (.iload_n 3, 1) := by decide +kernel
theorem dX9_shift_34 : decode cX9_shift 34 = .ok (.aload_n 0, 1) := by decide +kernel
theorem dX9_shift_35 : decode cX9_shift 35 = .ok (.getfield 43, 3) := by decide +kernel
theorem dX9_shift_38 : decode cX9_shift 38 = .ok (.bipush 8, 2) := by decide +kernel
theorem dX9_shift_40 : decode cX9_shift 40 = .ok (.iload_n 1, 1) := by decide +kernel
theorem dX9_shift_41 : decode cX9_shift 41 = .ok (.imul, 1) := by decide +kernel
theorem dX9_shift_42 : decode cX9_shift 42 = .ok (.iload_n 3, 1) := by decide +kernel
theorem dX9_shift_43 : decode cX9_shift 43 = .ok (.iadd, 1) := by decide +kernel
theorem dX9_shift_44 : decode cX9_shift 44 = .ok (.iaload, 1) := by decide +kernel
theorem dX9_shift_45 : decode cX9_shift 45 = .ok (.iastore, 1) := by decide +kernel
theorem dX9_shift_46 : decode cX9_shift 46 = .ok (.aload_n 0, 1) := by decide +kernel
theorem dX9_shift_47 : decode cX9_shift 47 = .ok (.getfield 68, 3) := by decide +kernel
theorem dX9_shift_50 : decode cX9_shift 50 = .ok (.iload_n 3, 1) := by decide +kernel
theorem dX9_shift_51 : decode cX9_shift 51 = .ok (.aload_n 0, 1) := by decide +kernel
theorem dX9_shift_52 : decode cX9_shift 52 = .ok (.getfield 46, 3) := by decide +kernel
theorem dX9_shift_55 : decode cX9_shift 55 = .ok (.bipush 8, 2) := by decide +kernel
theorem dX9_shift_57 : decode cX9_shift 57 = .ok (.iload_n 1, 1) := by decide +kernel
theorem dX9_shift_58 : decode cX9_shift 58 = .ok (.imul, 1) := by decide +kernel
theorem dX9_shift_59 : decode cX9_shift 59 = .ok (.iload_n 3, 1) := by decide +kernel
theorem dX9_shift_60 : decode cX9_shift 60 = .ok (.iadd, 1) := by decide +kernel
theorem dX9_shift_61 : decode cX9_shift 61 = .ok (.iaload, 1) := by decide +kernel
theorem dX9_shift_62 : decode cX9_shift 62 = .ok (.iastore, 1) := by decide +kernel
theorem dX9_shift_63 : decode cX9_shift 63 = .ok (.iinc 3 1, 3) := by decide +kernel
theorem dX9_shift_66 : decode cX9_shift 66 = .ok (.goto (-47), 3) := by decide +kernel
theorem dX9_shift_69 : decode cX9_shift 69 = .ok (.iconst 0, 1) := by decide +kernel
theorem dX9_shift_70 : decode cX9_shift 70 = .ok (.istore_n 3, 1) := by decide +kernel
theorem dX9_shift_71 : decode cX9_shift 71 = .ok (.iload_n 3, 1) := by decide +kernel
theorem dX9_shift_72 : decode cX9_shift 72 = .ok (.aload_n 0, 1) := by decide +kernel
theorem dX9_shift_73 : decode cX9_shift 73 = .ok (.getfield 40, 3) := by decide +kernel
theorem dX9_shift_76 : decode cX9_shift 76 = .ok (.iload_n 1, 1) := by decide +kernel
theorem dX9_shift_77 : decode cX9_shift 77 = .ok (.iaload, 1) := by decide +kernel
theorem dX9_shift_78 : decode cX9_shift 78 = .ok (.if_icmp .ge 61, 3) := by decide +kernel
theorem dX9_shift_81 : decode cX9_shift 81 = .ok (.aload_n 0, 1) := by decide +kernel
theorem dX9_shift_82 : decode cX9_shift 82 = .ok (.getfield 43, 3) := by decide +kernel
theorem dX9_shift_85 : decode cX9_shift 85 = .ok (.bipush 8, 2) := by decide +kernel
theorem dX9_shift_87 : decode cX9_shift 87 = .ok (.iload_n 1, 1) := by decide +kernel
theorem dX9_shift_88 : decode cX9_shift 88 = .ok (.imul, 1) := by decide +kernel
theorem dX9_shift_89 : decode cX9_shift 89 = .ok (.iload_n 3, 1) := by decide +kernel
theorem dX9_shift_90 : decode cX9_shift 90 = .ok (.iadd, 1) := by decide +kernel
theorem dX9_shift_91 : decode cX9_shift 91 = .ok (.aload_n 0, 1) := by decide +kernel
theorem dX9_shift_92 : decode cX9_shift 92 = .ok (.getfield 65, 3) := by decide +kernel
theorem dX9_shift_95 : decode cX9_shift 95 = .ok (.iload_n 3, 1) := by decide +kernel
theorem dX9_shift_96 : decode cX9_shift 96 = .ok (.iload_n 2, 1) := by decide +kernel
theorem dX9_shift_97 : decode cX9_shift 97 = .ok (.iadd, 1) := by decide +kernel
theorem dX9_shift_98 : decode cX9_shift 98 = .ok (.aload_n 0, 1) := by decide +kernel
theorem dX9_shift_99 : decode cX9_shift 99 = .ok (.getfield 40, 3) := by decide +kernel
theorem dX9_shift_102 : decode cX9_shift 102 = .ok (.iload_n 1, 1) := by decide +kernel
theorem dX9_shift_103 : decode cX9_shift 103 = .ok (.iaload, 1) := by decide +kernel
theorem dX9_shift_104 : decode cX9_shift 104 = .ok (.irem, 1) := by decide +kernel
theorem dX9_shift_105 : decode cX9_shift 105 = .ok (.iaload, 1) := by decide +kernel
theorem dX9_shift_106 : decode cX9_shift 106 = .ok (.iastore, 1) := by decide +kernel
theorem dX9_shift_107 : decode cX9_shift 107 = .ok (.aload_n 0, 1) := by decide +kernel
theorem dX9_shift_108 : decode cX9_shift 108 = .ok (.getfield 46, 3) := by decide +kernel
theorem dX9_shift_111 : decode cX9_shift 111 = .ok (.bipush 8, 2) := by decide +kernel
theorem dX9_shift_113 : decode cX9_shift 113 = .ok (.iload_n 1, 1) := by decide +kernel
theorem dX9_shift_114 : decode cX9_shift 114 = .ok (.imul, 1) := by decide +kernel
theorem dX9_shift_115 : decode cX9_shift 115 = .ok (.iload_n 3, 1) := by decide +kernel
theorem dX9_shift_116 : decode cX9_shift 116 = .ok (.iadd, 1) := by decide +kernel
theorem dX9_shift_117 : decode cX9_shift 117 = .ok (.aload_n 0, 1) := by decide +kernel
theorem dX9_shift_118 : decode cX9_shift 118 = .ok (.getfield 68, 3) := by decide +kernel
theorem dX9_shift_121 : decode cX9_shift 121 = .ok (.iload_n 3, 1) := by decide +kernel
theorem dX9_shift_122 : decode cX9_shift 122 = .ok (.iload_n 2, 1) := by decide +kernel
theorem dX9_shift_123 : decode cX9_shift 123 = .ok (.iadd, 1) := by decide +kernel
theorem dX9_shift_124 : decode cX9_shift 124 = .ok (.aload_n 0, 1) := by decide +kernel
theorem dX9_shift_125 : decode cX9_shift 125 = .ok (.getfield 40, 3) := by decide +kernel
theorem dX9_shift_128 : decode cX9_shift 128 = .ok (.iload_n 1, 1) := by decide +kernel
theorem dX9_shift_129 : decode cX9_shift 129 = .ok (.iaload, 1) := by decide +kernel
theorem dX9_shift_130 : decode cX9_shift 130 = .ok (.irem, 1) := by decide +kernel
theorem dX9_shift_131 : decode cX9_shift 131 = .ok (.iaload, 1) := by decide +kernel
theorem dX9_shift_132 : decode cX9_shift 132 = .ok (.iastore, 1) := by decide +kernel
theorem dX9_shift_133 : decode cX9_shift 133 = .ok (.iinc 3 1, 3) := by decide +kernel
theorem dX9_shift_136 : decode cX9_shift 136 = .ok (.goto (-65), 3) := by decide +kernel
theorem dX9_shift_139 : decode cX9_shift 139 = .ok (.aload_n 0, 1) := by decide +kernel
theorem dX9_shift_140 : decode cX9_shift 140 = .ok (.getfield 40, 3) := by decide +kernel
theorem dX9_shift_143 : decode cX9_shift 143 = .ok (.iload_n 1, 1) := by decide +kernel
theorem dX9_shift_144 : decode cX9_shift 144 = .ok (.iaload, 1) := by decide +kernel
theorem dX9_shift_145 : decode cX9_shift 145 = .ok (.ireturn, 1) := by decide +kernel
set_option maxRecDepth 20000 in
theorem ggX9_comesDown_X9_highOf : GoodIn wsX9_comesDown wsX9_highOf := goodIn_r _ [6, 7, 8, 9, 10, 5, 11, 12, 18, 19, 20, 21, 22, 23, 24, 25, 26, 27, 28, 29, 30, 31, 32, 33, 34, 35, 36, 37, 38, 39, 40, 41, 42, 43, 44, 45, 46, 47, 48, 49, 50, 51, 52, 53, 54, 55, 56, 57, 58, 59, 60, 61, 62, 63] (by decide +kernel) (by decide +kernel)
set_option maxRecDepth 20000 in
theorem gX9_comesDown_X9_highOf : GoodIn wsX9_comesDown (wsV RX9 264 RX9 yX9_highOf wsX9_highOf) := goodIn_app (goodIn_of _ (by decide +kernel)) ggX9_comesDown_X9_highOf
set_option maxRecDepth 20000 in
theorem ggX9_comesDown_X9_toOf : GoodIn wsX9_comesDown wsX9_toOf := goodIn_r _ [16, 17, 8, 9, 10, 5, 11, 12, 18, 19, 20, 21, 22, 23, 24, 25, 26, 27, 28, 29, 30, 31, 32, 33, 34, 35, 36, 37, 38, 39, 40, 41, 42, 43, 44, 45, 46, 47, 48, 49, 50, 51, 52, 53, 54, 55, 56, 57, 58, 59, 60, 61, 62, 63] (by decide +kernel) (by decide +kernel)
set_option maxRecDepth 20000 in
theorem gX9_comesDown_X9_toOf : GoodIn wsX9_comesDown (wsV RX9 267 RX9 yX9_toOf wsX9_toOf) := goodIn_app (goodIn_of _ (by decide +kernel)) ggX9_comesDown_X9_toOf
theorem dX9_comesDown_0 : decode cX9_comesDown 0 = .ok (.iconst 0, 1) := by decide +kernel
theorem dX9_comesDown_1 : decode cX9_comesDown 1 = .ok (.istore_n 3, 1) := by decide +kernel
theorem dX9_comesDown_2 : decode cX9_comesDown 2 = .ok (.iconst 0, 1) := by decide +kernel
theorem dX9_comesDown_3 : decode cX9_comesDown 3 = .ok (.istore 4, 2) := by decide +kernel
theorem dX9_comesDown_5 : decode cX9_comesDown 5 = .ok (.iload 4, 2) := by decide +kernel
theorem dX9_comesDown_7 : decode cX9_comesDown 7 = .ok (.aload_n 0, 1) := by decide +kernel
theorem dX9_comesDown_8 : decode cX9_comesDown 8 = .ok (.getfield 34, 3) := by decide +kernel
theorem dX9_comesDown_11 : decode cX9_comesDown 11 = .ok (.iconst 0, 1) := by decide +kernel
theorem dX9_comesDown_12 : decode cX9_comesDown 12 = .ok (.iaload, 1) := by decide +kernel
theorem dX9_comesDown_13 : decode cX9_comesDown 13 = .ok (.if_icmp .ge 62, 3) := by decide +kernel
theorem dX9_comesDown_16 : decode cX9_comesDown 16 = .ok (.iconst 1, 1) := by decide +kernel
theorem dX9_comesDown_17 : decode cX9_comesDown 17 = .ok (.istore 5, 2) := by decide +kernel
theorem dX9_comesDown_19 : decode cX9_comesDown 19 = .ok (.iload 5, 2) := by decide +kernel
theorem dX9_comesDown_21 : decode cX9_comesDown 21 = .ok (.bipush 9, 2) := by decide +kernel
theorem dX9_comesDown_23 : decode cX9_comesDown 23 = .ok (.if_icmp .gt 46, 3) := by decide +kernel
theorem dX9_comesDown_26 : decode cX9_comesDown 26 = .ok (.iload_n 3, 1) := by decide +kernel
theorem dX9_comesDown_27 : decode cX9_comesDown 27 = .ok (.aload_n 0, 1) := by decide +kernel
theorem dX9_comesDown_28 : decode cX9_comesDown 28 = .ok (.iload 4, 2) := by decide +kernel
theorem dX9_comesDown_30 : decode cX9_comesDown 30 = .ok (.iload_n 2, 1) := by decide +kernel
theorem dX9_comesDown_31 : decode cX9_comesDown 31 = .ok (.iload 5, 2) := by decide +kernel
theorem dX9_comesDown_33 : decode cX9_comesDown 33 = .ok (.isub, 1) := by decide +kernel
theorem dX9_comesDown_34 : decode cX9_comesDown 34 = .ok (.invokevirtual 264, 3) := by decide +kernel
theorem dX9_comesDown_37 : decode cX9_comesDown 37 = .ok (.iload 5, 2) := by decide +kernel
theorem dX9_comesDown_39 : decode cX9_comesDown 39 = .ok (.if_icmp .ne 21, 3) := by decide +kernel
theorem dX9_comesDown_42 : decode cX9_comesDown 42 = .ok (.aload_n 0, 1) := by decide +kernel
theorem dX9_comesDown_43 : decode cX9_comesDown 43 = .ok (.iload 4, 2) := by decide +kernel
theorem dX9_comesDown_45 : decode cX9_comesDown 45 = .ok (.iload_n 2, 1) := by decide +kernel
theorem dX9_comesDown_46 : decode cX9_comesDown 46 = .ok (.iload 5, 2) := by decide +kernel
theorem dX9_comesDown_48 : decode cX9_comesDown 48 = .ok (.isub, 1) := by decide +kernel
theorem dX9_comesDown_49 : decode cX9_comesDown 49 = .ok (.invokevirtual 267, 3) := by decide +kernel
theorem dX9_comesDown_52 : decode cX9_comesDown 52 = .ok (.iload_n 1, 1) := by decide +kernel
theorem dX9_comesDown_53 : decode cX9_comesDown 53 = .ok (.if_icmp .ne 7, 3) := by decide +kernel
theorem dX9_comesDown_56 : decode cX9_comesDown 56 = .ok (.iconst 1, 1) := by decide +kernel
theorem dX9_comesDown_57 : decode cX9_comesDown 57 = .ok (.goto 4, 3) := by decide +kernel
theorem dX9_comesDown_60 : decode cX9_comesDown 60 = .ok (.iconst 0, 1) := by decide +kernel
theorem dX9_comesDown_61 : decode cX9_comesDown 61 = .ok (.iadd, 1) := by decide +kernel
theorem dX9_comesDown_62 : decode cX9_comesDown 62 = .ok (.istore_n 3, 1) := by decide +kernel
theorem dX9_comesDown_63 : decode cX9_comesDown 63 = .ok (.iinc 5 1, 3) := by decide +kernel
theorem dX9_comesDown_66 : decode cX9_comesDown 66 = .ok (.goto (-47), 3) := by decide +kernel
theorem dX9_comesDown_69 : decode cX9_comesDown 69 = .ok (.iinc 4 1, 3) := by decide +kernel
theorem dX9_comesDown_72 : decode cX9_comesDown 72 = .ok (.goto (-67), 3) := by decide +kernel
theorem dX9_comesDown_75 : decode cX9_comesDown 75 = .ok (.iload_n 3, 1) := by decide +kernel
theorem dX9_comesDown_76 : decode cX9_comesDown 76 = .ok (.ireturn, 1) := by decide +kernel
set_option maxRecDepth 20000 in
theorem ggX9_isClash_X9_comesDown : GoodIn wsX9_isClash wsX9_comesDown := goodIn_r _ [5, 6, 7, 8, 9, 4, 10, 11, 12, 13, 14, 15, 16, 17, 18, 19, 20, 21, 22, 23, 24, 25, 26, 27, 28, 29, 30, 31, 32, 33, 34, 35, 36, 37, 38, 39, 40, 41, 42, 43, 44, 45, 46, 47, 48, 49, 50, 51, 52, 53, 54, 55, 56, 57, 58, 59, 60, 61, 62, 63, 64, 65, 66, 67] (by decide +kernel) (by decide +kernel)
set_option maxRecDepth 20000 in
theorem gX9_isClash_X9_comesDown : GoodIn wsX9_isClash (wsV RX9 280 RX9 yX9_comesDown wsX9_comesDown) := goodIn_app (goodIn_of _ (by decide +kernel)) ggX9_isClash_X9_comesDown
set_option maxRecDepth 20000 in
theorem ggX9_isClash_X9_highOf : GoodIn wsX9_isClash wsX9_highOf := goodIn_r _ [10, 11, 12, 13, 14, 4, 15, 16, 22, 23, 24, 25, 26, 27, 28, 29, 30, 31, 32, 33, 34, 35, 36, 37, 38, 39, 40, 41, 42, 43, 44, 45, 46, 47, 48, 49, 50, 51, 52, 53, 54, 55, 56, 57, 58, 59, 60, 61, 62, 63, 64, 65, 66, 67] (by decide +kernel) (by decide +kernel)
set_option maxRecDepth 20000 in
theorem gX9_isClash_X9_highOf : GoodIn wsX9_isClash (wsV RX9 264 RX9 yX9_highOf wsX9_highOf) := goodIn_app (goodIn_of _ (by decide +kernel)) ggX9_isClash_X9_highOf
theorem dX9_isClash_0 : decode cX9_isClash 0 = .ok (.aload_n 0, 1) := by decide +kernel
theorem dX9_isClash_1 : decode cX9_isClash 1 = .ok (.iload_n 1, 1) := by decide +kernel
theorem dX9_isClash_2 : decode cX9_isClash 2 = .ok (.iload_n 2, 1) := by decide +kernel
theorem dX9_isClash_3 : decode cX9_isClash 3 = .ok (.invokevirtual 280, 3) := by decide +kernel
theorem dX9_isClash_6 : decode cX9_isClash 6 = .ok (.aload_n 0, 1) := by decide +kernel
theorem dX9_isClash_7 : decode cX9_isClash 7 = .ok (.iload_n 1, 1) := by decide +kernel
theorem dX9_isClash_8 : decode cX9_isClash 8 = .ok (.iload_n 2, 1) := by decide +kernel
theorem dX9_isClash_9 : decode cX9_isClash 9 = .ok (.invokevirtual 264, 3) := by decide +kernel
theorem dX9_isClash_12 : decode cX9_isClash 12 = .ok (.ifCond .le 7, 3) := by decide +kernel
theorem dX9_isClash_15 : decode cX9_isClash 15 = .ok (.iconst 1, 1) := by decide +kernel
theorem dX9_isClash_16 : decode cX9_isClash 16 = .ok (.goto 4, 3) := by decide +kernel
theorem dX9_isClash_19 : decode cX9_isClash 19 = .ok (.iconst 0, 1) := by decide +kernel
theorem dX9_isClash_20 : decode cX9_isClash 20 = .ok (.if_icmp .eq 7, 3) := by decide +kernel
theorem dX9_isClash_23 : decode cX9_isClash 23 = .ok (.iconst 1, 1) := by decide +kernel
theorem dX9_isClash_24 : decode cX9_isClash 24 = .ok (.goto 4, 3) := by decide +kernel
theorem dX9_isClash_27 : decode cX9_isClash 27 = .ok (.iconst 0, 1) := by decide +kernel
theorem dX9_isClash_28 : decode cX9_isClash 28 = .ok (.ireturn, 1) := by decide +kernel
set_option maxRecDepth 20000 in
theorem ggX9_isUp_X9_round : GoodIn wsX9_isUp wsX9_round := goodIn_r _ [6, 1, 7, 30, 31, 32, 33, 34, 35, 36, 37, 38, 39, 40, 41, 42, 43, 44, 45, 46, 47, 48, 49, 50, 51, 52, 53, 54, 55, 56, 57, 58, 59, 60, 61, 62, 63, 64, 65, 66, 67, 68, 69, 70, 71, 72, 73, 74, 75] (by decide +kernel) (by decide +kernel)
set_option maxRecDepth 20000 in
theorem gX9_isUp_X9_round : GoodIn wsX9_isUp (wsV RX9 273 RX9 yX9_round wsX9_round) := goodIn_app (goodIn_of _ (by decide +kernel)) ggX9_isUp_X9_round
set_option maxRecDepth 20000 in
theorem ggX9_isUp_X9_isClash : GoodIn wsX9_isUp wsX9_isClash := goodIn_r _ [11, 12, 13, 14, 5, 15, 1, 16, 17, 18, 19, 20, 21, 22, 23, 24, 7, 25, 26, 27, 28, 29, 30, 31, 32, 33, 34, 35, 36, 37, 38, 39, 40, 41, 42, 43, 44, 45, 46, 47, 48, 49, 50, 51, 52, 53, 54, 55, 56, 57, 58, 59, 60, 61, 62, 63, 64, 65, 66, 67, 68, 69, 70, 71, 72, 73, 74, 75] (by decide +kernel) (by decide +kernel)
set_option maxRecDepth 20000 in
theorem gX9_isUp_X9_isClash : GoodIn wsX9_isUp (wsV RX9 283 RX9 yX9_isClash wsX9_isClash) := goodIn_app (goodIn_of _ (by decide +kernel)) ggX9_isUp_X9_isClash
theorem dX9_isUp_0 : decode cX9_isUp 0 = .ok (.aload_n 0, 1) := by decide +kernel
theorem dX9_isUp_1 : decode cX9_isUp 1 = .ok (.invokevirtual 273, 3) := by decide +kernel
theorem dX9_isUp_4 : decode cX9_isUp 4 = .ok (.istore_n 1, 1) := by decide +kernel
theorem dX9_isUp_5 : decode cX9_isUp 5 = .ok (.iconst 0, 1) := by decide +kernel
theorem dX9_isUp_6 : decode cX9_isUp 6 = .ok (.istore_n 2, 1) := by decide +kernel
theorem dX9_isUp_7 : decode cX9_isUp 7 = .ok (.iload_n 2, 1) := by decide +kernel
theorem dX9_isUp_8 : decode cX9_isUp 8 = .ok (.iload_n 1, 1) := by decide +kernel
theorem dX9_isUp_9 : decode cX9_isUp 9 = .ok (.if_icmp .ge 38, 3) := by decide +kernel
theorem dX9_isUp_12 : decode cX9_isUp 12 = .ok (.iconst 0, 1) := by decide +kernel
theorem dX9_isUp_13 : decode cX9_isUp 13 = .ok (.istore_n 3, 1) := by decide +kernel
theorem dX9_isUp_14 : decode cX9_isUp 14 = .ok (.iload_n 3, 1) := by decide +kernel
theorem dX9_isUp_15 : decode cX9_isUp 15 = .ok (.aload_n 0, 1) := by decide +kernel
theorem dX9_isUp_16 : decode cX9_isUp 16 = .ok (.getfield 34, 3) := by decide +kernel
theorem dX9_isUp_19 : decode cX9_isUp 19 = .ok (.iconst 0, 1) := by decide +kernel
theorem dX9_isUp_20 : decode cX9_isUp 20 = .ok (.iaload, 1) := by decide +kernel
theorem dX9_isUp_21 : decode cX9_isUp 21 = .ok (.if_icmp .ge 20, 3) := by decide +kernel
theorem dX9_isUp_24 : decode cX9_isUp 24 = .ok (.aload_n 0, 1) := by decide +kernel
theorem dX9_isUp_25 : decode cX9_isUp 25 = .ok (.iload_n 3, 1) := by decide +kernel
theorem dX9_isUp_26 : decode cX9_isUp 26 = .ok (.iload_n 2, 1) := by decide +kernel
theorem dX9_isUp_27 : decode cX9_isUp 27 = .ok (.invokevirtual 283, 3) := by decide +kernel
theorem dX9_isUp_30 : decode cX9_isUp 30 = .ok (.ifCond .eq 5, 3) := by decide +kernel
theorem dX9_isUp_33 : decode cX9_isUp 33 = .ok (.iconst 0, 1) := by decide +kernel
theorem dX9_isUp_34 : decode cX9_isUp 34 = .ok (.ireturn, 1) := by decide +kernel
theorem dX9_isUp_35 : decode cX9_isUp 35 = .ok (.iinc 3 1, 3) := by decide +kernel
theorem dX9_isUp_38 : decode cX9_isUp 38 = .ok (.goto (-24), 3) := by decide +kernel
theorem dX9_isUp_41 : decode cX9_isUp 41 = .ok (.iinc 2 1, 3) := by decide +kernel
theorem dX9_isUp_44 : decode cX9_isUp 44 = .ok (.goto (-37), 3) := by decide +kernel
theorem dX9_isUp_47 : decode cX9_isUp 47 = .ok (.iconst 1, 1) := by decide +kernel
theorem dX9_isUp_48 : decode cX9_isUp 48 = .ok (.ireturn, 1) := by decide +kernel
set_option maxRecDepth 20000 in
theorem ggX9_keeps_X9_isCity : GoodIn wsX9_keeps wsX9_isCity := goodIn_r _ [6, 7, 39, 40, 41, 42, 43, 44, 45, 46, 47, 48, 49, 50, 51, 52, 53, 54, 55, 56, 57, 58, 59, 60, 61, 62, 63, 64, 65, 66, 67, 68, 69, 70, 71, 72, 73, 74, 75, 76, 77, 78, 79, 80, 81, 82, 83, 84] (by decide +kernel) (by decide +kernel)
set_option maxRecDepth 20000 in
theorem gX9_keeps_X9_isCity : GoodIn wsX9_keeps (wsV RX9 270 RX9 yX9_isCity wsX9_isCity) := goodIn_app (goodIn_of _ (by decide +kernel)) ggX9_keeps_X9_isCity
set_option maxRecDepth 20000 in
theorem ggX9_keeps_X9_isUp : GoodIn wsX9_keeps wsX9_isUp := goodIn_r _ [11, 7, 12, 13, 14, 5, 15, 16, 17, 18, 19, 20, 21, 22, 23, 24, 25, 26, 27, 28, 29, 30, 31, 32, 33, 34, 35, 36, 37, 38, 39, 40, 41, 42, 43, 44, 45, 46, 47, 48, 49, 50, 51, 52, 53, 54, 55, 56, 57, 58, 59, 60, 61, 62, 63, 64, 65, 66, 67, 68, 69, 70, 71, 72, 73, 74, 75, 76, 77, 78, 79, 80, 81, 82, 83, 84] (by decide +kernel) (by decide +kernel)
set_option maxRecDepth 20000 in
theorem gX9_keeps_X9_isUp : GoodIn wsX9_keeps (wsV RX9 286 RX9 yX9_isUp wsX9_isUp) := goodIn_app (goodIn_of _ (by decide +kernel)) ggX9_keeps_X9_isUp
theorem dX9_keeps_0 : decode cX9_keeps 0 = .ok (.aload_n 0, 1) := by decide +kernel
theorem dX9_keeps_1 : decode cX9_keeps 1 = .ok (.iconst 0, 1) := by decide +kernel
theorem dX9_keeps_2 : decode cX9_keeps 2 = .ok (.putfield 92, 3) := by decide +kernel
theorem dX9_keeps_5 : decode cX9_keeps 5 = .ok (.aload_n 0, 1) := by decide +kernel
theorem dX9_keeps_6 : decode cX9_keeps 6 = .ok (.invokevirtual 270, 3) := by decide +kernel
theorem dX9_keeps_9 : decode cX9_keeps 9 = .ok (.ifCond .ne 8, 3) := by decide +kernel
theorem dX9_keeps_12 : decode cX9_keeps 12 = .ok (.bipush (-2), 2) := by decide +kernel
theorem dX9_keeps_14 : decode cX9_keeps 14 = .ok (.goto 15, 3) := by decide +kernel
theorem dX9_keeps_17 : decode cX9_keeps 17 = .ok (.aload_n 0, 1) := by decide +kernel
theorem dX9_keeps_18 : decode cX9_keeps 18 = .ok (.invokevirtual 286, 3) := by decide +kernel
theorem dX9_keeps_21 : decode cX9_keeps 21 = .ok (.ifCond .eq 7, 3) := by decide +kernel
theorem dX9_keeps_24 : decode cX9_keeps 24 = .ok (.iconst 1, 1) := by decide +kernel
theorem dX9_keeps_25 : decode cX9_keeps 25 = .ok (.goto 4, 3) := by decide +kernel
theorem dX9_keeps_28 : decode cX9_keeps 28 = .ok (.iconst 0, 1) := by decide +kernel
theorem dX9_keeps_29 : decode cX9_keeps 29 = .ok (.ireturn, 1) := by decide +kernel
set_option maxRecDepth 20000 in
theorem ggX9_clash_X9_isCity : GoodIn wsX9_clash wsX9_isCity := goodIn_r _ [8, 3, 39, 40, 41, 42, 43, 44, 45, 46, 47, 48, 49, 50, 51, 52, 53, 54, 55, 56, 57, 58, 59, 60, 61, 62, 63, 64, 65, 66, 67, 68, 69, 70, 71, 72, 73, 74, 75, 76, 77, 78, 79, 80, 81, 82, 83, 84] (by decide +kernel) (by decide +kernel)
set_option maxRecDepth 20000 in
theorem gX9_clash_X9_isCity : GoodIn wsX9_clash (wsV RX9 270 RX9 yX9_isCity wsX9_isCity) := goodIn_app (goodIn_of _ (by decide +kernel)) ggX9_clash_X9_isCity
set_option maxRecDepth 20000 in
theorem ggX9_clash_X9_in : GoodIn wsX9_clash wsX9_in := goodIn_r _ [11] (by decide +kernel) (by decide +kernel)
set_option maxRecDepth 20000 in
theorem gX9_clash_X9_in : GoodIn wsX9_clash (va_wsS RX9 97 yX9_in wsX9_in) := goodIn_app (goodIn_of _ (by decide +kernel)) ggX9_clash_X9_in
set_option maxRecDepth 20000 in
theorem ggX9_clash_X9_round : GoodIn wsX9_clash wsX9_round := goodIn_r _ [15, 3, 16, 39, 40, 41, 42, 43, 44, 45, 46, 47, 48, 49, 50, 51, 52, 53, 54, 55, 56, 57, 58, 59, 60, 61, 62, 63, 64, 65, 66, 67, 68, 69, 70, 71, 72, 73, 74, 75, 76, 77, 78, 79, 80, 81, 82, 83, 84] (by decide +kernel) (by decide +kernel)
set_option maxRecDepth 20000 in
theorem gX9_clash_X9_round : GoodIn wsX9_clash (wsV RX9 273 RX9 yX9_round wsX9_round) := goodIn_app (goodIn_of _ (by decide +kernel)) ggX9_clash_X9_round
set_option maxRecDepth 20000 in
theorem ggX9_clash_X9_isClash : GoodIn wsX9_clash wsX9_isClash := goodIn_r _ [20, 21, 22, 23, 7, 24, 3, 25, 26, 27, 28, 29, 30, 31, 32, 33, 16, 34, 35, 36, 37, 38, 39, 40, 41, 42, 43, 44, 45, 46, 47, 48, 49, 50, 51, 52, 53, 54, 55, 56, 57, 58, 59, 60, 61, 62, 63, 64, 65, 66, 67, 68, 69, 70, 71, 72, 73, 74, 75, 76, 77, 78, 79, 80, 81, 82, 83, 84] (by decide +kernel) (by decide +kernel)
set_option maxRecDepth 20000 in
theorem gX9_clash_X9_isClash : GoodIn wsX9_clash (wsV RX9 283 RX9 yX9_isClash wsX9_isClash) := goodIn_app (goodIn_of _ (by decide +kernel)) ggX9_clash_X9_isClash
set_option maxRecDepth 20000 in
theorem ggX9_clash_X9_comesDown : GoodIn wsX9_clash wsX9_comesDown := goodIn_r _ [24, 3, 25, 26, 27, 7, 28, 29, 30, 31, 32, 33, 16, 34, 35, 36, 37, 38, 39, 40, 41, 42, 43, 44, 45, 46, 47, 48, 49, 50, 51, 52, 53, 54, 55, 56, 57, 58, 59, 60, 61, 62, 63, 64, 65, 66, 67, 68, 69, 70, 71, 72, 73, 74, 75, 76, 77, 78, 79, 80, 81, 82, 83, 84] (by decide +kernel) (by decide +kernel)
set_option maxRecDepth 20000 in
theorem gX9_clash_X9_comesDown : GoodIn wsX9_clash (wsV RX9 280 RX9 yX9_comesDown wsX9_comesDown) := goodIn_app (goodIn_of _ (by decide +kernel)) ggX9_clash_X9_comesDown
theorem dX9_clash_0 : decode cX9_clash 0 = .ok (.aload_n 0, 1) := by decide +kernel
theorem dX9_clash_1 : decode cX9_clash 1 = .ok (.iconst 0, 1) := by decide +kernel
theorem dX9_clash_2 : decode cX9_clash 2 = .ok (.putfield 92, 3) := by decide +kernel
theorem dX9_clash_5 : decode cX9_clash 5 = .ok (.aload_n 0, 1) := by decide +kernel
theorem dX9_clash_6 : decode cX9_clash 6 = .ok (.invokevirtual 270, 3) := by decide +kernel
theorem dX9_clash_9 : decode cX9_clash 9 = .ok (.ifCond .eq 15, 3) := by decide +kernel
theorem dX9_clash_12 : decode cX9_clash 12 = .ok (.iload_n 1, 1) := by decide +kernel
theorem dX9_clash_13 : decode cX9_clash 13 = .ok (.i2l, 1) := by decide +kernel
theorem dX9_clash_14 : decode cX9_clash 14 = .ok (.lconst 0, 1) := by decide +kernel
theorem dX9_clash_15 : decode cX9_clash 15 = .ok (.ldc2_w 262, 3) := by decide +kernel
theorem dX9_clash_18 : decode cX9_clash 18 = .ok (.invokestatic 97, 3) := by decide +kernel
theorem dX9_clash_21 : decode cX9_clash 21 = .ok (.ifCond .ne 6, 3) := by decide +kernel
theorem dX9_clash_24 : decode cX9_clash 24 = .ok (.bipush (-2), 2) := by decide +kernel
theorem dX9_clash_26 : decode cX9_clash 26 = .ok (.ireturn, 1) := by decide +kernel
theorem dX9_clash_27 : decode cX9_clash 27 = .ok (.aload_n 0, 1) := by decide +kernel
theorem dX9_clash_28 : decode cX9_clash 28 = .ok (.invokevirtual 273, 3) := by decide +kernel
theorem dX9_clash_31 : decode cX9_clash 31 = .ok (.istore_n 2, 1) := by decide +kernel
theorem dX9_clash_32 : decode cX9_clash 32 = .ok (.iconst 0, 1) := by decide +kernel
theorem dX9_clash_33 : decode cX9_clash 33 = .ok (.istore_n 3, 1) := by decide +kernel
theorem dX9_clash_34 : decode cX9_clash 34 = .ok (.iload_n 3, 1) := by decide +kernel
theorem dX9_clash_35 : decode cX9_clash 35 = .ok (.iload_n 2, 1) := by decide +kernel
theorem dX9_clash_36 : decode cX9_clash 36 = .ok (.if_icmp .ge 65, 3) := by decide +kernel
theorem dX9_clash_39 : decode cX9_clash 39 = .ok (.iconst 0, 1) := by decide +kernel
theorem dX9_clash_40 : decode cX9_clash 40 = .ok (.istore 4, 2) := by decide +kernel
theorem dX9_clash_42 : decode cX9_clash 42 = .ok (.iload 4, 2) := by decide +kernel
theorem dX9_clash_44 : decode cX9_clash 44 = .ok (.aload_n 0, 1) := by decide +kernel
theorem dX9_clash_45 : decode cX9_clash 45 = .ok (.getfield 34, 3) := by decide +kernel
theorem dX9_clash_48 : decode cX9_clash 48 = .ok (.iconst 0, 1) := by decide +kernel
theorem dX9_clash_49 : decode cX9_clash 49 = .ok (.iaload, 1) := by decide +kernel
theorem dX9_clash_50 : decode cX9_clash 50 = .ok (.if_icmp .ge 45, 3) := by decide +kernel
theorem dX9_clash_53 : decode cX9_clash 53 = .ok (.aload_n 0, 1) := by decide +kernel
theorem dX9_clash_54 : decode cX9_clash 54 = .ok (.iload 4, 2) := by decide +kernel
theorem dX9_clash_56 : decode cX9_clash 56 = .ok (.iload_n 3, 1) := by decide +kernel
theorem dX9_clash_57 : decode cX9_clash 57 = .ok (.invokevirtual 283, 3) := by decide +kernel
theorem dX9_clash_60 : decode cX9_clash 60 = .ok (.ifCond .eq 29, 3) := by decide +kernel
theorem dX9_clash_63 : decode cX9_clash 63 = .ok (.iload_n 1, 1) := by decide +kernel
theorem dX9_clash_64 : decode cX9_clash 64 = .ok (.ifCond .ne 7, 3) := by decide +kernel
theorem dX9_clash_67 : decode cX9_clash 67 = .ok (.iload_n 3, 1) := by decide +kernel
theorem dX9_clash_68 : decode cX9_clash 68 = .ok (.goto 20, 3) := by decide +kernel
theorem dX9_clash_71 : decode cX9_clash 71 = .ok (.iload_n 1, 1) := by decide +kernel
theorem dX9_clash_72 : decode cX9_clash 72 = .ok (.iconst 1, 1) := by decide +kernel
theorem dX9_clash_73 : decode cX9_clash 73 = .ok (.if_icmp .ne 8, 3) := by decide +kernel
theorem dX9_clash_76 : decode cX9_clash 76 = .ok (.iload 4, 2) := by decide +kernel
theorem dX9_clash_78 : decode cX9_clash 78 = .ok (.goto 10, 3) := by decide +kernel
theorem dX9_clash_81 : decode cX9_clash 81 = .ok (.aload_n 0, 1) := by decide +kernel
theorem dX9_clash_82 : decode cX9_clash 82 = .ok (.iload 4, 2) := by decide +kernel
theorem dX9_clash_84 : decode cX9_clash 84 = .ok (.iload_n 3, 1) := by decide +kernel
theorem dX9_clash_85 : decode cX9_clash 85 = .ok (.invokevirtual 280, 3) := by decide +kernel
theorem dX9_clash_88 : decode cX9_clash 88 = .ok (.ireturn, 1) := by decide +kernel
theorem dX9_clash_89 : decode cX9_clash 89 = .ok (.iinc 4 1, 3) := by decide +kernel
theorem dX9_clash_92 : decode cX9_clash 92 = .ok (.goto (-50), 3) := by decide +kernel
theorem dX9_clash_95 : decode cX9_clash 95 = .ok (.iinc 3 1, 3) := by decide +kernel
theorem dX9_clash_98 : decode cX9_clash 98 = .ok (.goto (-64), 3) := by decide +kernel
theorem dX9_clash_101 : decode cX9_clash 101 = .ok (.iconst (-1), 1) := by decide +kernel
theorem dX9_clash_102 : decode cX9_clash 102 = .ok (.ireturn, 1) := by decide +kernel
set_option maxRecDepth 20000 in
theorem ggX9_ballsOf_X9_round : GoodIn wsX9_ballsOf wsX9_round := goodIn_r _ [6, 1, 7, 17, 18, 19, 20, 21, 22, 23, 24, 25, 26, 27, 28, 29, 30, 31, 32, 33, 34, 35, 36, 37, 38, 39, 40, 41, 42, 43, 44, 45, 46, 47, 48, 49, 50, 51, 52, 53, 54, 55, 56, 57, 58, 59, 60, 61, 62] (by decide +kernel) (by decide +kernel)
set_option maxRecDepth 20000 in
theorem gX9_ballsOf_X9_round : GoodIn wsX9_ballsOf (wsV RX9 273 RX9 yX9_round wsX9_round) := goodIn_app (goodIn_of _ (by decide +kernel)) ggX9_ballsOf_X9_round
set_option maxRecDepth 20000 in
theorem ggX9_ballsOf_X9_highOf : GoodIn wsX9_ballsOf wsX9_highOf := goodIn_r _ [11, 12, 13, 14, 15, 5, 16, 7, 17, 18, 19, 20, 21, 22, 23, 24, 25, 26, 27, 28, 29, 30, 31, 32, 33, 34, 35, 36, 37, 38, 39, 40, 41, 42, 43, 44, 45, 46, 47, 48, 49, 50, 51, 52, 53, 54, 55, 56, 57, 58, 59, 60, 61, 62] (by decide +kernel) (by decide +kernel)
set_option maxRecDepth 20000 in
theorem gX9_ballsOf_X9_highOf : GoodIn wsX9_ballsOf (wsV RX9 264 RX9 yX9_highOf wsX9_highOf) := goodIn_app (goodIn_of _ (by decide +kernel)) ggX9_ballsOf_X9_highOf
theorem dX9_ballsOf_0 : decode cX9_ballsOf 0 = .ok (.aload_n 0, 1) := by decide +kernel
theorem dX9_ballsOf_1 : decode cX9_ballsOf 1 = .ok (.invokevirtual 273, 3) := by decide +kernel
theorem dX9_ballsOf_4 : decode cX9_ballsOf 4 = .ok (.istore_n 1, 1) := by decide +kernel
theorem dX9_ballsOf_5 : decode cX9_ballsOf 5 = .ok (.iconst 0, 1) := by decide +kernel
theorem dX9_ballsOf_6 : decode cX9_ballsOf 6 = .ok (.istore_n 2, 1) := by decide +kernel
theorem dX9_ballsOf_7 : decode cX9_ballsOf 7 = .ok (.iconst 0, 1) := by decide +kernel
theorem dX9_ballsOf_8 : decode cX9_ballsOf 8 = .ok (.istore_n 3, 1) := by decide +kernel
theorem dX9_ballsOf_9 : decode cX9_ballsOf 9 = .ok (.iload_n 3, 1) := by decide +kernel
theorem dX9_ballsOf_10 : decode cX9_ballsOf 10 = .ok (.iload_n 1, 1) := by decide +kernel
theorem dX9_ballsOf_11 : decode cX9_ballsOf 11 = .ok (.if_icmp .ge 39, 3) := by decide +kernel
theorem dX9_ballsOf_14 : decode cX9_ballsOf 14 = .ok (.iconst 0, 1) := by decide +kernel
theorem dX9_ballsOf_15 : decode cX9_ballsOf 15 = .ok (.istore 4, 2) := by decide +kernel
theorem dX9_ballsOf_17 : decode cX9_ballsOf 17 = .ok (.iload 4, 2) := by decide +kernel
theorem dX9_ballsOf_19 : decode cX9_ballsOf 19 = .ok (.aload_n 0, 1) := by decide +kernel
theorem dX9_ballsOf_20 : decode cX9_ballsOf 20 = .ok (.getfield 34, 3) := by decide +kernel
theorem dX9_ballsOf_23 : decode cX9_ballsOf 23 = .ok (.iconst 0, 1) := by decide +kernel
theorem dX9_ballsOf_24 : decode cX9_ballsOf 24 = .ok (.iaload, 1) := by decide +kernel
theorem dX9_ballsOf_25 : decode cX9_ballsOf 25 = .ok (.if_icmp .ge 19, 3) := by decide +kernel
theorem dX9_ballsOf_28 : decode cX9_ballsOf 28 = .ok (.iload_n 2, 1) := by decide +kernel
theorem dX9_ballsOf_29 : decode cX9_ballsOf 29 = .ok (.aload_n 0, 1) := by decide +kernel
theorem dX9_ballsOf_30 : decode cX9_ballsOf 30 = .ok (.iload 4, 2) := by decide +kernel
theorem dX9_ballsOf_32 : decode cX9_ballsOf 32 = .ok (.iload_n 3, 1) := by decide +kernel
theorem dX9_ballsOf_33 : decode cX9_ballsOf 33 = .ok (.invokevirtual 264, 3) := by decide +kernel
theorem dX9_ballsOf_36 : decode cX9_ballsOf 36 = .ok (.iadd, 1) := by decide +kernel
theorem dX9_ballsOf_37 : decode cX9_ballsOf 37 = .ok (.istore_n 2, 1) := by decide +kernel
theorem dX9_ballsOf_38 : decode cX9_ballsOf 38 = .ok (.iinc 4 1, 3) := by decide +kernel
theorem dX9_ballsOf_41 : decode cX9_ballsOf 41 = .ok (.goto (-24), 3) := by decide +kernel
theorem dX9_ballsOf_44 : decode cX9_ballsOf 44 = .ok (.iinc 3 1, 3) := by decide +kernel
theorem dX9_ballsOf_47 : decode cX9_ballsOf 47 = .ok (.goto (-38), 3) := by decide +kernel
theorem dX9_ballsOf_50 : decode cX9_ballsOf 50 = .ok (.iload_n 2, 1) := by decide +kernel
theorem dX9_ballsOf_51 : decode cX9_ballsOf 51 = .ok (.iload_n 1, 1) := by decide +kernel
theorem dX9_ballsOf_52 : decode cX9_ballsOf 52 = .ok (.idiv, 1) := by decide +kernel
theorem dX9_ballsOf_53 : decode cX9_ballsOf 53 = .ok (.ireturn, 1) := by decide +kernel
set_option maxRecDepth 20000 in
theorem ggX9_balls_X9_isCity : GoodIn wsX9_balls wsX9_isCity := goodIn_r _ [6, 7, 43, 44, 45, 46, 47, 48, 49, 50, 51, 52, 53, 54, 55, 56, 57, 58, 59, 60, 61, 62, 63, 64, 65, 66, 67, 68, 69, 70, 71, 72, 73, 74, 75, 76, 77, 78, 79, 80, 81, 82, 83, 84, 85, 86, 87, 88] (by decide +kernel) (by decide +kernel)
set_option maxRecDepth 20000 in
theorem gX9_balls_X9_isCity : GoodIn wsX9_balls (wsV RX9 270 RX9 yX9_isCity wsX9_isCity) := goodIn_app (goodIn_of _ (by decide +kernel)) ggX9_balls_X9_isCity
set_option maxRecDepth 20000 in
theorem ggX9_balls_X9_isUp : GoodIn wsX9_balls wsX9_isUp := goodIn_r _ [11, 7, 12, 13, 14, 5, 15, 16, 17, 18, 19, 20, 21, 22, 23, 24, 25, 26, 27, 28, 29, 30, 31, 32, 33, 34, 35, 36, 37, 38, 43, 44, 45, 46, 47, 48, 49, 50, 51, 52, 53, 54, 55, 56, 57, 58, 59, 60, 61, 62, 63, 64, 65, 66, 67, 68, 69, 70, 71, 72, 73, 74, 75, 76, 77, 78, 79, 80, 81, 82, 83, 84, 85, 86, 87, 88] (by decide +kernel) (by decide +kernel)
set_option maxRecDepth 20000 in
theorem gX9_balls_X9_isUp : GoodIn wsX9_balls (wsV RX9 286 RX9 yX9_isUp wsX9_isUp) := goodIn_app (goodIn_of _ (by decide +kernel)) ggX9_balls_X9_isUp
set_option maxRecDepth 20000 in
theorem ggX9_balls_X9_ballsOf : GoodIn wsX9_balls wsX9_ballsOf := goodIn_r _ [42, 7, 12, 13, 14, 5, 15, 16, 25, 26, 27, 28, 29, 30, 31, 32, 33, 43, 44, 45, 46, 47, 48, 49, 50, 51, 52, 53, 54, 55, 56, 57, 58, 59, 60, 61, 62, 63, 64, 65, 66, 67, 68, 69, 70, 71, 72, 73, 74, 75, 76, 77, 78, 79, 80, 81, 82, 83, 84, 85, 86, 87, 88] (by decide +kernel) (by decide +kernel)
set_option maxRecDepth 20000 in
theorem gX9_balls_X9_ballsOf : GoodIn wsX9_balls (wsV RX9 289 RX9 yX9_ballsOf wsX9_ballsOf) := goodIn_app (goodIn_of _ (by decide +kernel)) ggX9_balls_X9_ballsOf
theorem dX9_balls_0 : decode cX9_balls 0 = .ok (.aload_n 0, 1) := by decide +kernel
theorem dX9_balls_1 : decode cX9_balls 1 = .ok (.iconst 0, 1) := by decide +kernel
theorem dX9_balls_2 : decode cX9_balls 2 = .ok (.putfield 92, 3) := by decide +kernel
theorem dX9_balls_5 : decode cX9_balls 5 = .ok (.aload_n 0, 1) := by decide +kernel
theorem dX9_balls_6 : decode cX9_balls 6 = .ok (.invokevirtual 270, 3) := by decide +kernel
theorem dX9_balls_9 : decode cX9_balls 9 = .ok (.ifCond .ne 8, 3) := by decide +kernel
theorem dX9_balls_12 : decode cX9_balls 12 = .ok (.bipush (-2), 2) := by decide +kernel
theorem dX9_balls_14 : decode cX9_balls 14 = .ok (.goto 18, 3) := by decide +kernel
theorem dX9_balls_17 : decode cX9_balls 17 = .ok (.aload_n 0, 1) := by decide +kernel
theorem dX9_balls_18 : decode cX9_balls 18 = .ok (.invokevirtual 286, 3) := by decide +kernel
theorem dX9_balls_21 : decode cX9_balls 21 = .ok (.ifCond .eq 10, 3) := by decide +kernel
theorem dX9_balls_24 : decode cX9_balls 24 = .ok (.aload_n 0, 1) := by decide +kernel
theorem dX9_balls_25 : decode cX9_balls 25 = .ok (.invokevirtual 289, 3) := by decide +kernel
theorem dX9_balls_28 : decode cX9_balls 28 = .ok (.goto 4, 3) := by decide +kernel
theorem dX9_balls_31 : decode cX9_balls 31 = .ok (.iconst (-1), 1) := by decide +kernel
theorem dX9_balls_32 : decode cX9_balls 32 = .ok (.ireturn, 1) := by decide +kernel
set_option maxRecDepth 20000 in
theorem ggX9_lands_X9_isRoof : GoodIn wsX9_lands wsX9_isRoof := goodIn_r _ [7, 2, 8, 9, 6, 10, 46, 47, 48, 49, 50, 51, 52, 53, 54, 55, 56, 57, 58, 59, 60, 61, 62, 63, 64, 65, 66, 67, 68, 69, 70, 71, 72, 73, 74, 75, 76, 77, 78, 79, 80, 81, 82, 83, 84, 85, 86, 87, 88, 89, 90, 91] (by decide +kernel) (by decide +kernel)
set_option maxRecDepth 20000 in
theorem gX9_lands_X9_isRoof : GoodIn wsX9_lands (wsV RX9 256 RX9 yX9_isRoof wsX9_isRoof) := goodIn_app (goodIn_of _ (by decide +kernel)) ggX9_lands_X9_isRoof
set_option maxRecDepth 20000 in
theorem ggX9_lands_X9_isBeat : GoodIn wsX9_lands wsX9_isBeat := goodIn_r _ [13, 14, 8, 9, 6, 10] (by decide +kernel) (by decide +kernel)
set_option maxRecDepth 20000 in
theorem gX9_lands_X9_isBeat : GoodIn wsX9_lands (va_wsS RX9 259 yX9_isBeat wsX9_isBeat) := goodIn_app (goodIn_of _ (by decide +kernel)) ggX9_lands_X9_isBeat
set_option maxRecDepth 20000 in
theorem ggX9_lands_X9_isUp : GoodIn wsX9_lands wsX9_isUp := goodIn_r _ [18, 2, 19, 20, 21, 6, 22, 23, 24, 25, 26, 27, 28, 29, 30, 31, 32, 33, 34, 35, 36, 37, 38, 39, 40, 41, 42, 43, 44, 45, 46, 47, 48, 49, 50, 51, 52, 53, 54, 55, 56, 57, 58, 59, 60, 61, 62, 63, 64, 65, 66, 67, 68, 69, 70, 71, 72, 73, 74, 75, 76, 77, 78, 79, 80, 81, 82, 83, 84, 85, 86, 87, 88, 89, 90, 91] (by decide +kernel) (by decide +kernel)
set_option maxRecDepth 20000 in
theorem gX9_lands_X9_isUp : GoodIn wsX9_lands (wsV RX9 286 RX9 yX9_isUp wsX9_isUp) := goodIn_app (goodIn_of _ (by decide +kernel)) ggX9_lands_X9_isUp
set_option maxRecDepth 20000 in
theorem ggX9_lands_X9_highOf : GoodIn wsX9_lands wsX9_highOf := goodIn_r _ [35, 36, 37, 38, 39, 6, 40, 23, 46, 47, 48, 49, 50, 51, 52, 53, 54, 55, 56, 57, 58, 59, 60, 61, 62, 63, 64, 65, 66, 67, 68, 69, 70, 71, 72, 73, 74, 75, 76, 77, 78, 79, 80, 81, 82, 83, 84, 85, 86, 87, 88, 89, 90, 91] (by decide +kernel) (by decide +kernel)
set_option maxRecDepth 20000 in
theorem gX9_lands_X9_highOf : GoodIn wsX9_lands (wsV RX9 264 RX9 yX9_highOf wsX9_highOf) := goodIn_app (goodIn_of _ (by decide +kernel)) ggX9_lands_X9_highOf
set_option maxRecDepth 20000 in
theorem ggX9_lands_X9_toOf : GoodIn wsX9_lands wsX9_toOf := goodIn_r _ [44, 45, 37, 38, 39, 6, 40, 23, 46, 47, 48, 49, 50, 51, 52, 53, 54, 55, 56, 57, 58, 59, 60, 61, 62, 63, 64, 65, 66, 67, 68, 69, 70, 71, 72, 73, 74, 75, 76, 77, 78, 79, 80, 81, 82, 83, 84, 85, 86, 87, 88, 89, 90, 91] (by decide +kernel) (by decide +kernel)
set_option maxRecDepth 20000 in
theorem gX9_lands_X9_toOf : GoodIn wsX9_lands (wsV RX9 267 RX9 yX9_toOf wsX9_toOf) := goodIn_app (goodIn_of _ (by decide +kernel)) ggX9_lands_X9_toOf
theorem dX9_lands_0 : decode cX9_lands 0 = .ok (.aload_n 0, 1) := by decide +kernel
theorem dX9_lands_1 : decode cX9_lands 1 = .ok (.iconst 0, 1) := by decide +kernel
theorem dX9_lands_2 : decode cX9_lands 2 = .ok (.putfield 92, 3) := by decide +kernel
theorem dX9_lands_5 : decode cX9_lands 5 = .ok (.aload_n 0, 1) := by decide +kernel
theorem dX9_lands_6 : decode cX9_lands 6 = .ok (.iload_n 1, 1) := by decide +kernel
theorem dX9_lands_7 : decode cX9_lands 7 = .ok (.invokevirtual 256, 3) := by decide +kernel
theorem dX9_lands_10 : decode cX9_lands 10 = .ok (.ifCond .eq 10, 3) := by decide +kernel
theorem dX9_lands_13 : decode cX9_lands 13 = .ok (.iload_n 2, 1) := by decide +kernel
theorem dX9_lands_14 : decode cX9_lands 14 = .ok (.invokestatic 259, 3) := by decide +kernel
theorem dX9_lands_17 : decode cX9_lands 17 = .ok (.ifCond .ne 6, 3) := by decide +kernel
theorem dX9_lands_20 : decode cX9_lands 20 = .ok (.bipush (-2), 2) := by decide +kernel
theorem dX9_lands_22 : decode cX9_lands 22 = .ok (.ireturn, 1) := by decide +kernel
theorem dX9_lands_23 : decode cX9_lands 23 = .ok (.aload_n 0, 1) := by decide +kernel
theorem dX9_lands_24 : decode cX9_lands 24 = .ok (.invokevirtual 286, 3) := by decide +kernel
theorem dX9_lands_27 : decode cX9_lands 27 = .ok (.ifCond .ne 5, 3) := by decide +kernel
theorem dX9_lands_30 : decode cX9_lands 30 = .ok (.iconst (-1), 1) := by decide +kernel
theorem dX9_lands_31 : decode cX9_lands 31 = .ok (.ireturn, 1) := by decide +kernel
theorem dX9_lands_32 : decode cX9_lands 32 = .ok (.iconst 0, 1) := by decide +kernel
theorem dX9_lands_33 : decode cX9_lands 33 = .ok (.istore_n 3, 1) := by decide +kernel
theorem dX9_lands_34 : decode cX9_lands 34 = .ok (.iload_n 3, 1) := by decide +kernel
theorem dX9_lands_35 : decode cX9_lands 35 = .ok (.aload_n 0, 1) := by decide +kernel
theorem dX9_lands_36 : decode cX9_lands 36 = .ok (.getfield 34, 3) := by decide +kernel
theorem dX9_lands_39 : decode cX9_lands 39 = .ok (.iconst 0, 1) := by decide +kernel
theorem dX9_lands_40 : decode cX9_lands 40 = .ok (.iaload, 1) := by decide +kernel
theorem dX9_lands_41 : decode cX9_lands 41 = .ok (.if_icmp .ge 60, 3) := by decide +kernel
theorem dX9_lands_44 : decode cX9_lands 44 = .ok (.iconst 1, 1) := by decide +kernel
theorem dX9_lands_45 : decode cX9_lands 45 = .ok (.istore 4, 2) := by decide +kernel
theorem dX9_lands_47 : decode cX9_lands 47 = .ok (.iload 4, 2) := by decide +kernel
theorem dX9_lands_49 : decode cX9_lands 49 = .ok (.bipush 9, 2) := by decide +kernel
theorem dX9_lands_51 : decode cX9_lands 51 = .ok (.if_icmp .gt 44, 3) := by decide +kernel
theorem dX9_lands_54 : decode cX9_lands 54 = .ok (.aload_n 0, 1) := by decide +kernel
theorem dX9_lands_55 : decode cX9_lands 55 = .ok (.iload_n 3, 1) := by decide +kernel
theorem dX9_lands_56 : decode cX9_lands 56 = .ok (.iload_n 2, 1) := by decide +kernel
theorem dX9_lands_57 : decode cX9_lands 57 = .ok (.iload 4, 2) := by decide +kernel
theorem dX9_lands_59 : decode cX9_lands 59 = .ok (.isub, 1) := by decide +kernel
theorem dX9_lands_60 : decode cX9_lands 60 = .ok (.invokevirtual 264, 3) := by decide +kernel
theorem dX9_lands_63 : decode cX9_lands 63 = .ok (.iload 4, 2) := by decide +kernel
theorem dX9_lands_65 : decode cX9_lands 65 = .ok (.if_icmp .ne 24, 3) := by decide +kernel
theorem dX9_lands_68 : decode cX9_lands 68 = .ok (.aload_n 0, 1) := by decide +kernel
theorem dX9_lands_69 : decode cX9_lands 69 = .ok (.iload_n 3, 1) := by decide +kernel
theorem dX9_lands_70 : decode cX9_lands 70 = .ok (.iload_n 2, 1) := by decide +kernel
theorem dX9_lands_71 : decode cX9_lands 71 = .ok (.iload 4, 2) := by decide +kernel
theorem dX9_lands_73 : decode cX9_lands 73 = .ok (.isub, 1) := by decide +kernel
theorem dX9_lands_74 : decode cX9_lands 74 = .ok (.invokevirtual 267, 3) := by decide +kernel
theorem dX9_lands_77 : decode cX9_lands 77 = .ok (.iload_n 1, 1) := by decide +kernel
theorem dX9_lands_78 : decode cX9_lands 78 = .ok (.if_icmp .ne 11, 3) := by decide +kernel
theorem dX9_lands_81 : decode cX9_lands 81 = .ok (.bipush 10, 2) := by decide +kernel
theorem dX9_lands_83 : decode cX9_lands 83 = .ok (.iload 4, 2) := by decide +kernel
theorem dX9_lands_85 : decode cX9_lands 85 = .ok (.imul, 1) := by decide +kernel
theorem dX9_lands_86 : decode cX9_lands 86 = .ok (.iload_n 3, 1) := by decide +kernel
theorem dX9_lands_87 : decode cX9_lands 87 = .ok (.iadd, 1) := by decide +kernel
theorem dX9_lands_88 : decode cX9_lands 88 = .ok (.ireturn, 1) := by decide +kernel
theorem dX9_lands_89 : decode cX9_lands 89 = .ok (.iinc 4 1, 3) := by decide +kernel
theorem dX9_lands_92 : decode cX9_lands 92 = .ok (.goto (-45), 3) := by decide +kernel
theorem dX9_lands_95 : decode cX9_lands 95 = .ok (.iinc 3 1, 3) := by decide +kernel
theorem dX9_lands_98 : decode cX9_lands 98 = .ok (.goto (-64), 3) := by decide +kernel
theorem dX9_lands_101 : decode cX9_lands 101 = .ok (.iconst (-1), 1) := by decide +kernel
theorem dX9_lands_102 : decode cX9_lands 102 = .ok (.ireturn, 1) := by decide +kernel
set_option maxRecDepth 20000 in
theorem ggX9_air_X9_isCity : GoodIn wsX9_air wsX9_isCity := goodIn_r _ [7, 2, 46, 47, 48, 49, 50, 51, 52, 53, 54, 55, 56, 57, 58, 59, 60, 61, 62, 63, 64, 65, 66, 67, 68, 69, 70, 71, 72, 73, 74, 75, 76, 77, 78, 79, 80, 81, 82, 83, 84, 85, 86, 87, 88, 89, 90, 91] (by decide +kernel) (by decide +kernel)
set_option maxRecDepth 20000 in
theorem gX9_air_X9_isCity : GoodIn wsX9_air (wsV RX9 270 RX9 yX9_isCity wsX9_isCity) := goodIn_app (goodIn_of _ (by decide +kernel)) ggX9_air_X9_isCity
set_option maxRecDepth 20000 in
theorem ggX9_air_X9_isBeat : GoodIn wsX9_air wsX9_isBeat := goodIn_r _ [10, 11, 12, 13, 6, 14] (by decide +kernel) (by decide +kernel)
set_option maxRecDepth 20000 in
theorem gX9_air_X9_isBeat : GoodIn wsX9_air (va_wsS RX9 259 yX9_isBeat wsX9_isBeat) := goodIn_app (goodIn_of _ (by decide +kernel)) ggX9_air_X9_isBeat
set_option maxRecDepth 20000 in
theorem ggX9_air_X9_isUp : GoodIn wsX9_air wsX9_isUp := goodIn_r _ [18, 2, 19, 20, 21, 6, 22, 23, 24, 25, 26, 27, 28, 29, 30, 31, 32, 33, 34, 35, 36, 37, 38, 39, 40, 41, 42, 43, 44, 45, 46, 47, 48, 49, 50, 51, 52, 53, 54, 55, 56, 57, 58, 59, 60, 61, 62, 63, 64, 65, 66, 67, 68, 69, 70, 71, 72, 73, 74, 75, 76, 77, 78, 79, 80, 81, 82, 83, 84, 85, 86, 87, 88, 89, 90, 91] (by decide +kernel) (by decide +kernel)
set_option maxRecDepth 20000 in
theorem gX9_air_X9_isUp : GoodIn wsX9_air (wsV RX9 286 RX9 yX9_isUp wsX9_isUp) := goodIn_app (goodIn_of _ (by decide +kernel)) ggX9_air_X9_isUp
set_option maxRecDepth 20000 in
theorem ggX9_air_X9_highOf : GoodIn wsX9_air wsX9_highOf := goodIn_r _ [35, 36, 37, 38, 39, 6, 40, 23, 46, 47, 48, 49, 50, 51, 52, 53, 54, 55, 56, 57, 58, 59, 60, 61, 62, 63, 64, 65, 66, 67, 68, 69, 70, 71, 72, 73, 74, 75, 76, 77, 78, 79, 80, 81, 82, 83, 84, 85, 86, 87, 88, 89, 90, 91] (by decide +kernel) (by decide +kernel)
set_option maxRecDepth 20000 in
theorem gX9_air_X9_highOf : GoodIn wsX9_air (wsV RX9 264 RX9 yX9_highOf wsX9_highOf) := goodIn_app (goodIn_of _ (by decide +kernel)) ggX9_air_X9_highOf
theorem dX9_air_0 : decode cX9_air 0 = .ok (.aload_n 0, 1) := by decide +kernel
theorem dX9_air_1 : decode cX9_air 1 = .ok (.iconst 0, 1) := by decide +kernel
theorem dX9_air_2 : decode cX9_air 2 = .ok (.putfield 92, 3) := by decide +kernel
theorem dX9_air_5 : decode cX9_air 5 = .ok (.aload_n 0, 1) := by decide +kernel
theorem dX9_air_6 : decode cX9_air 6 = .ok (.invokevirtual 270, 3) := by decide +kernel
theorem dX9_air_9 : decode cX9_air 9 = .ok (.ifCond .eq 10, 3) := by decide +kernel
theorem dX9_air_12 : decode cX9_air 12 = .ok (.iload_n 1, 1) := by decide +kernel
theorem dX9_air_13 : decode cX9_air 13 = .ok (.invokestatic 259, 3) := by decide +kernel
theorem dX9_air_16 : decode cX9_air 16 = .ok (.ifCond .ne 6, 3) := by decide +kernel
theorem dX9_air_19 : decode cX9_air 19 = .ok (.bipush (-2), 2) := by decide +kernel
theorem dX9_air_21 : decode cX9_air 21 = .ok (.ireturn, 1) := by decide +kernel
theorem dX9_air_22 : decode cX9_air 22 = .ok (.aload_n 0, 1) := by decide +kernel
theorem dX9_air_23 : decode cX9_air 23 = .ok (.invokevirtual 286, 3) := by decide +kernel
theorem dX9_air_26 : decode cX9_air 26 = .ok (.ifCond .ne 5, 3) := by decide +kernel
theorem dX9_air_29 : decode cX9_air 29 = .ok (.iconst (-1), 1) := by decide +kernel
theorem dX9_air_30 : decode cX9_air 30 = .ok (.ireturn, 1) := by decide +kernel
theorem dX9_air_31 : decode cX9_air 31 = .ok (.iconst 0, 1) := by decide +kernel
theorem dX9_air_32 : decode cX9_air 32 = .ok (.istore_n 2, 1) := by decide +kernel
theorem dX9_air_33 : decode cX9_air 33 = .ok (.iconst 0, 1) := by decide +kernel
theorem dX9_air_34 : decode cX9_air 34 = .ok (.istore_n 3, 1) := by decide +kernel
theorem dX9_air_35 : decode cX9_air 35 = .ok (.iload_n 3, 1) := by decide +kernel
theorem dX9_air_36 : decode cX9_air 36 = .ok (.aload_n 0, 1) := by decide +kernel
theorem dX9_air_37 : decode cX9_air 37 = .ok (.getfield 34, 3) := by decide +kernel
theorem dX9_air_40 : decode cX9_air 40 = .ok (.iconst 0, 1) := by decide +kernel
theorem dX9_air_41 : decode cX9_air 41 = .ok (.iaload, 1) := by decide +kernel
theorem dX9_air_42 : decode cX9_air 42 = .ok (.if_icmp .ge 49, 3) := by decide +kernel
theorem dX9_air_45 : decode cX9_air 45 = .ok (.iload_n 1, 1) := by decide +kernel
theorem dX9_air_46 : decode cX9_air 46 = .ok (.bipush 8, 2) := by decide +kernel
theorem dX9_air_48 : decode cX9_air 48 = .ok (.isub, 1) := by decide +kernel
theorem dX9_air_49 : decode cX9_air 49 = .ok (.istore 4, 2) := by decide +kernel
theorem dX9_air_51 : decode cX9_air 51 = .ok (.iload 4, 2) := by decide +kernel
theorem dX9_air_53 : decode cX9_air 53 = .ok (.iload_n 1, 1) := by decide +kernel
theorem dX9_air_54 : decode cX9_air 54 = .ok (.if_icmp .gt 31, 3) := by decide +kernel
theorem dX9_air_57 : decode cX9_air 57 = .ok (.iload_n 2, 1) := by decide +kernel
theorem dX9_air_58 : decode cX9_air 58 = .ok (.iload 4, 2) := by decide +kernel
theorem dX9_air_60 : decode cX9_air 60 = .ok (.aload_n 0, 1) := by decide +kernel
theorem dX9_air_61 : decode cX9_air 61 = .ok (.iload_n 3, 1) := by decide +kernel
theorem dX9_air_62 : decode cX9_air 62 = .ok (.iload 4, 2) := by decide +kernel
theorem dX9_air_64 : decode cX9_air 64 = .ok (.invokevirtual 264, 3) := by decide +kernel
theorem dX9_air_67 : decode cX9_air 67 = .ok (.iadd, 1) := by decide +kernel
theorem dX9_air_68 : decode cX9_air 68 = .ok (.iload_n 1, 1) := by decide +kernel
theorem dX9_air_69 : decode cX9_air 69 = .ok (.if_icmp .le 7, 3) := by decide +kernel
theorem dX9_air_72 : decode cX9_air 72 = .ok (.iconst 1, 1) := by decide +kernel
theorem dX9_air_73 : decode cX9_air 73 = .ok (.goto 4, 3) := by decide +kernel
theorem dX9_air_76 : decode cX9_air 76 = .ok (.iconst 0, 1) := by decide +kernel
theorem dX9_air_77 : decode cX9_air 77 = .ok (.iadd, 1) := by decide +kernel
theorem dX9_air_78 : decode cX9_air 78 = .ok (.istore_n 2, 1) := by decide +kernel
theorem dX9_air_79 : decode cX9_air 79 = .ok (.iinc 4 1, 3) := by decide +kernel
theorem dX9_air_82 : decode cX9_air 82 = .ok (.goto (-31), 3) := by decide +kernel
theorem dX9_air_85 : decode cX9_air 85 = .ok (.iinc 3 1, 3) := by decide +kernel
theorem dX9_air_88 : decode cX9_air 88 = .ok (.goto (-53), 3) := by decide +kernel
theorem dX9_air_91 : decode cX9_air 91 = .ok (.iload_n 2, 1) := by decide +kernel
theorem dX9_air_92 : decode cX9_air 92 = .ok (.ireturn, 1) := by decide +kernel
set_option maxRecDepth 20000 in
theorem ggX9_follows_X9_highOf : GoodIn wsX9_follows wsX9_highOf := goodIn_r _ [7, 8, 9, 10, 11, 6, 12, 13, 19, 20, 21, 22, 23, 24, 25, 26, 27, 28, 29, 30, 31, 32, 33, 34, 35, 36, 37, 38, 39, 40, 41, 42, 43, 44, 45, 46, 47, 48, 49, 50, 51, 52, 53, 54, 55, 56, 57, 58, 59, 60, 61, 62, 63, 64] (by decide +kernel) (by decide +kernel)
set_option maxRecDepth 20000 in
theorem gX9_follows_X9_highOf : GoodIn wsX9_follows (wsV RX9 264 RX9 yX9_highOf wsX9_highOf) := goodIn_app (goodIn_of _ (by decide +kernel)) ggX9_follows_X9_highOf
set_option maxRecDepth 20000 in
theorem ggX9_follows_X9_toOf : GoodIn wsX9_follows wsX9_toOf := goodIn_r _ [17, 18, 9, 10, 11, 6, 12, 13, 19, 20, 21, 22, 23, 24, 25, 26, 27, 28, 29, 30, 31, 32, 33, 34, 35, 36, 37, 38, 39, 40, 41, 42, 43, 44, 45, 46, 47, 48, 49, 50, 51, 52, 53, 54, 55, 56, 57, 58, 59, 60, 61, 62, 63, 64] (by decide +kernel) (by decide +kernel)
set_option maxRecDepth 20000 in
theorem gX9_follows_X9_toOf : GoodIn wsX9_follows (wsV RX9 267 RX9 yX9_toOf wsX9_toOf) := goodIn_app (goodIn_of _ (by decide +kernel)) ggX9_follows_X9_toOf
theorem dX9_follows_0 : decode cX9_follows 0 = .ok (.aload_n 0, 1) := by decide +kernel
theorem dX9_follows_1 : decode cX9_follows 1 = .ok (.aload_n 0, 1) := by decide +kernel
theorem dX9_follows_2 : decode cX9_follows 2 = .ok (.getfield 292, 3) := by decide +kernel
theorem dX9_follows_5 : decode cX9_follows 5 = .ok (.aload_n 0, 1) := by decide +kernel
theorem dX9_follows_6 : decode cX9_follows 6 = .ok (.getfield 295, 3) := by decide +kernel
theorem dX9_follows_9 : decode cX9_follows 9 = .ok (.invokevirtual 264, 3) := by decide +kernel
theorem dX9_follows_12 : decode cX9_follows 12 = .ok (.istore_n 1, 1) := by decide +kernel
theorem dX9_follows_13 : decode cX9_follows 13 = .ok (.aload_n 0, 1) := by decide +kernel
theorem dX9_follows_14 : decode cX9_follows 14 = .ok (.aload_n 0, 1) := by decide +kernel
theorem dX9_follows_15 : decode cX9_follows 15 = .ok (.aload_n 0, 1) := by decide +kernel
theorem dX9_follows_16 : decode cX9_follows 16 = .ok (.getfield 292, 3) := by decide +kernel
theorem dX9_follows_19 : decode cX9_follows 19 = .ok (.aload_n 0, 1) := by decide +kernel
theorem dX9_follows_20 : decode cX9_follows 20 = .ok (.getfield 295, 3) := by decide +kernel
theorem dX9_follows_23 : decode cX9_follows 23 = .ok (.invokevirtual 267, 3) := by decide +kernel
theorem dX9_follows_26 : decode cX9_follows 26 = .ok (.putfield 292, 3) := by decide +kernel
theorem dX9_follows_29 : decode cX9_follows 29 = .ok (.aload_n 0, 1) := by decide +kernel
theorem dX9_follows_30 : decode cX9_follows 30 = .ok (.dup, 1) := by decide +kernel
theorem dX9_follows_31 : decode cX9_follows 31 = .ok (.getfield 295, 3) := by decide +kernel
theorem dX9_follows_34 : decode cX9_follows 34 = .ok (.iload_n 1, 1) := by decide +kernel
theorem dX9_follows_35 : decode cX9_follows 35 = .ok (.iadd, 1) := by decide +kernel
theorem dX9_follows_36 : decode cX9_follows 36 = .ok (.putfield 295, 3) := by decide +kernel
theorem dX9_follows_39 : decode cX9_follows 39 = .ok (.return_, 1) := by decide +kernel
set_option maxRecDepth 20000 in
theorem ggX9_starts_X9_isUp : GoodIn wsX9_starts wsX9_isUp := goodIn_r _ [7, 8, 9, 10, 11, 6, 12, 13, 14, 15, 16, 17, 18, 19, 20, 21, 22, 23, 24, 25, 26, 27, 28, 29, 30, 31, 32, 33, 34, 35, 36, 37, 38, 39, 40, 41, 42, 43, 44, 45, 46, 47, 48, 49, 50, 51, 52, 53, 54, 55, 56, 57, 58, 59, 60, 61, 62, 63, 64, 65, 66, 67, 68, 69, 70, 71, 72, 73, 74, 75, 76, 77, 78, 79, 80, 81] (by decide +kernel) (by decide +kernel)
set_option maxRecDepth 20000 in
theorem gX9_starts_X9_isUp : GoodIn wsX9_starts (wsV RX9 286 RX9 yX9_isUp wsX9_isUp) := goodIn_app (goodIn_of _ (by decide +kernel)) ggX9_starts_X9_isUp
set_option maxRecDepth 20000 in
theorem ggX9_starts_X9_highOf : GoodIn wsX9_starts wsX9_highOf := goodIn_r _ [25, 26, 27, 28, 29, 6, 30, 13, 36, 37, 38, 39, 40, 41, 42, 43, 44, 45, 46, 47, 48, 49, 50, 51, 52, 53, 54, 55, 56, 57, 58, 59, 60, 61, 62, 63, 64, 65, 66, 67, 68, 69, 70, 71, 72, 73, 74, 75, 76, 77, 78, 79, 80, 81] (by decide +kernel) (by decide +kernel)
set_option maxRecDepth 20000 in
theorem gX9_starts_X9_highOf : GoodIn wsX9_starts (wsV RX9 264 RX9 yX9_highOf wsX9_highOf) := goodIn_app (goodIn_of _ (by decide +kernel)) ggX9_starts_X9_highOf
theorem dX9_starts_0 : decode cX9_starts 0 = .ok (.aload_n 0, 1) := by decide +kernel
theorem dX9_starts_1 : decode cX9_starts 1 = .ok (.invokevirtual 286, 3) := by decide +kernel
theorem dX9_starts_4 : decode cX9_starts 4 = .ok (.ifCond .eq 12, 3) := by decide +kernel
theorem dX9_starts_7 : decode cX9_starts 7 = .ok (.aload_n 0, 1) := by decide +kernel
theorem dX9_starts_8 : decode cX9_starts 8 = .ok (.iload_n 1, 1) := by decide +kernel
theorem dX9_starts_9 : decode cX9_starts 9 = .ok (.iload_n 2, 1) := by decide +kernel
theorem dX9_starts_10 : decode cX9_starts 10 = .ok (.invokevirtual 264, 3) := by decide +kernel
theorem dX9_starts_13 : decode cX9_starts 13 = .ok (.ifCond .ne 5, 3) := by decide +kernel
theorem dX9_starts_16 : decode cX9_starts 16 = .ok (.iconst 0, 1) := by decide +kernel
theorem dX9_starts_17 : decode cX9_starts 17 = .ok (.ireturn, 1) := by decide +kernel
theorem dX9_starts_18 : decode cX9_starts 18 = .ok (.aload_n 0, 1) := by decide +kernel
theorem dX9_starts_19 : decode cX9_starts 19 = .ok (.iload_n 1, 1) := by decide +kernel
theorem dX9_starts_20 : decode cX9_starts 20 = .ok (.putfield 292, 3) := by decide +kernel
theorem dX9_starts_23 : decode cX9_starts 23 = .ok (.aload_n 0, 1) := by decide +kernel
theorem dX9_starts_24 : decode cX9_starts 24 = .ok (.iload_n 2, 1) := by decide +kernel
theorem dX9_starts_25 : decode cX9_starts 25 = .ok (.putfield 295, 3) := by decide +kernel
theorem dX9_starts_28 : decode cX9_starts 28 = .ok (.iconst 1, 1) := by decide +kernel
theorem dX9_starts_29 : decode cX9_starts 29 = .ok (.ireturn, 1) := by decide +kernel
set_option maxRecDepth 20000 in
theorem ggX9_isToss_X9_isRoof : GoodIn wsX9_isToss wsX9_isRoof := goodIn_r _ [5, 6, 7, 8, 4, 9, 14, 15, 16, 17, 18, 19, 20, 21, 22, 23, 24, 25, 26, 27, 28, 29, 30, 31, 32, 33, 34, 35, 36, 37, 38, 39, 40, 41, 42, 43, 44, 45, 46, 47, 48, 49, 50, 51, 52, 53, 54, 55, 56, 57, 58, 59] (by decide +kernel) (by decide +kernel)
set_option maxRecDepth 20000 in
theorem gX9_isToss_X9_isRoof : GoodIn wsX9_isToss (wsV RX9 256 RX9 yX9_isRoof wsX9_isRoof) := goodIn_app (goodIn_of _ (by decide +kernel)) ggX9_isToss_X9_isRoof
set_option maxRecDepth 20000 in
theorem ggX9_isToss_X9_isBeat : GoodIn wsX9_isToss wsX9_isBeat := goodIn_r _ [12, 13, 7, 8, 4, 9] (by decide +kernel) (by decide +kernel)
set_option maxRecDepth 20000 in
theorem gX9_isToss_X9_isBeat : GoodIn wsX9_isToss (va_wsS RX9 259 yX9_isBeat wsX9_isBeat) := goodIn_app (goodIn_of _ (by decide +kernel)) ggX9_isToss_X9_isBeat
theorem dX9_isToss_0 : decode cX9_isToss 0 = .ok (.aload_n 0, 1) := by decide +kernel
theorem dX9_isToss_1 : decode cX9_isToss 1 = .ok (.iload_n 1, 1) := by decide +kernel
theorem dX9_isToss_2 : decode cX9_isToss 2 = .ok (.invokevirtual 256, 3) := by decide +kernel
theorem dX9_isToss_5 : decode cX9_isToss 5 = .ok (.ifCond .eq 14, 3) := by decide +kernel
theorem dX9_isToss_8 : decode cX9_isToss 8 = .ok (.iload_n 2, 1) := by decide +kernel
theorem dX9_isToss_9 : decode cX9_isToss 9 = .ok (.invokestatic 259, 3) := by decide +kernel
theorem dX9_isToss_12 : decode cX9_isToss 12 = .ok (.ifCond .eq 7, 3) := by decide +kernel
theorem dX9_isToss_15 : decode cX9_isToss 15 = .ok (.iconst 1, 1) := by decide +kernel
theorem dX9_isToss_16 : decode cX9_isToss 16 = .ok (.goto 4, 3) := by decide +kernel
theorem dX9_isToss_19 : decode cX9_isToss 19 = .ok (.iconst 0, 1) := by decide +kernel
theorem dX9_isToss_20 : decode cX9_isToss 20 = .ok (.ireturn, 1) := by decide +kernel
set_option maxRecDepth 20000 in
theorem ggX9_ball_X9_isToss : GoodIn wsX9_ball wsX9_isToss := goodIn_r _ [9, 10, 11, 12, 8, 13, 14, 15, 16, 17, 18, 19, 20, 21, 61, 62, 63, 64, 65, 66, 67, 68, 69, 70, 71, 72, 73, 74, 75, 76, 77, 78, 79, 80, 81, 82, 83, 84, 85, 86, 87, 88, 89, 90, 91, 92, 93, 94, 95, 96, 97, 98, 99, 100, 101, 102, 103, 104, 105, 106] (by decide +kernel) (by decide +kernel)
set_option maxRecDepth 20000 in
theorem gX9_ball_X9_isToss : GoodIn wsX9_ball (wsV RX9 298 RX9 yX9_isToss wsX9_isToss) := goodIn_app (goodIn_of _ (by decide +kernel)) ggX9_ball_X9_isToss
set_option maxRecDepth 20000 in
theorem ggX9_ball_X9_in : GoodIn wsX9_ball wsX9_in := goodIn_r _ [17] (by decide +kernel) (by decide +kernel)
set_option maxRecDepth 20000 in
theorem gX9_ball_X9_in : GoodIn wsX9_ball (va_wsS RX9 97 yX9_in wsX9_in) := goodIn_app (goodIn_of _ (by decide +kernel)) ggX9_ball_X9_in
set_option maxRecDepth 20000 in
theorem ggX9_ball_X9_starts : GoodIn wsX9_ball wsX9_starts := goodIn_r _ [25, 3, 4, 26, 27, 28, 8, 29, 14, 30, 31, 32, 33, 34, 35, 36, 37, 38, 39, 40, 41, 42, 43, 44, 45, 46, 47, 48, 49, 50, 51, 52, 53, 54, 55, 56, 61, 62, 63, 64, 65, 66, 67, 68, 69, 70, 71, 72, 73, 74, 75, 76, 77, 78, 79, 80, 81, 82, 83, 84, 85, 86, 87, 88, 89, 90, 91, 92, 93, 94, 95, 96, 97, 98, 99, 100, 101, 102, 103, 104, 105, 106] (by decide +kernel) (by decide +kernel)
set_option maxRecDepth 20000 in
theorem gX9_ball_X9_starts : GoodIn wsX9_ball (wsV RX9 303 RX9 yX9_starts wsX9_starts) := goodIn_app (goodIn_of _ (by decide +kernel)) ggX9_ball_X9_starts
set_option maxRecDepth 20000 in
theorem ggX9_ball_X9_follows : GoodIn wsX9_ball wsX9_follows := goodIn_r _ [60, 3, 4, 43, 44, 45, 8, 46, 47, 48, 49, 50, 51, 34, 52, 53, 54, 55, 56, 61, 62, 63, 64, 65, 66, 67, 68, 69, 70, 71, 72, 73, 74, 75, 76, 77, 78, 79, 80, 81, 82, 83, 84, 85, 86, 87, 88, 89, 90, 91, 92, 93, 94, 95, 96, 97, 98, 99, 100, 101, 102, 103, 104, 105, 106] (by decide +kernel) (by decide +kernel)
set_option maxRecDepth 20000 in
theorem gX9_ball_X9_follows : GoodIn wsX9_ball (wsV RX9 306 RX9 yX9_follows wsX9_follows) := goodIn_app (goodIn_of _ (by decide +kernel)) ggX9_ball_X9_follows
theorem dX9_ball_0 : decode cX9_ball 0 = .ok (.aload_n 0, 1) := by decide +kernel
theorem dX9_ball_1 : decode cX9_ball 1 = .ok (.iconst 0, 1) := by decide +kernel
theorem dX9_ball_2 : decode cX9_ball 2 = .ok (.putfield 92, 3) := by decide +kernel
theorem dX9_ball_5 : decode cX9_ball 5 = .ok (.aload_n 0, 1) := by decide +kernel
theorem dX9_ball_6 : decode cX9_ball 6 = .ok (.iload_n 1, 1) := by decide +kernel
theorem dX9_ball_7 : decode cX9_ball 7 = .ok (.iload_n 2, 1) := by decide +kernel
theorem dX9_ball_8 : decode cX9_ball 8 = .ok (.invokevirtual 298, 3) := by decide +kernel
theorem dX9_ball_11 : decode cX9_ball 11 = .ok (.ifCond .eq 26, 3) := by decide +kernel
theorem dX9_ball_14 : decode cX9_ball 14 = .ok (.iload_n 3, 1) := by decide +kernel
theorem dX9_ball_15 : decode cX9_ball 15 = .ok (.i2l, 1) := by decide +kernel
theorem dX9_ball_16 : decode cX9_ball 16 = .ok (.lconst 0, 1) := by decide +kernel
theorem dX9_ball_17 : decode cX9_ball 17 = .ok (.ldc2_w 301, 3) := by decide +kernel
theorem dX9_ball_20 : decode cX9_ball 20 = .ok (.invokestatic 97, 3) := by decide +kernel
theorem dX9_ball_23 : decode cX9_ball 23 = .ok (.ifCond .eq 14, 3) := by decide +kernel
theorem dX9_ball_26 : decode cX9_ball 26 = .ok (.iload 4, 2) := by decide +kernel
theorem dX9_ball_28 : decode cX9_ball 28 = .ok (.i2l, 1) := by decide +kernel
theorem dX9_ball_29 : decode cX9_ball 29 = .ok (.lconst 0, 1) := by decide +kernel
theorem dX9_ball_30 : decode cX9_ball 30 = .ok (.lconst 1, 1) := by decide +kernel
theorem dX9_ball_31 : decode cX9_ball 31 = .ok (.invokestatic 97, 3) := by decide +kernel
theorem dX9_ball_34 : decode cX9_ball 34 = .ok (.ifCond .ne 6, 3) := by decide +kernel
theorem dX9_ball_37 : decode cX9_ball 37 = .ok (.bipush (-2), 2) := by decide +kernel
theorem dX9_ball_39 : decode cX9_ball 39 = .ok (.ireturn, 1) := by decide +kernel
theorem dX9_ball_40 : decode cX9_ball 40 = .ok (.aload_n 0, 1) := by decide +kernel
theorem dX9_ball_41 : decode cX9_ball 41 = .ok (.iload_n 1, 1) := by decide +kernel
theorem dX9_ball_42 : decode cX9_ball 42 = .ok (.iload_n 2, 1) := by decide +kernel
theorem dX9_ball_43 : decode cX9_ball 43 = .ok (.invokevirtual 303, 3) := by decide +kernel
theorem dX9_ball_46 : decode cX9_ball 46 = .ok (.ifCond .ne 5, 3) := by decide +kernel
theorem dX9_ball_49 : decode cX9_ball 49 = .ok (.iconst (-1), 1) := by decide +kernel
theorem dX9_ball_50 : decode cX9_ball 50 = .ok (.ireturn, 1) := by decide +kernel
theorem dX9_ball_51 : decode cX9_ball 51 = .ok (.iconst 0, 1) := by decide +kernel
theorem dX9_ball_52 : decode cX9_ball 52 = .ok (.istore 5, 2) := by decide +kernel
theorem dX9_ball_54 : decode cX9_ball 54 = .ok (.iload 5, 2) := by decide +kernel
theorem dX9_ball_56 : decode cX9_ball 56 = .ok (.iload_n 3, 1) := by decide +kernel
theorem dX9_ball_57 : decode cX9_ball 57 = .ok (.if_icmp .ge 13, 3) := by decide +kernel
theorem dX9_ball_60 : decode cX9_ball 60 = .ok (.aload_n 0, 1) := by decide +kernel
theorem dX9_ball_61 : decode cX9_ball 61 = .ok (.invokevirtual 306, 3) := by decide +kernel
theorem dX9_ball_64 : decode cX9_ball 64 = .ok (.iinc 5 1, 3) := by decide +kernel
theorem dX9_ball_67 : decode cX9_ball 67 = .ok (.goto (-13), 3) := by decide +kernel
theorem dX9_ball_70 : decode cX9_ball 70 = .ok (.iload 4, 2) := by decide +kernel
theorem dX9_ball_72 : decode cX9_ball 72 = .ok (.ifCond .ne 10, 3) := by decide +kernel
theorem dX9_ball_75 : decode cX9_ball 75 = .ok (.aload_n 0, 1) := by decide +kernel
theorem dX9_ball_76 : decode cX9_ball 76 = .ok (.getfield 292, 3) := by decide +kernel
theorem dX9_ball_79 : decode cX9_ball 79 = .ok (.goto 7, 3) := by decide +kernel
theorem dX9_ball_82 : decode cX9_ball 82 = .ok (.aload_n 0, 1) := by decide +kernel
theorem dX9_ball_83 : decode cX9_ball 83 = .ok (.getfield 295, 3) := by decide +kernel
theorem dX9_ball_86 : decode cX9_ball 86 = .ok (.ireturn, 1) := by decide +kernel
set_option maxRecDepth 20000 in
theorem ggX9_orbit_X9_isToss : GoodIn wsX9_orbit wsX9_isToss := goodIn_r _ [9, 10, 11, 12, 8, 13, 14, 15, 16, 17, 18, 19, 20, 21, 61, 62, 63, 64, 65, 66, 67, 68, 69, 70, 71, 72, 73, 74, 75, 76, 77, 78, 79, 80, 81, 82, 83, 84, 85, 86, 87, 88, 89, 90, 91, 92, 93, 94, 95, 96, 97, 98, 99, 100, 101, 102, 103, 104, 105, 106] (by decide +kernel) (by decide +kernel)
set_option maxRecDepth 20000 in
theorem gX9_orbit_X9_isToss : GoodIn wsX9_orbit (wsV RX9 298 RX9 yX9_isToss wsX9_isToss) := goodIn_app (goodIn_of _ (by decide +kernel)) ggX9_orbit_X9_isToss
set_option maxRecDepth 20000 in
theorem ggX9_orbit_X9_in : GoodIn wsX9_orbit wsX9_in := goodIn_r _ [17] (by decide +kernel) (by decide +kernel)
set_option maxRecDepth 20000 in
theorem gX9_orbit_X9_in : GoodIn wsX9_orbit (va_wsS RX9 97 yX9_in wsX9_in) := goodIn_app (goodIn_of _ (by decide +kernel)) ggX9_orbit_X9_in
set_option maxRecDepth 20000 in
theorem ggX9_orbit_X9_starts : GoodIn wsX9_orbit wsX9_starts := goodIn_r _ [25, 3, 4, 26, 27, 28, 8, 29, 14, 30, 31, 32, 33, 34, 35, 36, 37, 38, 39, 40, 41, 42, 43, 44, 45, 46, 47, 48, 49, 50, 51, 52, 53, 54, 55, 56, 61, 62, 63, 64, 65, 66, 67, 68, 69, 70, 71, 72, 73, 74, 75, 76, 77, 78, 79, 80, 81, 82, 83, 84, 85, 86, 87, 88, 89, 90, 91, 92, 93, 94, 95, 96, 97, 98, 99, 100, 101, 102, 103, 104, 105, 106] (by decide +kernel) (by decide +kernel)
set_option maxRecDepth 20000 in
theorem gX9_orbit_X9_starts : GoodIn wsX9_orbit (wsV RX9 303 RX9 yX9_starts wsX9_starts) := goodIn_app (goodIn_of _ (by decide +kernel)) ggX9_orbit_X9_starts
set_option maxRecDepth 20000 in
theorem ggX9_orbit_X9_round : GoodIn wsX9_orbit wsX9_round := goodIn_r _ [33, 14, 34, 61, 62, 63, 64, 65, 66, 67, 68, 69, 70, 71, 72, 73, 74, 75, 76, 77, 78, 79, 80, 81, 82, 83, 84, 85, 86, 87, 88, 89, 90, 91, 92, 93, 94, 95, 96, 97, 98, 99, 100, 101, 102, 103, 104, 105, 106] (by decide +kernel) (by decide +kernel)
set_option maxRecDepth 20000 in
theorem gX9_orbit_X9_round : GoodIn wsX9_orbit (wsV RX9 273 RX9 yX9_round wsX9_round) := goodIn_app (goodIn_of _ (by decide +kernel)) ggX9_orbit_X9_round
set_option maxRecDepth 20000 in
theorem ggX9_orbit_X9_follows : GoodIn wsX9_orbit wsX9_follows := goodIn_r _ [60, 3, 4, 43, 44, 45, 8, 46, 47, 48, 49, 50, 51, 34, 52, 53, 54, 55, 56, 61, 62, 63, 64, 65, 66, 67, 68, 69, 70, 71, 72, 73, 74, 75, 76, 77, 78, 79, 80, 81, 82, 83, 84, 85, 86, 87, 88, 89, 90, 91, 92, 93, 94, 95, 96, 97, 98, 99, 100, 101, 102, 103, 104, 105, 106] (by decide +kernel) (by decide +kernel)
set_option maxRecDepth 20000 in
theorem gX9_orbit_X9_follows : GoodIn wsX9_orbit (wsV RX9 306 RX9 yX9_follows wsX9_follows) := goodIn_app (goodIn_of _ (by decide +kernel)) ggX9_orbit_X9_follows
theorem dX9_orbit_0 : decode cX9_orbit 0 = .ok (.aload_n 0, 1) := by decide +kernel
theorem dX9_orbit_1 : decode cX9_orbit 1 = .ok (.iconst 0, 1) := by decide +kernel
theorem dX9_orbit_2 : decode cX9_orbit 2 = .ok (.putfield 92, 3) := by decide +kernel
theorem dX9_orbit_5 : decode cX9_orbit 5 = .ok (.aload_n 0, 1) := by decide +kernel
theorem dX9_orbit_6 : decode cX9_orbit 6 = .ok (.iload_n 1, 1) := by decide +kernel
theorem dX9_orbit_7 : decode cX9_orbit 7 = .ok (.iload_n 2, 1) := by decide +kernel
theorem dX9_orbit_8 : decode cX9_orbit 8 = .ok (.invokevirtual 298, 3) := by decide +kernel
theorem dX9_orbit_11 : decode cX9_orbit 11 = .ok (.ifCond .eq 15, 3) := by decide +kernel
theorem dX9_orbit_14 : decode cX9_orbit 14 = .ok (.iload_n 3, 1) := by decide +kernel
theorem dX9_orbit_15 : decode cX9_orbit 15 = .ok (.i2l, 1) := by decide +kernel
theorem dX9_orbit_16 : decode cX9_orbit 16 = .ok (.lconst 0, 1) := by decide +kernel
theorem dX9_orbit_17 : decode cX9_orbit 17 = .ok (.ldc2_w 95, 3) := by decide +kernel
theorem dX9_orbit_20 : decode cX9_orbit 20 = .ok (.invokestatic 97, 3) := by decide +kernel
theorem dX9_orbit_23 : decode cX9_orbit 23 = .ok (.ifCond .ne 6, 3) := by decide +kernel
theorem dX9_orbit_26 : decode cX9_orbit 26 = .ok (.bipush (-2), 2) := by decide +kernel
theorem dX9_orbit_28 : decode cX9_orbit 28 = .ok (.ireturn, 1) := by decide +kernel
theorem dX9_orbit_29 : decode cX9_orbit 29 = .ok (.aload_n 0, 1) := by decide +kernel
theorem dX9_orbit_30 : decode cX9_orbit 30 = .ok (.iload_n 1, 1) := by decide +kernel
theorem dX9_orbit_31 : decode cX9_orbit 31 = .ok (.iload_n 2, 1) := by decide +kernel
theorem dX9_orbit_32 : decode cX9_orbit 32 = .ok (.invokevirtual 303, 3) := by decide +kernel
theorem dX9_orbit_35 : decode cX9_orbit 35 = .ok (.ifCond .ne 5, 3) := by decide +kernel
theorem dX9_orbit_38 : decode cX9_orbit 38 = .ok (.iconst (-1), 1) := by decide +kernel
theorem dX9_orbit_39 : decode cX9_orbit 39 = .ok (.ireturn, 1) := by decide +kernel
theorem dX9_orbit_40 : decode cX9_orbit 40 = .ok (.aload_n 0, 1) := by decide +kernel
theorem dX9_orbit_41 : decode cX9_orbit 41 = .ok (.invokevirtual 273, 3) := by decide +kernel
theorem dX9_orbit_44 : decode cX9_orbit 44 = .ok (.istore 4, 2) := by decide +kernel
theorem dX9_orbit_46 : decode cX9_orbit 46 = .ok (.iconst 0, 1) := by decide +kernel
theorem dX9_orbit_47 : decode cX9_orbit 47 = .ok (.istore 5, 2) := by decide +kernel
theorem dX9_orbit_49 : decode cX9_orbit 49 = .ok (.iconst 0, 1) := by decide +kernel
theorem dX9_orbit_50 : decode cX9_orbit 50 = .ok (.istore 6, 2) := by decide +kernel
theorem dX9_orbit_52 : decode cX9_orbit 52 = .ok (.iload 6, 2) := by decide +kernel
theorem dX9_orbit_54 : decode cX9_orbit 54 = .ok (.iconst 1, 1) := by decide +kernel
theorem dX9_orbit_55 : decode cX9_orbit 55 = .ok (.aload_n 0, 1) := by decide +kernel
theorem dX9_orbit_56 : decode cX9_orbit 56 = .ok (.getfield 292, 3) := by decide +kernel
theorem dX9_orbit_59 : decode cX9_orbit 59 = .ok (.ishl, 1) := by decide +kernel
theorem dX9_orbit_60 : decode cX9_orbit 60 = .ok (.ior, 1) := by decide +kernel
theorem dX9_orbit_61 : decode cX9_orbit 61 = .ok (.istore 6, 2) := by decide +kernel
theorem dX9_orbit_63 : decode cX9_orbit 63 = .ok (.aload_n 0, 1) := by decide +kernel
theorem dX9_orbit_64 : decode cX9_orbit 64 = .ok (.invokevirtual 306, 3) := by decide +kernel
theorem dX9_orbit_67 : decode cX9_orbit 67 = .ok (.iinc 5 1, 3) := by decide +kernel
theorem dX9_orbit_70 : decode cX9_orbit 70 = .ok (.aload_n 0, 1) := by decide +kernel
theorem dX9_orbit_71 : decode cX9_orbit 71 = .ok (.getfield 292, 3) := by decide +kernel
theorem dX9_orbit_74 : decode cX9_orbit 74 = .ok (.iload_n 1, 1) := by decide +kernel
theorem dX9_orbit_75 : decode cX9_orbit 75 = .ok (.if_icmp .ne (-23), 3) := by decide +kernel
theorem dX9_orbit_78 : decode cX9_orbit 78 = .ok (.aload_n 0, 1) := by decide +kernel
theorem dX9_orbit_79 : decode cX9_orbit 79 = .ok (.getfield 295, 3) := by decide +kernel
theorem dX9_orbit_82 : decode cX9_orbit 82 = .ok (.iload_n 2, 1) := by decide +kernel
theorem dX9_orbit_83 : decode cX9_orbit 83 = .ok (.isub, 1) := by decide +kernel
theorem dX9_orbit_84 : decode cX9_orbit 84 = .ok (.iload 4, 2) := by decide +kernel
theorem dX9_orbit_86 : decode cX9_orbit 86 = .ok (.irem, 1) := by decide +kernel
theorem dX9_orbit_87 : decode cX9_orbit 87 = .ok (.ifCond .ne (-35), 3) := by decide +kernel
theorem dX9_orbit_90 : decode cX9_orbit 90 = .ok (.aload_n 0, 1) := by decide +kernel
theorem dX9_orbit_91 : decode cX9_orbit 91 = .ok (.getfield 295, 3) := by decide +kernel
theorem dX9_orbit_94 : decode cX9_orbit 94 = .ok (.iload_n 2, 1) := by decide +kernel
theorem dX9_orbit_95 : decode cX9_orbit 95 = .ok (.isub, 1) := by decide +kernel
theorem dX9_orbit_96 : decode cX9_orbit 96 = .ok (.istore 7, 2) := by decide +kernel
theorem dX9_orbit_98 : decode cX9_orbit 98 = .ok (.iload_n 3, 1) := by decide +kernel
theorem dX9_orbit_99 : decode cX9_orbit 99 = .ok (.ifCond .ne 8, 3) := by decide +kernel
theorem dX9_orbit_102 : decode cX9_orbit 102 = .ok (.iload 5, 2) := by decide +kernel
theorem dX9_orbit_104 : decode cX9_orbit 104 = .ok (.goto 28, 3) := by decide +kernel
theorem dX9_orbit_107 : decode cX9_orbit 107 = .ok (.iload_n 3, 1) := by decide +kernel
theorem dX9_orbit_108 : decode cX9_orbit 108 = .ok (.iconst 1, 1) := by decide +kernel
theorem dX9_orbit_109 : decode cX9_orbit 109 = .ok (.if_icmp .ne 8, 3) := by decide +kernel
theorem dX9_orbit_112 : decode cX9_orbit 112 = .ok (.iload 7, 2) := by decide +kernel
theorem dX9_orbit_114 : decode cX9_orbit 114 = .ok (.goto 18, 3) := by decide +kernel
theorem dX9_orbit_117 : decode cX9_orbit 117 = .ok (.iload_n 3, 1) := by decide +kernel
theorem dX9_orbit_118 : decode cX9_orbit 118 = .ok (.iconst 2, 1) := by decide +kernel
theorem dX9_orbit_119 : decode cX9_orbit 119 = .ok (.if_icmp .ne 11, 3) := by decide +kernel
theorem dX9_orbit_122 : decode cX9_orbit 122 = .ok (.iload 7, 2) := by decide +kernel
theorem dX9_orbit_124 : decode cX9_orbit 124 = .ok (.iload 4, 2) := by decide +kernel
theorem dX9_orbit_126 : decode cX9_orbit 126 = .ok (.idiv, 1) := by decide +kernel
theorem dX9_orbit_127 : decode cX9_orbit 127 = .ok (.goto 5, 3) := by decide +kernel
theorem dX9_orbit_130 : decode cX9_orbit 130 = .ok (.iload 6, 2) := by decide +kernel
theorem dX9_orbit_132 : decode cX9_orbit 132 = .ok (.ireturn, 1) := by decide +kernel
set_option maxRecDepth 20000 in
theorem ggX9_orbits_X9_isCity : GoodIn wsX9_orbits wsX9_isCity := goodIn_r _ [10, 3, 46, 47, 48, 49, 50, 51, 52, 53, 54, 55, 56, 57, 58, 59, 60, 61, 62, 63, 64, 65, 66, 67, 68, 69, 70, 71, 72, 73, 74, 75, 76, 77, 78, 79, 80, 81, 82, 83, 84, 85, 86, 87, 88, 89, 90, 91] (by decide +kernel) (by decide +kernel)
set_option maxRecDepth 20000 in
theorem gX9_orbits_X9_isCity : GoodIn wsX9_orbits (wsV RX9 270 RX9 yX9_isCity wsX9_isCity) := goodIn_app (goodIn_of _ (by decide +kernel)) ggX9_orbits_X9_isCity
set_option maxRecDepth 20000 in
theorem ggX9_orbits_X9_isUp : GoodIn wsX9_orbits wsX9_isUp := goodIn_r _ [14, 3, 15, 16, 17, 9, 18, 19, 20, 21, 22, 23, 24, 25, 26, 27, 28, 29, 30, 31, 32, 33, 34, 35, 36, 37, 38, 39, 40, 41, 46, 47, 48, 49, 50, 51, 52, 53, 54, 55, 56, 57, 58, 59, 60, 61, 62, 63, 64, 65, 66, 67, 68, 69, 70, 71, 72, 73, 74, 75, 76, 77, 78, 79, 80, 81, 82, 83, 84, 85, 86, 87, 88, 89, 90, 91] (by decide +kernel) (by decide +kernel)
set_option maxRecDepth 20000 in
theorem gX9_orbits_X9_isUp : GoodIn wsX9_orbits (wsV RX9 286 RX9 yX9_isUp wsX9_isUp) := goodIn_app (goodIn_of _ (by decide +kernel)) ggX9_orbits_X9_isUp
set_option maxRecDepth 20000 in
theorem ggX9_orbits_X9_round : GoodIn wsX9_orbits wsX9_round := goodIn_r _ [18, 3, 19, 46, 47, 48, 49, 50, 51, 52, 53, 54, 55, 56, 57, 58, 59, 60, 61, 62, 63, 64, 65, 66, 67, 68, 69, 70, 71, 72, 73, 74, 75, 76, 77, 78, 79, 80, 81, 82, 83, 84, 85, 86, 87, 88, 89, 90, 91] (by decide +kernel) (by decide +kernel)
set_option maxRecDepth 20000 in
theorem gX9_orbits_X9_round : GoodIn wsX9_orbits (wsV RX9 273 RX9 yX9_round wsX9_round) := goodIn_app (goodIn_of _ (by decide +kernel)) ggX9_orbits_X9_round
set_option maxRecDepth 20000 in
theorem ggX9_orbits_X9_highOf : GoodIn wsX9_orbits wsX9_highOf := goodIn_r _ [31, 32, 33, 34, 35, 9, 36, 19, 46, 47, 48, 49, 50, 51, 52, 53, 54, 55, 56, 57, 58, 59, 60, 61, 62, 63, 64, 65, 66, 67, 68, 69, 70, 71, 72, 73, 74, 75, 76, 77, 78, 79, 80, 81, 82, 83, 84, 85, 86, 87, 88, 89, 90, 91] (by decide +kernel) (by decide +kernel)
set_option maxRecDepth 20000 in
theorem gX9_orbits_X9_highOf : GoodIn wsX9_orbits (wsV RX9 264 RX9 yX9_highOf wsX9_highOf) := goodIn_app (goodIn_of _ (by decide +kernel)) ggX9_orbits_X9_highOf
set_option maxRecDepth 20000 in
theorem ggX9_orbits_X9_follows : GoodIn wsX9_orbits wsX9_follows := goodIn_r _ [45, 4, 5, 28, 29, 30, 9, 31, 32, 33, 34, 35, 36, 19, 37, 38, 39, 40, 41, 46, 47, 48, 49, 50, 51, 52, 53, 54, 55, 56, 57, 58, 59, 60, 61, 62, 63, 64, 65, 66, 67, 68, 69, 70, 71, 72, 73, 74, 75, 76, 77, 78, 79, 80, 81, 82, 83, 84, 85, 86, 87, 88, 89, 90, 91] (by decide +kernel) (by decide +kernel)
set_option maxRecDepth 20000 in
theorem gX9_orbits_X9_follows : GoodIn wsX9_orbits (wsV RX9 306 RX9 yX9_follows wsX9_follows) := goodIn_app (goodIn_of _ (by decide +kernel)) ggX9_orbits_X9_follows
theorem dX9_orbits_0 : decode cX9_orbits 0 = .ok (.aload_n 0, 1) := by decide +kernel
theorem dX9_orbits_1 : decode cX9_orbits 1 = .ok (.iconst 0, 1) := by decide +kernel
theorem dX9_orbits_2 : decode cX9_orbits 2 = .ok (.putfield 92, 3) := by decide +kernel
theorem dX9_orbits_5 : decode cX9_orbits 5 = .ok (.aload_n 0, 1) := by decide +kernel
theorem dX9_orbits_6 : decode cX9_orbits 6 = .ok (.invokevirtual 270, 3) := by decide +kernel
theorem dX9_orbits_9 : decode cX9_orbits 9 = .ok (.ifCond .ne 6, 3) := by decide +kernel
theorem dX9_orbits_12 : decode cX9_orbits 12 = .ok (.bipush (-2), 2) := by decide +kernel
theorem dX9_orbits_14 : decode cX9_orbits 14 = .ok (.ireturn, 1) := by decide +kernel
theorem dX9_orbits_15 : decode cX9_orbits 15 = .ok (.aload_n 0, 1) := by decide +kernel
theorem dX9_orbits_16 : decode cX9_orbits 16 = .ok (.invokevirtual 286, 3) := by decide +kernel
theorem dX9_orbits_19 : decode cX9_orbits 19 = .ok (.ifCond .ne 5, 3) := by decide +kernel
theorem dX9_orbits_22 : decode cX9_orbits 22 = .ok (.iconst (-1), 1) := by decide +kernel
theorem dX9_orbits_23 : decode cX9_orbits 23 = .ok (.ireturn, 1) := by decide +kernel
theorem dX9_orbits_24 : decode cX9_orbits 24 = .ok (.aload_n 0, 1) := by decide +kernel
theorem dX9_orbits_25 : decode cX9_orbits 25 = .ok (.invokevirtual 273, 3) := by decide +kernel
theorem dX9_orbits_28 : decode cX9_orbits 28 = .ok (.istore_n 1, 1) := by decide +kernel
theorem dX9_orbits_29 : decode cX9_orbits 29 = .ok (.iconst 0, 1) := by decide +kernel
theorem dX9_orbits_30 : decode cX9_orbits 30 = .ok (.istore_n 2, 1) := by decide +kernel
theorem dX9_orbits_31 : decode cX9_orbits 31 = .ok (.iload_n 2, 1) := by decide +kernel
theorem dX9_orbits_32 : decode cX9_orbits 32 = .ok (.iload_n 1, 1) := by decide +kernel
theorem dX9_orbits_33 : decode cX9_orbits 33 = .ok (.bipush 6, 2) := by decide +kernel
theorem dX9_orbits_35 : decode cX9_orbits 35 = .ok (.imul, 1) := by decide +kernel
theorem dX9_orbits_36 : decode cX9_orbits 36 = .ok (.if_icmp .ge 16, 3) := by decide +kernel
theorem dX9_orbits_39 : decode cX9_orbits 39 = .ok (.aload_n 0, 1) := by decide +kernel
theorem dX9_orbits_40 : decode cX9_orbits 40 = .ok (.getfield 71, 3) := by decide +kernel
theorem dX9_orbits_43 : decode cX9_orbits 43 = .ok (.iload_n 2, 1) := by decide +kernel
theorem dX9_orbits_44 : decode cX9_orbits 44 = .ok (.iconst 0, 1) := by decide +kernel
theorem dX9_orbits_45 : decode cX9_orbits 45 = .ok (.bastore, 1) := by decide +kernel
theorem dX9_orbits_46 : decode cX9_orbits 46 = .ok (.iinc 2 1, 3) := by decide +kernel
theorem dX9_orbits_49 : decode cX9_orbits 49 = .ok (.goto (-18), 3) := by decide +kernel
theorem dX9_orbits_52 : decode cX9_orbits 52 = .ok (.iconst 0, 1) := by decide +kernel
theorem dX9_orbits_53 : decode cX9_orbits 53 = .ok (.istore_n 2, 1) := by decide +kernel
theorem dX9_orbits_54 : decode cX9_orbits 54 = .ok (.iconst 0, 1) := by decide +kernel
theorem dX9_orbits_55 : decode cX9_orbits 55 = .ok (.istore_n 3, 1) := by decide +kernel
theorem dX9_orbits_56 : decode cX9_orbits 56 = .ok (.iload_n 3, 1) := by decide +kernel
theorem dX9_orbits_57 : decode cX9_orbits 57 = .ok (.iload_n 1, 1) := by decide +kernel
theorem dX9_orbits_58 : decode cX9_orbits 58 = .ok (.if_icmp .ge 120, 3) := by decide +kernel
theorem dX9_orbits_61 : decode cX9_orbits 61 = .ok (.iconst 0, 1) := by decide +kernel
theorem dX9_orbits_62 : decode cX9_orbits 62 = .ok (.istore 4, 2) := by decide +kernel
theorem dX9_orbits_64 : decode cX9_orbits 64 = .ok (.iload 4, 2) := by decide +kernel
theorem dX9_orbits_66 : decode cX9_orbits 66 = .ok (.aload_n 0, 1) := by decide +kernel
theorem dX9_orbits_67 : decode cX9_orbits 67 = .ok (.getfield 34, 3) := by decide +kernel
theorem dX9_orbits_70 : decode cX9_orbits 70 = .ok (.iconst 0, 1) := by decide +kernel
theorem dX9_orbits_71 : decode cX9_orbits 71 = .ok (.iaload, 1) := by decide +kernel
theorem dX9_orbits_72 : decode cX9_orbits 72 = .ok (.if_icmp .ge 100, 3) := by decide +kernel
theorem dX9_orbits_75 : decode cX9_orbits 75 = .ok (.aload_n 0, 1) := by decide +kernel
theorem dX9_orbits_76 : decode cX9_orbits 76 = .ok (.getfield 71, 3) := by decide +kernel
theorem dX9_orbits_79 : decode cX9_orbits 79 = .ok (.bipush 6, 2) := by decide +kernel
theorem dX9_orbits_81 : decode cX9_orbits 81 = .ok (.iload_n 3, 1) := by decide +kernel
theorem dX9_orbits_82 : decode cX9_orbits 82 = .ok (.imul, 1) := by decide +kernel
theorem dX9_orbits_83 : decode cX9_orbits 83 = .ok (.iload 4, 2) := by decide +kernel
theorem dX9_orbits_85 : decode cX9_orbits 85 = .ok (.iadd, 1) := by decide +kernel
theorem dX9_orbits_86 : decode cX9_orbits 86 = .ok (.baload, 1) := by decide +kernel
theorem dX9_orbits_87 : decode cX9_orbits 87 = .ok (.ifCond .ne 79, 3) := by decide +kernel
theorem dX9_orbits_90 : decode cX9_orbits 90 = .ok (.aload_n 0, 1) := by decide +kernel
theorem dX9_orbits_91 : decode cX9_orbits 91 = .ok (.iload 4, 2) := by decide +kernel
theorem dX9_orbits_93 : decode cX9_orbits 93 = .ok (.iload_n 3, 1) := by decide +kernel
theorem dX9_orbits_94 : decode cX9_orbits 94 = .ok (.invokevirtual 264, 3) := by decide +kernel
theorem dX9_orbits_97 : decode cX9_orbits 97 = .ok (.ifCond .ne 6, 3) := by decide +kernel
theorem dX9_orbits_100 : decode cX9_orbits 100 = .ok (.goto 66, 3) := by decide +kernel
theorem dX9_orbits_103 : decode cX9_orbits 103 = .ok (.iinc 2 1, 3) := by decide +kernel
theorem dX9_orbits_106 : decode cX9_orbits 106 = .ok (.aload_n 0, 1) := by decide +kernel
theorem dX9_orbits_107 : decode cX9_orbits 107 = .ok (.iload 4, 2) := by decide +kernel
theorem dX9_orbits_109 : decode cX9_orbits 109 = .ok (.putfield 292, 3) := by decide +kernel
theorem dX9_orbits_112 : decode cX9_orbits 112 = .ok (.aload_n 0, 1) := by decide +kernel
theorem dX9_orbits_113 : decode cX9_orbits 113 = .ok (.iload_n 3, 1) := by decide +kernel
theorem dX9_orbits_114 : decode cX9_orbits 114 = .ok (.putfield 295, 3) := by decide +kernel
theorem dX9_orbits_117 : decode cX9_orbits 117 = .ok (.aload_n 0, 1) := by decide +kernel
theorem dX9_orbits_118 : decode cX9_orbits 118 = .ok (.getfield 71, 3) := by decide +kernel
theorem dX9_orbits_121 : decode cX9_orbits 121 = .ok (.bipush 6, 2) := by decide +kernel
theorem dX9_orbits_123 : decode cX9_orbits 123 = .ok (.aload_n 0, 1) := by decide +kernel
theorem dX9_orbits_124 : decode cX9_orbits 124 = .ok (.getfield 295, 3) := by decide +kernel
theorem dX9_orbits_127 : decode cX9_orbits 127 = .ok (.iload_n 1, 1) := by decide +kernel
theorem dX9_orbits_128 : decode cX9_orbits 128 = .ok (.irem, 1) := by decide +kernel
theorem dX9_orbits_129 : decode cX9_orbits 129 = .ok (.imul, 1) := by decide +kernel
theorem dX9_orbits_130 : decode cX9_orbits 130 = .ok (.aload_n 0, 1) := by decide +kernel
theorem dX9_orbits_131 : decode cX9_orbits 131 = .ok (.getfield 292, 3) := by decide +kernel
theorem dX9_orbits_134 : decode cX9_orbits 134 = .ok (.iadd, 1) := by decide +kernel
theorem dX9_orbits_135 : decode cX9_orbits 135 = .ok (.baload, 1) := by decide +kernel
theorem dX9_orbits_136 : decode cX9_orbits 136 = .ok (.ifCond .ne 30, 3) := by decide +kernel
theorem dX9_orbits_139 : decode cX9_orbits 139 = .ok (.aload_n 0, 1) := by decide +kernel
theorem dX9_orbits_140 : decode cX9_orbits 140 = .ok (.getfield 71, 3) := by decide +kernel
theorem dX9_orbits_143 : decode cX9_orbits 143 = .ok (.bipush 6, 2) := by decide +kernel
theorem dX9_orbits_145 : decode cX9_orbits 145 = .ok (.aload_n 0, 1) := by decide +kernel
theorem dX9_orbits_146 : decode cX9_orbits 146 = .ok (.getfield 295, 3) := by decide +kernel
theorem dX9_orbits_149 : decode cX9_orbits 149 = .ok (.iload_n 1, 1) := by decide +kernel
theorem dX9_orbits_150 : decode cX9_orbits 150 = .ok (.irem, 1) := by decide +kernel
theorem dX9_orbits_151 : decode cX9_orbits 151 = .ok (.imul, 1) := by decide +kernel
theorem dX9_orbits_152 : decode cX9_orbits 152 = .ok (.aload_n 0, 1) := by decide +kernel
theorem dX9_orbits_153 : decode cX9_orbits 153 = .ok (.getfield 292, 3) := by decide +kernel
theorem dX9_orbits_156 : decode cX9_orbits 156 = .ok (.iadd, 1) := by decide +kernel
theorem dX9_orbits_157 : decode cX9_orbits 157 = .ok (.iconst 1, 1) := by decide +kernel
theorem dX9_orbits_158 : decode cX9_orbits 158 = .ok (.bastore, 1) := by decide +kernel
theorem dX9_orbits_159 : decode cX9_orbits 159 = .ok (.aload_n 0, 1) := by decide +kernel
theorem dX9_orbits_160 : decode cX9_orbits 160 = .ok (.invokevirtual 306, 3) := by decide +kernel
theorem dX9_orbits_163 : decode cX9_orbits 163 = .ok (.goto (-46), 3) := by decide +kernel
theorem dX9_orbits_166 : decode cX9_orbits 166 = .ok (.iinc 4 1, 3) := by decide +kernel
theorem dX9_orbits_169 : decode cX9_orbits 169 = .ok (.goto (-105), 3) := by decide +kernel
theorem dX9_orbits_172 : decode cX9_orbits 172 = .ok (.iinc 3 1, 3) := by decide +kernel
theorem dX9_orbits_175 : decode cX9_orbits 175 = .ok (.goto (-119), 3) := by decide +kernel
theorem dX9_orbits_178 : decode cX9_orbits 178 = .ok (.iload_n 2, 1) := by decide +kernel
theorem dX9_orbits_179 : decode cX9_orbits 179 = .ok (.ireturn, 1) := by decide +kernel
set_option maxRecDepth 20000 in
theorem ggX9_same_X9_isToss : GoodIn wsX9_same wsX9_isToss := goodIn_r _ [8, 9, 10, 11, 7, 12, 13, 14, 15, 16, 17, 18, 19, 20, 60, 61, 62, 63, 64, 65, 66, 67, 68, 69, 70, 71, 72, 73, 74, 75, 76, 77, 78, 79, 80, 81, 82, 83, 84, 85, 86, 87, 88, 89, 90, 91, 92, 93, 94, 95, 96, 97, 98, 99, 100, 101, 102, 103, 104, 105] (by decide +kernel) (by decide +kernel)
set_option maxRecDepth 20000 in
theorem gX9_same_X9_isToss : GoodIn wsX9_same (wsV RX9 298 RX9 yX9_isToss wsX9_isToss) := goodIn_app (goodIn_of _ (by decide +kernel)) ggX9_same_X9_isToss
set_option maxRecDepth 20000 in
theorem ggX9_same_X9_starts : GoodIn wsX9_same wsX9_starts := goodIn_r _ [24, 3, 2, 25, 26, 27, 7, 28, 13, 29, 30, 31, 32, 33, 34, 35, 36, 37, 38, 39, 40, 41, 42, 43, 44, 45, 46, 47, 48, 49, 50, 51, 52, 53, 54, 55, 60, 61, 62, 63, 64, 65, 66, 67, 68, 69, 70, 71, 72, 73, 74, 75, 76, 77, 78, 79, 80, 81, 82, 83, 84, 85, 86, 87, 88, 89, 90, 91, 92, 93, 94, 95, 96, 97, 98, 99, 100, 101, 102, 103, 104, 105] (by decide +kernel) (by decide +kernel)
set_option maxRecDepth 20000 in
theorem gX9_same_X9_starts : GoodIn wsX9_same (wsV RX9 303 RX9 yX9_starts wsX9_starts) := goodIn_app (goodIn_of _ (by decide +kernel)) ggX9_same_X9_starts
set_option maxRecDepth 20000 in
theorem ggX9_same_X9_follows : GoodIn wsX9_same wsX9_follows := goodIn_r _ [59, 3, 2, 42, 43, 44, 7, 45, 46, 47, 48, 49, 50, 33, 51, 52, 53, 54, 55, 60, 61, 62, 63, 64, 65, 66, 67, 68, 69, 70, 71, 72, 73, 74, 75, 76, 77, 78, 79, 80, 81, 82, 83, 84, 85, 86, 87, 88, 89, 90, 91, 92, 93, 94, 95, 96, 97, 98, 99, 100, 101, 102, 103, 104, 105] (by decide +kernel) (by decide +kernel)
set_option maxRecDepth 20000 in
theorem gX9_same_X9_follows : GoodIn wsX9_same (wsV RX9 306 RX9 yX9_follows wsX9_follows) := goodIn_app (goodIn_of _ (by decide +kernel)) ggX9_same_X9_follows
theorem dX9_same_0 : decode cX9_same 0 = .ok (.aload_n 0, 1) := by decide +kernel
theorem dX9_same_1 : decode cX9_same 1 = .ok (.iconst 0, 1) := by decide +kernel
theorem dX9_same_2 : decode cX9_same 2 = .ok (.putfield 92, 3) := by decide +kernel
theorem dX9_same_5 : decode cX9_same 5 = .ok (.aload_n 0, 1) := by decide +kernel
theorem dX9_same_6 : decode cX9_same 6 = .ok (.iload_n 1, 1) := by decide +kernel
theorem dX9_same_7 : decode cX9_same 7 = .ok (.iload_n 2, 1) := by decide +kernel
theorem dX9_same_8 : decode cX9_same 8 = .ok (.invokevirtual 298, 3) := by decide +kernel
theorem dX9_same_11 : decode cX9_same 11 = .ok (.ifCond .eq 13, 3) := by decide +kernel
theorem dX9_same_14 : decode cX9_same 14 = .ok (.aload_n 0, 1) := by decide +kernel
theorem dX9_same_15 : decode cX9_same 15 = .ok (.iload_n 3, 1) := by decide +kernel
theorem dX9_same_16 : decode cX9_same 16 = .ok (.iload 4, 2) := by decide +kernel
theorem dX9_same_18 : decode cX9_same 18 = .ok (.invokevirtual 298, 3) := by decide +kernel
theorem dX9_same_21 : decode cX9_same 21 = .ok (.ifCond .ne 6, 3) := by decide +kernel
theorem dX9_same_24 : decode cX9_same 24 = .ok (.bipush (-2), 2) := by decide +kernel
theorem dX9_same_26 : decode cX9_same 26 = .ok (.ireturn, 1) := by decide +kernel
theorem dX9_same_27 : decode cX9_same 27 = .ok (.aload_n 0, 1) := by decide +kernel
theorem dX9_same_28 : decode cX9_same 28 = .ok (.iload_n 1, 1) := by decide +kernel
theorem dX9_same_29 : decode cX9_same 29 = .ok (.iload_n 2, 1) := by decide +kernel
theorem dX9_same_30 : decode cX9_same 30 = .ok (.invokevirtual 303, 3) := by decide +kernel
theorem dX9_same_33 : decode cX9_same 33 = .ok (.ifCond .ne 5, 3) := by decide +kernel
theorem dX9_same_36 : decode cX9_same 36 = .ok (.iconst (-1), 1) := by decide +kernel
theorem dX9_same_37 : decode cX9_same 37 = .ok (.ireturn, 1) := by decide +kernel
theorem dX9_same_38 : decode cX9_same 38 = .ok (.aload_n 0, 1) := by decide +kernel
theorem dX9_same_39 : decode cX9_same 39 = .ok (.getfield 295, 3) := by decide +kernel
theorem dX9_same_42 : decode cX9_same 42 = .ok (.iload 4, 2) := by decide +kernel
theorem dX9_same_44 : decode cX9_same 44 = .ok (.if_icmp .ge 10, 3) := by decide +kernel
theorem dX9_same_47 : decode cX9_same 47 = .ok (.aload_n 0, 1) := by decide +kernel
theorem dX9_same_48 : decode cX9_same 48 = .ok (.invokevirtual 306, 3) := by decide +kernel
theorem dX9_same_51 : decode cX9_same 51 = .ok (.goto (-13), 3) := by decide +kernel
theorem dX9_same_54 : decode cX9_same 54 = .ok (.aload_n 0, 1) := by decide +kernel
theorem dX9_same_55 : decode cX9_same 55 = .ok (.getfield 295, 3) := by decide +kernel
theorem dX9_same_58 : decode cX9_same 58 = .ok (.iload 4, 2) := by decide +kernel
theorem dX9_same_60 : decode cX9_same 60 = .ok (.if_icmp .ne 15, 3) := by decide +kernel
theorem dX9_same_63 : decode cX9_same 63 = .ok (.aload_n 0, 1) := by decide +kernel
theorem dX9_same_64 : decode cX9_same 64 = .ok (.getfield 292, 3) := by decide +kernel
theorem dX9_same_67 : decode cX9_same 67 = .ok (.iload_n 3, 1) := by decide +kernel
theorem dX9_same_68 : decode cX9_same 68 = .ok (.if_icmp .ne 7, 3) := by decide +kernel
theorem dX9_same_71 : decode cX9_same 71 = .ok (.iconst 1, 1) := by decide +kernel
theorem dX9_same_72 : decode cX9_same 72 = .ok (.goto 4, 3) := by decide +kernel
theorem dX9_same_75 : decode cX9_same 75 = .ok (.iconst 0, 1) := by decide +kernel
theorem dX9_same_76 : decode cX9_same 76 = .ok (.ireturn, 1) := by decide +kernel
theorem dX9_isPair_0 : decode cX9_isPair 0 = .ok (.iconst 0, 1) := by decide +kernel
theorem dX9_isPair_1 : decode cX9_isPair 1 = .ok (.istore_n 3, 1) := by decide +kernel
theorem dX9_isPair_2 : decode cX9_isPair 2 = .ok (.iload_n 3, 1) := by decide +kernel
theorem dX9_isPair_3 : decode cX9_isPair 3 = .ok (.aload_n 0, 1) := by decide +kernel
theorem dX9_isPair_4 : decode cX9_isPair 4 = .ok (.getfield 49, 3) := by decide +kernel
theorem dX9_isPair_7 : decode cX9_isPair 7 = .ok (.iconst 0, 1) := by decide +kernel
theorem dX9_isPair_8 : decode cX9_isPair 8 = .ok (.iaload, 1) := by decide +kernel
theorem dX9_isPair_9 : decode cX9_isPair 9 = .ok (.if_icmp .ge 37, 3) := by decide +kernel
theorem dX9_isPair_12 : decode cX9_isPair 12 = .ok (.aload_n 0, 1) := by decide +kernel
theorem dX9_isPair_13 : decode cX9_isPair 13 = .ok (.getfield 52, 3) := by decide +kernel
theorem dX9_isPair_16 : decode cX9_isPair 16 = .ok (.iconst 2, 1) := by decide +kernel
theorem dX9_isPair_17 : decode cX9_isPair 17 = .ok (.iload_n 3, 1) := by decide +kernel
theorem dX9_isPair_18 : decode cX9_isPair 18 = .ok (.imul, 1) := by decide +kernel
theorem dX9_isPair_19 : decode cX9_isPair 19 = .ok (.iaload, 1) := by decide +kernel
theorem dX9_isPair_20 : decode cX9_isPair 20 = .ok (.iload_n 1, 1) := by decide +kernel
theorem dX9_isPair_21 : decode cX9_isPair 21 = .ok (.if_icmp .ne 19, 3) := by decide +kernel
theorem dX9_isPair_24 : decode cX9_isPair 24 = .ok (.aload_n 0, 1) := by decide +kernel
theorem dX9_isPair_25 : decode cX9_isPair 25 = .ok (.getfield 52, 3) := by decide +kernel
theorem dX9_isPair_28 : decode cX9_isPair 28 = .ok (.iconst 2, 1) := by decide +kernel
theorem dX9_isPair_29 : decode cX9_isPair 29 = .ok (.iload_n 3, 1) := by decide +kernel
theorem dX9_isPair_30 : decode cX9_isPair 30 = .ok (.imul, 1) := by decide +kernel
theorem dX9_isPair_31 : decode cX9_isPair 31 = .ok (.iconst 1, 1) := by decide +kernel
theorem dX9_isPair_32 : decode cX9_isPair 32 = .ok (.iadd, 1) := by decide +kernel
theorem dX9_isPair_33 : decode cX9_isPair 33 = .ok (.iaload, 1) := by decide +kernel
theorem dX9_isPair_34 : decode cX9_isPair 34 = .ok (.iload_n 2, 1) := by decide +kernel
theorem dX9_isPair_35 : decode cX9_isPair 35 = .ok (.if_icmp .ne 5, 3) := by decide +kernel
theorem dX9_isPair_38 : decode cX9_isPair 38 = .ok (.iconst 1, 1) := by decide +kernel
theorem dX9_isPair_39 : decode cX9_isPair 39 = .ok (.ireturn, 1) := by decide +kernel
theorem dX9_isPair_40 : decode cX9_isPair 40 = .ok (.iinc 3 1, 3) := by decide +kernel
theorem dX9_isPair_43 : decode cX9_isPair 43 = .ok (.goto (-41), 3) := by decide +kernel
theorem dX9_isPair_46 : decode cX9_isPair 46 = .ok (.iconst 0, 1) := by decide +kernel
theorem dX9_isPair_47 : decode cX9_isPair 47 = .ok (.ireturn, 1) := by decide +kernel
set_option maxRecDepth 20000 in
theorem ggX9_crossings_X9_isCity : GoodIn wsX9_crossings wsX9_isCity := goodIn_r _ [8, 3, 32, 33, 34, 35, 36, 37, 38, 39, 40, 41, 42, 43, 44, 45, 46, 47, 48, 49, 50, 51, 52, 53, 54, 55, 56, 57, 58, 59, 60, 61, 62, 63, 64, 65, 66, 67, 68, 69, 70, 71, 72, 73, 74, 75, 76, 77] (by decide +kernel) (by decide +kernel)
set_option maxRecDepth 20000 in
theorem gX9_crossings_X9_isCity : GoodIn wsX9_crossings (wsV RX9 270 RX9 yX9_isCity wsX9_isCity) := goodIn_app (goodIn_of _ (by decide +kernel)) ggX9_crossings_X9_isCity
set_option maxRecDepth 20000 in
theorem ggX9_crossings_X9_in : GoodIn wsX9_crossings wsX9_in := goodIn_r _ [11] (by decide +kernel) (by decide +kernel)
set_option maxRecDepth 20000 in
theorem gX9_crossings_X9_in : GoodIn wsX9_crossings (va_wsS RX9 97 yX9_in wsX9_in) := goodIn_app (goodIn_of _ (by decide +kernel)) ggX9_crossings_X9_in
set_option maxRecDepth 20000 in
theorem ggX9_crossings_X9_round : GoodIn wsX9_crossings wsX9_round := goodIn_r _ [15, 3, 16, 32, 33, 34, 35, 36, 37, 38, 39, 40, 41, 42, 43, 44, 45, 46, 47, 48, 49, 50, 51, 52, 53, 54, 55, 56, 57, 58, 59, 60, 61, 62, 63, 64, 65, 66, 67, 68, 69, 70, 71, 72, 73, 74, 75, 76, 77] (by decide +kernel) (by decide +kernel)
set_option maxRecDepth 20000 in
theorem gX9_crossings_X9_round : GoodIn wsX9_crossings (wsV RX9 273 RX9 yX9_round wsX9_round) := goodIn_app (goodIn_of _ (by decide +kernel)) ggX9_crossings_X9_round
set_option maxRecDepth 20000 in
theorem ggX9_crossings_X9_isPair : GoodIn wsX9_crossings wsX9_isPair := goodIn_r _ [20, 21, 22, 32, 33, 34, 35, 36, 37, 38, 39, 40, 41, 42, 43, 44, 45, 46, 47, 48, 49, 50, 51, 52, 53, 54, 55, 56, 57, 58, 59, 60, 61, 62, 63, 64, 65, 66, 67, 68, 69, 70, 71, 72, 73, 74, 75, 76, 77] (by decide +kernel) (by decide +kernel)
set_option maxRecDepth 20000 in
theorem gX9_crossings_X9_isPair : GoodIn wsX9_crossings (wsV RX9 309 RX9 yX9_isPair wsX9_isPair) := goodIn_app (goodIn_of _ (by decide +kernel)) ggX9_crossings_X9_isPair
set_option maxRecDepth 20000 in
theorem ggX9_crossings_X9_toOf : GoodIn wsX9_crossings wsX9_toOf := goodIn_r _ [26, 27, 28, 29, 30, 7, 31, 16, 32, 33, 34, 35, 36, 37, 38, 39, 40, 41, 42, 43, 44, 45, 46, 47, 48, 49, 50, 51, 52, 53, 54, 55, 56, 57, 58, 59, 60, 61, 62, 63, 64, 65, 66, 67, 68, 69, 70, 71, 72, 73, 74, 75, 76, 77] (by decide +kernel) (by decide +kernel)
set_option maxRecDepth 20000 in
theorem gX9_crossings_X9_toOf : GoodIn wsX9_crossings (wsV RX9 267 RX9 yX9_toOf wsX9_toOf) := goodIn_app (goodIn_of _ (by decide +kernel)) ggX9_crossings_X9_toOf
theorem dX9_crossings_0 : decode cX9_crossings 0 = .ok (.aload_n 0, 1) := by decide +kernel
theorem dX9_crossings_1 : decode cX9_crossings 1 = .ok (.iconst 0, 1) := by decide +kernel
theorem dX9_crossings_2 : decode cX9_crossings 2 = .ok (.putfield 92, 3) := by decide +kernel
theorem dX9_crossings_5 : decode cX9_crossings 5 = .ok (.aload_n 0, 1) := by decide +kernel
theorem dX9_crossings_6 : decode cX9_crossings 6 = .ok (.invokevirtual 270, 3) := by decide +kernel
theorem dX9_crossings_9 : decode cX9_crossings 9 = .ok (.ifCond .eq 15, 3) := by decide +kernel
theorem dX9_crossings_12 : decode cX9_crossings 12 = .ok (.iload_n 1, 1) := by decide +kernel
theorem dX9_crossings_13 : decode cX9_crossings 13 = .ok (.i2l, 1) := by decide +kernel
theorem dX9_crossings_14 : decode cX9_crossings 14 = .ok (.lconst 0, 1) := by decide +kernel
theorem dX9_crossings_15 : decode cX9_crossings 15 = .ok (.ldc2_w 95, 3) := by decide +kernel
theorem dX9_crossings_18 : decode cX9_crossings 18 = .ok (.invokestatic 97, 3) := by decide +kernel
theorem dX9_crossings_21 : decode cX9_crossings 21 = .ok (.ifCond .ne 6, 3) := by decide +kernel
theorem dX9_crossings_24 : decode cX9_crossings 24 = .ok (.bipush (-2), 2) := by decide +kernel
theorem dX9_crossings_26 : decode cX9_crossings 26 = .ok (.ireturn, 1) := by decide +kernel
theorem dX9_crossings_27 : decode cX9_crossings 27 = .ok (.aload_n 0, 1) := by decide +kernel
theorem dX9_crossings_28 : decode cX9_crossings 28 = .ok (.invokevirtual 273, 3) := by decide +kernel
theorem dX9_crossings_31 : decode cX9_crossings 31 = .ok (.istore_n 2, 1) := by decide +kernel
theorem dX9_crossings_32 : decode cX9_crossings 32 = .ok (.iconst 0, 1) := by decide +kernel
theorem dX9_crossings_33 : decode cX9_crossings 33 = .ok (.istore_n 3, 1) := by decide +kernel
theorem dX9_crossings_34 : decode cX9_crossings 34 = .ok (.iconst (-1), 1) := by decide +kernel
theorem dX9_crossings_35 : decode cX9_crossings 35 = .ok (.istore 4, 2) := by decide +kernel
theorem dX9_crossings_37 : decode cX9_crossings 37 = .ok (.iconst 0, 1) := by decide +kernel
theorem dX9_crossings_38 : decode cX9_crossings 38 = .ok (.istore 5, 2) := by decide +kernel
theorem dX9_crossings_40 : decode cX9_crossings 40 = .ok (.iload 5, 2) := by decide +kernel
theorem dX9_crossings_42 : decode cX9_crossings 42 = .ok (.iload_n 2, 1) := by decide +kernel
theorem dX9_crossings_43 : decode cX9_crossings 43 = .ok (.if_icmp .ge 122, 3) := by decide +kernel
theorem dX9_crossings_46 : decode cX9_crossings 46 = .ok (.iconst 0, 1) := by decide +kernel
theorem dX9_crossings_47 : decode cX9_crossings 47 = .ok (.istore 6, 2) := by decide +kernel
theorem dX9_crossings_49 : decode cX9_crossings 49 = .ok (.iload 6, 2) := by decide +kernel
theorem dX9_crossings_51 : decode cX9_crossings 51 = .ok (.aload_n 0, 1) := by decide +kernel
theorem dX9_crossings_52 : decode cX9_crossings 52 = .ok (.getfield 34, 3) := by decide +kernel
theorem dX9_crossings_55 : decode cX9_crossings 55 = .ok (.iconst 0, 1) := by decide +kernel
theorem dX9_crossings_56 : decode cX9_crossings 56 = .ok (.iaload, 1) := by decide +kernel
theorem dX9_crossings_57 : decode cX9_crossings 57 = .ok (.if_icmp .ge 102, 3) := by decide +kernel
theorem dX9_crossings_60 : decode cX9_crossings 60 = .ok (.iload 6, 2) := by decide +kernel
theorem dX9_crossings_62 : decode cX9_crossings 62 = .ok (.iconst 1, 1) := by decide +kernel
theorem dX9_crossings_63 : decode cX9_crossings 63 = .ok (.iadd, 1) := by decide +kernel
