set_option maxRecDepth 20000 in
theorem ggX7_waysOf_X7_fill : GoodIn wsX7_waysOf wsX7_fill := goodIn_r _ [5, 6, 7, 8, 9, 10, 11, 12, 13, 14, 15, 4, 16, 17, 18, 19, 20, 21, 22, 23, 24, 25, 26, 27, 28, 29, 30, 31, 36, 37, 38] (by decide +kernel) (by decide +kernel)
set_option maxRecDepth 20000 in
theorem gX7_waysOf_X7_fill : GoodIn wsX7_waysOf (wsV RX7 15 RX7 yX7_fill wsX7_fill) := goodIn_app (goodIn_of _ (by decide +kernel)) ggX7_waysOf_X7_fill
set_option maxRecDepth 20000 in
theorem ggX7_waysOf_X7_waysOn : GoodIn wsX7_waysOf wsX7_waysOn := goodIn_r _ [35, 8, 36, 37, 38] (by decide +kernel) (by decide +kernel)
set_option maxRecDepth 20000 in
theorem gX7_waysOf_X7_waysOn : GoodIn wsX7_waysOf (wsV RX7 19 RX7 yX7_waysOn wsX7_waysOn) := goodIn_app (goodIn_of _ (by decide +kernel)) ggX7_waysOf_X7_waysOn
theorem dX7_waysOf_0 : decode cX7_waysOf 0 = .ok (.aload_n 0, 1) := by decide +kernel
theorem dX7_waysOf_1 : decode cX7_waysOf 1 = .ok (.iload_n 1, 1) := by decide +kernel
theorem dX7_waysOf_2 : decode cX7_waysOf 2 = .ok (.iload_n 3, 1) := by decide +kernel
theorem dX7_waysOf_3 : decode cX7_waysOf 3 = .ok (.invokevirtual 15, 3) := by decide +kernel
theorem dX7_waysOf_6 : decode cX7_waysOf 6 = .ok (.aload_n 0, 1) := by decide +kernel
theorem dX7_waysOf_7 : decode cX7_waysOf 7 = .ok (.iconst 0, 1) := by decide +kernel
theorem dX7_waysOf_8 : decode cX7_waysOf 8 = .ok (.iload_n 2, 1) := by decide +kernel
theorem dX7_waysOf_9 : decode cX7_waysOf 9 = .ok (.invokevirtual 19, 3) := by decide +kernel
theorem dX7_waysOf_12 : decode cX7_waysOf 12 = .ok (.ireturn, 1) := by decide +kernel
set_option maxRecDepth 20000 in
theorem ggX7_fill_J7_fill_53178 : GoodIn wsX7_fill wsJ7_fill_53178 := goodIn_r _ [7] (by decide +kernel) (by decide +kernel)
set_option maxRecDepth 20000 in
theorem gX7_fill_J7_fill_53178 : GoodIn wsX7_fill (va_wsS RX7 30 yJ7_fill_53178 wsJ7_fill_53178) := goodIn_app (goodIn_of _ (by decide +kernel)) ggX7_fill_J7_fill_53178
set_option maxRecDepth 20000 in
theorem ggX7_fill_X7_addWays : GoodIn wsX7_fill wsX7_addWays := goodIn_r _ [12, 3, 13, 14, 15, 16, 17, 18, 19, 20, 21, 22, 11, 23, 1, 24, 25, 26, 27, 28, 29, 30] (by decide +kernel) (by decide +kernel)
set_option maxRecDepth 20000 in
theorem gX7_fill_X7_addWays : GoodIn wsX7_fill (wsV RX7 35 RX7 yX7_addWays wsX7_addWays) := goodIn_app (goodIn_of _ (by decide +kernel)) ggX7_fill_X7_addWays
theorem dX7_fill_0 : decode cX7_fill 0 = .ok (.iload_n 1, 1) := by decide +kernel
theorem dX7_fill_1 : decode cX7_fill 1 = .ok (.aload_n 0, 1) := by decide +kernel
theorem dX7_fill_2 : decode cX7_fill 2 = .ok (.getfield 23, 3) := by decide +kernel
theorem dX7_fill_5 : decode cX7_fill 5 = .ok (.if_icmp .ne 12, 3) := by decide +kernel
theorem dX7_fill_8 : decode cX7_fill 8 = .ok (.iload_n 2, 1) := by decide +kernel
theorem dX7_fill_9 : decode cX7_fill 9 = .ok (.aload_n 0, 1) := by decide +kernel
theorem dX7_fill_10 : decode cX7_fill 10 = .ok (.getfield 27, 3) := by decide +kernel
theorem dX7_fill_13 : decode cX7_fill 13 = .ok (.if_icmp .ne 4, 3) := by decide +kernel
theorem dX7_fill_16 : decode cX7_fill 16 = .ok (.return_, 1) := by decide +kernel
theorem dX7_fill_17 : decode cX7_fill 17 = .ok (.aload_n 0, 1) := by decide +kernel
theorem dX7_fill_18 : decode cX7_fill 18 = .ok (.iload_n 1, 1) := by decide +kernel
theorem dX7_fill_19 : decode cX7_fill 19 = .ok (.putfield 23, 3) := by decide +kernel
theorem dX7_fill_22 : decode cX7_fill 22 = .ok (.aload_n 0, 1) := by decide +kernel
theorem dX7_fill_23 : decode cX7_fill 23 = .ok (.iload_n 2, 1) := by decide +kernel
theorem dX7_fill_24 : decode cX7_fill 24 = .ok (.putfield 27, 3) := by decide +kernel
theorem dX7_fill_27 : decode cX7_fill 27 = .ok (.aload_n 0, 1) := by decide +kernel
theorem dX7_fill_28 : decode cX7_fill 28 = .ok (.getfield 11, 3) := by decide +kernel
theorem dX7_fill_31 : decode cX7_fill 31 = .ok (.iconst 0, 1) := by decide +kernel
theorem dX7_fill_32 : decode cX7_fill 32 = .ok (.invokestatic 30, 3) := by decide +kernel
theorem dX7_fill_35 : decode cX7_fill 35 = .ok (.iconst 1, 1) := by decide +kernel
theorem dX7_fill_36 : decode cX7_fill 36 = .ok (.iload_n 1, 1) := by decide +kernel
theorem dX7_fill_37 : decode cX7_fill 37 = .ok (.ishl, 1) := by decide +kernel
theorem dX7_fill_38 : decode cX7_fill 38 = .ok (.iconst 1, 1) := by decide +kernel
theorem dX7_fill_39 : decode cX7_fill 39 = .ok (.isub, 1) := by decide +kernel
theorem dX7_fill_40 : decode cX7_fill 40 = .ok (.istore_n 3, 1) := by decide +kernel
theorem dX7_fill_41 : decode cX7_fill 41 = .ok (.aload_n 0, 1) := by decide +kernel
theorem dX7_fill_42 : decode cX7_fill 42 = .ok (.getfield 11, 3) := by decide +kernel
theorem dX7_fill_45 : decode cX7_fill 45 = .ok (.iload_n 3, 1) := by decide +kernel
theorem dX7_fill_46 : decode cX7_fill 46 = .ok (.bipush 10, 2) := by decide +kernel
theorem dX7_fill_48 : decode cX7_fill 48 = .ok (.imul, 1) := by decide +kernel
theorem dX7_fill_49 : decode cX7_fill 49 = .ok (.iconst 1, 1) := by decide +kernel
theorem dX7_fill_50 : decode cX7_fill 50 = .ok (.iastore, 1) := by decide +kernel
theorem dX7_fill_51 : decode cX7_fill 51 = .ok (.iload_n 3, 1) := by decide +kernel
theorem dX7_fill_52 : decode cX7_fill 52 = .ok (.iconst 1, 1) := by decide +kernel
theorem dX7_fill_53 : decode cX7_fill 53 = .ok (.isub, 1) := by decide +kernel
theorem dX7_fill_54 : decode cX7_fill 54 = .ok (.istore 4, 2) := by decide +kernel
theorem dX7_fill_56 : decode cX7_fill 56 = .ok (.iload 4, 2) := by decide +kernel
theorem dX7_fill_58 : decode cX7_fill 58 = .ok (.ifCond .lt 32, 3) := by decide +kernel
theorem dX7_fill_61 : decode cX7_fill 61 = .ok (.iconst 0, 1) := by decide +kernel
theorem dX7_fill_62 : decode cX7_fill 62 = .ok (.istore 5, 2) := by decide +kernel
theorem dX7_fill_64 : decode cX7_fill 64 = .ok (.iload 5, 2) := by decide +kernel
theorem dX7_fill_66 : decode cX7_fill 66 = .ok (.iload_n 2, 1) := by decide +kernel
theorem dX7_fill_67 : decode cX7_fill 67 = .ok (.if_icmp .gt 17, 3) := by decide +kernel
theorem dX7_fill_70 : decode cX7_fill 70 = .ok (.aload_n 0, 1) := by decide +kernel
theorem dX7_fill_71 : decode cX7_fill 71 = .ok (.iload 4, 2) := by decide +kernel
theorem dX7_fill_73 : decode cX7_fill 73 = .ok (.iload 5, 2) := by decide +kernel
theorem dX7_fill_75 : decode cX7_fill 75 = .ok (.invokevirtual 35, 3) := by decide +kernel
theorem dX7_fill_78 : decode cX7_fill 78 = .ok (.iinc 5 1, 3) := by decide +kernel
theorem dX7_fill_81 : decode cX7_fill 81 = .ok (.goto (-17), 3) := by decide +kernel
theorem dX7_fill_84 : decode cX7_fill 84 = .ok (.iinc 4 (-1), 3) := by decide +kernel
theorem dX7_fill_87 : decode cX7_fill 87 = .ok (.goto (-31), 3) := by decide +kernel
theorem dX7_fill_90 : decode cX7_fill 90 = .ok (.return_, 1) := by decide +kernel
set_option maxRecDepth 20000 in
theorem ggX7_addWays_J6_bitCount_0f7a4 : GoodIn wsX7_addWays wsJ6_bitCount_0f7a4 := goodIn_r _ [5, 6, 7, 8] (by decide +kernel) (by decide +kernel)
set_option maxRecDepth 20000 in
theorem gX7_addWays_J6_bitCount_0f7a4 : GoodIn wsX7_addWays (va_wsS RX7 38 yJ6_bitCount_0f7a4 wsJ6_bitCount_0f7a4) := goodIn_app (goodIn_of _ (by decide +kernel)) ggX7_addWays_J6_bitCount_0f7a4
set_option maxRecDepth 20000 in
theorem ggX7_addWays_X7_bitOf : GoodIn wsX7_addWays wsX7_bitOf := goodIn_r _ [13, 14, 19, 20, 21] (by decide +kernel) (by decide +kernel)
set_option maxRecDepth 20000 in
theorem gX7_addWays_X7_bitOf : GoodIn wsX7_addWays (wsV RX7 44 RX7 yX7_bitOf wsX7_bitOf) := goodIn_app (goodIn_of _ (by decide +kernel)) ggX7_addWays_X7_bitOf
set_option maxRecDepth 20000 in
theorem ggX7_addWays_X7_turnsOf : GoodIn wsX7_addWays wsX7_turnsOf := goodIn_r _ [18, 14, 19, 20, 21] (by decide +kernel) (by decide +kernel)
set_option maxRecDepth 20000 in
theorem gX7_addWays_X7_turnsOf : GoodIn wsX7_addWays (wsV RX7 47 RX7 yX7_turnsOf wsX7_turnsOf) := goodIn_app (goodIn_of _ (by decide +kernel)) ggX7_addWays_X7_turnsOf
theorem dX7_addWays_0 : decode cX7_addWays 0 = .ok (.iload_n 1, 1) := by decide +kernel
theorem dX7_addWays_1 : decode cX7_addWays 1 = .ok (.invokestatic 38, 3) := by decide +kernel
theorem dX7_addWays_4 : decode cX7_addWays 4 = .ok (.iload_n 2, 1) := by decide +kernel
theorem dX7_addWays_5 : decode cX7_addWays 5 = .ok (.iadd, 1) := by decide +kernel
theorem dX7_addWays_6 : decode cX7_addWays 6 = .ok (.istore_n 3, 1) := by decide +kernel
theorem dX7_addWays_7 : decode cX7_addWays 7 = .ok (.iload_n 1, 1) := by decide +kernel
theorem dX7_addWays_8 : decode cX7_addWays 8 = .ok (.aload_n 0, 1) := by decide +kernel
theorem dX7_addWays_9 : decode cX7_addWays 9 = .ok (.iload_n 3, 1) := by decide +kernel
theorem dX7_addWays_10 : decode cX7_addWays 10 = .ok (.invokevirtual 44, 3) := by decide +kernel
theorem dX7_addWays_13 : decode cX7_addWays 13 = .ok (.ior, 1) := by decide +kernel
theorem dX7_addWays_14 : decode cX7_addWays 14 = .ok (.istore 4, 2) := by decide +kernel
theorem dX7_addWays_16 : decode cX7_addWays 16 = .ok (.iload 4, 2) := by decide +kernel
theorem dX7_addWays_18 : decode cX7_addWays 18 = .ok (.iload_n 1, 1) := by decide +kernel
theorem dX7_addWays_19 : decode cX7_addWays 19 = .ok (.if_icmp .ne 4, 3) := by decide +kernel
theorem dX7_addWays_22 : decode cX7_addWays 22 = .ok (.return_, 1) := by decide +kernel
theorem dX7_addWays_23 : decode cX7_addWays 23 = .ok (.aload_n 0, 1) := by decide +kernel
theorem dX7_addWays_24 : decode cX7_addWays 24 = .ok (.iload_n 3, 1) := by decide +kernel
theorem dX7_addWays_25 : decode cX7_addWays 25 = .ok (.invokevirtual 47, 3) := by decide +kernel
theorem dX7_addWays_28 : decode cX7_addWays 28 = .ok (.istore 5, 2) := by decide +kernel
theorem dX7_addWays_30 : decode cX7_addWays 30 = .ok (.iload 5, 2) := by decide +kernel
theorem dX7_addWays_32 : decode cX7_addWays 32 = .ok (.istore 6, 2) := by decide +kernel
theorem dX7_addWays_34 : decode cX7_addWays 34 = .ok (.iload 6, 2) := by decide +kernel
theorem dX7_addWays_36 : decode cX7_addWays 36 = .ok (.bipush 10, 2) := by decide +kernel
theorem dX7_addWays_38 : decode cX7_addWays 38 = .ok (.if_icmp .ge 40, 3) := by decide +kernel
theorem dX7_addWays_41 : decode cX7_addWays 41 = .ok (.aload_n 0, 1) := by decide +kernel
theorem dX7_addWays_42 : decode cX7_addWays 42 = .ok (.getfield 11, 3) := by decide +kernel
theorem dX7_addWays_45 : decode cX7_addWays 45 = .ok (.iload_n 1, 1) := by decide +kernel
theorem dX7_addWays_46 : decode cX7_addWays 46 = .ok (.bipush 10, 2) := by decide +kernel
theorem dX7_addWays_48 : decode cX7_addWays 48 = .ok (.imul, 1) := by decide +kernel
theorem dX7_addWays_49 : decode cX7_addWays 49 = .ok (.iload 6, 2) := by decide +kernel
theorem dX7_addWays_51 : decode cX7_addWays 51 = .ok (.iadd, 1) := by decide +kernel
theorem dX7_addWays_52 : decode cX7_addWays 52 = .ok (.dup2, 1) := by decide +kernel
theorem dX7_addWays_53 : decode cX7_addWays 53 = .ok (.iaload, 1) := by decide +kernel
theorem dX7_addWays_54 : decode cX7_addWays 54 = .ok (.aload_n 0, 1) := by decide +kernel
theorem dX7_addWays_55 : decode cX7_addWays 55 = .ok (.getfield 11, 3) := by decide +kernel
theorem dX7_addWays_58 : decode cX7_addWays 58 = .ok (.iload 4, 2) := by decide +kernel
theorem dX7_addWays_60 : decode cX7_addWays 60 = .ok (.bipush 10, 2) := by decide +kernel
theorem dX7_addWays_62 : decode cX7_addWays 62 = .ok (.imul, 1) := by decide +kernel
theorem dX7_addWays_63 : decode cX7_addWays 63 = .ok (.iload 6, 2) := by decide +kernel
theorem dX7_addWays_65 : decode cX7_addWays 65 = .ok (.iadd, 1) := by decide +kernel
theorem dX7_addWays_66 : decode cX7_addWays 66 = .ok (.iload 5, 2) := by decide +kernel
theorem dX7_addWays_68 : decode cX7_addWays 68 = .ok (.isub, 1) := by decide +kernel
theorem dX7_addWays_69 : decode cX7_addWays 69 = .ok (.iaload, 1) := by decide +kernel
theorem dX7_addWays_70 : decode cX7_addWays 70 = .ok (.iadd, 1) := by decide +kernel
theorem dX7_addWays_71 : decode cX7_addWays 71 = .ok (.iastore, 1) := by decide +kernel
theorem dX7_addWays_72 : decode cX7_addWays 72 = .ok (.iinc 6 1, 3) := by decide +kernel
theorem dX7_addWays_75 : decode cX7_addWays 75 = .ok (.goto (-41), 3) := by decide +kernel
theorem dX7_addWays_78 : decode cX7_addWays 78 = .ok (.return_, 1) := by decide +kernel
theorem dX7_bitOf_0 : decode cX7_bitOf 0 = .ok (.aload_n 0, 1) := by decide +kernel
theorem dX7_bitOf_1 : decode cX7_bitOf 1 = .ok (.getfield 23, 3) := by decide +kernel
theorem dX7_bitOf_4 : decode cX7_bitOf 4 = .ok (.iconst 1, 1) := by decide +kernel
theorem dX7_bitOf_5 : decode cX7_bitOf 5 = .ok (.if_icmp .ge 7, 3) := by decide +kernel
theorem dX7_bitOf_8 : decode cX7_bitOf 8 = .ok (.iconst 0, 1) := by decide +kernel
theorem dX7_bitOf_9 : decode cX7_bitOf 9 = .ok (.goto 11, 3) := by decide +kernel
theorem dX7_bitOf_12 : decode cX7_bitOf 12 = .ok (.iconst 1, 1) := by decide +kernel
theorem dX7_bitOf_13 : decode cX7_bitOf 13 = .ok (.iload_n 1, 1) := by decide +kernel
theorem dX7_bitOf_14 : decode cX7_bitOf 14 = .ok (.aload_n 0, 1) := by decide +kernel
theorem dX7_bitOf_15 : decode cX7_bitOf 15 = .ok (.getfield 23, 3) := by decide +kernel
theorem dX7_bitOf_18 : decode cX7_bitOf 18 = .ok (.irem, 1) := by decide +kernel
theorem dX7_bitOf_19 : decode cX7_bitOf 19 = .ok (.ishl, 1) := by decide +kernel
theorem dX7_bitOf_20 : decode cX7_bitOf 20 = .ok (.ireturn, 1) := by decide +kernel
theorem dX7_turnsOf_0 : decode cX7_turnsOf 0 = .ok (.aload_n 0, 1) := by decide +kernel
theorem dX7_turnsOf_1 : decode cX7_turnsOf 1 = .ok (.getfield 23, 3) := by decide +kernel
theorem dX7_turnsOf_4 : decode cX7_turnsOf 4 = .ok (.iconst 1, 1) := by decide +kernel
theorem dX7_turnsOf_5 : decode cX7_turnsOf 5 = .ok (.if_icmp .ge 7, 3) := by decide +kernel
theorem dX7_turnsOf_8 : decode cX7_turnsOf 8 = .ok (.iconst 0, 1) := by decide +kernel
theorem dX7_turnsOf_9 : decode cX7_turnsOf 9 = .ok (.goto 9, 3) := by decide +kernel
theorem dX7_turnsOf_12 : decode cX7_turnsOf 12 = .ok (.iload_n 1, 1) := by decide +kernel
theorem dX7_turnsOf_13 : decode cX7_turnsOf 13 = .ok (.aload_n 0, 1) := by decide +kernel
theorem dX7_turnsOf_14 : decode cX7_turnsOf 14 = .ok (.getfield 23, 3) := by decide +kernel
theorem dX7_turnsOf_17 : decode cX7_turnsOf 17 = .ok (.idiv, 1) := by decide +kernel
theorem dX7_turnsOf_18 : decode cX7_turnsOf 18 = .ok (.ireturn, 1) := by decide +kernel
theorem dX7_waysOn_0 : decode cX7_waysOn 0 = .ok (.iload_n 1, 1) := by decide +kernel
theorem dX7_waysOn_1 : decode cX7_waysOn 1 = .ok (.bipush 10, 2) := by decide +kernel
theorem dX7_waysOn_3 : decode cX7_waysOn 3 = .ok (.imul, 1) := by decide +kernel
theorem dX7_waysOn_4 : decode cX7_waysOn 4 = .ok (.iload_n 2, 1) := by decide +kernel
theorem dX7_waysOn_5 : decode cX7_waysOn 5 = .ok (.iadd, 1) := by decide +kernel
theorem dX7_waysOn_6 : decode cX7_waysOn 6 = .ok (.istore_n 3, 1) := by decide +kernel
theorem dX7_waysOn_7 : decode cX7_waysOn 7 = .ok (.iload_n 2, 1) := by decide +kernel
theorem dX7_waysOn_8 : decode cX7_waysOn 8 = .ok (.ifCond .lt 22, 3) := by decide +kernel
theorem dX7_waysOn_11 : decode cX7_waysOn 11 = .ok (.iload_n 2, 1) := by decide +kernel
theorem dX7_waysOn_12 : decode cX7_waysOn 12 = .ok (.bipush 10, 2) := by decide +kernel
theorem dX7_waysOn_14 : decode cX7_waysOn 14 = .ok (.if_icmp .ge 16, 3) := by decide +kernel
theorem dX7_waysOn_17 : decode cX7_waysOn 17 = .ok (.iload_n 3, 1) := by decide +kernel
theorem dX7_waysOn_18 : decode cX7_waysOn 18 = .ok (.ifCond .lt 12, 3) := by decide +kernel
theorem dX7_waysOn_21 : decode cX7_waysOn 21 = .ok (.iload_n 3, 1) := by decide +kernel
theorem dX7_waysOn_22 : decode cX7_waysOn 22 = .ok (.aload_n 0, 1) := by decide +kernel
theorem dX7_waysOn_23 : decode cX7_waysOn 23 = .ok (.getfield 11, 3) := by decide +kernel
theorem dX7_waysOn_26 : decode cX7_waysOn 26 = .ok (.arraylength, 1) := by decide +kernel
theorem dX7_waysOn_27 : decode cX7_waysOn 27 = .ok (.if_icmp .lt 7, 3) := by decide +kernel
theorem dX7_waysOn_30 : decode cX7_waysOn 30 = .ok (.iconst 0, 1) := by decide +kernel
theorem dX7_waysOn_31 : decode cX7_waysOn 31 = .ok (.goto 9, 3) := by decide +kernel
theorem dX7_waysOn_34 : decode cX7_waysOn 34 = .ok (.aload_n 0, 1) := by decide +kernel
theorem dX7_waysOn_35 : decode cX7_waysOn 35 = .ok (.getfield 11, 3) := by decide +kernel
theorem dX7_waysOn_38 : decode cX7_waysOn 38 = .ok (.iload_n 3, 1) := by decide +kernel
theorem dX7_waysOn_39 : decode cX7_waysOn 39 = .ok (.iaload, 1) := by decide +kernel
theorem dX7_waysOn_40 : decode cX7_waysOn 40 = .ok (.ireturn, 1) := by decide +kernel
set_option maxRecDepth 20000 in
theorem ggX7_heightOfLeast_X7_fill : GoodIn wsX7_heightOfLeast wsX7_fill := goodIn_r _ [5, 6, 7, 8, 9, 10, 11, 12, 13, 14, 15, 4, 16, 17, 18, 19, 20, 21, 22, 23, 24, 25, 26, 27, 28, 29, 30, 31, 40, 41, 42] (by decide +kernel) (by decide +kernel)
set_option maxRecDepth 20000 in
theorem gX7_heightOfLeast_X7_fill : GoodIn wsX7_heightOfLeast (wsV RX7 15 RX7 yX7_fill wsX7_fill) := goodIn_app (goodIn_of _ (by decide +kernel)) ggX7_heightOfLeast_X7_fill
set_option maxRecDepth 20000 in
theorem ggX7_heightOfLeast_X7_leastHeight : GoodIn wsX7_heightOfLeast wsX7_leastHeight := goodIn_r _ [35, 7, 24, 25, 26, 4, 27, 6, 28, 29, 30, 31, 36, 37, 38, 39, 8, 40, 41, 42] (by decide +kernel) (by decide +kernel)
set_option maxRecDepth 20000 in
theorem gX7_heightOfLeast_X7_leastHeight : GoodIn wsX7_heightOfLeast (wsV RX7 50 RX7 yX7_leastHeight wsX7_leastHeight) := goodIn_app (goodIn_of _ (by decide +kernel)) ggX7_heightOfLeast_X7_leastHeight
set_option maxRecDepth 20000 in
theorem ggX7_heightOfLeast_X7_bitOf : GoodIn wsX7_heightOfLeast wsX7_bitOf := goodIn_r _ [27, 6, 40, 41, 42] (by decide +kernel) (by decide +kernel)
set_option maxRecDepth 20000 in
theorem gX7_heightOfLeast_X7_bitOf : GoodIn wsX7_heightOfLeast (wsV RX7 44 RX7 yX7_bitOf wsX7_bitOf) := goodIn_app (goodIn_of _ (by decide +kernel)) ggX7_heightOfLeast_X7_bitOf
set_option maxRecDepth 20000 in
theorem ggX7_heightOfLeast_X7_turnsOf : GoodIn wsX7_heightOfLeast wsX7_turnsOf := goodIn_r _ [31, 6, 40, 41, 42] (by decide +kernel) (by decide +kernel)
set_option maxRecDepth 20000 in
theorem gX7_heightOfLeast_X7_turnsOf : GoodIn wsX7_heightOfLeast (wsV RX7 47 RX7 yX7_turnsOf wsX7_turnsOf) := goodIn_app (goodIn_of _ (by decide +kernel)) ggX7_heightOfLeast_X7_turnsOf
theorem dX7_heightOfLeast_0 : decode cX7_heightOfLeast 0 = .ok (.aload_n 0, 1) := by decide +kernel
theorem dX7_heightOfLeast_1 : decode cX7_heightOfLeast 1 = .ok (.iload_n 1, 1) := by decide +kernel
theorem dX7_heightOfLeast_2 : decode cX7_heightOfLeast 2 = .ok (.iload_n 3, 1) := by decide +kernel
theorem dX7_heightOfLeast_3 : decode cX7_heightOfLeast 3 = .ok (.invokevirtual 15, 3) := by decide +kernel
theorem dX7_heightOfLeast_6 : decode cX7_heightOfLeast 6 = .ok (.iconst 0, 1) := by decide +kernel
theorem dX7_heightOfLeast_7 : decode cX7_heightOfLeast 7 = .ok (.istore 5, 2) := by decide +kernel
theorem dX7_heightOfLeast_9 : decode cX7_heightOfLeast 9 = .ok (.iload_n 2, 1) := by decide +kernel
theorem dX7_heightOfLeast_10 : decode cX7_heightOfLeast 10 = .ok (.istore 6, 2) := by decide +kernel
theorem dX7_heightOfLeast_12 : decode cX7_heightOfLeast 12 = .ok (.iconst 0, 1) := by decide +kernel
theorem dX7_heightOfLeast_13 : decode cX7_heightOfLeast 13 = .ok (.istore 7, 2) := by decide +kernel
theorem dX7_heightOfLeast_15 : decode cX7_heightOfLeast 15 = .ok (.iconst 0, 1) := by decide +kernel
theorem dX7_heightOfLeast_16 : decode cX7_heightOfLeast 16 = .ok (.istore 8, 2) := by decide +kernel
theorem dX7_heightOfLeast_18 : decode cX7_heightOfLeast 18 = .ok (.iload 8, 2) := by decide +kernel
theorem dX7_heightOfLeast_20 : decode cX7_heightOfLeast 20 = .ok (.iload 4, 2) := by decide +kernel
theorem dX7_heightOfLeast_22 : decode cX7_heightOfLeast 22 = .ok (.if_icmp .gt 49, 3) := by decide +kernel
theorem dX7_heightOfLeast_25 : decode cX7_heightOfLeast 25 = .ok (.aload_n 0, 1) := by decide +kernel
theorem dX7_heightOfLeast_26 : decode cX7_heightOfLeast 26 = .ok (.iload 5, 2) := by decide +kernel
theorem dX7_heightOfLeast_28 : decode cX7_heightOfLeast 28 = .ok (.iload 6, 2) := by decide +kernel
theorem dX7_heightOfLeast_30 : decode cX7_heightOfLeast 30 = .ok (.iload 8, 2) := by decide +kernel
theorem dX7_heightOfLeast_32 : decode cX7_heightOfLeast 32 = .ok (.invokevirtual 50, 3) := by decide +kernel
theorem dX7_heightOfLeast_35 : decode cX7_heightOfLeast 35 = .ok (.istore 7, 2) := by decide +kernel
theorem dX7_heightOfLeast_37 : decode cX7_heightOfLeast 37 = .ok (.iload 5, 2) := by decide +kernel
theorem dX7_heightOfLeast_39 : decode cX7_heightOfLeast 39 = .ok (.aload_n 0, 1) := by decide +kernel
theorem dX7_heightOfLeast_40 : decode cX7_heightOfLeast 40 = .ok (.iload 8, 2) := by decide +kernel
theorem dX7_heightOfLeast_42 : decode cX7_heightOfLeast 42 = .ok (.iload 7, 2) := by decide +kernel
theorem dX7_heightOfLeast_44 : decode cX7_heightOfLeast 44 = .ok (.iadd, 1) := by decide +kernel
theorem dX7_heightOfLeast_45 : decode cX7_heightOfLeast 45 = .ok (.invokevirtual 44, 3) := by decide +kernel
theorem dX7_heightOfLeast_48 : decode cX7_heightOfLeast 48 = .ok (.ior, 1) := by decide +kernel
theorem dX7_heightOfLeast_49 : decode cX7_heightOfLeast 49 = .ok (.istore 5, 2) := by decide +kernel
theorem dX7_heightOfLeast_51 : decode cX7_heightOfLeast 51 = .ok (.iload 6, 2) := by decide +kernel
theorem dX7_heightOfLeast_53 : decode cX7_heightOfLeast 53 = .ok (.aload_n 0, 1) := by decide +kernel
theorem dX7_heightOfLeast_54 : decode cX7_heightOfLeast 54 = .ok (.iload 8, 2) := by decide +kernel
theorem dX7_heightOfLeast_56 : decode cX7_heightOfLeast 56 = .ok (.iload 7, 2) := by decide +kernel
theorem dX7_heightOfLeast_58 : decode cX7_heightOfLeast 58 = .ok (.iadd, 1) := by decide +kernel
theorem dX7_heightOfLeast_59 : decode cX7_heightOfLeast 59 = .ok (.invokevirtual 47, 3) := by decide +kernel
theorem dX7_heightOfLeast_62 : decode cX7_heightOfLeast 62 = .ok (.isub, 1) := by decide +kernel
theorem dX7_heightOfLeast_63 : decode cX7_heightOfLeast 63 = .ok (.istore 6, 2) := by decide +kernel
theorem dX7_heightOfLeast_65 : decode cX7_heightOfLeast 65 = .ok (.iinc 8 1, 3) := by decide +kernel
theorem dX7_heightOfLeast_68 : decode cX7_heightOfLeast 68 = .ok (.goto (-50), 3) := by decide +kernel
theorem dX7_heightOfLeast_71 : decode cX7_heightOfLeast 71 = .ok (.iload 7, 2) := by decide +kernel
theorem dX7_heightOfLeast_73 : decode cX7_heightOfLeast 73 = .ok (.ireturn, 1) := by decide +kernel
set_option maxRecDepth 20000 in
theorem ggX7_leastHeight_X7_bitOf : GoodIn wsX7_leastHeight wsX7_bitOf := goodIn_r _ [6, 7, 17, 18, 19] (by decide +kernel) (by decide +kernel)
set_option maxRecDepth 20000 in
theorem gX7_leastHeight_X7_bitOf : GoodIn wsX7_leastHeight (wsV RX7 44 RX7 yX7_bitOf wsX7_bitOf) := goodIn_app (goodIn_of _ (by decide +kernel)) ggX7_leastHeight_X7_bitOf
set_option maxRecDepth 20000 in
theorem ggX7_leastHeight_X7_turnsOf : GoodIn wsX7_leastHeight wsX7_turnsOf := goodIn_r _ [11, 7, 17, 18, 19] (by decide +kernel) (by decide +kernel)
set_option maxRecDepth 20000 in
theorem gX7_leastHeight_X7_turnsOf : GoodIn wsX7_leastHeight (wsV RX7 47 RX7 yX7_turnsOf wsX7_turnsOf) := goodIn_app (goodIn_of _ (by decide +kernel)) ggX7_leastHeight_X7_turnsOf
set_option maxRecDepth 20000 in
theorem ggX7_leastHeight_X7_waysOn : GoodIn wsX7_leastHeight wsX7_waysOn := goodIn_r _ [15, 16, 17, 18, 19] (by decide +kernel) (by decide +kernel)
set_option maxRecDepth 20000 in
theorem gX7_leastHeight_X7_waysOn : GoodIn wsX7_leastHeight (wsV RX7 19 RX7 yX7_waysOn wsX7_waysOn) := goodIn_app (goodIn_of _ (by decide +kernel)) ggX7_leastHeight_X7_waysOn
theorem dX7_leastHeight_0 : decode cX7_leastHeight 0 = .ok (.iconst 0, 1) := by decide +kernel
theorem dX7_leastHeight_1 : decode cX7_leastHeight 1 = .ok (.istore 4, 2) := by decide +kernel
theorem dX7_leastHeight_3 : decode cX7_leastHeight 3 = .ok (.iload 4, 2) := by decide +kernel
theorem dX7_leastHeight_5 : decode cX7_leastHeight 5 = .ok (.aload_n 0, 1) := by decide +kernel
theorem dX7_leastHeight_6 : decode cX7_leastHeight 6 = .ok (.getfield 27, 3) := by decide +kernel
theorem dX7_leastHeight_9 : decode cX7_leastHeight 9 = .ok (.if_icmp .ge 49, 3) := by decide +kernel
theorem dX7_leastHeight_12 : decode cX7_leastHeight 12 = .ok (.iload_n 1, 1) := by decide +kernel
theorem dX7_leastHeight_13 : decode cX7_leastHeight 13 = .ok (.aload_n 0, 1) := by decide +kernel
theorem dX7_leastHeight_14 : decode cX7_leastHeight 14 = .ok (.iload_n 3, 1) := by decide +kernel
theorem dX7_leastHeight_15 : decode cX7_leastHeight 15 = .ok (.iload 4, 2) := by decide +kernel
theorem dX7_leastHeight_17 : decode cX7_leastHeight 17 = .ok (.iadd, 1) := by decide +kernel
theorem dX7_leastHeight_18 : decode cX7_leastHeight 18 = .ok (.invokevirtual 44, 3) := by decide +kernel
theorem dX7_leastHeight_21 : decode cX7_leastHeight 21 = .ok (.ior, 1) := by decide +kernel
theorem dX7_leastHeight_22 : decode cX7_leastHeight 22 = .ok (.istore 5, 2) := by decide +kernel
theorem dX7_leastHeight_24 : decode cX7_leastHeight 24 = .ok (.iload 5, 2) := by decide +kernel
theorem dX7_leastHeight_26 : decode cX7_leastHeight 26 = .ok (.iload_n 1, 1) := by decide +kernel
theorem dX7_leastHeight_27 : decode cX7_leastHeight 27 = .ok (.if_icmp .eq 25, 3) := by decide +kernel
theorem dX7_leastHeight_30 : decode cX7_leastHeight 30 = .ok (.aload_n 0, 1) := by decide +kernel
theorem dX7_leastHeight_31 : decode cX7_leastHeight 31 = .ok (.iload 5, 2) := by decide +kernel
theorem dX7_leastHeight_33 : decode cX7_leastHeight 33 = .ok (.iload_n 2, 1) := by decide +kernel
theorem dX7_leastHeight_34 : decode cX7_leastHeight 34 = .ok (.aload_n 0, 1) := by decide +kernel
theorem dX7_leastHeight_35 : decode cX7_leastHeight 35 = .ok (.iload_n 3, 1) := by decide +kernel
theorem dX7_leastHeight_36 : decode cX7_leastHeight 36 = .ok (.iload 4, 2) := by decide +kernel
theorem dX7_leastHeight_38 : decode cX7_leastHeight 38 = .ok (.iadd, 1) := by decide +kernel
theorem dX7_leastHeight_39 : decode cX7_leastHeight 39 = .ok (.invokevirtual 47, 3) := by decide +kernel
theorem dX7_leastHeight_42 : decode cX7_leastHeight 42 = .ok (.isub, 1) := by decide +kernel
theorem dX7_leastHeight_43 : decode cX7_leastHeight 43 = .ok (.invokevirtual 19, 3) := by decide +kernel
theorem dX7_leastHeight_46 : decode cX7_leastHeight 46 = .ok (.ifCond .le 6, 3) := by decide +kernel
theorem dX7_leastHeight_49 : decode cX7_leastHeight 49 = .ok (.iload 4, 2) := by decide +kernel
theorem dX7_leastHeight_51 : decode cX7_leastHeight 51 = .ok (.ireturn, 1) := by decide +kernel
theorem dX7_leastHeight_52 : decode cX7_leastHeight 52 = .ok (.iinc 4 1, 3) := by decide +kernel
theorem dX7_leastHeight_55 : decode cX7_leastHeight 55 = .ok (.goto (-52), 3) := by decide +kernel
theorem dX7_leastHeight_58 : decode cX7_leastHeight 58 = .ok (.aload_n 0, 1) := by decide +kernel
theorem dX7_leastHeight_59 : decode cX7_leastHeight 59 = .ok (.getfield 27, 3) := by decide +kernel
theorem dX7_leastHeight_62 : decode cX7_leastHeight 62 = .ok (.ireturn, 1) := by decide +kernel
set_option maxRecDepth 20000 in
theorem ggX8_rows_X8_isRowKind : GoodIn wsX8_rows wsX8_isRowKind := goodIn_r _ [6, 7, 8, 5, 9] (by decide +kernel) (by decide +kernel)
set_option maxRecDepth 20000 in
theorem gX8_rows_X8_isRowKind : GoodIn wsX8_rows (va_wsS RX8 286 yX8_isRowKind wsX8_isRowKind) := goodIn_app (goodIn_of _ (by decide +kernel)) ggX8_rows_X8_isRowKind
set_option maxRecDepth 20000 in
theorem ggX8_rows_X7_waysOf : GoodIn wsX8_rows wsX7_waysOf := goodIn_r _ [14, 15, 16, 17, 13, 18, 19, 20, 21, 22, 23, 24, 25, 26, 27, 28, 29, 30, 31, 32, 33, 34, 35, 36, 37, 38, 39, 40, 41, 42, 43, 44, 45, 46, 47, 48, 60, 61, 62] (by decide +kernel) (by decide +kernel)
set_option maxRecDepth 20000 in
theorem gX8_rows_X7_waysOf : GoodIn wsX8_rows (wsV RX8 290 RX7 yX7_waysOf wsX7_waysOf) := goodIn_app (goodIn_of _ (by decide +kernel)) ggX8_rows_X7_waysOf
theorem dX8_rows_0 : decode cX8_rows 0 = .ok (.iload_n 1, 1) := by decide +kernel
theorem dX8_rows_1 : decode cX8_rows 1 = .ok (.iload_n 2, 1) := by decide +kernel
theorem dX8_rows_2 : decode cX8_rows 2 = .ok (.iload_n 3, 1) := by decide +kernel
theorem dX8_rows_3 : decode cX8_rows 3 = .ok (.invokestatic 286, 3) := by decide +kernel
theorem dX8_rows_6 : decode cX8_rows 6 = .ok (.ifCond .ne 7, 3) := by decide +kernel
theorem dX8_rows_9 : decode cX8_rows 9 = .ok (.ldc2_w 237, 3) := by decide +kernel
theorem dX8_rows_12 : decode cX8_rows 12 = .ok (.lreturn, 1) := by decide +kernel
theorem dX8_rows_13 : decode cX8_rows 13 = .ok (.aload_n 0, 1) := by decide +kernel
theorem dX8_rows_14 : decode cX8_rows 14 = .ok (.getfield 60, 3) := by decide +kernel
theorem dX8_rows_17 : decode cX8_rows 17 = .ok (.iload_n 1, 1) := by decide +kernel
theorem dX8_rows_18 : decode cX8_rows 18 = .ok (.iload_n 2, 1) := by decide +kernel
theorem dX8_rows_19 : decode cX8_rows 19 = .ok (.iload_n 3, 1) := by decide +kernel
theorem dX8_rows_20 : decode cX8_rows 20 = .ok (.invokevirtual 290, 3) := by decide +kernel
theorem dX8_rows_23 : decode cX8_rows 23 = .ok (.i2l, 1) := by decide +kernel
theorem dX8_rows_24 : decode cX8_rows 24 = .ok (.lreturn, 1) := by decide +kernel
set_option maxRecDepth 20000 in
theorem ggX8_least_X8_isRowKind : GoodIn wsX8_least wsX8_isRowKind := goodIn_r _ [5, 6, 7, 4, 8] (by decide +kernel) (by decide +kernel)
set_option maxRecDepth 20000 in
theorem gX8_least_X8_isRowKind : GoodIn wsX8_least (va_wsS RX8 286 yX8_isRowKind wsX8_isRowKind) := goodIn_app (goodIn_of _ (by decide +kernel)) ggX8_least_X8_isRowKind
set_option maxRecDepth 20000 in
theorem ggX8_least_X7_waysOf : GoodIn wsX8_least wsX7_waysOf := goodIn_r _ [13, 14, 15, 16, 12, 17, 18, 19, 20, 21, 22, 23, 24, 25, 26, 27, 28, 29, 30, 31, 32, 33, 34, 35, 36, 37, 38, 39, 40, 41, 42, 43, 44, 45, 46, 47, 67, 68, 69] (by decide +kernel) (by decide +kernel)
set_option maxRecDepth 20000 in
theorem gX8_least_X7_waysOf : GoodIn wsX8_least (wsV RX8 290 RX7 yX7_waysOf wsX7_waysOf) := goodIn_app (goodIn_of _ (by decide +kernel)) ggX8_least_X7_waysOf
set_option maxRecDepth 20000 in
theorem ggX8_least_X7_heightOfLeast : GoodIn wsX8_least wsX7_heightOfLeast := goodIn_r _ [51, 14, 15, 16, 12, 17, 18, 19, 20, 21, 22, 23, 24, 25, 26, 27, 28, 29, 30, 31, 32, 33, 34, 35, 36, 37, 38, 39, 40, 41, 42, 43, 52, 53, 54, 55, 44, 45, 46, 47, 67, 68, 69] (by decide +kernel) (by decide +kernel)
set_option maxRecDepth 20000 in
theorem gX8_least_X7_heightOfLeast : GoodIn wsX8_least (wsV RX8 294 RX7 yX7_heightOfLeast wsX7_heightOfLeast) := goodIn_app (goodIn_of _ (by decide +kernel)) ggX8_least_X7_heightOfLeast
theorem dX8_least_0 : decode cX8_least 0 = .ok (.iload_n 1, 1) := by decide +kernel
theorem dX8_least_1 : decode cX8_least 1 = .ok (.iload_n 2, 1) := by decide +kernel
theorem dX8_least_2 : decode cX8_least 2 = .ok (.iload_n 3, 1) := by decide +kernel
theorem dX8_least_3 : decode cX8_least 3 = .ok (.invokestatic 286, 3) := by decide +kernel
theorem dX8_least_6 : decode cX8_least 6 = .ok (.ifCond .eq 14, 3) := by decide +kernel
theorem dX8_least_9 : decode cX8_least 9 = .ok (.iload 4, 2) := by decide +kernel
theorem dX8_least_11 : decode cX8_least 11 = .ok (.ifCond .lt 9, 3) := by decide +kernel
theorem dX8_least_14 : decode cX8_least 14 = .ok (.iload 4, 2) := by decide +kernel
theorem dX8_least_16 : decode cX8_least 16 = .ok (.iload_n 1, 1) := by decide +kernel
theorem dX8_least_17 : decode cX8_least 17 = .ok (.if_icmp .lt 6, 3) := by decide +kernel
theorem dX8_least_20 : decode cX8_least 20 = .ok (.bipush (-2), 2) := by decide +kernel
theorem dX8_least_22 : decode cX8_least 22 = .ok (.ireturn, 1) := by decide +kernel
theorem dX8_least_23 : decode cX8_least 23 = .ok (.aload_n 0, 1) := by decide +kernel
theorem dX8_least_24 : decode cX8_least 24 = .ok (.getfield 60, 3) := by decide +kernel
theorem dX8_least_27 : decode cX8_least 27 = .ok (.iload_n 1, 1) := by decide +kernel
theorem dX8_least_28 : decode cX8_least 28 = .ok (.iload_n 2, 1) := by decide +kernel
theorem dX8_least_29 : decode cX8_least 29 = .ok (.iload_n 3, 1) := by decide +kernel
theorem dX8_least_30 : decode cX8_least 30 = .ok (.invokevirtual 290, 3) := by decide +kernel
theorem dX8_least_33 : decode cX8_least 33 = .ok (.ifCond .ne 7, 3) := by decide +kernel
theorem dX8_least_36 : decode cX8_least 36 = .ok (.iconst (-1), 1) := by decide +kernel
theorem dX8_least_37 : decode cX8_least 37 = .ok (.goto 15, 3) := by decide +kernel
theorem dX8_least_40 : decode cX8_least 40 = .ok (.aload_n 0, 1) := by decide +kernel
theorem dX8_least_41 : decode cX8_least 41 = .ok (.getfield 60, 3) := by decide +kernel
theorem dX8_least_44 : decode cX8_least 44 = .ok (.iload_n 1, 1) := by decide +kernel
theorem dX8_least_45 : decode cX8_least 45 = .ok (.iload_n 2, 1) := by decide +kernel
theorem dX8_least_46 : decode cX8_least 46 = .ok (.iload_n 3, 1) := by decide +kernel
theorem dX8_least_47 : decode cX8_least 47 = .ok (.iload 4, 2) := by decide +kernel
theorem dX8_least_49 : decode cX8_least 49 = .ok (.invokevirtual 294, 3) := by decide +kernel
theorem dX8_least_52 : decode cX8_least 52 = .ok (.ireturn, 1) := by decide +kernel
set_option maxRecDepth 20000 in
theorem ggX8_isRowKind_X8_isWithin : GoodIn wsX8_isRowKind wsX8_isWithin := goodIn_r _ [4] (by decide +kernel) (by decide +kernel)
set_option maxRecDepth 20000 in
theorem gX8_isRowKind_X8_isWithin : GoodIn wsX8_isRowKind (va_wsS RX8 112 yX8_isWithin wsX8_isWithin) := goodIn_app (goodIn_of _ (by decide +kernel)) ggX8_isRowKind_X8_isWithin
theorem dX8_isRowKind_0 : decode cX8_isRowKind 0 = .ok (.iload_n 0, 1) := by decide +kernel
theorem dX8_isRowKind_1 : decode cX8_isRowKind 1 = .ok (.iconst 1, 1) := by decide +kernel
theorem dX8_isRowKind_2 : decode cX8_isRowKind 2 = .ok (.if_icmp .lt 31, 3) := by decide +kernel
theorem dX8_isRowKind_5 : decode cX8_isRowKind 5 = .ok (.iload_n 0, 1) := by decide +kernel
theorem dX8_isRowKind_6 : decode cX8_isRowKind 6 = .ok (.bipush 8, 2) := by decide +kernel
theorem dX8_isRowKind_8 : decode cX8_isRowKind 8 = .ok (.if_icmp .gt 25, 3) := by decide +kernel
theorem dX8_isRowKind_11 : decode cX8_isRowKind 11 = .ok (.iload_n 1, 1) := by decide +kernel
theorem dX8_isRowKind_12 : decode cX8_isRowKind 12 = .ok (.bipush 9, 2) := by decide +kernel
theorem dX8_isRowKind_14 : decode cX8_isRowKind 14 = .ok (.invokestatic 112, 3) := by decide +kernel
theorem dX8_isRowKind_17 : decode cX8_isRowKind 17 = .ok (.ifCond .eq 16, 3) := by decide +kernel
theorem dX8_isRowKind_20 : decode cX8_isRowKind 20 = .ok (.iload_n 2, 1) := by decide +kernel
theorem dX8_isRowKind_21 : decode cX8_isRowKind 21 = .ok (.bipush 9, 2) := by decide +kernel
theorem dX8_isRowKind_23 : decode cX8_isRowKind 23 = .ok (.invokestatic 112, 3) := by decide +kernel
theorem dX8_isRowKind_26 : decode cX8_isRowKind 26 = .ok (.ifCond .eq 7, 3) := by decide +kernel
theorem dX8_isRowKind_29 : decode cX8_isRowKind 29 = .ok (.iconst 1, 1) := by decide +kernel
theorem dX8_isRowKind_30 : decode cX8_isRowKind 30 = .ok (.goto 4, 3) := by decide +kernel
theorem dX8_isRowKind_33 : decode cX8_isRowKind 33 = .ok (.iconst 0, 1) := by decide +kernel
theorem dX8_isRowKind_34 : decode cX8_isRowKind 34 = .ok (.ireturn, 1) := by decide +kernel
theorem dX9_at_0 : decode cX9_at 0 = .ok (.bipush 73, 2) := by decide +kernel
theorem dX9_at_2 : decode cX9_at 2 = .ok (.iload_n 0, 1) := by decide +kernel
theorem dX9_at_3 : decode cX9_at 3 = .ok (.imul, 1) := by decide +kernel
theorem dX9_at_4 : decode cX9_at 4 = .ok (.iload_n 1, 1) := by decide +kernel
theorem dX9_at_5 : decode cX9_at 5 = .ok (.iadd, 1) := by decide +kernel
theorem dX9_at_6 : decode cX9_at 6 = .ok (.ireturn, 1) := by decide +kernel
set_option maxRecDepth 20000 in
theorem ggX9_laysRows_X9_bitsOf : GoodIn wsX9_laysRows wsX9_bitsOf := goodIn_r _ [5] (by decide +kernel) (by decide +kernel)
set_option maxRecDepth 20000 in
theorem gX9_laysRows_X9_bitsOf : GoodIn wsX9_laysRows (va_wsS RX9 362 yX9_bitsOf wsX9_bitsOf) := goodIn_app (goodIn_of _ (by decide +kernel)) ggX9_laysRows_X9_bitsOf
set_option maxRecDepth 20000 in
theorem ggX9_laysRows_X9_at : GoodIn wsX9_laysRows wsX9_at := goodIn_r _ [8] (by decide +kernel) (by decide +kernel)
set_option maxRecDepth 20000 in
theorem gX9_laysRows_X9_at : GoodIn wsX9_laysRows (va_wsS RX9 365 yX9_at wsX9_at) := goodIn_app (goodIn_of _ (by decide +kernel)) ggX9_laysRows_X9_at
theorem dX9_laysRows_0 : decode cX9_laysRows 0 = .ok (.iconst 1, 1) := by decide +kernel
theorem dX9_laysRows_1 : decode cX9_laysRows 1 = .ok (.iload_n 1, 1) := by decide +kernel
theorem dX9_laysRows_2 : decode cX9_laysRows 2 = .ok (.ishl, 1) := by decide +kernel
theorem dX9_laysRows_3 : decode cX9_laysRows 3 = .ok (.iconst 1, 1) := by decide +kernel
theorem dX9_laysRows_4 : decode cX9_laysRows 4 = .ok (.isub, 1) := by decide +kernel
theorem dX9_laysRows_5 : decode cX9_laysRows 5 = .ok (.istore 4, 2) := by decide +kernel
theorem dX9_laysRows_7 : decode cX9_laysRows 7 = .ok (.iload 4, 2) := by decide +kernel
theorem dX9_laysRows_9 : decode cX9_laysRows 9 = .ok (.istore 5, 2) := by decide +kernel
theorem dX9_laysRows_11 : decode cX9_laysRows 11 = .ok (.iload 5, 2) := by decide +kernel
theorem dX9_laysRows_13 : decode cX9_laysRows 13 = .ok (.ifCond .lt 137, 3) := by decide +kernel
theorem dX9_laysRows_16 : decode cX9_laysRows 16 = .ok (.iload 5, 2) := by decide +kernel
theorem dX9_laysRows_18 : decode cX9_laysRows 18 = .ok (.invokestatic 362, 3) := by decide +kernel
theorem dX9_laysRows_21 : decode cX9_laysRows 21 = .ok (.istore 6, 2) := by decide +kernel
theorem dX9_laysRows_23 : decode cX9_laysRows 23 = .ok (.iconst 0, 1) := by decide +kernel
theorem dX9_laysRows_24 : decode cX9_laysRows 24 = .ok (.istore 7, 2) := by decide +kernel
theorem dX9_laysRows_26 : decode cX9_laysRows 26 = .ok (.iload 7, 2) := by decide +kernel
theorem dX9_laysRows_28 : decode cX9_laysRows 28 = .ok (.iload_n 1, 1) := by decide +kernel
theorem dX9_laysRows_29 : decode cX9_laysRows 29 = .ok (.iload_n 2, 1) := by decide +kernel
theorem dX9_laysRows_30 : decode cX9_laysRows 30 = .ok (.imul, 1) := by decide +kernel
theorem dX9_laysRows_31 : decode cX9_laysRows 31 = .ok (.if_icmp .gt 113, 3) := by decide +kernel
theorem dX9_laysRows_34 : decode cX9_laysRows 34 = .ok (.iload 5, 2) := by decide +kernel
theorem dX9_laysRows_36 : decode cX9_laysRows 36 = .ok (.iload 4, 2) := by decide +kernel
theorem dX9_laysRows_38 : decode cX9_laysRows 38 = .ok (.if_icmp .ne 12, 3) := by decide +kernel
theorem dX9_laysRows_41 : decode cX9_laysRows 41 = .ok (.iload 7, 2) := by decide +kernel
theorem dX9_laysRows_43 : decode cX9_laysRows 43 = .ok (.ifCond .ne 7, 3) := by decide +kernel
theorem dX9_laysRows_46 : decode cX9_laysRows 46 = .ok (.lconst 1, 1) := by decide +kernel
theorem dX9_laysRows_47 : decode cX9_laysRows 47 = .ok (.goto 4, 3) := by decide +kernel
theorem dX9_laysRows_50 : decode cX9_laysRows 50 = .ok (.lconst 0, 1) := by decide +kernel
theorem dX9_laysRows_51 : decode cX9_laysRows 51 = .ok (.lstore 8, 2) := by decide +kernel
theorem dX9_laysRows_53 : decode cX9_laysRows 53 = .ok (.iconst 0, 1) := by decide +kernel
theorem dX9_laysRows_54 : decode cX9_laysRows 54 = .ok (.istore 10, 2) := by decide +kernel
theorem dX9_laysRows_56 : decode cX9_laysRows 56 = .ok (.iload 10, 2) := by decide +kernel
theorem dX9_laysRows_58 : decode cX9_laysRows 58 = .ok (.iload_n 3, 1) := by decide +kernel
theorem dX9_laysRows_59 : decode cX9_laysRows 59 = .ok (.if_icmp .gt 65, 3) := by decide +kernel
theorem dX9_laysRows_62 : decode cX9_laysRows 62 = .ok (.iload 10, 2) := by decide +kernel
theorem dX9_laysRows_64 : decode cX9_laysRows 64 = .ok (.iload 7, 2) := by decide +kernel
theorem dX9_laysRows_66 : decode cX9_laysRows 66 = .ok (.if_icmp .gt 58, 3) := by decide +kernel
theorem dX9_laysRows_69 : decode cX9_laysRows 69 = .ok (.iload 5, 2) := by decide +kernel
theorem dX9_laysRows_71 : decode cX9_laysRows 71 = .ok (.iload 4, 2) := by decide +kernel
theorem dX9_laysRows_73 : decode cX9_laysRows 73 = .ok (.if_icmp .eq 51, 3) := by decide +kernel
theorem dX9_laysRows_76 : decode cX9_laysRows 76 = .ok (.iconst 1, 1) := by decide +kernel
theorem dX9_laysRows_77 : decode cX9_laysRows 77 = .ok (.iload 6, 2) := by decide +kernel
theorem dX9_laysRows_79 : decode cX9_laysRows 79 = .ok (.iload 10, 2) := by decide +kernel
theorem dX9_laysRows_81 : decode cX9_laysRows 81 = .ok (.iadd, 1) := by decide +kernel
theorem dX9_laysRows_82 : decode cX9_laysRows 82 = .ok (.iload_n 1, 1) := by decide +kernel
theorem dX9_laysRows_83 : decode cX9_laysRows 83 = .ok (.irem, 1) := by decide +kernel
theorem dX9_laysRows_84 : decode cX9_laysRows 84 = .ok (.ishl, 1) := by decide +kernel
theorem dX9_laysRows_85 : decode cX9_laysRows 85 = .ok (.istore 11, 2) := by decide +kernel
theorem dX9_laysRows_87 : decode cX9_laysRows 87 = .ok (.iload 5, 2) := by decide +kernel
theorem dX9_laysRows_89 : decode cX9_laysRows 89 = .ok (.iload 11, 2) := by decide +kernel
theorem dX9_laysRows_91 : decode cX9_laysRows 91 = .ok (.iand, 1) := by decide +kernel
theorem dX9_laysRows_92 : decode cX9_laysRows 92 = .ok (.ifCond .ne 26, 3) := by decide +kernel
theorem dX9_laysRows_95 : decode cX9_laysRows 95 = .ok (.lload 8, 2) := by decide +kernel
theorem dX9_laysRows_97 : decode cX9_laysRows 97 = .ok (.aload_n 0, 1) := by decide +kernel
theorem dX9_laysRows_98 : decode cX9_laysRows 98 = .ok (.getfield 86, 3) := by decide +kernel
theorem dX9_laysRows_101 : decode cX9_laysRows 101 = .ok (.iload 5, 2) := by decide +kernel
theorem dX9_laysRows_103 : decode cX9_laysRows 103 = .ok (.iload 11, 2) := by decide +kernel
theorem dX9_laysRows_105 : decode cX9_laysRows 105 = .ok (.ior, 1) := by decide +kernel
theorem dX9_laysRows_106 : decode cX9_laysRows 106 = .ok (.iload 7, 2) := by decide +kernel
theorem dX9_laysRows_108 : decode cX9_laysRows 108 = .ok (.iload 10, 2) := by decide +kernel
theorem dX9_laysRows_110 : decode cX9_laysRows 110 = .ok (.isub, 1) := by decide +kernel
theorem dX9_laysRows_111 : decode cX9_laysRows 111 = .ok (.invokestatic 365, 3) := by decide +kernel
theorem dX9_laysRows_114 : decode cX9_laysRows 114 = .ok (.laload, 1) := by decide +kernel
theorem dX9_laysRows_115 : decode cX9_laysRows 115 = .ok (.ladd, 1) := by decide +kernel
theorem dX9_laysRows_116 : decode cX9_laysRows 116 = .ok (.lstore 8, 2) := by decide +kernel
theorem dX9_laysRows_118 : decode cX9_laysRows 118 = .ok (.iinc 10 1, 3) := by decide +kernel
theorem dX9_laysRows_121 : decode cX9_laysRows 121 = .ok (.goto (-65), 3) := by decide +kernel
theorem dX9_laysRows_124 : decode cX9_laysRows 124 = .ok (.aload_n 0, 1) := by decide +kernel
theorem dX9_laysRows_125 : decode cX9_laysRows 125 = .ok (.getfield 86, 3) := by decide +kernel
theorem dX9_laysRows_128 : decode cX9_laysRows 128 = .ok (.iload 5, 2) := by decide +kernel
theorem dX9_laysRows_130 : decode cX9_laysRows 130 = .ok (.iload 7, 2) := by decide +kernel
theorem dX9_laysRows_132 : decode cX9_laysRows 132 = .ok (.invokestatic 365, 3) := by decide +kernel
theorem dX9_laysRows_135 : decode cX9_laysRows 135 = .ok (.lload 8, 2) := by decide +kernel
theorem dX9_laysRows_137 : decode cX9_laysRows 137 = .ok (.lastore, 1) := by decide +kernel
theorem dX9_laysRows_138 : decode cX9_laysRows 138 = .ok (.iinc 7 1, 3) := by decide +kernel
theorem dX9_laysRows_141 : decode cX9_laysRows 141 = .ok (.goto (-115), 3) := by decide +kernel
theorem dX9_laysRows_144 : decode cX9_laysRows 144 = .ok (.iinc 5 (-1), 3) := by decide +kernel
theorem dX9_laysRows_147 : decode cX9_laysRows 147 = .ok (.goto (-136), 3) := by decide +kernel
theorem dX9_laysRows_150 : decode cX9_laysRows 150 = .ok (.return_, 1) := by decide +kernel
theorem dX9_bitsOf_0 : decode cX9_bitsOf 0 = .ok (.iconst 0, 1) := by decide +kernel
theorem dX9_bitsOf_1 : decode cX9_bitsOf 1 = .ok (.istore_n 1, 1) := by decide +kernel
theorem dX9_bitsOf_2 : decode cX9_bitsOf 2 = .ok (.iload_n 0, 1) := by decide +kernel
theorem dX9_bitsOf_3 : decode cX9_bitsOf 3 = .ok (.istore_n 2, 1) := by decide +kernel
theorem dX9_bitsOf_4 : decode cX9_bitsOf 4 = .ok (.iload_n 2, 1) := by decide +kernel
theorem dX9_bitsOf_5 : decode cX9_bitsOf 5 = .ok (.ifCond .eq 15, 3) := by decide +kernel
theorem dX9_bitsOf_8 : decode cX9_bitsOf 8 = .ok (.iinc 1 1, 3) := by decide +kernel
theorem dX9_bitsOf_11 : decode cX9_bitsOf 11 = .ok (.iload_n 2, 1) := by decide +kernel
theorem dX9_bitsOf_12 : decode cX9_bitsOf 12 = .ok (.iload_n 2, 1) := by decide +kernel
theorem dX9_bitsOf_13 : decode cX9_bitsOf 13 = .ok (.iconst 1, 1) := by decide +kernel
theorem dX9_bitsOf_14 : decode cX9_bitsOf 14 = .ok (.isub, 1) := by decide +kernel
theorem dX9_bitsOf_15 : decode cX9_bitsOf 15 = .ok (.iand, 1) := by decide +kernel
theorem dX9_bitsOf_16 : decode cX9_bitsOf 16 = .ok (.istore_n 2, 1) := by decide +kernel
theorem dX9_bitsOf_17 : decode cX9_bitsOf 17 = .ok (.goto (-13), 3) := by decide +kernel
theorem dX9_bitsOf_20 : decode cX9_bitsOf 20 = .ok (.iload_n 1, 1) := by decide +kernel
theorem dX9_bitsOf_21 : decode cX9_bitsOf 21 = .ok (.ireturn, 1) := by decide +kernel
set_option maxRecDepth 20000 in
theorem ggX9_areRows_X9_in : GoodIn wsX9_areRows wsX9_in := goodIn_r _ [6] (by decide +kernel) (by decide +kernel)
set_option maxRecDepth 20000 in
theorem gX9_areRows_X9_in : GoodIn wsX9_areRows (va_wsS RX9 97 yX9_in wsX9_in) := goodIn_app (goodIn_of _ (by decide +kernel)) ggX9_areRows_X9_in
theorem dX9_areRows_0 : decode cX9_areRows 0 = .ok (.iload_n 0, 1) := by decide +kernel
theorem dX9_areRows_1 : decode cX9_areRows 1 = .ok (.i2l, 1) := by decide +kernel
theorem dX9_areRows_2 : decode cX9_areRows 2 = .ok (.lconst 1, 1) := by decide +kernel
theorem dX9_areRows_3 : decode cX9_areRows 3 = .ok (.ldc2_w 367, 3) := by decide +kernel
theorem dX9_areRows_6 : decode cX9_areRows 6 = .ok (.invokestatic 97, 3) := by decide +kernel
theorem dX9_areRows_9 : decode cX9_areRows 9 = .ok (.ifCond .eq 31, 3) := by decide +kernel
theorem dX9_areRows_12 : decode cX9_areRows 12 = .ok (.iload_n 1, 1) := by decide +kernel
theorem dX9_areRows_13 : decode cX9_areRows 13 = .ok (.i2l, 1) := by decide +kernel
theorem dX9_areRows_14 : decode cX9_areRows 14 = .ok (.lconst 0, 1) := by decide +kernel
theorem dX9_areRows_15 : decode cX9_areRows 15 = .ok (.ldc2_w 182, 3) := by decide +kernel
theorem dX9_areRows_18 : decode cX9_areRows 18 = .ok (.invokestatic 97, 3) := by decide +kernel
theorem dX9_areRows_21 : decode cX9_areRows 21 = .ok (.ifCond .eq 19, 3) := by decide +kernel
theorem dX9_areRows_24 : decode cX9_areRows 24 = .ok (.iload_n 2, 1) := by decide +kernel
theorem dX9_areRows_25 : decode cX9_areRows 25 = .ok (.i2l, 1) := by decide +kernel
theorem dX9_areRows_26 : decode cX9_areRows 26 = .ok (.lconst 0, 1) := by decide +kernel
theorem dX9_areRows_27 : decode cX9_areRows 27 = .ok (.ldc2_w 182, 3) := by decide +kernel
theorem dX9_areRows_30 : decode cX9_areRows 30 = .ok (.invokestatic 97, 3) := by decide +kernel
theorem dX9_areRows_33 : decode cX9_areRows 33 = .ok (.ifCond .eq 7, 3) := by decide +kernel
theorem dX9_areRows_36 : decode cX9_areRows 36 = .ok (.iconst 1, 1) := by decide +kernel
theorem dX9_areRows_37 : decode cX9_areRows 37 = .ok (.goto 4, 3) := by decide +kernel
theorem dX9_areRows_40 : decode cX9_areRows 40 = .ok (.iconst 0, 1) := by decide +kernel
theorem dX9_areRows_41 : decode cX9_areRows 41 = .ok (.ireturn, 1) := by decide +kernel
set_option maxRecDepth 20000 in
theorem ggX9_rows_X9_areRows : GoodIn wsX9_rows wsX9_areRows := goodIn_r _ [7, 8, 9, 10, 11, 6, 12] (by decide +kernel) (by decide +kernel)
set_option maxRecDepth 20000 in
theorem gX9_rows_X9_areRows : GoodIn wsX9_rows (va_wsS RX9 369 yX9_areRows wsX9_areRows) := goodIn_app (goodIn_of _ (by decide +kernel)) ggX9_rows_X9_areRows
set_option maxRecDepth 20000 in
theorem ggX9_rows_X9_laysRows : GoodIn wsX9_rows wsX9_laysRows := goodIn_r _ [16, 3, 17, 18, 6, 19, 20, 21, 22, 23, 24, 25, 26, 27, 28, 29, 30, 31, 32, 33, 34, 35, 36, 37, 38, 39, 40, 41, 42, 43, 44, 45, 46, 47, 48, 49, 50, 51, 52, 53, 54, 55, 56, 57, 58, 59, 60, 61, 62, 63, 64, 65, 66, 67, 68] (by decide +kernel) (by decide +kernel)
set_option maxRecDepth 20000 in
theorem gX9_rows_X9_laysRows : GoodIn wsX9_rows (wsV RX9 372 RX9 yX9_laysRows wsX9_laysRows) := goodIn_app (goodIn_of _ (by decide +kernel)) ggX9_rows_X9_laysRows
set_option maxRecDepth 20000 in
theorem ggX9_rows_X9_at : GoodIn wsX9_rows wsX9_at := goodIn_r _ [22] (by decide +kernel) (by decide +kernel)
set_option maxRecDepth 20000 in
theorem gX9_rows_X9_at : GoodIn wsX9_rows (va_wsS RX9 365 yX9_at wsX9_at) := goodIn_app (goodIn_of _ (by decide +kernel)) ggX9_rows_X9_at
theorem dX9_rows_0 : decode cX9_rows 0 = .ok (.aload_n 0, 1) := by decide +kernel
theorem dX9_rows_1 : decode cX9_rows 1 = .ok (.iconst 0, 1) := by decide +kernel
theorem dX9_rows_2 : decode cX9_rows 2 = .ok (.putfield 92, 3) := by decide +kernel
theorem dX9_rows_5 : decode cX9_rows 5 = .ok (.iload_n 1, 1) := by decide +kernel
theorem dX9_rows_6 : decode cX9_rows 6 = .ok (.iload_n 2, 1) := by decide +kernel
theorem dX9_rows_7 : decode cX9_rows 7 = .ok (.iload_n 3, 1) := by decide +kernel
theorem dX9_rows_8 : decode cX9_rows 8 = .ok (.invokestatic 369, 3) := by decide +kernel
theorem dX9_rows_11 : decode cX9_rows 11 = .ok (.ifCond .ne 7, 3) := by decide +kernel
theorem dX9_rows_14 : decode cX9_rows 14 = .ok (.ldc2_w 323, 3) := by decide +kernel
theorem dX9_rows_17 : decode cX9_rows 17 = .ok (.lreturn, 1) := by decide +kernel
theorem dX9_rows_18 : decode cX9_rows 18 = .ok (.aload_n 0, 1) := by decide +kernel
theorem dX9_rows_19 : decode cX9_rows 19 = .ok (.iload_n 1, 1) := by decide +kernel
theorem dX9_rows_20 : decode cX9_rows 20 = .ok (.iload_n 2, 1) := by decide +kernel
theorem dX9_rows_21 : decode cX9_rows 21 = .ok (.iload_n 3, 1) := by decide +kernel
theorem dX9_rows_22 : decode cX9_rows 22 = .ok (.invokevirtual 372, 3) := by decide +kernel
theorem dX9_rows_25 : decode cX9_rows 25 = .ok (.aload_n 0, 1) := by decide +kernel
theorem dX9_rows_26 : decode cX9_rows 26 = .ok (.getfield 86, 3) := by decide +kernel
theorem dX9_rows_29 : decode cX9_rows 29 = .ok (.iconst 0, 1) := by decide +kernel
theorem dX9_rows_30 : decode cX9_rows 30 = .ok (.iload_n 1, 1) := by decide +kernel
theorem dX9_rows_31 : decode cX9_rows 31 = .ok (.iload_n 2, 1) := by decide +kernel
theorem dX9_rows_32 : decode cX9_rows 32 = .ok (.imul, 1) := by decide +kernel
theorem dX9_rows_33 : decode cX9_rows 33 = .ok (.invokestatic 365, 3) := by decide +kernel
theorem dX9_rows_36 : decode cX9_rows 36 = .ok (.laload, 1) := by decide +kernel
theorem dX9_rows_37 : decode cX9_rows 37 = .ok (.lreturn, 1) := by decide +kernel
set_option maxRecDepth 20000 in
theorem ggX9_least_X9_areRows : GoodIn wsX9_least wsX9_areRows := goodIn_r _ [6, 7, 8, 9, 10, 5, 11] (by decide +kernel) (by decide +kernel)
set_option maxRecDepth 20000 in
theorem gX9_least_X9_areRows : GoodIn wsX9_least (va_wsS RX9 369 yX9_areRows wsX9_areRows) := goodIn_app (goodIn_of _ (by decide +kernel)) ggX9_least_X9_areRows
set_option maxRecDepth 20000 in
theorem ggX9_least_X9_in : GoodIn wsX9_least wsX9_in := goodIn_r _ [11] (by decide +kernel) (by decide +kernel)
set_option maxRecDepth 20000 in
theorem gX9_least_X9_in : GoodIn wsX9_least (va_wsS RX9 97 yX9_in wsX9_in) := goodIn_app (goodIn_of _ (by decide +kernel)) ggX9_least_X9_in
set_option maxRecDepth 20000 in
theorem ggX9_least_X9_laysRows : GoodIn wsX9_least wsX9_laysRows := goodIn_r _ [15, 2, 16, 17, 5, 18, 19, 20, 21, 22, 23, 24, 25, 26, 27, 28, 29, 30, 31, 32, 33, 34, 35, 36, 37, 38, 39, 40, 41, 42, 43, 44, 45, 46, 47, 48, 49, 50, 51, 52, 53, 54, 55, 56, 57, 58, 59, 60, 61, 62, 63, 64, 65, 66, 67] (by decide +kernel) (by decide +kernel)
set_option maxRecDepth 20000 in
theorem gX9_least_X9_laysRows : GoodIn wsX9_least (wsV RX9 372 RX9 yX9_laysRows wsX9_laysRows) := goodIn_app (goodIn_of _ (by decide +kernel)) ggX9_least_X9_laysRows
set_option maxRecDepth 20000 in
theorem ggX9_least_X9_at : GoodIn wsX9_least wsX9_at := goodIn_r _ [21] (by decide +kernel) (by decide +kernel)
set_option maxRecDepth 20000 in
theorem gX9_least_X9_at : GoodIn wsX9_least (va_wsS RX9 365 yX9_at wsX9_at) := goodIn_app (goodIn_of _ (by decide +kernel)) ggX9_least_X9_at
theorem dX9_least_0 : decode cX9_least 0 = .ok (.aload_n 0, 1) := by decide +kernel
theorem dX9_least_1 : decode cX9_least 1 = .ok (.iconst 0, 1) := by decide +kernel
theorem dX9_least_2 : decode cX9_least 2 = .ok (.putfield 92, 3) := by decide +kernel
theorem dX9_least_5 : decode cX9_least 5 = .ok (.iload_n 1, 1) := by decide +kernel
theorem dX9_least_6 : decode cX9_least 6 = .ok (.iload_n 2, 1) := by decide +kernel
theorem dX9_least_7 : decode cX9_least 7 = .ok (.iload_n 3, 1) := by decide +kernel
theorem dX9_least_8 : decode cX9_least 8 = .ok (.invokestatic 369, 3) := by decide +kernel
theorem dX9_least_11 : decode cX9_least 11 = .ok (.ifCond .eq 17, 3) := by decide +kernel
theorem dX9_least_14 : decode cX9_least 14 = .ok (.iload 4, 2) := by decide +kernel
theorem dX9_least_16 : decode cX9_least 16 = .ok (.i2l, 1) := by decide +kernel
theorem dX9_least_17 : decode cX9_least 17 = .ok (.lconst 0, 1) := by decide +kernel
theorem dX9_least_18 : decode cX9_least 18 = .ok (.iload_n 1, 1) := by decide +kernel
theorem dX9_least_19 : decode cX9_least 19 = .ok (.iconst 1, 1) := by decide +kernel
theorem dX9_least_20 : decode cX9_least 20 = .ok (.isub, 1) := by decide +kernel
theorem dX9_least_21 : decode cX9_least 21 = .ok (.i2l, 1) := by decide +kernel
theorem dX9_least_22 : decode cX9_least 22 = .ok (.invokestatic 97, 3) := by decide +kernel
theorem dX9_least_25 : decode cX9_least 25 = .ok (.ifCond .ne 6, 3) := by decide +kernel
theorem dX9_least_28 : decode cX9_least 28 = .ok (.bipush (-2), 2) := by decide +kernel
theorem dX9_least_30 : decode cX9_least 30 = .ok (.ireturn, 1) := by decide +kernel
theorem dX9_least_31 : decode cX9_least 31 = .ok (.aload_n 0, 1) := by decide +kernel
theorem dX9_least_32 : decode cX9_least 32 = .ok (.iload_n 1, 1) := by decide +kernel
theorem dX9_least_33 : decode cX9_least 33 = .ok (.iload_n 2, 1) := by decide +kernel
theorem dX9_least_34 : decode cX9_least 34 = .ok (.iload_n 3, 1) := by decide +kernel
theorem dX9_least_35 : decode cX9_least 35 = .ok (.invokevirtual 372, 3) := by decide +kernel
theorem dX9_least_38 : decode cX9_least 38 = .ok (.aload_n 0, 1) := by decide +kernel
theorem dX9_least_39 : decode cX9_least 39 = .ok (.getfield 86, 3) := by decide +kernel
theorem dX9_least_42 : decode cX9_least 42 = .ok (.iconst 0, 1) := by decide +kernel
theorem dX9_least_43 : decode cX9_least 43 = .ok (.iload_n 1, 1) := by decide +kernel
theorem dX9_least_44 : decode cX9_least 44 = .ok (.iload_n 2, 1) := by decide +kernel
theorem dX9_least_45 : decode cX9_least 45 = .ok (.imul, 1) := by decide +kernel
theorem dX9_least_46 : decode cX9_least 46 = .ok (.invokestatic 365, 3) := by decide +kernel
theorem dX9_least_49 : decode cX9_least 49 = .ok (.laload, 1) := by decide +kernel
theorem dX9_least_50 : decode cX9_least 50 = .ok (.lconst 0, 1) := by decide +kernel
theorem dX9_least_51 : decode cX9_least 51 = .ok (.lcmp, 1) := by decide +kernel
theorem dX9_least_52 : decode cX9_least 52 = .ok (.ifCond .ne 5, 3) := by decide +kernel
theorem dX9_least_55 : decode cX9_least 55 = .ok (.iconst (-1), 1) := by decide +kernel
theorem dX9_least_56 : decode cX9_least 56 = .ok (.ireturn, 1) := by decide +kernel
theorem dX9_least_57 : decode cX9_least 57 = .ok (.iconst 0, 1) := by decide +kernel
theorem dX9_least_58 : decode cX9_least 58 = .ok (.istore 5, 2) := by decide +kernel
theorem dX9_least_60 : decode cX9_least 60 = .ok (.iload_n 1, 1) := by decide +kernel
theorem dX9_least_61 : decode cX9_least 61 = .ok (.iload_n 2, 1) := by decide +kernel
theorem dX9_least_62 : decode cX9_least 62 = .ok (.imul, 1) := by decide +kernel
theorem dX9_least_63 : decode cX9_least 63 = .ok (.istore 6, 2) := by decide +kernel
theorem dX9_least_65 : decode cX9_least 65 = .ok (.iconst 0, 1) := by decide +kernel
theorem dX9_least_66 : decode cX9_least 66 = .ok (.istore 7, 2) := by decide +kernel
theorem dX9_least_68 : decode cX9_least 68 = .ok (.iconst 0, 1) := by decide +kernel
theorem dX9_least_69 : decode cX9_least 69 = .ok (.istore 8, 2) := by decide +kernel
theorem dX9_least_71 : decode cX9_least 71 = .ok (.iload 8, 2) := by decide +kernel
theorem dX9_least_73 : decode cX9_least 73 = .ok (.iload 4, 2) := by decide +kernel
theorem dX9_least_75 : decode cX9_least 75 = .ok (.if_icmp .gt 85, 3) := by decide +kernel
theorem dX9_least_78 : decode cX9_least 78 = .ok (.iconst 0, 1) := by decide +kernel
theorem dX9_least_79 : decode cX9_least 79 = .ok (.istore 7, 2) := by decide +kernel
theorem dX9_least_81 : decode cX9_least 81 = .ok (.iload 5, 2) := by decide +kernel
theorem dX9_least_83 : decode cX9_least 83 = .ok (.iload 8, 2) := by decide +kernel
theorem dX9_least_85 : decode cX9_least 85 = .ok (.iload 7, 2) := by decide +kernel
theorem dX9_least_87 : decode cX9_least 87 = .ok (.iadd, 1) := by decide +kernel
theorem dX9_least_88 : decode cX9_least 88 = .ok (.iload_n 1, 1) := by decide +kernel
theorem dX9_least_89 : decode cX9_least 89 = .ok (.irem, 1) := by decide +kernel
theorem dX9_least_90 : decode cX9_least 90 = .ok (.ishr, 1) := by decide +kernel
theorem dX9_least_91 : decode cX9_least 91 = .ok (.iconst 1, 1) := by decide +kernel
theorem dX9_least_92 : decode cX9_least 92 = .ok (.iand, 1) := by decide +kernel
theorem dX9_least_93 : decode cX9_least 93 = .ok (.iconst 1, 1) := by decide +kernel
theorem dX9_least_94 : decode cX9_least 94 = .ok (.if_icmp .eq 33, 3) := by decide +kernel
theorem dX9_least_97 : decode cX9_least 97 = .ok (.aload_n 0, 1) := by decide +kernel
theorem dX9_least_98 : decode cX9_least 98 = .ok (.getfield 86, 3) := by decide +kernel
theorem dX9_least_101 : decode cX9_least 101 = .ok (.iload 5, 2) := by decide +kernel
theorem dX9_least_103 : decode cX9_least 103 = .ok (.iconst 1, 1) := by decide +kernel
theorem dX9_least_104 : decode cX9_least 104 = .ok (.iload 8, 2) := by decide +kernel
theorem dX9_least_106 : decode cX9_least 106 = .ok (.iload 7, 2) := by decide +kernel
theorem dX9_least_108 : decode cX9_least 108 = .ok (.iadd, 1) := by decide +kernel
theorem dX9_least_109 : decode cX9_least 109 = .ok (.iload_n 1, 1) := by decide +kernel
theorem dX9_least_110 : decode cX9_least 110 = .ok (.irem, 1) := by decide +kernel
theorem dX9_least_111 : decode cX9_least 111 = .ok (.ishl, 1) := by decide +kernel
theorem dX9_least_112 : decode cX9_least 112 = .ok (.ior, 1) := by decide +kernel
theorem dX9_least_113 : decode cX9_least 113 = .ok (.iload 6, 2) := by decide +kernel
theorem dX9_least_115 : decode cX9_least 115 = .ok (.iload 7, 2) := by decide +kernel
theorem dX9_least_117 : decode cX9_least 117 = .ok (.isub, 1) := by decide +kernel
theorem dX9_least_118 : decode cX9_least 118 = .ok (.invokestatic 365, 3) := by decide +kernel
theorem dX9_least_121 : decode cX9_least 121 = .ok (.laload, 1) := by decide +kernel
theorem dX9_least_122 : decode cX9_least 122 = .ok (.lconst 0, 1) := by decide +kernel
theorem dX9_least_123 : decode cX9_least 123 = .ok (.lcmp, 1) := by decide +kernel
theorem dX9_least_124 : decode cX9_least 124 = .ok (.ifCond .ne 9, 3) := by decide +kernel
theorem dX9_least_127 : decode cX9_least 127 = .ok (.iinc 7 1, 3) := by decide +kernel
theorem dX9_least_130 : decode cX9_least 130 = .ok (.goto (-49), 3) := by decide +kernel
theorem dX9_least_133 : decode cX9_least 133 = .ok (.iload 5, 2) := by decide +kernel
theorem dX9_least_135 : decode cX9_least 135 = .ok (.iconst 1, 1) := by decide +kernel
theorem dX9_least_136 : decode cX9_least 136 = .ok (.iload 8, 2) := by decide +kernel
theorem dX9_least_138 : decode cX9_least 138 = .ok (.iload 7, 2) := by decide +kernel
theorem dX9_least_140 : decode cX9_least 140 = .ok (.iadd, 1) := by decide +kernel
theorem dX9_least_141 : decode cX9_least 141 = .ok (.iload_n 1, 1) := by decide +kernel
theorem dX9_least_142 : decode cX9_least 142 = .ok (.irem, 1) := by decide +kernel
theorem dX9_least_143 : decode cX9_least 143 = .ok (.ishl, 1) := by decide +kernel
theorem dX9_least_144 : decode cX9_least 144 = .ok (.ior, 1) := by decide +kernel
theorem dX9_least_145 : decode cX9_least 145 = .ok (.istore 5, 2) := by decide +kernel
theorem dX9_least_147 : decode cX9_least 147 = .ok (.iload 6, 2) := by decide +kernel
theorem dX9_least_149 : decode cX9_least 149 = .ok (.iload 7, 2) := by decide +kernel
theorem dX9_least_151 : decode cX9_least 151 = .ok (.isub, 1) := by decide +kernel
theorem dX9_least_152 : decode cX9_least 152 = .ok (.istore 6, 2) := by decide +kernel
theorem dX9_least_154 : decode cX9_least 154 = .ok (.iinc 8 1, 3) := by decide +kernel
theorem dX9_least_157 : decode cX9_least 157 = .ok (.goto (-86), 3) := by decide +kernel
theorem dX9_least_160 : decode cX9_least 160 = .ok (.iload 7, 2) := by decide +kernel
theorem dX9_least_162 : decode cX9_least 162 = .ok (.ireturn, 1) := by decide +kernel
theorem dJ6_bitCount_0f7a4_0 : decode cJ6_bitCount_0f7a4 0 = .ok (.iload_n 0, 1) := by decide +kernel
theorem dJ6_bitCount_0f7a4_1 : decode cJ6_bitCount_0f7a4 1 = .ok (.iload_n 0, 1) := by decide +kernel
theorem dJ6_bitCount_0f7a4_2 : decode cJ6_bitCount_0f7a4 2 = .ok (.iconst 1, 1) := by decide +kernel
theorem dJ6_bitCount_0f7a4_3 : decode cJ6_bitCount_0f7a4 3 = .ok (.iushr, 1) := by decide +kernel
theorem dJ6_bitCount_0f7a4_4 : decode cJ6_bitCount_0f7a4 4 = .ok (.ldc_w 265, 3) := by decide +kernel
theorem dJ6_bitCount_0f7a4_7 : decode cJ6_bitCount_0f7a4 7 = .ok (.iand, 1) := by decide +kernel
theorem dJ6_bitCount_0f7a4_8 : decode cJ6_bitCount_0f7a4 8 = .ok (.isub, 1) := by decide +kernel
theorem dJ6_bitCount_0f7a4_9 : decode cJ6_bitCount_0f7a4 9 = .ok (.istore_n 0, 1) := by decide +kernel
theorem dJ6_bitCount_0f7a4_10 : decode cJ6_bitCount_0f7a4 10 = .ok (.iload_n 0, 1) := by decide +kernel
theorem dJ6_bitCount_0f7a4_11 : decode cJ6_bitCount_0f7a4 11 = .ok (.ldc_w 266, 3) := by decide +kernel
theorem dJ6_bitCount_0f7a4_14 : decode cJ6_bitCount_0f7a4 14 = .ok (.iand, 1) := by decide +kernel
theorem dJ6_bitCount_0f7a4_15 : decode cJ6_bitCount_0f7a4 15 = .ok (.iload_n 0, 1) := by decide +kernel
theorem dJ6_bitCount_0f7a4_16 : decode cJ6_bitCount_0f7a4 16 = .ok (.iconst 2, 1) := by decide +kernel
theorem dJ6_bitCount_0f7a4_17 : decode cJ6_bitCount_0f7a4 17 = .ok (.iushr, 1) := by decide +kernel
theorem dJ6_bitCount_0f7a4_18 : decode cJ6_bitCount_0f7a4 18 = .ok (.ldc_w 266, 3) := by decide +kernel
theorem dJ6_bitCount_0f7a4_21 : decode cJ6_bitCount_0f7a4 21 = .ok (.iand, 1) := by decide +kernel
theorem dJ6_bitCount_0f7a4_22 : decode cJ6_bitCount_0f7a4 22 = .ok (.iadd, 1) := by decide +kernel
theorem dJ6_bitCount_0f7a4_23 : decode cJ6_bitCount_0f7a4 23 = .ok (.istore_n 0, 1) := by decide +kernel
theorem dJ6_bitCount_0f7a4_24 : decode cJ6_bitCount_0f7a4 24 = .ok (.iload_n 0, 1) := by decide +kernel
theorem dJ6_bitCount_0f7a4_25 : decode cJ6_bitCount_0f7a4 25 = .ok (.iload_n 0, 1) := by decide +kernel
theorem dJ6_bitCount_0f7a4_26 : decode cJ6_bitCount_0f7a4 26 = .ok (.iconst 4, 1) := by decide +kernel
theorem dJ6_bitCount_0f7a4_27 : decode cJ6_bitCount_0f7a4 27 = .ok (.iushr, 1) := by decide +kernel
theorem dJ6_bitCount_0f7a4_28 : decode cJ6_bitCount_0f7a4 28 = .ok (.iadd, 1) := by decide +kernel
theorem dJ6_bitCount_0f7a4_29 : decode cJ6_bitCount_0f7a4 29 = .ok (.ldc_w 267, 3) := by decide +kernel
theorem dJ6_bitCount_0f7a4_32 : decode cJ6_bitCount_0f7a4 32 = .ok (.iand, 1) := by decide +kernel
theorem dJ6_bitCount_0f7a4_33 : decode cJ6_bitCount_0f7a4 33 = .ok (.istore_n 0, 1) := by decide +kernel
theorem dJ6_bitCount_0f7a4_34 : decode cJ6_bitCount_0f7a4 34 = .ok (.iload_n 0, 1) := by decide +kernel
theorem dJ6_bitCount_0f7a4_35 : decode cJ6_bitCount_0f7a4 35 = .ok (.iload_n 0, 1) := by decide +kernel
theorem dJ6_bitCount_0f7a4_36 : decode cJ6_bitCount_0f7a4 36 = .ok (.bipush 8, 2) := by decide +kernel
theorem dJ6_bitCount_0f7a4_38 : decode cJ6_bitCount_0f7a4 38 = .ok (.iushr, 1) := by decide +kernel
theorem dJ6_bitCount_0f7a4_39 : decode cJ6_bitCount_0f7a4 39 = .ok (.iadd, 1) := by decide +kernel
theorem dJ6_bitCount_0f7a4_40 : decode cJ6_bitCount_0f7a4 40 = .ok (.istore_n 0, 1) := by decide +kernel
theorem dJ6_bitCount_0f7a4_41 : decode cJ6_bitCount_0f7a4 41 = .ok (.iload_n 0, 1) := by decide +kernel
theorem dJ6_bitCount_0f7a4_42 : decode cJ6_bitCount_0f7a4 42 = .ok (.iload_n 0, 1) := by decide +kernel
theorem dJ6_bitCount_0f7a4_43 : decode cJ6_bitCount_0f7a4 43 = .ok (.bipush 16, 2) := by decide +kernel
theorem dJ6_bitCount_0f7a4_45 : decode cJ6_bitCount_0f7a4 45 = .ok (.iushr, 1) := by decide +kernel
theorem dJ6_bitCount_0f7a4_46 : decode cJ6_bitCount_0f7a4 46 = .ok (.iadd, 1) := by decide +kernel
theorem dJ6_bitCount_0f7a4_47 : decode cJ6_bitCount_0f7a4 47 = .ok (.istore_n 0, 1) := by decide +kernel
theorem dJ6_bitCount_0f7a4_48 : decode cJ6_bitCount_0f7a4 48 = .ok (.iload_n 0, 1) := by decide +kernel
theorem dJ6_bitCount_0f7a4_49 : decode cJ6_bitCount_0f7a4 49 = .ok (.bipush 63, 2) := by decide +kernel
theorem dJ6_bitCount_0f7a4_51 : decode cJ6_bitCount_0f7a4 51 = .ok (.iand, 1) := by decide +kernel
theorem dJ6_bitCount_0f7a4_52 : decode cJ6_bitCount_0f7a4 52 = .ok (.ireturn, 1) := by decide +kernel
