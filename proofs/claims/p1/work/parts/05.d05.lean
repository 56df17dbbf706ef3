theorem dX5_stateOf_26 : decode cX5_stateOf 26 = .ok (.iload 5, 2) := by decide +kernel
theorem dX5_stateOf_28 : decode cX5_stateOf 28 = .ok (.isub, 1) := by decide +kernel
theorem dX5_stateOf_29 : decode cX5_stateOf 29 = .ok (.invokevirtual 22, 3) := by decide +kernel
theorem dX5_stateOf_32 : decode cX5_stateOf 32 = .ok (.iload 5, 2) := by decide +kernel
theorem dX5_stateOf_34 : decode cX5_stateOf 34 = .ok (.isub, 1) := by decide +kernel
theorem dX5_stateOf_35 : decode cX5_stateOf 35 = .ok (.istore 6, 2) := by decide +kernel
theorem dX5_stateOf_37 : decode cX5_stateOf 37 = .ok (.iload 6, 2) := by decide +kernel
theorem dX5_stateOf_39 : decode cX5_stateOf 39 = .ok (.ifCond .lt 12, 3) := by decide +kernel
theorem dX5_stateOf_42 : decode cX5_stateOf 42 = .ok (.iload 4, 2) := by decide +kernel
theorem dX5_stateOf_44 : decode cX5_stateOf 44 = .ok (.iconst 1, 1) := by decide +kernel
theorem dX5_stateOf_45 : decode cX5_stateOf 45 = .ok (.iload 6, 2) := by decide +kernel
theorem dX5_stateOf_47 : decode cX5_stateOf 47 = .ok (.ishl, 1) := by decide +kernel
theorem dX5_stateOf_48 : decode cX5_stateOf 48 = .ok (.ior, 1) := by decide +kernel
theorem dX5_stateOf_49 : decode cX5_stateOf 49 = .ok (.istore 4, 2) := by decide +kernel
theorem dX5_stateOf_51 : decode cX5_stateOf 51 = .ok (.iinc 5 1, 3) := by decide +kernel
theorem dX5_stateOf_54 : decode cX5_stateOf 54 = .ok (.goto (-38), 3) := by decide +kernel
theorem dX5_stateOf_57 : decode cX5_stateOf 57 = .ok (.iload 4, 2) := by decide +kernel
theorem dX5_stateOf_59 : decode cX5_stateOf 59 = .ok (.ireturn, 1) := by decide +kernel
set_option maxRecDepth 20000 in
theorem ggX5_isKeptUpAlone_X0_heightAt : GoodIn wsX5_isKeptUpAlone wsX0_heightAt := goodIn_r _ [6, 7, 8, 9, 10, 5, 11, 12, 13, 14, 15, 16, 17, 23, 24, 25, 26, 27, 28, 29, 30, 31, 32, 33, 34, 35, 36, 37, 38] (by decide +kernel) (by decide +kernel)
set_option maxRecDepth 20000 in
theorem gX5_isKeptUpAlone_X0_heightAt : GoodIn wsX5_isKeptUpAlone (wsV RX5 22 RX0 yX0_heightAt wsX0_heightAt) := goodIn_app (goodIn_of _ (by decide +kernel)) ggX5_isKeptUpAlone_X0_heightAt
set_option maxRecDepth 20000 in
theorem ggX5_isKeptUpAlone_X0_goalAt : GoodIn wsX5_isKeptUpAlone wsX0_goalAt := goodIn_r _ [21, 22, 8, 9, 10, 5, 11, 12, 13, 14, 15, 16, 17, 23, 24, 25, 26, 27, 28, 29, 30, 31, 32, 33, 34, 35, 36, 37, 38] (by decide +kernel) (by decide +kernel)
set_option maxRecDepth 20000 in
theorem gX5_isKeptUpAlone_X0_goalAt : GoodIn wsX5_isKeptUpAlone (wsV RX5 31 RX0 yX0_goalAt wsX0_goalAt) := goodIn_app (goodIn_of _ (by decide +kernel)) ggX5_isKeptUpAlone_X0_goalAt
theorem dX5_isKeptUpAlone_0 : decode cX5_isKeptUpAlone 0 = .ok (.aload_n 0, 1) := by decide +kernel
theorem dX5_isKeptUpAlone_1 : decode cX5_isKeptUpAlone 1 = .ok (.getfield 28, 3) := by decide +kernel
theorem dX5_isKeptUpAlone_4 : decode cX5_isKeptUpAlone 4 = .ok (.iload_n 1, 1) := by decide +kernel
theorem dX5_isKeptUpAlone_5 : decode cX5_isKeptUpAlone 5 = .ok (.iaload, 1) := by decide +kernel
theorem dX5_isKeptUpAlone_6 : decode cX5_isKeptUpAlone 6 = .ok (.istore_n 2, 1) := by decide +kernel
theorem dX5_isKeptUpAlone_7 : decode cX5_isKeptUpAlone 7 = .ok (.iconst 0, 1) := by decide +kernel
theorem dX5_isKeptUpAlone_8 : decode cX5_isKeptUpAlone 8 = .ok (.istore_n 3, 1) := by decide +kernel
theorem dX5_isKeptUpAlone_9 : decode cX5_isKeptUpAlone 9 = .ok (.iconst 0, 1) := by decide +kernel
theorem dX5_isKeptUpAlone_10 : decode cX5_isKeptUpAlone 10 = .ok (.istore 4, 2) := by decide +kernel
theorem dX5_isKeptUpAlone_12 : decode cX5_isKeptUpAlone 12 = .ok (.iload 4, 2) := by decide +kernel
theorem dX5_isKeptUpAlone_14 : decode cX5_isKeptUpAlone 14 = .ok (.iload_n 2, 1) := by decide +kernel
theorem dX5_isKeptUpAlone_15 : decode cX5_isKeptUpAlone 15 = .ok (.if_icmp .ge 50, 3) := by decide +kernel
theorem dX5_isKeptUpAlone_18 : decode cX5_isKeptUpAlone 18 = .ok (.iconst 1, 1) := by decide +kernel
theorem dX5_isKeptUpAlone_19 : decode cX5_isKeptUpAlone 19 = .ok (.iload 4, 2) := by decide +kernel
theorem dX5_isKeptUpAlone_21 : decode cX5_isKeptUpAlone 21 = .ok (.aload_n 0, 1) := by decide +kernel
theorem dX5_isKeptUpAlone_22 : decode cX5_isKeptUpAlone 22 = .ok (.iload_n 1, 1) := by decide +kernel
theorem dX5_isKeptUpAlone_23 : decode cX5_isKeptUpAlone 23 = .ok (.iload 4, 2) := by decide +kernel
theorem dX5_isKeptUpAlone_25 : decode cX5_isKeptUpAlone 25 = .ok (.invokevirtual 22, 3) := by decide +kernel
theorem dX5_isKeptUpAlone_28 : decode cX5_isKeptUpAlone 28 = .ok (.iadd, 1) := by decide +kernel
theorem dX5_isKeptUpAlone_29 : decode cX5_isKeptUpAlone 29 = .ok (.iload_n 2, 1) := by decide +kernel
theorem dX5_isKeptUpAlone_30 : decode cX5_isKeptUpAlone 30 = .ok (.irem, 1) := by decide +kernel
theorem dX5_isKeptUpAlone_31 : decode cX5_isKeptUpAlone 31 = .ok (.ishl, 1) := by decide +kernel
theorem dX5_isKeptUpAlone_32 : decode cX5_isKeptUpAlone 32 = .ok (.istore 5, 2) := by decide +kernel
theorem dX5_isKeptUpAlone_34 : decode cX5_isKeptUpAlone 34 = .ok (.aload_n 0, 1) := by decide +kernel
theorem dX5_isKeptUpAlone_35 : decode cX5_isKeptUpAlone 35 = .ok (.iload_n 1, 1) := by decide +kernel
theorem dX5_isKeptUpAlone_36 : decode cX5_isKeptUpAlone 36 = .ok (.iload 4, 2) := by decide +kernel
theorem dX5_isKeptUpAlone_38 : decode cX5_isKeptUpAlone 38 = .ok (.invokevirtual 31, 3) := by decide +kernel
theorem dX5_isKeptUpAlone_41 : decode cX5_isKeptUpAlone 41 = .ok (.iload_n 1, 1) := by decide +kernel
theorem dX5_isKeptUpAlone_42 : decode cX5_isKeptUpAlone 42 = .ok (.if_icmp .ne 10, 3) := by decide +kernel
theorem dX5_isKeptUpAlone_45 : decode cX5_isKeptUpAlone 45 = .ok (.iload_n 3, 1) := by decide +kernel
theorem dX5_isKeptUpAlone_46 : decode cX5_isKeptUpAlone 46 = .ok (.iload 5, 2) := by decide +kernel
theorem dX5_isKeptUpAlone_48 : decode cX5_isKeptUpAlone 48 = .ok (.iand, 1) := by decide +kernel
theorem dX5_isKeptUpAlone_49 : decode cX5_isKeptUpAlone 49 = .ok (.ifCond .eq 5, 3) := by decide +kernel
theorem dX5_isKeptUpAlone_52 : decode cX5_isKeptUpAlone 52 = .ok (.iconst 0, 1) := by decide +kernel
theorem dX5_isKeptUpAlone_53 : decode cX5_isKeptUpAlone 53 = .ok (.ireturn, 1) := by decide +kernel
theorem dX5_isKeptUpAlone_54 : decode cX5_isKeptUpAlone 54 = .ok (.iload_n 3, 1) := by decide +kernel
theorem dX5_isKeptUpAlone_55 : decode cX5_isKeptUpAlone 55 = .ok (.iload 5, 2) := by decide +kernel
theorem dX5_isKeptUpAlone_57 : decode cX5_isKeptUpAlone 57 = .ok (.ior, 1) := by decide +kernel
theorem dX5_isKeptUpAlone_58 : decode cX5_isKeptUpAlone 58 = .ok (.istore_n 3, 1) := by decide +kernel
theorem dX5_isKeptUpAlone_59 : decode cX5_isKeptUpAlone 59 = .ok (.iinc 4 1, 3) := by decide +kernel
theorem dX5_isKeptUpAlone_62 : decode cX5_isKeptUpAlone 62 = .ok (.goto (-50), 3) := by decide +kernel
theorem dX5_isKeptUpAlone_65 : decode cX5_isKeptUpAlone 65 = .ok (.iconst 1, 1) := by decide +kernel
theorem dX5_isKeptUpAlone_66 : decode cX5_isKeptUpAlone 66 = .ok (.ireturn, 1) := by decide +kernel
set_option maxRecDepth 20000 in
theorem ggX5_throwsBetween_X5_isState : GoodIn wsX5_throwsBetween wsX5_isState := goodIn_r _ [5] (by decide +kernel) (by decide +kernel)
set_option maxRecDepth 20000 in
theorem gX5_throwsBetween_X5_isState : GoodIn wsX5_throwsBetween (va_wsS RX5 34 yX5_isState wsX5_isState) := goodIn_app (goodIn_of _ (by decide +kernel)) ggX5_throwsBetween_X5_isState
set_option maxRecDepth 20000 in
theorem ggX5_throwsBetween_X5_spread : GoodIn wsX5_throwsBetween wsX5_spread := goodIn_r _ [9, 1, 10, 11, 12, 13, 14, 15, 16, 17, 4, 18, 2, 3, 5, 19, 20] (by decide +kernel) (by decide +kernel)
set_option maxRecDepth 20000 in
theorem gX5_throwsBetween_X5_spread : GoodIn wsX5_throwsBetween (wsV RX5 38 RX5 yX5_spread wsX5_spread) := goodIn_app (goodIn_of _ (by decide +kernel)) ggX5_throwsBetween_X5_spread
theorem dX5_throwsBetween_0 : decode cX5_throwsBetween 0 = .ok (.iload_n 1, 1) := by decide +kernel
theorem dX5_throwsBetween_1 : decode cX5_throwsBetween 1 = .ok (.invokestatic 34, 3) := by decide +kernel
theorem dX5_throwsBetween_4 : decode cX5_throwsBetween 4 = .ok (.ifCond .eq 10, 3) := by decide +kernel
theorem dX5_throwsBetween_7 : decode cX5_throwsBetween 7 = .ok (.iload_n 2, 1) := by decide +kernel
theorem dX5_throwsBetween_8 : decode cX5_throwsBetween 8 = .ok (.invokestatic 34, 3) := by decide +kernel
theorem dX5_throwsBetween_11 : decode cX5_throwsBetween 11 = .ok (.ifCond .ne 5, 3) := by decide +kernel
theorem dX5_throwsBetween_14 : decode cX5_throwsBetween 14 = .ok (.iconst (-1), 1) := by decide +kernel
theorem dX5_throwsBetween_15 : decode cX5_throwsBetween 15 = .ok (.ireturn, 1) := by decide +kernel
theorem dX5_throwsBetween_16 : decode cX5_throwsBetween 16 = .ok (.aload_n 0, 1) := by decide +kernel
theorem dX5_throwsBetween_17 : decode cX5_throwsBetween 17 = .ok (.iload_n 2, 1) := by decide +kernel
theorem dX5_throwsBetween_18 : decode cX5_throwsBetween 18 = .ok (.invokevirtual 38, 3) := by decide +kernel
theorem dX5_throwsBetween_21 : decode cX5_throwsBetween 21 = .ok (.aload_n 0, 1) := by decide +kernel
theorem dX5_throwsBetween_22 : decode cX5_throwsBetween 22 = .ok (.getfield 11, 3) := by decide +kernel
theorem dX5_throwsBetween_25 : decode cX5_throwsBetween 25 = .ok (.iload_n 1, 1) := by decide +kernel
theorem dX5_throwsBetween_26 : decode cX5_throwsBetween 26 = .ok (.iaload, 1) := by decide +kernel
theorem dX5_throwsBetween_27 : decode cX5_throwsBetween 27 = .ok (.ireturn, 1) := by decide +kernel
theorem dX5_isState_0 : decode cX5_isState 0 = .ok (.iload_n 0, 1) := by decide +kernel
theorem dX5_isState_1 : decode cX5_isState 1 = .ok (.ifCond .lt 14, 3) := by decide +kernel
theorem dX5_isState_4 : decode cX5_isState 4 = .ok (.iload_n 0, 1) := by decide +kernel
theorem dX5_isState_5 : decode cX5_isState 5 = .ok (.sipush 512, 3) := by decide +kernel
theorem dX5_isState_8 : decode cX5_isState 8 = .ok (.if_icmp .ge 7, 3) := by decide +kernel
theorem dX5_isState_11 : decode cX5_isState 11 = .ok (.iconst 1, 1) := by decide +kernel
theorem dX5_isState_12 : decode cX5_isState 12 = .ok (.goto 4, 3) := by decide +kernel
theorem dX5_isState_15 : decode cX5_isState 15 = .ok (.iconst 0, 1) := by decide +kernel
theorem dX5_isState_16 : decode cX5_isState 16 = .ok (.ireturn, 1) := by decide +kernel
set_option maxRecDepth 20000 in
theorem ggX5_spread_J7_fill_53178 : GoodIn wsX5_spread wsJ7_fill_53178 := goodIn_r _ [6] (by decide +kernel) (by decide +kernel)
set_option maxRecDepth 20000 in
theorem gX5_spread_J7_fill_53178 : GoodIn wsX5_spread (va_wsS RX5 42 yJ7_fill_53178 wsJ7_fill_53178) := goodIn_app (goodIn_of _ (by decide +kernel)) ggX5_spread_J7_fill_53178
set_option maxRecDepth 20000 in
theorem ggX5_spread_X5_reach : GoodIn wsX5_spread wsX5_reach := goodIn_r _ [11, 1, 2, 12, 13, 10, 14, 15, 16] (by decide +kernel) (by decide +kernel)
set_option maxRecDepth 20000 in
theorem gX5_spread_X5_reach : GoodIn wsX5_spread (wsV RX5 48 RX5 yX5_reach wsX5_reach) := goodIn_app (goodIn_of _ (by decide +kernel)) ggX5_spread_X5_reach
theorem dX5_spread_0 : decode cX5_spread 0 = .ok (.aload_n 0, 1) := by decide +kernel
theorem dX5_spread_1 : decode cX5_spread 1 = .ok (.getfield 11, 3) := by decide +kernel
theorem dX5_spread_4 : decode cX5_spread 4 = .ok (.iconst (-1), 1) := by decide +kernel
theorem dX5_spread_5 : decode cX5_spread 5 = .ok (.invokestatic 42, 3) := by decide +kernel
theorem dX5_spread_8 : decode cX5_spread 8 = .ok (.aload_n 0, 1) := by decide +kernel
theorem dX5_spread_9 : decode cX5_spread 9 = .ok (.iload_n 1, 1) := by decide +kernel
theorem dX5_spread_10 : decode cX5_spread 10 = .ok (.iconst 0, 1) := by decide +kernel
theorem dX5_spread_11 : decode cX5_spread 11 = .ok (.iconst 0, 1) := by decide +kernel
theorem dX5_spread_12 : decode cX5_spread 12 = .ok (.invokevirtual 48, 3) := by decide +kernel
theorem dX5_spread_15 : decode cX5_spread 15 = .ok (.istore_n 2, 1) := by decide +kernel
theorem dX5_spread_16 : decode cX5_spread 16 = .ok (.iconst 0, 1) := by decide +kernel
theorem dX5_spread_17 : decode cX5_spread 17 = .ok (.istore_n 3, 1) := by decide +kernel
theorem dX5_spread_18 : decode cX5_spread 18 = .ok (.iload_n 3, 1) := by decide +kernel
theorem dX5_spread_19 : decode cX5_spread 19 = .ok (.iload_n 2, 1) := by decide +kernel
theorem dX5_spread_20 : decode cX5_spread 20 = .ok (.if_icmp .ge 98, 3) := by decide +kernel
theorem dX5_spread_23 : decode cX5_spread 23 = .ok (.iload_n 3, 1) := by decide +kernel
theorem dX5_spread_24 : decode cX5_spread 24 = .ok (.sipush 512, 3) := by decide +kernel
theorem dX5_spread_27 : decode cX5_spread 27 = .ok (.if_icmp .ge 91, 3) := by decide +kernel
theorem dX5_spread_30 : decode cX5_spread 30 = .ok (.aload_n 0, 1) := by decide +kernel
theorem dX5_spread_31 : decode cX5_spread 31 = .ok (.getfield 15, 3) := by decide +kernel
theorem dX5_spread_34 : decode cX5_spread 34 = .ok (.iload_n 3, 1) := by decide +kernel
theorem dX5_spread_35 : decode cX5_spread 35 = .ok (.iaload, 1) := by decide +kernel
theorem dX5_spread_36 : decode cX5_spread 36 = .ok (.istore 4, 2) := by decide +kernel
theorem dX5_spread_38 : decode cX5_spread 38 = .ok (.aload_n 0, 1) := by decide +kernel
theorem dX5_spread_39 : decode cX5_spread 39 = .ok (.getfield 11, 3) := by decide +kernel
theorem dX5_spread_42 : decode cX5_spread 42 = .ok (.iload 4, 2) := by decide +kernel
theorem dX5_spread_44 : decode cX5_spread 44 = .ok (.iaload, 1) := by decide +kernel
theorem dX5_spread_45 : decode cX5_spread 45 = .ok (.iconst 1, 1) := by decide +kernel
theorem dX5_spread_46 : decode cX5_spread 46 = .ok (.iadd, 1) := by decide +kernel
theorem dX5_spread_47 : decode cX5_spread 47 = .ok (.istore 5, 2) := by decide +kernel
theorem dX5_spread_49 : decode cX5_spread 49 = .ok (.aload_n 0, 1) := by decide +kernel
theorem dX5_spread_50 : decode cX5_spread 50 = .ok (.iload 4, 2) := by decide +kernel
theorem dX5_spread_52 : decode cX5_spread 52 = .ok (.iconst 1, 1) := by decide +kernel
theorem dX5_spread_53 : decode cX5_spread 53 = .ok (.ishl, 1) := by decide +kernel
theorem dX5_spread_54 : decode cX5_spread 54 = .ok (.iload 5, 2) := by decide +kernel
theorem dX5_spread_56 : decode cX5_spread 56 = .ok (.iload_n 2, 1) := by decide +kernel
theorem dX5_spread_57 : decode cX5_spread 57 = .ok (.invokevirtual 48, 3) := by decide +kernel
theorem dX5_spread_60 : decode cX5_spread 60 = .ok (.istore_n 2, 1) := by decide +kernel
theorem dX5_spread_61 : decode cX5_spread 61 = .ok (.iconst 1, 1) := by decide +kernel
theorem dX5_spread_62 : decode cX5_spread 62 = .ok (.istore 6, 2) := by decide +kernel
theorem dX5_spread_64 : decode cX5_spread 64 = .ok (.iload 6, 2) := by decide +kernel
theorem dX5_spread_66 : decode cX5_spread 66 = .ok (.bipush 9, 2) := by decide +kernel
theorem dX5_spread_68 : decode cX5_spread 68 = .ok (.if_icmp .gt 44, 3) := by decide +kernel
theorem dX5_spread_71 : decode cX5_spread 71 = .ok (.iconst 1, 1) := by decide +kernel
theorem dX5_spread_72 : decode cX5_spread 72 = .ok (.iload 6, 2) := by decide +kernel
theorem dX5_spread_74 : decode cX5_spread 74 = .ok (.iconst 1, 1) := by decide +kernel
theorem dX5_spread_75 : decode cX5_spread 75 = .ok (.isub, 1) := by decide +kernel
theorem dX5_spread_76 : decode cX5_spread 76 = .ok (.ishl, 1) := by decide +kernel
theorem dX5_spread_77 : decode cX5_spread 77 = .ok (.istore 7, 2) := by decide +kernel
theorem dX5_spread_79 : decode cX5_spread 79 = .ok (.iload 4, 2) := by decide +kernel
theorem dX5_spread_81 : decode cX5_spread 81 = .ok (.iload 7, 2) := by decide +kernel
theorem dX5_spread_83 : decode cX5_spread 83 = .ok (.iand, 1) := by decide +kernel
theorem dX5_spread_84 : decode cX5_spread 84 = .ok (.ifCond .eq 22, 3) := by decide +kernel
theorem dX5_spread_87 : decode cX5_spread 87 = .ok (.aload_n 0, 1) := by decide +kernel
theorem dX5_spread_88 : decode cX5_spread 88 = .ok (.iload 4, 2) := by decide +kernel
theorem dX5_spread_90 : decode cX5_spread 90 = .ok (.iload 7, 2) := by decide +kernel
theorem dX5_spread_92 : decode cX5_spread 92 = .ok (.iconst (-1), 1) := by decide +kernel
theorem dX5_spread_93 : decode cX5_spread 93 = .ok (.ixor, 1) := by decide +kernel
theorem dX5_spread_94 : decode cX5_spread 94 = .ok (.iand, 1) := by decide +kernel
theorem dX5_spread_95 : decode cX5_spread 95 = .ok (.iconst 1, 1) := by decide +kernel
theorem dX5_spread_96 : decode cX5_spread 96 = .ok (.ishl, 1) := by decide +kernel
theorem dX5_spread_97 : decode cX5_spread 97 = .ok (.iconst 1, 1) := by decide +kernel
theorem dX5_spread_98 : decode cX5_spread 98 = .ok (.ior, 1) := by decide +kernel
theorem dX5_spread_99 : decode cX5_spread 99 = .ok (.iload 5, 2) := by decide +kernel
theorem dX5_spread_101 : decode cX5_spread 101 = .ok (.iload_n 2, 1) := by decide +kernel
theorem dX5_spread_102 : decode cX5_spread 102 = .ok (.invokevirtual 48, 3) := by decide +kernel
theorem dX5_spread_105 : decode cX5_spread 105 = .ok (.istore_n 2, 1) := by decide +kernel
theorem dX5_spread_106 : decode cX5_spread 106 = .ok (.iinc 6 1, 3) := by decide +kernel
theorem dX5_spread_109 : decode cX5_spread 109 = .ok (.goto (-45), 3) := by decide +kernel
theorem dX5_spread_112 : decode cX5_spread 112 = .ok (.iinc 3 1, 3) := by decide +kernel
theorem dX5_spread_115 : decode cX5_spread 115 = .ok (.goto (-97), 3) := by decide +kernel
theorem dX5_spread_118 : decode cX5_spread 118 = .ok (.return_, 1) := by decide +kernel
set_option maxRecDepth 20000 in
theorem ggX5_reach_X5_isState : GoodIn wsX5_reach wsX5_isState := goodIn_r _ [6] (by decide +kernel) (by decide +kernel)
set_option maxRecDepth 20000 in
theorem gX5_reach_X5_isState : GoodIn wsX5_reach (va_wsS RX5 34 yX5_isState wsX5_isState) := goodIn_app (goodIn_of _ (by decide +kernel)) ggX5_reach_X5_isState
theorem dX5_reach_0 : decode cX5_reach 0 = .ok (.iload_n 1, 1) := by decide +kernel
theorem dX5_reach_1 : decode cX5_reach 1 = .ok (.invokestatic 34, 3) := by decide +kernel
theorem dX5_reach_4 : decode cX5_reach 4 = .ok (.ifCond .eq 20, 3) := by decide +kernel
theorem dX5_reach_7 : decode cX5_reach 7 = .ok (.aload_n 0, 1) := by decide +kernel
theorem dX5_reach_8 : decode cX5_reach 8 = .ok (.getfield 11, 3) := by decide +kernel
theorem dX5_reach_11 : decode cX5_reach 11 = .ok (.iload_n 1, 1) := by decide +kernel
theorem dX5_reach_12 : decode cX5_reach 12 = .ok (.iaload, 1) := by decide +kernel
theorem dX5_reach_13 : decode cX5_reach 13 = .ok (.iconst (-1), 1) := by decide +kernel
theorem dX5_reach_14 : decode cX5_reach 14 = .ok (.if_icmp .ne 10, 3) := by decide +kernel
theorem dX5_reach_17 : decode cX5_reach 17 = .ok (.iload_n 3, 1) := by decide +kernel
theorem dX5_reach_18 : decode cX5_reach 18 = .ok (.sipush 512, 3) := by decide +kernel
theorem dX5_reach_21 : decode cX5_reach 21 = .ok (.if_icmp .lt 5, 3) := by decide +kernel
theorem dX5_reach_24 : decode cX5_reach 24 = .ok (.iload_n 3, 1) := by decide +kernel
theorem dX5_reach_25 : decode cX5_reach 25 = .ok (.ireturn, 1) := by decide +kernel
theorem dX5_reach_26 : decode cX5_reach 26 = .ok (.aload_n 0, 1) := by decide +kernel
theorem dX5_reach_27 : decode cX5_reach 27 = .ok (.getfield 11, 3) := by decide +kernel
theorem dX5_reach_30 : decode cX5_reach 30 = .ok (.iload_n 1, 1) := by decide +kernel
theorem dX5_reach_31 : decode cX5_reach 31 = .ok (.iload_n 2, 1) := by decide +kernel
theorem dX5_reach_32 : decode cX5_reach 32 = .ok (.iastore, 1) := by decide +kernel
theorem dX5_reach_33 : decode cX5_reach 33 = .ok (.aload_n 0, 1) := by decide +kernel
theorem dX5_reach_34 : decode cX5_reach 34 = .ok (.getfield 15, 3) := by decide +kernel
theorem dX5_reach_37 : decode cX5_reach 37 = .ok (.iload_n 3, 1) := by decide +kernel
theorem dX5_reach_38 : decode cX5_reach 38 = .ok (.iload_n 1, 1) := by decide +kernel
theorem dX5_reach_39 : decode cX5_reach 39 = .ok (.iastore, 1) := by decide +kernel
theorem dX5_reach_40 : decode cX5_reach 40 = .ok (.iload_n 3, 1) := by decide +kernel
theorem dX5_reach_41 : decode cX5_reach 41 = .ok (.iconst 1, 1) := by decide +kernel
theorem dX5_reach_42 : decode cX5_reach 42 = .ok (.iadd, 1) := by decide +kernel
theorem dX5_reach_43 : decode cX5_reach 43 = .ok (.ireturn, 1) := by decide +kernel
set_option maxRecDepth 20000 in
theorem ggX5_throwOfChange_X5_leastThrow : GoodIn wsX5_throwOfChange wsX5_leastThrow := goodIn_r _ [5, 6, 7, 8, 4, 9, 10, 11] (by decide +kernel) (by decide +kernel)
set_option maxRecDepth 20000 in
theorem gX5_throwOfChange_X5_leastThrow : GoodIn wsX5_throwOfChange (wsV RX5 52 RX5 yX5_leastThrow wsX5_leastThrow) := goodIn_app (goodIn_of _ (by decide +kernel)) ggX5_throwOfChange_X5_leastThrow
set_option maxRecDepth 20000 in
theorem ggX5_throwOfChange_X5_behind : GoodIn wsX5_throwOfChange wsX5_behind := goodIn_r _ [9] (by decide +kernel) (by decide +kernel)
set_option maxRecDepth 20000 in
theorem gX5_throwOfChange_X5_behind : GoodIn wsX5_throwOfChange (va_wsS RX5 56 yX5_behind wsX5_behind) := goodIn_app (goodIn_of _ (by decide +kernel)) ggX5_throwOfChange_X5_behind
theorem dX5_throwOfChange_0 : decode cX5_throwOfChange 0 = .ok (.iload_n 1, 1) := by decide +kernel
theorem dX5_throwOfChange_1 : decode cX5_throwOfChange 1 = .ok (.istore_n 3, 1) := by decide +kernel
theorem dX5_throwOfChange_2 : decode cX5_throwOfChange 2 = .ok (.iconst 0, 1) := by decide +kernel
theorem dX5_throwOfChange_3 : decode cX5_throwOfChange 3 = .ok (.istore 4, 2) := by decide +kernel
theorem dX5_throwOfChange_5 : decode cX5_throwOfChange 5 = .ok (.iconst 0, 1) := by decide +kernel
theorem dX5_throwOfChange_6 : decode cX5_throwOfChange 6 = .ok (.istore 5, 2) := by decide +kernel
theorem dX5_throwOfChange_8 : decode cX5_throwOfChange 8 = .ok (.iload 5, 2) := by decide +kernel
theorem dX5_throwOfChange_10 : decode cX5_throwOfChange 10 = .ok (.iload_n 2, 1) := by decide +kernel
theorem dX5_throwOfChange_11 : decode cX5_throwOfChange 11 = .ok (.if_icmp .gt 31, 3) := by decide +kernel
theorem dX5_throwOfChange_14 : decode cX5_throwOfChange 14 = .ok (.iload 5, 2) := by decide +kernel
theorem dX5_throwOfChange_16 : decode cX5_throwOfChange 16 = .ok (.sipush 512, 3) := by decide +kernel
theorem dX5_throwOfChange_19 : decode cX5_throwOfChange 19 = .ok (.if_icmp .ge 23, 3) := by decide +kernel
theorem dX5_throwOfChange_22 : decode cX5_throwOfChange 22 = .ok (.aload_n 0, 1) := by decide +kernel
theorem dX5_throwOfChange_23 : decode cX5_throwOfChange 23 = .ok (.iload_n 3, 1) := by decide +kernel
theorem dX5_throwOfChange_24 : decode cX5_throwOfChange 24 = .ok (.invokevirtual 52, 3) := by decide +kernel
theorem dX5_throwOfChange_27 : decode cX5_throwOfChange 27 = .ok (.istore 4, 2) := by decide +kernel
theorem dX5_throwOfChange_29 : decode cX5_throwOfChange 29 = .ok (.iload_n 3, 1) := by decide +kernel
theorem dX5_throwOfChange_30 : decode cX5_throwOfChange 30 = .ok (.iload 4, 2) := by decide +kernel
theorem dX5_throwOfChange_32 : decode cX5_throwOfChange 32 = .ok (.invokestatic 56, 3) := by decide +kernel
theorem dX5_throwOfChange_35 : decode cX5_throwOfChange 35 = .ok (.istore_n 3, 1) := by decide +kernel
theorem dX5_throwOfChange_36 : decode cX5_throwOfChange 36 = .ok (.iinc 5 1, 3) := by decide +kernel
theorem dX5_throwOfChange_39 : decode cX5_throwOfChange 39 = .ok (.goto (-31), 3) := by decide +kernel
theorem dX5_throwOfChange_42 : decode cX5_throwOfChange 42 = .ok (.iload 4, 2) := by decide +kernel
theorem dX5_throwOfChange_44 : decode cX5_throwOfChange 44 = .ok (.ireturn, 1) := by decide +kernel
set_option maxRecDepth 20000 in
theorem ggX5_leastThrow_X5_behind : GoodIn wsX5_leastThrow wsX5_behind := goodIn_r _ [5] (by decide +kernel) (by decide +kernel)
set_option maxRecDepth 20000 in
theorem gX5_leastThrow_X5_behind : GoodIn wsX5_leastThrow (va_wsS RX5 56 yX5_behind wsX5_behind) := goodIn_app (goodIn_of _ (by decide +kernel)) ggX5_leastThrow_X5_behind
theorem dX5_leastThrow_0 : decode cX5_leastThrow 0 = .ok (.iload_n 1, 1) := by decide +kernel
theorem dX5_leastThrow_1 : decode cX5_leastThrow 1 = .ok (.iconst 1, 1) := by decide +kernel
theorem dX5_leastThrow_2 : decode cX5_leastThrow 2 = .ok (.iand, 1) := by decide +kernel
theorem dX5_leastThrow_3 : decode cX5_leastThrow 3 = .ok (.ifCond .ne 5, 3) := by decide +kernel
theorem dX5_leastThrow_6 : decode cX5_leastThrow 6 = .ok (.iconst 0, 1) := by decide +kernel
theorem dX5_leastThrow_7 : decode cX5_leastThrow 7 = .ok (.ireturn, 1) := by decide +kernel
theorem dX5_leastThrow_8 : decode cX5_leastThrow 8 = .ok (.iconst 1, 1) := by decide +kernel
theorem dX5_leastThrow_9 : decode cX5_leastThrow 9 = .ok (.istore_n 2, 1) := by decide +kernel
theorem dX5_leastThrow_10 : decode cX5_leastThrow 10 = .ok (.iload_n 2, 1) := by decide +kernel
theorem dX5_leastThrow_11 : decode cX5_leastThrow 11 = .ok (.bipush 9, 2) := by decide +kernel
theorem dX5_leastThrow_13 : decode cX5_leastThrow 13 = .ok (.if_icmp .gt 42, 3) := by decide +kernel
theorem dX5_leastThrow_16 : decode cX5_leastThrow 16 = .ok (.iload_n 1, 1) := by decide +kernel
theorem dX5_leastThrow_17 : decode cX5_leastThrow 17 = .ok (.iload_n 2, 1) := by decide +kernel
theorem dX5_leastThrow_18 : decode cX5_leastThrow 18 = .ok (.invokestatic 56, 3) := by decide +kernel
theorem dX5_leastThrow_21 : decode cX5_leastThrow 21 = .ok (.istore_n 3, 1) := by decide +kernel
theorem dX5_leastThrow_22 : decode cX5_leastThrow 22 = .ok (.iload_n 1, 1) := by decide +kernel
theorem dX5_leastThrow_23 : decode cX5_leastThrow 23 = .ok (.iload_n 2, 1) := by decide +kernel
theorem dX5_leastThrow_24 : decode cX5_leastThrow 24 = .ok (.ishr, 1) := by decide +kernel
theorem dX5_leastThrow_25 : decode cX5_leastThrow 25 = .ok (.iconst 1, 1) := by decide +kernel
theorem dX5_leastThrow_26 : decode cX5_leastThrow 26 = .ok (.iand, 1) := by decide +kernel
theorem dX5_leastThrow_27 : decode cX5_leastThrow 27 = .ok (.ifCond .ne 22, 3) := by decide +kernel
theorem dX5_leastThrow_30 : decode cX5_leastThrow 30 = .ok (.aload_n 0, 1) := by decide +kernel
theorem dX5_leastThrow_31 : decode cX5_leastThrow 31 = .ok (.getfield 11, 3) := by decide +kernel
theorem dX5_leastThrow_34 : decode cX5_leastThrow 34 = .ok (.iload_n 3, 1) := by decide +kernel
theorem dX5_leastThrow_35 : decode cX5_leastThrow 35 = .ok (.iaload, 1) := by decide +kernel
theorem dX5_leastThrow_36 : decode cX5_leastThrow 36 = .ok (.aload_n 0, 1) := by decide +kernel
theorem dX5_leastThrow_37 : decode cX5_leastThrow 37 = .ok (.getfield 11, 3) := by decide +kernel
theorem dX5_leastThrow_40 : decode cX5_leastThrow 40 = .ok (.iload_n 1, 1) := by decide +kernel
theorem dX5_leastThrow_41 : decode cX5_leastThrow 41 = .ok (.iaload, 1) := by decide +kernel
theorem dX5_leastThrow_42 : decode cX5_leastThrow 42 = .ok (.iconst 1, 1) := by decide +kernel
theorem dX5_leastThrow_43 : decode cX5_leastThrow 43 = .ok (.isub, 1) := by decide +kernel
theorem dX5_leastThrow_44 : decode cX5_leastThrow 44 = .ok (.if_icmp .ne 5, 3) := by decide +kernel
theorem dX5_leastThrow_47 : decode cX5_leastThrow 47 = .ok (.iload_n 2, 1) := by decide +kernel
theorem dX5_leastThrow_48 : decode cX5_leastThrow 48 = .ok (.ireturn, 1) := by decide +kernel
theorem dX5_leastThrow_49 : decode cX5_leastThrow 49 = .ok (.iinc 2 1, 3) := by decide +kernel
theorem dX5_leastThrow_52 : decode cX5_leastThrow 52 = .ok (.goto (-42), 3) := by decide +kernel
theorem dX5_leastThrow_55 : decode cX5_leastThrow 55 = .ok (.iconst 0, 1) := by decide +kernel
theorem dX5_leastThrow_56 : decode cX5_leastThrow 56 = .ok (.ireturn, 1) := by decide +kernel
theorem dX5_behind_0 : decode cX5_behind 0 = .ok (.iload_n 1, 1) := by decide +kernel
theorem dX5_behind_1 : decode cX5_behind 1 = .ok (.ifCond .ne 7, 3) := by decide +kernel
theorem dX5_behind_4 : decode cX5_behind 4 = .ok (.iload_n 0, 1) := by decide +kernel
theorem dX5_behind_5 : decode cX5_behind 5 = .ok (.goto 8, 3) := by decide +kernel
theorem dX5_behind_8 : decode cX5_behind 8 = .ok (.iload_n 0, 1) := by decide +kernel
theorem dX5_behind_9 : decode cX5_behind 9 = .ok (.iconst 1, 1) := by decide +kernel
theorem dX5_behind_10 : decode cX5_behind 10 = .ok (.iload_n 1, 1) := by decide +kernel
theorem dX5_behind_11 : decode cX5_behind 11 = .ok (.ishl, 1) := by decide +kernel
theorem dX5_behind_12 : decode cX5_behind 12 = .ok (.ior, 1) := by decide +kernel
theorem dX5_behind_13 : decode cX5_behind 13 = .ok (.iconst 1, 1) := by decide +kernel
theorem dX5_behind_14 : decode cX5_behind 14 = .ok (.ishr, 1) := by decide +kernel
theorem dX5_behind_15 : decode cX5_behind 15 = .ok (.sipush 511, 3) := by decide +kernel
theorem dX5_behind_18 : decode cX5_behind 18 = .ok (.iand, 1) := by decide +kernel
theorem dX5_behind_19 : decode cX5_behind 19 = .ok (.ireturn, 1) := by decide +kernel
theorem dX6_init_0 : decode cX6_init 0 = .ok (.aload_n 0, 1) := by decide +kernel
theorem dX6_init_1 : decode cX6_init 1 = .ok (.invokespecial 3, 3) := by decide +kernel
theorem dX6_init_4 : decode cX6_init 4 = .ok (.aload_n 0, 1) := by decide +kernel
theorem dX6_init_5 : decode cX6_init 5 = .ok (.bipush 6, 2) := by decide +kernel
theorem dX6_init_7 : decode cX6_init 7 = .ok (.newarray .int, 2) := by decide +kernel
theorem dX6_init_9 : decode cX6_init 9 = .ok (.putfield 9, 3) := by decide +kernel
theorem dX6_init_12 : decode cX6_init 12 = .ok (.return_, 1) := by decide +kernel
set_option maxRecDepth 20000 in
theorem ggX6_blow_X6_fillComing : GoodIn wsX6_blow wsX6_fillComing := goodIn_r _ [12, 7, 6, 13, 14, 15, 16, 17, 18, 19, 20, 21, 22, 23, 24, 25, 26, 27, 28, 29, 30, 31, 32, 33, 34, 35, 36, 37, 50, 51, 52, 53, 54, 55, 56, 57, 58, 59, 60, 61, 62, 63, 64, 65, 66, 67, 68, 69, 70] (by decide +kernel) (by decide +kernel)
set_option maxRecDepth 20000 in
theorem gX6_blow_X6_fillComing : GoodIn wsX6_blow (wsV RX6 33 RX6 yX6_fillComing wsX6_fillComing) := goodIn_app (goodIn_of _ (by decide +kernel)) ggX6_blow_X6_fillComing
set_option maxRecDepth 20000 in
theorem ggX6_blow_X6_launch : GoodIn wsX6_blow wsX6_launch := goodIn_r _ [41, 42, 5, 7, 1, 2, 3, 17, 18, 19, 20, 21, 22, 23, 24, 25, 26, 27, 28, 29, 30, 31, 32, 43, 44, 45, 11, 46, 47, 4, 48, 49, 33, 34, 35, 36, 37, 55, 56, 57, 58, 59, 60, 61, 62, 63, 64, 65, 66, 67, 68, 69, 70, 50, 51, 52, 53, 54] (by decide +kernel) (by decide +kernel)
set_option maxRecDepth 20000 in
theorem gX6_blow_X6_launch : GoodIn wsX6_blow (wsV RX6 40 RX6 yX6_launch wsX6_launch) := goodIn_app (goodIn_of _ (by decide +kernel)) ggX6_blow_X6_launch
theorem dX6_blow_0 : decode cX6_blow 0 = .ok (.aload_n 0, 1) := by decide +kernel
theorem dX6_blow_1 : decode cX6_blow 1 = .ok (.iconst 0, 1) := by decide +kernel
theorem dX6_blow_2 : decode cX6_blow 2 = .ok (.putfield 15, 3) := by decide +kernel
theorem dX6_blow_5 : decode cX6_blow 5 = .ok (.aload_n 0, 1) := by decide +kernel
theorem dX6_blow_6 : decode cX6_blow 6 = .ok (.iconst (-1), 1) := by decide +kernel
theorem dX6_blow_7 : decode cX6_blow 7 = .ok (.putfield 19, 3) := by decide +kernel
theorem dX6_blow_10 : decode cX6_blow 10 = .ok (.aload_n 0, 1) := by decide +kernel
theorem dX6_blow_11 : decode cX6_blow 11 = .ok (.iconst (-1), 1) := by decide +kernel
theorem dX6_blow_12 : decode cX6_blow 12 = .ok (.putfield 22, 3) := by decide +kernel
theorem dX6_blow_15 : decode cX6_blow 15 = .ok (.aload_n 0, 1) := by decide +kernel
theorem dX6_blow_16 : decode cX6_blow 16 = .ok (.iload_n 2, 1) := by decide +kernel
theorem dX6_blow_17 : decode cX6_blow 17 = .ok (.putfield 25, 3) := by decide +kernel
theorem dX6_blow_20 : decode cX6_blow 20 = .ok (.aload_n 1, 1) := by decide +kernel
theorem dX6_blow_21 : decode cX6_blow 21 = .ok (.getfield 28, 3) := by decide +kernel
theorem dX6_blow_24 : decode cX6_blow 24 = .ok (.ifCond .ne 4, 3) := by decide +kernel
theorem dX6_blow_27 : decode cX6_blow 27 = .ok (.return_, 1) := by decide +kernel
theorem dX6_blow_28 : decode cX6_blow 28 = .ok (.aload_n 0, 1) := by decide +kernel
theorem dX6_blow_29 : decode cX6_blow 29 = .ok (.aload_n 1, 1) := by decide +kernel
theorem dX6_blow_30 : decode cX6_blow 30 = .ok (.invokevirtual 33, 3) := by decide +kernel
theorem dX6_blow_33 : decode cX6_blow 33 = .ok (.iconst 0, 1) := by decide +kernel
theorem dX6_blow_34 : decode cX6_blow 34 = .ok (.istore 5, 2) := by decide +kernel
theorem dX6_blow_36 : decode cX6_blow 36 = .ok (.iload 5, 2) := by decide +kernel
theorem dX6_blow_38 : decode cX6_blow 38 = .ok (.iload_n 3, 1) := by decide +kernel
theorem dX6_blow_39 : decode cX6_blow 39 = .ok (.if_icmp .ge 89, 3) := by decide +kernel
theorem dX6_blow_42 : decode cX6_blow 42 = .ok (.iload 4, 2) := by decide +kernel
theorem dX6_blow_44 : decode cX6_blow 44 = .ok (.ifCond .eq 10, 3) := by decide +kernel
theorem dX6_blow_47 : decode cX6_blow 47 = .ok (.aload_n 0, 1) := by decide +kernel
theorem dX6_blow_48 : decode cX6_blow 48 = .ok (.getfield 15, 3) := by decide +kernel
theorem dX6_blow_51 : decode cX6_blow 51 = .ok (.ifCond .gt 77, 3) := by decide +kernel
theorem dX6_blow_54 : decode cX6_blow 54 = .ok (.iconst 0, 1) := by decide +kernel
theorem dX6_blow_55 : decode cX6_blow 55 = .ok (.istore 6, 2) := by decide +kernel
theorem dX6_blow_57 : decode cX6_blow 57 = .ok (.iload 6, 2) := by decide +kernel
theorem dX6_blow_59 : decode cX6_blow 59 = .ok (.aload_n 1, 1) := by decide +kernel
theorem dX6_blow_60 : decode cX6_blow 60 = .ok (.getfield 37, 3) := by decide +kernel
theorem dX6_blow_63 : decode cX6_blow 63 = .ok (.if_icmp .ge 30, 3) := by decide +kernel
theorem dX6_blow_66 : decode cX6_blow 66 = .ok (.aload_n 0, 1) := by decide +kernel
theorem dX6_blow_67 : decode cX6_blow 67 = .ok (.getfield 9, 3) := by decide +kernel
theorem dX6_blow_70 : decode cX6_blow 70 = .ok (.iload 6, 2) := by decide +kernel
theorem dX6_blow_72 : decode cX6_blow 72 = .ok (.iaload, 1) := by decide +kernel
theorem dX6_blow_73 : decode cX6_blow 73 = .ok (.iconst 1, 1) := by decide +kernel
theorem dX6_blow_74 : decode cX6_blow 74 = .ok (.iand, 1) := by decide +kernel
theorem dX6_blow_75 : decode cX6_blow 75 = .ok (.ifCond .eq 12, 3) := by decide +kernel
theorem dX6_blow_78 : decode cX6_blow 78 = .ok (.aload_n 0, 1) := by decide +kernel
theorem dX6_blow_79 : decode cX6_blow 79 = .ok (.aload_n 1, 1) := by decide +kernel
theorem dX6_blow_80 : decode cX6_blow 80 = .ok (.iload 6, 2) := by decide +kernel
theorem dX6_blow_82 : decode cX6_blow 82 = .ok (.iload 5, 2) := by decide +kernel
theorem dX6_blow_84 : decode cX6_blow 84 = .ok (.invokevirtual 40, 3) := by decide +kernel
theorem dX6_blow_87 : decode cX6_blow 87 = .ok (.iinc 6 1, 3) := by decide +kernel
theorem dX6_blow_90 : decode cX6_blow 90 = .ok (.goto (-33), 3) := by decide +kernel
theorem dX6_blow_93 : decode cX6_blow 93 = .ok (.iconst 0, 1) := by decide +kernel
theorem dX6_blow_94 : decode cX6_blow 94 = .ok (.istore 6, 2) := by decide +kernel
theorem dX6_blow_96 : decode cX6_blow 96 = .ok (.iload 6, 2) := by decide +kernel
theorem dX6_blow_98 : decode cX6_blow 98 = .ok (.aload_n 1, 1) := by decide +kernel
theorem dX6_blow_99 : decode cX6_blow 99 = .ok (.getfield 37, 3) := by decide +kernel
theorem dX6_blow_102 : decode cX6_blow 102 = .ok (.if_icmp .ge 20, 3) := by decide +kernel
theorem dX6_blow_105 : decode cX6_blow 105 = .ok (.aload_n 0, 1) := by decide +kernel
theorem dX6_blow_106 : decode cX6_blow 106 = .ok (.getfield 9, 3) := by decide +kernel
theorem dX6_blow_109 : decode cX6_blow 109 = .ok (.iload 6, 2) := by decide +kernel
theorem dX6_blow_111 : decode cX6_blow 111 = .ok (.dup2, 1) := by decide +kernel
theorem dX6_blow_112 : decode cX6_blow 112 = .ok (.iaload, 1) := by decide +kernel
theorem dX6_blow_113 : decode cX6_blow 113 = .ok (.iconst 1, 1) := by decide +kernel
theorem dX6_blow_114 : decode cX6_blow 114 = .ok (.ishr, 1) := by decide +kernel
theorem dX6_blow_115 : decode cX6_blow 115 = .ok (.iastore, 1) := by decide +kernel
theorem dX6_blow_116 : decode cX6_blow 116 = .ok (.iinc 6 1, 3) := by decide +kernel
theorem dX6_blow_119 : decode cX6_blow 119 = .ok (.goto (-23), 3) := by decide +kernel
theorem dX6_blow_122 : decode cX6_blow 122 = .ok (.iinc 5 1, 3) := by decide +kernel
theorem dX6_blow_125 : decode cX6_blow 125 = .ok (.goto (-89), 3) := by decide +kernel
theorem dX6_blow_128 : decode cX6_blow 128 = .ok (.return_, 1) := by decide +kernel
set_option maxRecDepth 20000 in
theorem ggX6_fillComing_J7_fill_53178 : GoodIn wsX6_fillComing wsJ7_fill_53178 := goodIn_r _ [6] (by decide +kernel) (by decide +kernel)
set_option maxRecDepth 20000 in
theorem gX6_fillComing_J7_fill_53178 : GoodIn wsX6_fillComing (va_wsS RX6 44 yJ7_fill_53178 wsJ7_fill_53178) := goodIn_app (goodIn_of _ (by decide +kernel)) ggX6_fillComing_J7_fill_53178
set_option maxRecDepth 20000 in
theorem ggX6_fillComing_X0_heightAt : GoodIn wsX6_fillComing wsX0_heightAt := goodIn_r _ [11, 12, 13, 14, 15, 10, 16, 17, 18, 19, 20, 21, 22, 33, 34, 35, 36, 37, 38, 39, 40, 41, 42, 43, 44, 45, 46, 47, 48] (by decide +kernel) (by decide +kernel)
set_option maxRecDepth 20000 in
theorem gX6_fillComing_X0_heightAt : GoodIn wsX6_fillComing (wsV RX6 50 RX0 yX0_heightAt wsX0_heightAt) := goodIn_app (goodIn_of _ (by decide +kernel)) ggX6_fillComing_X0_heightAt
set_option maxRecDepth 20000 in
theorem ggX6_fillComing_X0_goalAt : GoodIn wsX6_fillComing wsX0_goalAt := goodIn_r _ [26, 27, 13, 14, 15, 10, 16, 17, 18, 19, 20, 21, 22, 33, 34, 35, 36, 37, 38, 39, 40, 41, 42, 43, 44, 45, 46, 47, 48] (by decide +kernel) (by decide +kernel)
set_option maxRecDepth 20000 in
theorem gX6_fillComing_X0_goalAt : GoodIn wsX6_fillComing (wsV RX6 54 RX0 yX0_goalAt wsX0_goalAt) := goodIn_app (goodIn_of _ (by decide +kernel)) ggX6_fillComing_X0_goalAt
theorem dX6_fillComing_0 : decode cX6_fillComing 0 = .ok (.aload_n 0, 1) := by decide +kernel
theorem dX6_fillComing_1 : decode cX6_fillComing 1 = .ok (.getfield 9, 3) := by decide +kernel
theorem dX6_fillComing_4 : decode cX6_fillComing 4 = .ok (.iconst 0, 1) := by decide +kernel
theorem dX6_fillComing_5 : decode cX6_fillComing 5 = .ok (.invokestatic 44, 3) := by decide +kernel
theorem dX6_fillComing_8 : decode cX6_fillComing 8 = .ok (.iconst 0, 1) := by decide +kernel
theorem dX6_fillComing_9 : decode cX6_fillComing 9 = .ok (.istore_n 2, 1) := by decide +kernel
theorem dX6_fillComing_10 : decode cX6_fillComing 10 = .ok (.iload_n 2, 1) := by decide +kernel
theorem dX6_fillComing_11 : decode cX6_fillComing 11 = .ok (.aload_n 1, 1) := by decide +kernel
theorem dX6_fillComing_12 : decode cX6_fillComing 12 = .ok (.getfield 37, 3) := by decide +kernel
theorem dX6_fillComing_15 : decode cX6_fillComing 15 = .ok (.if_icmp .ge 58, 3) := by decide +kernel
theorem dX6_fillComing_18 : decode cX6_fillComing 18 = .ok (.iconst 1, 1) := by decide +kernel
theorem dX6_fillComing_19 : decode cX6_fillComing 19 = .ok (.istore_n 3, 1) := by decide +kernel
theorem dX6_fillComing_20 : decode cX6_fillComing 20 = .ok (.iload_n 3, 1) := by decide +kernel
theorem dX6_fillComing_21 : decode cX6_fillComing 21 = .ok (.bipush 9, 2) := by decide +kernel
theorem dX6_fillComing_23 : decode cX6_fillComing 23 = .ok (.if_icmp .gt 44, 3) := by decide +kernel
theorem dX6_fillComing_26 : decode cX6_fillComing 26 = .ok (.aload_n 1, 1) := by decide +kernel
theorem dX6_fillComing_27 : decode cX6_fillComing 27 = .ok (.iload_n 2, 1) := by decide +kernel
theorem dX6_fillComing_28 : decode cX6_fillComing 28 = .ok (.iload_n 3, 1) := by decide +kernel
theorem dX6_fillComing_29 : decode cX6_fillComing 29 = .ok (.ineg, 1) := by decide +kernel
theorem dX6_fillComing_30 : decode cX6_fillComing 30 = .ok (.invokevirtual 50, 3) := by decide +kernel
theorem dX6_fillComing_33 : decode cX6_fillComing 33 = .ok (.iload_n 3, 1) := by decide +kernel
theorem dX6_fillComing_34 : decode cX6_fillComing 34 = .ok (.isub, 1) := by decide +kernel
theorem dX6_fillComing_35 : decode cX6_fillComing 35 = .ok (.istore 4, 2) := by decide +kernel
theorem dX6_fillComing_37 : decode cX6_fillComing 37 = .ok (.iload 4, 2) := by decide +kernel
theorem dX6_fillComing_39 : decode cX6_fillComing 39 = .ok (.ifCond .lt 22, 3) := by decide +kernel
theorem dX6_fillComing_42 : decode cX6_fillComing 42 = .ok (.aload_n 0, 1) := by decide +kernel
theorem dX6_fillComing_43 : decode cX6_fillComing 43 = .ok (.getfield 9, 3) := by decide +kernel
theorem dX6_fillComing_46 : decode cX6_fillComing 46 = .ok (.aload_n 1, 1) := by decide +kernel
theorem dX6_fillComing_47 : decode cX6_fillComing 47 = .ok (.iload_n 2, 1) := by decide +kernel
theorem dX6_fillComing_48 : decode cX6_fillComing 48 = .ok (.iload_n 3, 1) := by decide +kernel
theorem dX6_fillComing_49 : decode cX6_fillComing 49 = .ok (.ineg, 1) := by decide +kernel
theorem dX6_fillComing_50 : decode cX6_fillComing 50 = .ok (.invokevirtual 54, 3) := by decide +kernel
theorem dX6_fillComing_53 : decode cX6_fillComing 53 = .ok (.dup2, 1) := by decide +kernel
theorem dX6_fillComing_54 : decode cX6_fillComing 54 = .ok (.iaload, 1) := by decide +kernel
theorem dX6_fillComing_55 : decode cX6_fillComing 55 = .ok (.iconst 1, 1) := by decide +kernel
theorem dX6_fillComing_56 : decode cX6_fillComing 56 = .ok (.iload 4, 2) := by decide +kernel
theorem dX6_fillComing_58 : decode cX6_fillComing 58 = .ok (.ishl, 1) := by decide +kernel
theorem dX6_fillComing_59 : decode cX6_fillComing 59 = .ok (.ior, 1) := by decide +kernel
theorem dX6_fillComing_60 : decode cX6_fillComing 60 = .ok (.iastore, 1) := by decide +kernel
theorem dX6_fillComing_61 : decode cX6_fillComing 61 = .ok (.iinc 3 1, 3) := by decide +kernel
theorem dX6_fillComing_64 : decode cX6_fillComing 64 = .ok (.goto (-44), 3) := by decide +kernel
theorem dX6_fillComing_67 : decode cX6_fillComing 67 = .ok (.iinc 2 1, 3) := by decide +kernel
theorem dX6_fillComing_70 : decode cX6_fillComing 70 = .ok (.goto (-60), 3) := by decide +kernel
theorem dX6_fillComing_73 : decode cX6_fillComing 73 = .ok (.return_, 1) := by decide +kernel
set_option maxRecDepth 20000 in
theorem ggX6_launch_X0_heightAt : GoodIn wsX6_launch wsX0_heightAt := goodIn_r _ [11, 12, 13, 14, 15, 10, 16, 17, 18, 19, 20, 21, 22, 37, 38, 39, 40, 41, 42, 43, 44, 45, 46, 47, 48, 49, 50, 51, 52] (by decide +kernel) (by decide +kernel)
set_option maxRecDepth 20000 in
theorem gX6_launch_X0_heightAt : GoodIn wsX6_launch (wsV RX6 50 RX0 yX0_heightAt wsX0_heightAt) := goodIn_app (goodIn_of _ (by decide +kernel)) ggX6_launch_X0_heightAt
set_option maxRecDepth 20000 in
theorem ggX6_launch_X6_draw : GoodIn wsX6_launch wsX6_draw := goodIn_r _ [27, 28, 29, 30, 31, 53, 54, 55, 56, 57] (by decide +kernel) (by decide +kernel)
set_option maxRecDepth 20000 in
theorem gX6_launch_X6_draw : GoodIn wsX6_launch (wsV RX6 60 RX6 yX6_draw wsX6_draw) := goodIn_app (goodIn_of _ (by decide +kernel)) ggX6_launch_X6_draw
set_option maxRecDepth 20000 in
theorem ggX6_launch_X0_goalAt : GoodIn wsX6_launch wsX0_goalAt := goodIn_r _ [35, 36, 13, 14, 15, 10, 16, 17, 18, 19, 20, 21, 22, 37, 38, 39, 40, 41, 42, 43, 44, 45, 46, 47, 48, 49, 50, 51, 52] (by decide +kernel) (by decide +kernel)
set_option maxRecDepth 20000 in
theorem gX6_launch_X0_goalAt : GoodIn wsX6_launch (wsV RX6 54 RX0 yX0_goalAt wsX0_goalAt) := goodIn_app (goodIn_of _ (by decide +kernel)) ggX6_launch_X0_goalAt
theorem dX6_launch_0 : decode cX6_launch 0 = .ok (.aload_n 1, 1) := by decide +kernel
theorem dX6_launch_1 : decode cX6_launch 1 = .ok (.iload_n 2, 1) := by decide +kernel
theorem dX6_launch_2 : decode cX6_launch 2 = .ok (.iload_n 3, 1) := by decide +kernel
theorem dX6_launch_3 : decode cX6_launch 3 = .ok (.invokevirtual 50, 3) := by decide +kernel
theorem dX6_launch_6 : decode cX6_launch 6 = .ok (.istore 4, 2) := by decide +kernel
theorem dX6_launch_8 : decode cX6_launch 8 = .ok (.iload 4, 2) := by decide +kernel
theorem dX6_launch_10 : decode cX6_launch 10 = .ok (.aload_n 1, 1) := by decide +kernel
theorem dX6_launch_11 : decode cX6_launch 11 = .ok (.getfield 57, 3) := by decide +kernel
theorem dX6_launch_14 : decode cX6_launch 14 = .ok (.if_icmp .lt 14, 3) := by decide +kernel
theorem dX6_launch_17 : decode cX6_launch 17 = .ok (.aload_n 0, 1) := by decide +kernel
theorem dX6_launch_18 : decode cX6_launch 18 = .ok (.invokevirtual 60, 3) := by decide +kernel
theorem dX6_launch_21 : decode cX6_launch 21 = .ok (.aload_n 1, 1) := by decide +kernel
theorem dX6_launch_22 : decode cX6_launch 22 = .ok (.getfield 28, 3) := by decide +kernel
theorem dX6_launch_25 : decode cX6_launch 25 = .ok (.if_icmp .lt 22, 3) := by decide +kernel
theorem dX6_launch_28 : decode cX6_launch 28 = .ok (.aload_n 0, 1) := by decide +kernel
theorem dX6_launch_29 : decode cX6_launch 29 = .ok (.getfield 9, 3) := by decide +kernel
theorem dX6_launch_32 : decode cX6_launch 32 = .ok (.aload_n 1, 1) := by decide +kernel
theorem dX6_launch_33 : decode cX6_launch 33 = .ok (.iload_n 2, 1) := by decide +kernel
theorem dX6_launch_34 : decode cX6_launch 34 = .ok (.iload_n 3, 1) := by decide +kernel
theorem dX6_launch_35 : decode cX6_launch 35 = .ok (.invokevirtual 54, 3) := by decide +kernel
theorem dX6_launch_38 : decode cX6_launch 38 = .ok (.dup2, 1) := by decide +kernel
theorem dX6_launch_39 : decode cX6_launch 39 = .ok (.iaload, 1) := by decide +kernel
theorem dX6_launch_40 : decode cX6_launch 40 = .ok (.iconst 1, 1) := by decide +kernel
theorem dX6_launch_41 : decode cX6_launch 41 = .ok (.iload 4, 2) := by decide +kernel
theorem dX6_launch_43 : decode cX6_launch 43 = .ok (.ishl, 1) := by decide +kernel
theorem dX6_launch_44 : decode cX6_launch 44 = .ok (.ior, 1) := by decide +kernel
theorem dX6_launch_45 : decode cX6_launch 45 = .ok (.iastore, 1) := by decide +kernel
theorem dX6_launch_46 : decode cX6_launch 46 = .ok (.return_, 1) := by decide +kernel
theorem dX6_launch_47 : decode cX6_launch 47 = .ok (.aload_n 0, 1) := by decide +kernel
theorem dX6_launch_48 : decode cX6_launch 48 = .ok (.getfield 15, 3) := by decide +kernel
theorem dX6_launch_51 : decode cX6_launch 51 = .ok (.ifCond .ne 13, 3) := by decide +kernel
theorem dX6_launch_54 : decode cX6_launch 54 = .ok (.aload_n 0, 1) := by decide +kernel
theorem dX6_launch_55 : decode cX6_launch 55 = .ok (.iload_n 3, 1) := by decide +kernel
theorem dX6_launch_56 : decode cX6_launch 56 = .ok (.putfield 19, 3) := by decide +kernel
theorem dX6_launch_59 : decode cX6_launch 59 = .ok (.aload_n 0, 1) := by decide +kernel
theorem dX6_launch_60 : decode cX6_launch 60 = .ok (.iload_n 2, 1) := by decide +kernel
theorem dX6_launch_61 : decode cX6_launch 61 = .ok (.putfield 22, 3) := by decide +kernel
theorem dX6_launch_64 : decode cX6_launch 64 = .ok (.aload_n 0, 1) := by decide +kernel
theorem dX6_launch_65 : decode cX6_launch 65 = .ok (.dup, 1) := by decide +kernel
theorem dX6_launch_66 : decode cX6_launch 66 = .ok (.getfield 15, 3) := by decide +kernel
theorem dX6_launch_69 : decode cX6_launch 69 = .ok (.iconst 1, 1) := by decide +kernel
theorem dX6_launch_70 : decode cX6_launch 70 = .ok (.iadd, 1) := by decide +kernel
theorem dX6_launch_71 : decode cX6_launch 71 = .ok (.putfield 15, 3) := by decide +kernel
theorem dX6_launch_74 : decode cX6_launch 74 = .ok (.return_, 1) := by decide +kernel
theorem dX6_draw_0 : decode cX6_draw 0 = .ok (.aload_n 0, 1) := by decide +kernel
theorem dX6_draw_1 : decode cX6_draw 1 = .ok (.ldc 64, 2) := by decide +kernel
theorem dX6_draw_3 : decode cX6_draw 3 = .ok (.aload_n 0, 1) := by decide +kernel
theorem dX6_draw_4 : decode cX6_draw 4 = .ok (.getfield 25, 3) := by decide +kernel
theorem dX6_draw_7 : decode cX6_draw 7 = .ok (.imul, 1) := by decide +kernel
theorem dX6_draw_8 : decode cX6_draw 8 = .ok (.sipush 12345, 3) := by decide +kernel
theorem dX6_draw_11 : decode cX6_draw 11 = .ok (.iadd, 1) := by decide +kernel
theorem dX6_draw_12 : decode cX6_draw 12 = .ok (.ldc 65, 2) := by decide +kernel
theorem dX6_draw_14 : decode cX6_draw 14 = .ok (.iand, 1) := by decide +kernel
theorem dX6_draw_15 : decode cX6_draw 15 = .ok (.putfield 25, 3) := by decide +kernel
theorem dX6_draw_18 : decode cX6_draw 18 = .ok (.aload_n 0, 1) := by decide +kernel
theorem dX6_draw_19 : decode cX6_draw 19 = .ok (.getfield 25, 3) := by decide +kernel
theorem dX6_draw_22 : decode cX6_draw 22 = .ok (.ldc 66, 2) := by decide +kernel
theorem dX6_draw_24 : decode cX6_draw 24 = .ok (.idiv, 1) := by decide +kernel
theorem dX6_draw_25 : decode cX6_draw 25 = .ok (.bipush 100, 2) := by decide +kernel
theorem dX6_draw_27 : decode cX6_draw 27 = .ok (.irem, 1) := by decide +kernel
theorem dX6_draw_28 : decode cX6_draw 28 = .ok (.ireturn, 1) := by decide +kernel
theorem dX7_init_0 : decode cX7_init 0 = .ok (.aload_n 0, 1) := by decide +kernel
theorem dX7_init_1 : decode cX7_init 1 = .ok (.invokespecial 3, 3) := by decide +kernel
theorem dX7_init_4 : decode cX7_init 4 = .ok (.aload_n 0, 1) := by decide +kernel
theorem dX7_init_5 : decode cX7_init 5 = .ok (.sipush 2560, 3) := by decide +kernel
theorem dX7_init_8 : decode cX7_init 8 = .ok (.newarray .int, 2) := by decide +kernel
theorem dX7_init_10 : decode cX7_init 10 = .ok (.putfield 11, 3) := by decide +kernel
theorem dX7_init_13 : decode cX7_init 13 = .ok (.return_, 1) := by decide +kernel
set_option maxRecDepth 20000 in
theorem ggX7_waysOf_X7_fill : GoodIn wsX7_waysOf wsX7_fill := goodIn_r _ [5, 6, 7, 8, 9, 10, 11, 12, 13, 14, 15, 4, 16, 17, 18, 19, 20, 21, 22, 23, 24, 25, 26, 27, 28, 29, 30, 31, 36, 37, 38] (by decide +kernel) (by decide +kernel)
set_option maxRecDepth 20000 in
theorem gX7_waysOf_X7_fill : GoodIn wsX7_waysOf (wsV RX7 15 RX7 yX7_fill wsX7_fill) := goodIn_app (goodIn_of _ (by decide +kernel)) ggX7_waysOf_X7_fill
set_option maxRecDepth 20000 in
theorem ggX7_waysOf_X7_waysOn : GoodIn wsX7_waysOf wsX7_waysOn := goodIn_r _ [35, 8, 36, 37, 38] (by decide +kernel) (by decide +kernel)
set_option maxRecDepth 20000 in
theorem gX7_waysOf_X7_waysOn : GoodIn wsX7_waysOf (wsV RX7 19 RX7 yX7_waysOn wsX7_waysOn) := goodIn_app (goodIn_of _ (by decide +kernel)) ggX7_waysOf_X7_waysOn
theorem dX7_waysOf_0 : decode cX7_waysOf 0 = .ok (.aload_n 0, 1) := by decide +kernel
theorem dX7_waysOf_1 : decode cX7_waysOf 1 = .ok (.iload_n 1, 1) := by decide +kernel
theorem dX7_waysOf_2 : decode cX7_waysOf 2 = .ok (.iload_n 3, 1) := by decide +kernel
theorem dX7_waysOf_3 : decode cX7_waysOf 3 = .ok (.invokevirtual 15, 3) := by decide +kernel
theorem dX7_waysOf_6 : decode cX7_waysOf 6 = .ok (.aload_n 0, 1) := by decide +kernel
theorem dX7_waysOf_7 : decode cX7_waysOf 7 = .ok (.iconst 0, 1) := by decide +kernel
theorem dX7_waysOf_8 : decode cX7_waysOf 8 = .ok (.iload_n 2, 1) := by decide +kernel
theorem dX7_waysOf_9 : decode cX7_waysOf 9 = .ok (.invokevirtual 19, 3) := by decide +kernel
theorem dX7_waysOf_12 : decode cX7_waysOf 12 = .ok (.ireturn, 1) := by decide +kernel
set_option maxRecDepth 20000 in
theorem ggX7_fill_J7_fill_53178 : GoodIn wsX7_fill wsJ7_fill_53178 := goodIn_r _ [7] (by decide +kernel) (by decide +kernel)
set_option maxRecDepth 20000 in
theorem gX7_fill_J7_fill_53178 : GoodIn wsX7_fill (va_wsS RX7 30 yJ7_fill_53178 wsJ7_fill_53178) := goodIn_app (goodIn_of _ (by decide +kernel)) ggX7_fill_J7_fill_53178
set_option maxRecDepth 20000 in
theorem ggX7_fill_X7_addWays : GoodIn wsX7_fill wsX7_addWays := goodIn_r _ [12, 3, 13, 14, 15, 16, 17, 18, 19, 20, 21, 22, 11, 23, 1, 24, 25, 26, 27, 28, 29, 30] (by decide +kernel) (by decide +kernel)
set_option maxRecDepth 20000 in
theorem gX7_fill_X7_addWays : GoodIn wsX7_fill (wsV RX7 35 RX7 yX7_addWays wsX7_addWays) := goodIn_app (goodIn_of _ (by decide +kernel)) ggX7_fill_X7_addWays
theorem dX7_fill_0 : decode cX7_fill 0 = .ok (.iload_n 1, 1) := by decide +kernel
theorem dX7_fill_1 : decode cX7_fill 1 = .ok (.aload_n 0, 1) := by decide +kernel
theorem dX7_fill_2 : decode cX7_fill 2 = .ok (.getfield 23, 3) := by decide +kernel
theorem dX7_fill_5 : decode cX7_fill 5 = .ok (.if_icmp .ne 12, 3) := by decide +kernel
theorem dX7_fill_8 : decode cX7_fill 8 = .ok (.iload_n 2, 1) := by decide +kernel
theorem dX7_fill_9 : decode cX7_fill 9 = .ok (.aload_n 0, 1) := by decide +kernel
theorem dX7_fill_10 : decode cX7_fill 10 = .ok (.getfield 27, 3) := by decide +kernel
theorem dX7_fill_13 : decode cX7_fill 13 = .ok (.if_icmp .ne 4, 3) := by decide +kernel
theorem dX7_fill_16 : decode cX7_fill 16 = .ok (.return_, 1) := by decide +kernel
theorem dX7_fill_17 : decode cX7_fill 17 = .ok (.aload_n 0, 1) := by decide +kernel
theorem dX7_fill_18 : decode cX7_fill 18 = .ok (.iload_n 1, 1) := by decide +kernel
theorem dX7_fill_19 : decode cX7_fill 19 = .ok (.putfield 23, 3) := by decide +kernel
theorem dX7_fill_22 : decode cX7_fill 22 = .ok (.aload_n 0, 1) := by decide +kernel
theorem dX7_fill_23 : decode cX7_fill 23 = .ok (.iload_n 2, 1) := by decide +kernel
theorem dX7_fill_24 : decode cX7_fill 24 = .ok (.putfield 27, 3) := by decide +kernel
theorem dX7_fill_27 : decode cX7_fill 27 = .ok (.aload_n 0, 1) := by decide +kernel
theorem dX7_fill_28 : decode cX7_fill 28 = .ok (.getfield 11, 3) := by decide +kernel
theorem dX7_fill_31 : decode cX7_fill 31 = .ok (.iconst 0, 1) := by decide +kernel
theorem dX7_fill_32 : decode cX7_fill 32 = .ok (.invokestatic 30, 3) := by decide +kernel
theorem dX7_fill_35 : decode cX7_fill 35 = .ok (.iconst 1, 1) := by decide +kernel
theorem dX7_fill_36 : decode cX7_fill 36 = .ok (.iload_n 1, 1) := by decide +kernel
theorem dX7_fill_37 : decode cX7_fill 37 = .ok (.ishl, 1) := by decide +kernel
theorem dX7_fill_38 : decode cX7_fill 38 = .ok (.iconst 1, 1) := by decide +kernel
theorem dX7_fill_39 : decode cX7_fill 39 = .ok (.isub, 1) := by decide +kernel
theorem dX7_fill_40 : decode cX7_fill 40 = .ok (.istore_n 3, 1) := by decide +kernel
theorem dX7_fill_41 : decode cX7_fill 41 = .ok (.aload_n 0, 1) := by decide +kernel
theorem dX7_fill_42 : decode cX7_fill 42 = .ok (.getfield 11, 3) := by decide +kernel
theorem dX7_fill_45 : decode cX7_fill 45 = .ok (.iload_n 3, 1) := by decide +kernel
theorem dX7_fill_46 : decode cX7_fill 46 = .ok (.bipush 10, 2) := by decide +kernel
theorem dX7_fill_48 : decode cX7_fill 48 = .ok (.imul, 1) := by decide +kernel
theorem dX7_fill_49 : decode cX7_fill 49 = .ok (.iconst 1, 1) := by decide +kernel
theorem dX7_fill_50 : decode cX7_fill 50 = .ok (.iastore, 1) := by decide +kernel
theorem dX7_fill_51 : decode cX7_fill 51 = .ok (.iload_n 3, 1) := by decide +kernel
theorem dX7_fill_52 : decode cX7_fill 52 = .ok (.iconst 1, 1) := by decide +kernel
theorem dX7_fill_53 : decode cX7_fill 53 = .ok (.isub, 1) := by decide +kernel
theorem dX7_fill_54 : decode cX7_fill 54 = .ok (.istore 4, 2) := by decide +kernel
theorem dX7_fill_56 : decode cX7_fill 56 = .ok (.iload 4, 2) := by decide +kernel
theorem dX7_fill_58 : decode cX7_fill 58 = .ok (.ifCond .lt 32, 3) := by decide +kernel
theorem dX7_fill_61 : decode cX7_fill 61 = .ok (.iconst 0, 1) := by decide +kernel
theorem dX7_fill_62 : decode cX7_fill 62 = .ok (.istore 5, 2) := by decide +kernel
theorem dX7_fill_64 : decode cX7_fill 64 = .ok (.iload 5, 2) := by decide +kernel
theorem dX7_fill_66 : decode cX7_fill 66 = .ok (.iload_n 2, 1) := by decide +kernel
theorem dX7_fill_67 : decode cX7_fill 67 = .ok (.if_icmp .gt 17, 3) := by decide +kernel
theorem dX7_fill_70 : decode cX7_fill 70 = .ok (.aload_n 0, 1) := by decide +kernel
theorem dX7_fill_71 : decode cX7_fill 71 = .ok (.iload 4, 2) := by decide +kernel
theorem dX7_fill_73 : decode cX7_fill 73 = .ok (.iload 5, 2) := by decide +kernel
theorem dX7_fill_75 : decode cX7_fill 75 = .ok (.invokevirtual 35, 3) := by decide +kernel
theorem dX7_fill_78 : decode cX7_fill 78 = .ok (.iinc 5 1, 3) := by decide +kernel
theorem dX7_fill_81 : decode cX7_fill 81 = .ok (.goto (-17), 3) := by decide +kernel
theorem dX7_fill_84 : decode cX7_fill 84 = .ok (.iinc 4 (-1), 3) := by decide +kernel
theorem dX7_fill_87 : decode cX7_fill 87 = .ok (.goto (-31), 3) := by decide +kernel
theorem dX7_fill_90 : decode cX7_fill 90 = .ok (.return_, 1) := by decide +kernel
set_option maxRecDepth 20000 in
theorem ggX7_addWays_J6_bitCount_0f7a4 : GoodIn wsX7_addWays wsJ6_bitCount_0f7a4 := goodIn_r _ [5, 6, 7, 8] (by decide +kernel) (by decide +kernel)
set_option maxRecDepth 20000 in
theorem gX7_addWays_J6_bitCount_0f7a4 : GoodIn wsX7_addWays (va_wsS RX7 38 yJ6_bitCount_0f7a4 wsJ6_bitCount_0f7a4) := goodIn_app (goodIn_of _ (by decide +kernel)) ggX7_addWays_J6_bitCount_0f7a4
set_option maxRecDepth 20000 in
theorem ggX7_addWays_X7_bitOf : GoodIn wsX7_addWays wsX7_bitOf := goodIn_r _ [13, 14, 19, 20, 21] (by decide +kernel) (by decide +kernel)
set_option maxRecDepth 20000 in
theorem gX7_addWays_X7_bitOf : GoodIn wsX7_addWays (wsV RX7 44 RX7 yX7_bitOf wsX7_bitOf) := goodIn_app (goodIn_of _ (by decide +kernel)) ggX7_addWays_X7_bitOf
set_option maxRecDepth 20000 in
theorem ggX7_addWays_X7_turnsOf : GoodIn wsX7_addWays wsX7_turnsOf := goodIn_r _ [18, 14, 19, 20, 21] (by decide +kernel) (by decide +kernel)
set_option maxRecDepth 20000 in
theorem gX7_addWays_X7_turnsOf : GoodIn wsX7_addWays (wsV RX7 47 RX7 yX7_turnsOf wsX7_turnsOf) := goodIn_app (goodIn_of _ (by decide +kernel)) ggX7_addWays_X7_turnsOf
theorem dX7_addWays_0 : decode cX7_addWays 0 = .ok (.iload_n 1, 1) := by decide +kernel
theorem dX7_addWays_1 : decode cX7_addWays 1 = .ok (.invokestatic 38, 3) := by decide +kernel
theorem dX7_addWays_4 : decode cX7_addWays 4 = .ok (.iload_n 2, 1) := by decide +kernel
theorem dX7_addWays_5 : decode cX7_addWays 5 = .ok (.iadd, 1) := by decide +kernel
theorem dX7_addWays_6 : decode cX7_addWays 6 = .ok (.istore_n 3, 1) := by decide +kernel
theorem dX7_addWays_7 : decode cX7_addWays 7 = .ok (.iload_n 1, 1) := by decide +kernel
theorem dX7_addWays_8 : decode cX7_addWays 8 = .ok (.aload_n 0, 1) := by decide +kernel
theorem dX7_addWays_9 : decode cX7_addWays 9 = .ok (.iload_n 3, 1) := by decide +kernel
theorem dX7_addWays_10 : decode cX7_addWays 10 = .ok (.invokevirtual 44, 3) := by decide +kernel
theorem dX7_addWays_13 : decode cX7_addWays 13 = .ok (.ior, 1) := by decide +kernel
theorem dX7_addWays_14 : decode cX7_addWays 14 = .ok (.istore 4, 2) := by decide +kernel
theorem dX7_addWays_16 : decode cX7_addWays 16 = .ok (.iload 4, 2) := by decide +kernel
theorem dX7_addWays_18 : decode cX7_addWays 18 = .ok (.iload_n 1, 1) := by decide +kernel
theorem dX7_addWays_19 : decode cX7_addWays 19 = .ok (.if_icmp .ne 4, 3) := by decide +kernel
theorem dX7_addWays_22 : decode cX7_addWays 22 = .ok (.return_, 1) := by decide +kernel
theorem dX7_addWays_23 : decode cX7_addWays 23 = .ok (.aload_n 0, 1) := by decide +kernel
theorem dX7_addWays_24 : decode cX7_addWays 24 = .ok (.iload_n 3, 1) := by decide +kernel
theorem dX7_addWays_25 : decode cX7_addWays 25 = .ok (.invokevirtual 47, 3) := by decide +kernel
theorem dX7_addWays_28 : decode cX7_addWays 28 = .ok (.istore 5, 2) := by decide +kernel
theorem dX7_addWays_30 : decode cX7_addWays 30 = .ok (.iload 5, 2) := by decide +kernel
theorem dX7_addWays_32 : decode cX7_addWays 32 = .ok (.istore 6, 2) := by decide +kernel
theorem dX7_addWays_34 : decode cX7_addWays 34 = .ok (.iload 6, 2) := by decide +kernel
theorem dX7_addWays_36 : decode cX7_addWays 36 = .ok (.bipush 10, 2) := by decide +kernel
theorem dX7_addWays_38 : decode cX7_addWays 38 = .ok (.if_icmp .ge 40, 3) := by decide +kernel
theorem dX7_addWays_41 : decode cX7_addWays 41 = .ok (.aload_n 0, 1) := by decide +kernel
theorem dX7_addWays_42 : decode cX7_addWays 42 = .ok (.getfield 11, 3) := by decide +kernel
theorem dX7_addWays_45 : decode cX7_addWays 45 = .ok (.iload_n 1, 1) := by decide +kernel
theorem dX7_addWays_46 : decode cX7_addWays 46 = .ok (.bipush 10, 2) := by decide +kernel
theorem dX7_addWays_48 : decode cX7_addWays 48 = .ok (.imul, 1) := by decide +kernel
theorem dX7_addWays_49 : decode cX7_addWays 49 = .ok (.iload 6, 2) := by decide +kernel
theorem dX7_addWays_51 : decode cX7_addWays 51 = .ok (.iadd, 1) := by decide +kernel
theorem dX7_addWays_52 : decode cX7_addWays 52 = .ok (.dup2, 1) := by decide +kernel
theorem dX7_addWays_53 : decode cX7_addWays 53 = .ok (.iaload, 1) := by decide +kernel
theorem dX7_addWays_54 : decode cX7_addWays 54 = .ok (.aload_n 0, 1) := by decide +kernel
theorem dX7_addWays_55 : decode cX7_addWays 55 = .ok (.getfield 11, 3) := by decide +kernel
theorem dX7_addWays_58 : decode cX7_addWays 58 = .ok (.iload 4, 2) := by decide +kernel
theorem dX7_addWays_60 : decode cX7_addWays 60 = .ok (.bipush 10, 2) := by decide +kernel
theorem dX7_addWays_62 : decode cX7_addWays 62 = .ok (.imul, 1) := by decide +kernel
theorem dX7_addWays_63 : decode cX7_addWays 63 = .ok (.iload 6, 2) := by decide +kernel
theorem dX7_addWays_65 : decode cX7_addWays 65 = .ok (.iadd, 1) := by decide +kernel
theorem dX7_addWays_66 : decode cX7_addWays 66 = .ok (.iload 5, 2) := by decide +kernel
theorem dX7_addWays_68 : decode cX7_addWays 68 = .ok (.isub, 1) := by decide +kernel
theorem dX7_addWays_69 : decode cX7_addWays 69 = .ok (.iaload, 1) := by decide +kernel
theorem dX7_addWays_70 : decode cX7_addWays 70 = .ok (.iadd, 1) := by decide +kernel
theorem dX7_addWays_71 : decode cX7_addWays 71 = .ok (.iastore, 1) := by decide +kernel
theorem dX7_addWays_72 : decode cX7_addWays 72 = .ok (.iinc 6 1, 3) := by decide +kernel
theorem dX7_addWays_75 : decode cX7_addWays 75 = .ok (.goto (-41), 3) := by decide +kernel
theorem dX7_addWays_78 : decode cX7_addWays 78 = .ok (.return_, 1) := by decide +kernel
theorem dX7_bitOf_0 : decode cX7_bitOf 0 = .ok (.aload_n 0, 1) := by decide +kernel
theorem dX7_bitOf_1 : decode cX7_bitOf 1 = .ok (.getfield 23, 3) := by decide +kernel
theorem dX7_bitOf_4 : decode cX7_bitOf 4 = .ok (.iconst 1, 1) := by decide +kernel
theorem dX7_bitOf_5 : decode cX7_bitOf 5 = .ok (.if_icmp .ge 7, 3) := by decide +kernel
theorem dX7_bitOf_8 : decode cX7_bitOf 8 = .ok (.iconst 0, 1) := by decide +kernel
theorem dX7_bitOf_9 : decode cX7_bitOf 9 = .ok (.goto 11, 3) := by decide +kernel
theorem dX7_bitOf_12 : decode cX7_bitOf 12 = .ok (.iconst 1, 1) := by decide +kernel
theorem dX7_bitOf_13 : decode cX7_bitOf 13 = .ok (.iload_n 1, 1) := by decide +kernel
theorem dX7_bitOf_14 : decode cX7_bitOf 14 = .ok (.aload_n 0, 1) := by decide +kernel
theorem dX7_bitOf_15 : decode cX7_bitOf 15 = .ok (.getfield 23, 3) := by decide +kernel
theorem dX7_bitOf_18 : decode cX7_bitOf 18 = .ok (.irem, 1) := by decide +kernel
theorem dX7_bitOf_19 : decode cX7_bitOf 19 = .ok (.ishl, 1) := by decide +kernel
theorem dX7_bitOf_20 : decode cX7_bitOf 20 = .ok (.ireturn, 1) := by decide +kernel
theorem dX7_turnsOf_0 : decode cX7_turnsOf 0 = .ok (.aload_n 0, 1) := by decide +kernel
theorem dX7_turnsOf_1 : decode cX7_turnsOf 1 = .ok (.getfield 23, 3) := by decide +kernel
theorem dX7_turnsOf_4 : decode cX7_turnsOf 4 = .ok (.iconst 1, 1) := by decide +kernel
theorem dX7_turnsOf_5 : decode cX7_turnsOf 5 = .ok (.if_icmp .ge 7, 3) := by decide +kernel
theorem dX7_turnsOf_8 : decode cX7_turnsOf 8 = .ok (.iconst 0, 1) := by decide +kernel
theorem dX7_turnsOf_9 : decode cX7_turnsOf 9 = .ok (.goto 9, 3) := by decide +kernel
theorem dX7_turnsOf_12 : decode cX7_turnsOf 12 = .ok (.iload_n 1, 1) := by decide +kernel
theorem dX7_turnsOf_13 : decode cX7_turnsOf 13 = .ok (.aload_n 0, 1) := by decide +kernel
theorem dX7_turnsOf_14 : decode cX7_turnsOf 14 = .ok (.getfield 23, 3) := by decide +kernel
theorem dX7_turnsOf_17 : decode cX7_turnsOf 17 = .ok (.idiv, 1) := by decide +kernel
theorem dX7_turnsOf_18 : decode cX7_turnsOf 18 = .ok (.ireturn, 1) := by decide +kernel
theorem dX7_waysOn_0 : decode cX7_waysOn 0 = .ok (.iload_n 1, 1) := by decide +kernel
theorem dX7_waysOn_1 : decode cX7_waysOn 1 = .ok (.bipush 10, 2) := by decide +kernel
theorem dX7_waysOn_3 : decode cX7_waysOn 3 = .ok (.imul, 1) := by decide +kernel
theorem dX7_waysOn_4 : decode cX7_waysOn 4 = .ok (.iload_n 2, 1) := by decide +kernel
theorem dX7_waysOn_5 : decode cX7_waysOn 5 = .ok (.iadd, 1) := by decide +kernel
theorem dX7_waysOn_6 : decode cX7_waysOn 6 = .ok (.istore_n 3, 1) := by decide +kernel
theorem dX7_waysOn_7 : decode cX7_waysOn 7 = .ok (.iload_n 2, 1) := by decide +kernel
theorem dX7_waysOn_8 : decode cX7_waysOn 8 = .ok (.ifCond .lt 22, 3) := by decide +kernel
theorem dX7_waysOn_11 : decode cX7_waysOn 11 = .ok (.iload_n 2, 1) := by decide +kernel
theorem dX7_waysOn_12 : decode cX7_waysOn 12 = .ok (.bipush 10, 2) := by decide +kernel
theorem dX7_waysOn_14 : decode cX7_waysOn 14 = .ok (.if_icmp .ge 16, 3) := by decide +kernel
theorem dX7_waysOn_17 : decode cX7_waysOn 17 = .ok (.iload_n 3, 1) := by decide +kernel
theorem dX7_waysOn_18 : decode cX7_waysOn 18 = .ok (.ifCond .lt 12, 3) := by decide +kernel
theorem dX7_waysOn_21 : decode cX7_waysOn 21 = .ok (.iload_n 3, 1) := by decide +kernel
theorem dX7_waysOn_22 : decode cX7_waysOn 22 = .ok (.aload_n 0, 1) := by decide +kernel
theorem dX7_waysOn_23 : decode cX7_waysOn 23 = .ok (.getfield 11, 3) := by decide +kernel
theorem dX7_waysOn_26 : decode cX7_waysOn 26 = .ok (.arraylength, 1) := by decide +kernel
theorem dX7_waysOn_27 : decode cX7_waysOn 27 = .ok (.if_icmp .lt 7, 3) := by decide +kernel
theorem dX7_waysOn_30 : decode cX7_waysOn 30 = .ok (.iconst 0, 1) := by decide +kernel
theorem dX7_waysOn_31 : decode cX7_waysOn 31 = .ok (.goto 9, 3) := by decide +kernel
theorem dX7_waysOn_34 : decode cX7_waysOn 34 = .ok (.aload_n 0, 1) := by decide +kernel
theorem dX7_waysOn_35 : decode cX7_waysOn 35 = .ok (.getfield 11, 3) := by decide +kernel
theorem dX7_waysOn_38 : decode cX7_waysOn 38 = .ok (.iload_n 3, 1) := by decide +kernel
theorem dX7_waysOn_39 : decode cX7_waysOn 39 = .ok (.iaload, 1) := by decide +kernel
theorem dX7_waysOn_40 : decode cX7_waysOn 40 = .ok (.ireturn, 1) := by decide +kernel
set_option maxRecDepth 20000 in
theorem ggX7_heightOfLeast_X7_fill : GoodIn wsX7_heightOfLeast wsX7_fill := goodIn_r _ [5, 6, 7, 8, 9, 10, 11, 12, 13, 14, 15, 4, 16, 17, 18, 19, 20, 21, 22, 23, 24, 25, 26, 27, 28, 29, 30, 31, 40, 41, 42] (by decide +kernel) (by decide +kernel)
set_option maxRecDepth 20000 in
theorem gX7_heightOfLeast_X7_fill : GoodIn wsX7_heightOfLeast (wsV RX7 15 RX7 yX7_fill wsX7_fill) := goodIn_app (goodIn_of _ (by decide +kernel)) ggX7_heightOfLeast_X7_fill
set_option maxRecDepth 20000 in
theorem ggX7_heightOfLeast_X7_leastHeight : GoodIn wsX7_heightOfLeast wsX7_leastHeight := goodIn_r _ [35, 7, 24, 25, 26, 4, 27, 6, 28, 29, 30, 31, 36, 37, 38, 39, 8, 40, 41, 42] (by decide +kernel) (by decide +kernel)
set_option maxRecDepth 20000 in
theorem gX7_heightOfLeast_X7_leastHeight : GoodIn wsX7_heightOfLeast (wsV RX7 50 RX7 yX7_leastHeight wsX7_leastHeight) := goodIn_app (goodIn_of _ (by decide +kernel)) ggX7_heightOfLeast_X7_leastHeight
set_option maxRecDepth 20000 in
theorem ggX7_heightOfLeast_X7_bitOf : GoodIn wsX7_heightOfLeast wsX7_bitOf := goodIn_r _ [27, 6, 40, 41, 42] (by decide +kernel) (by decide +kernel)
set_option maxRecDepth 20000 in
theorem gX7_heightOfLeast_X7_bitOf : GoodIn wsX7_heightOfLeast (wsV RX7 44 RX7 yX7_bitOf wsX7_bitOf) := goodIn_app (goodIn_of _ (by decide +kernel)) ggX7_heightOfLeast_X7_bitOf
set_option maxRecDepth 20000 in
theorem ggX7_heightOfLeast_X7_turnsOf : GoodIn wsX7_heightOfLeast wsX7_turnsOf := goodIn_r _ [31, 6, 40, 41, 42] (by decide +kernel) (by decide +kernel)
set_option maxRecDepth 20000 in
theorem gX7_heightOfLeast_X7_turnsOf : GoodIn wsX7_heightOfLeast (wsV RX7 47 RX7 yX7_turnsOf wsX7_turnsOf) := goodIn_app (goodIn_of _ (by decide +kernel)) ggX7_heightOfLeast_X7_turnsOf
theorem dX7_heightOfLeast_0 : decode cX7_heightOfLeast 0 = .ok (.aload_n 0, 1) := by decide +kernel
theorem dX7_heightOfLeast_1 : decode cX7_heightOfLeast 1 = .ok (.iload_n 1, 1) := by decide +kernel
theorem dX7_heightOfLeast_2 : decode cX7_heightOfLeast 2 = .ok (.iload_n 3, 1) := by decide +kernel
theorem dX7_heightOfLeast_3 : decode cX7_heightOfLeast 3 = .ok (.invokevirtual 15, 3) := by decide +kernel
theorem dX7_heightOfLeast_6 : decode cX7_heightOfLeast 6 = .ok (.iconst 0, 1) := by decide +kernel
theorem dX7_heightOfLeast_7 : decode cX7_heightOfLeast 7 = .ok (.istore 5, 2) := by decide +kernel
theorem dX7_heightOfLeast_9 : decode cX7_heightOfLeast 9 = .ok (.iload_n 2, 1) := by decide +kernel
theorem dX7_heightOfLeast_10 : decode cX7_heightOfLeast 10 = .ok (.istore 6, 2) := by decide +kernel
theorem dX7_heightOfLeast_12 : decode cX7_heightOfLeast 12 = .ok (.iconst 0, 1) := by decide +kernel
theorem dX7_heightOfLeast_13 : decode cX7_heightOfLeast 13 = .ok (.istore 7, 2) := by decide +kernel
theorem dX7_heightOfLeast_15 : decode cX7_heightOfLeast 15 = .ok (.iconst 0, 1) := by decide +kernel
theorem dX7_heightOfLeast_16 : decode cX7_heightOfLeast 16 = .ok (.istore 8, 2) := by decide +kernel
theorem dX7_heightOfLeast_18 : decode cX7_heightOfLeast 18 = .ok (.iload 8, 2) := by decide +kernel
theorem dX7_heightOfLeast_20 : decode cX7_heightOfLeast 20 = .ok (.iload 4, 2) := by decide +kernel
theorem dX7_heightOfLeast_22 : decode cX7_heightOfLeast 22 = .ok (.if_icmp .gt 49, 3) := by decide +kernel
theorem dX7_heightOfLeast_25 : decode cX7_heightOfLeast 25 = .ok (.aload_n 0, 1) := by decide +kernel
theorem dX7_heightOfLeast_26 : decode cX7_heightOfLeast 26 = .ok (.iload 5, 2) := by decide +kernel
theorem dX7_heightOfLeast_28 : decode cX7_heightOfLeast 28 = .ok (.iload 6, 2) := by decide +kernel
theorem dX7_heightOfLeast_30 : decode cX7_heightOfLeast 30 = .ok (.iload 8, 2) := by decide +kernel
theorem dX7_heightOfLeast_32 : decode cX7_heightOfLeast 32 = .ok (.invokevirtual 50, 3) := by decide +kernel
theorem dX7_heightOfLeast_35 : decode cX7_heightOfLeast 35 = .ok (.istore 7, 2) := by decide +kernel
theorem dX7_heightOfLeast_37 : decode cX7_heightOfLeast 37 = .ok (.iload 5, 2) := by decide +kernel
theorem dX7_heightOfLeast_39 : decode cX7_heightOfLeast 39 = .ok (.aload_n 0, 1) := by decide +kernel
theorem dX7_heightOfLeast_40 : decode cX7_heightOfLeast 40 = .ok (.iload 8, 2) := by decide +kernel
theorem dX7_heightOfLeast_42 : decode cX7_heightOfLeast 42 = .ok (.iload 7, 2) := by decide +kernel
theorem dX7_heightOfLeast_44 : decode cX7_heightOfLeast 44 = .ok (.iadd, 1) := by decide +kernel
theorem dX7_heightOfLeast_45 : decode cX7_heightOfLeast 45 = .ok (.invokevirtual 44, 3) := by decide +kernel
theorem dX7_heightOfLeast_48 : decode cX7_heightOfLeast 48 = .ok (.ior, 1) := by decide +kernel
theorem dX7_heightOfLeast_49 : decode cX7_heightOfLeast 49 = .ok (.istore 5, 2) := by decide +kernel
theorem dX7_heightOfLeast_51 : decode cX7_heightOfLeast 51 = .ok (.iload 6, 2) := by decide +kernel
theorem dX7_heightOfLeast_53 : decode cX7_heightOfLeast 53 = .ok (.aload_n 0, 1) := by decide +kernel
theorem dX7_heightOfLeast_54 : decode cX7_heightOfLeast 54 = .ok (.iload 8, 2) := by decide +kernel
theorem dX7_heightOfLeast_56 : decode cX7_heightOfLeast 56 = .ok (.iload 7, 2) := by decide +kernel
theorem dX7_heightOfLeast_58 : decode cX7_heightOfLeast 58 = .ok (.iadd, 1) := by decide +kernel
theorem dX7_heightOfLeast_59 : decode cX7_heightOfLeast 59 = .ok (.invokevirtual 47, 3) := by decide +kernel
theorem dX7_heightOfLeast_62 : decode cX7_heightOfLeast 62 = .ok (.isub, 1) := by decide +kernel
theorem dX7_heightOfLeast_63 : decode cX7_heightOfLeast 63 = .ok (.istore 6, 2) := by decide +kernel
theorem dX7_heightOfLeast_65 : decode cX7_heightOfLeast 65 = .ok (.iinc 8 1, 3) := by decide +kernel
theorem dX7_heightOfLeast_68 : decode cX7_heightOfLeast 68 = .ok (.goto (-50), 3) := by decide +kernel
theorem dX7_heightOfLeast_71 : decode cX7_heightOfLeast 71 = .ok (.iload 7, 2) := by decide +kernel
theorem dX7_heightOfLeast_73 : decode cX7_heightOfLeast 73 = .ok (.ireturn, 1) := by decide +kernel
set_option maxRecDepth 20000 in
theorem ggX7_leastHeight_X7_bitOf : GoodIn wsX7_leastHeight wsX7_bitOf := goodIn_r _ [6, 7, 17, 18, 19] (by decide +kernel) (by decide +kernel)
set_option maxRecDepth 20000 in
theorem gX7_leastHeight_X7_bitOf : GoodIn wsX7_leastHeight (wsV RX7 44 RX7 yX7_bitOf wsX7_bitOf) := goodIn_app (goodIn_of _ (by decide +kernel)) ggX7_leastHeight_X7_bitOf
set_option maxRecDepth 20000 in
theorem ggX7_leastHeight_X7_turnsOf : GoodIn wsX7_leastHeight wsX7_turnsOf := goodIn_r _ [11, 7, 17, 18, 19] (by decide +kernel) (by decide +kernel)
set_option maxRecDepth 20000 in
theorem gX7_leastHeight_X7_turnsOf : GoodIn wsX7_leastHeight (wsV RX7 47 RX7 yX7_turnsOf wsX7_turnsOf) := goodIn_app (goodIn_of _ (by decide +kernel)) ggX7_leastHeight_X7_turnsOf
set_option maxRecDepth 20000 in
theorem ggX7_leastHeight_X7_waysOn : GoodIn wsX7_leastHeight wsX7_waysOn := goodIn_r _ [15, 16, 17, 18, 19] (by decide +kernel) (by decide +kernel)
set_option maxRecDepth 20000 in
theorem gX7_leastHeight_X7_waysOn : GoodIn wsX7_leastHeight (wsV RX7 19 RX7 yX7_waysOn wsX7_waysOn) := goodIn_app (goodIn_of _ (by decide +kernel)) ggX7_leastHeight_X7_waysOn
theorem dX7_leastHeight_0 : decode cX7_leastHeight 0 = .ok (.iconst 0, 1) := by decide +kernel
theorem dX7_leastHeight_1 : decode cX7_leastHeight 1 = .ok (.istore 4, 2) := by decide +kernel
theorem dX7_leastHeight_3 : decode cX7_leastHeight 3 = .ok (.iload 4, 2) := by decide +kernel
theorem dX7_leastHeight_5 : decode cX7_leastHeight 5 = .ok (.aload_n 0, 1) := by decide +kernel
theorem dX7_leastHeight_6 : decode cX7_leastHeight 6 = .ok (.getfield 27, 3) := by decide +kernel
theorem dX7_leastHeight_9 : decode cX7_leastHeight 9 = .ok (.if_icmp .ge 49, 3) := by decide +kernel
theorem dX7_leastHeight_12 : decode cX7_leastHeight 12 = .ok (.iload_n 1, 1) := by decide +kernel
theorem dX7_leastHeight_13 : decode cX7_leastHeight 13 = .ok (.aload_n 0, 1) := by decide +kernel
theorem dX7_leastHeight_14 : decode cX7_leastHeight 14 = .ok (.iload_n 3, 1) := by decide +kernel
theorem dX7_leastHeight_15 : decode cX7_leastHeight 15 = .ok (.iload 4, 2) := by decide +kernel
theorem dX7_leastHeight_17 : decode cX7_leastHeight 17 = .ok (.iadd, 1) := by decide +kernel
theorem dX7_leastHeight_18 : decode cX7_leastHeight 18 = .ok (.invokevirtual 44, 3) := by decide +kernel
theorem dX7_leastHeight_21 : decode cX7_leastHeight 21 = .ok (.ior, 1) := by decide +kernel
theorem dX7_leastHeight_22 : decode cX7_leastHeight 22 = .ok (.istore 5, 2) := by decide +kernel
theorem dX7_leastHeight_24 : decode cX7_leastHeight 24 = .ok (.iload 5, 2) := by decide +kernel
theorem dX7_leastHeight_26 : decode cX7_leastHeight 26 = .ok (.iload_n 1, 1) := by decide +kernel
theorem dX7_leastHeight_27 : decode cX7_leastHeight 27 = .ok (.if_icmp .eq 25, 3) := by decide +kernel
theorem dX7_leastHeight_30 : decode cX7_leastHeight 30 = .ok (.aload_n 0, 1) := by decide +kernel
theorem dX7_leastHeight_31 : decode cX7_leastHeight 31 = .ok (.iload 5, 2) := by decide +kernel
theorem dX7_leastHeight_33 : decode cX7_leastHeight 33 = .ok (.iload_n 2, 1) := by decide +kernel
theorem dX7_leastHeight_34 : decode cX7_leastHeight 34 = .ok (.aload_n 0, 1) := by decide +kernel
theorem dX7_leastHeight_35 : decode cX7_leastHeight 35 = .ok (.iload_n 3, 1) := by decide +kernel
theorem dX7_leastHeight_36 : decode cX7_leastHeight 36 = .ok (.iload 4, 2) := by decide +kernel
theorem dX7_leastHeight_38 : decode cX7_leastHeight 38 = .ok (.iadd, 1) := by decide +kernel
theorem dX7_leastHeight_39 : decode cX7_leastHeight 39 = .ok (.invokevirtual 47, 3) := by decide +kernel
theorem dX7_leastHeight_42 : decode cX7_leastHeight 42 = .ok (.isub, 1) := by decide +kernel
theorem dX7_leastHeight_43 : decode cX7_leastHeight 43 = .ok (.invokevirtual 19, 3) := by decide +kernel
theorem dX7_leastHeight_46 : decode cX7_leastHeight 46 = .ok (.ifCond .le 6, 3) := by decide +kernel
theorem dX7_leastHeight_49 : decode cX7_leastHeight 49 = .ok (.iload 4, 2) := by decide +kernel
theorem dX7_leastHeight_51 : decode cX7_leastHeight 51 = .ok (.ireturn, 1) := by decide +kernel
theorem dX7_leastHeight_52 : decode cX7_leastHeight 52 = .ok (.iinc 4 1, 3) := by decide +kernel
theorem dX7_leastHeight_55 : decode cX7_leastHeight 55 = .ok (.goto (-52), 3) := by decide +kernel
theorem dX7_leastHeight_58 : decode cX7_leastHeight 58 = .ok (.aload_n 0, 1) := by decide +kernel
theorem dX7_leastHeight_59 : decode cX7_leastHeight 59 = .ok (.getfield 27, 3) := by decide +kernel
theorem dX7_leastHeight_62 : decode cX7_leastHeight 62 = .ok (.ireturn, 1) := by decide +kernel
set_option maxRecDepth 20000 in
theorem ggX8_init_X0_init : GoodIn wsX8_init wsX0_init := goodIn_r _ [41, 42, 2, 3, 43, 44, 45, 46, 47, 48, 49, 94, 95, 96, 97, 98, 99, 100, 101, 102, 103, 104, 105, 106, 107, 108, 109] (by decide +kernel) (by decide +kernel)
set_option maxRecDepth 20000 in
theorem gX8_init_X0_init_n9 : GoodIn wsX8_init (wsX0_init) := ggX8_init_X0_init
set_option maxRecDepth 20000 in
theorem ggX8_init_X3_init : GoodIn wsX8_init wsX3_init := goodIn_r _ [52, 53, 2, 3, 54, 55, 56, 57, 121, 122, 123, 124, 125, 126, 127, 128, 129, 130, 131, 132] (by decide +kernel) (by decide +kernel)
set_option maxRecDepth 20000 in
theorem gX8_init_X3_init : GoodIn wsX8_init (wsX3_init) := ggX8_init_X3_init
set_option maxRecDepth 20000 in
theorem ggX8_init_X1_init : GoodIn wsX8_init wsX1_init := goodIn_r _ [59, 60, 2, 3, 43, 61, 62, 133, 134, 135, 136, 137, 138, 139, 140] (by decide +kernel) (by decide +kernel)
set_option maxRecDepth 20000 in
theorem gX8_init_X1_init_n38 : GoodIn wsX8_init (wsX1_init) := ggX8_init_X1_init
set_option maxRecDepth 20000 in
theorem ggX8_init_X2_init : GoodIn wsX8_init wsX2_init := goodIn_r _ [64, 65, 2, 3, 43, 66, 67, 68, 141, 142, 143, 144, 145, 146, 147, 148, 149] (by decide +kernel) (by decide +kernel)
set_option maxRecDepth 20000 in
theorem gX8_init_X2_init_n45 : GoodIn wsX8_init (wsX2_init) := ggX8_init_X2_init
set_option maxRecDepth 20000 in
theorem ggX8_init_X5_init : GoodIn wsX8_init wsX5_init := goodIn_r _ [70, 71, 2, 3, 43, 72, 73, 150, 151] (by decide +kernel) (by decide +kernel)
set_option maxRecDepth 20000 in
theorem gX8_init_X5_init_n52 : GoodIn wsX8_init (wsX5_init) := ggX8_init_X5_init
set_option maxRecDepth 20000 in
theorem ggX8_init_X7_init : GoodIn wsX8_init wsX7_init := goodIn_r _ [75, 76, 2, 3, 43, 77, 152, 153, 154] (by decide +kernel) (by decide +kernel)
set_option maxRecDepth 20000 in
theorem gX8_init_X7_init_n59 : GoodIn wsX8_init (wsX7_init) := ggX8_init_X7_init
set_option maxRecDepth 20000 in
theorem ggX8_init_X6_init : GoodIn wsX8_init wsX6_init := goodIn_r _ [79, 80, 2, 3, 43, 81, 155, 156, 157, 158, 159] (by decide +kernel) (by decide +kernel)
set_option maxRecDepth 20000 in
theorem gX8_init_X6_init_n66 : GoodIn wsX8_init (wsX6_init) := ggX8_init_X6_init
set_option maxRecDepth 20000 in
theorem ggX8_init_X4_init : GoodIn wsX8_init wsX4_init := goodIn_r _ [84, 85, 2, 3, 43, 86, 87, 88, 89, 90, 91, 92, 93, 160, 161, 162] (by decide +kernel) (by decide +kernel)
set_option maxRecDepth 20000 in
theorem gX8_init_X4_init : GoodIn wsX8_init (wsX4_init) := ggX8_init_X4_init
theorem dX8_init_0 : decode cX8_init 0 = .ok (.aload_n 0, 1) := by decide +kernel
theorem dX8_init_1 : decode cX8_init 1 = .ok (.invokespecial 1, 3) := by decide +kernel
theorem dX8_init_4 : decode cX8_init 4 = .ok (.aload_n 0, 1) := by decide +kernel
theorem dX8_init_5 : decode cX8_init 5 = .ok (.new 7, 3) := by decide +kernel
theorem dX8_init_8 : decode cX8_init 8 = .ok (.dup, 1) := by decide +kernel
theorem dX8_init_9 : decode cX8_init 9 = .ok (.invokespecial 9, 3) := by decide +kernel
theorem dX8_init_12 : decode cX8_init 12 = .ok (.putfield 10, 3) := by decide +kernel
theorem dX8_init_15 : decode cX8_init 15 = .ok (.aload_n 0, 1) := by decide +kernel
theorem dX8_init_16 : decode cX8_init 16 = .ok (.new 7, 3) := by decide +kernel
theorem dX8_init_19 : decode cX8_init 19 = .ok (.dup, 1) := by decide +kernel
theorem dX8_init_20 : decode cX8_init 20 = .ok (.invokespecial 9, 3) := by decide +kernel
theorem dX8_init_23 : decode cX8_init 23 = .ok (.putfield 16, 3) := by decide +kernel
theorem dX8_init_26 : decode cX8_init 26 = .ok (.aload_n 0, 1) := by decide +kernel
theorem dX8_init_27 : decode cX8_init 27 = .ok (.iconst 3, 1) := by decide +kernel
theorem dX8_init_28 : decode cX8_init 28 = .ok (.anewarray 7, 3) := by decide +kernel
theorem dX8_init_31 : decode cX8_init 31 = .ok (.putfield 19, 3) := by decide +kernel
theorem dX8_init_34 : decode cX8_init 34 = .ok (.aload_n 0, 1) := by decide +kernel
theorem dX8_init_35 : decode cX8_init 35 = .ok (.iconst 3, 1) := by decide +kernel
theorem dX8_init_36 : decode cX8_init 36 = .ok (.newarray .boolean, 2) := by decide +kernel
theorem dX8_init_38 : decode cX8_init 38 = .ok (.putfield 23, 3) := by decide +kernel
theorem dX8_init_41 : decode cX8_init 41 = .ok (.aload_n 0, 1) := by decide +kernel
theorem dX8_init_42 : decode cX8_init 42 = .ok (.new 27, 3) := by decide +kernel
theorem dX8_init_45 : decode cX8_init 45 = .ok (.dup, 1) := by decide +kernel
theorem dX8_init_46 : decode cX8_init 46 = .ok (.aload_n 0, 1) := by decide +kernel
theorem dX8_init_47 : decode cX8_init 47 = .ok (.getfield 16, 3) := by decide +kernel
theorem dX8_init_50 : decode cX8_init 50 = .ok (.invokespecial 29, 3) := by decide +kernel
theorem dX8_init_53 : decode cX8_init 53 = .ok (.putfield 32, 3) := by decide +kernel
theorem dX8_init_56 : decode cX8_init 56 = .ok (.aload_n 0, 1) := by decide +kernel
theorem dX8_init_57 : decode cX8_init 57 = .ok (.new 36, 3) := by decide +kernel
theorem dX8_init_60 : decode cX8_init 60 = .ok (.dup, 1) := by decide +kernel
theorem dX8_init_61 : decode cX8_init 61 = .ok (.invokespecial 38, 3) := by decide +kernel
theorem dX8_init_64 : decode cX8_init 64 = .ok (.putfield 39, 3) := by decide +kernel
theorem dX8_init_67 : decode cX8_init 67 = .ok (.aload_n 0, 1) := by decide +kernel
theorem dX8_init_68 : decode cX8_init 68 = .ok (.new 43, 3) := by decide +kernel
theorem dX8_init_71 : decode cX8_init 71 = .ok (.dup, 1) := by decide +kernel
theorem dX8_init_72 : decode cX8_init 72 = .ok (.invokespecial 45, 3) := by decide +kernel
theorem dX8_init_75 : decode cX8_init 75 = .ok (.putfield 46, 3) := by decide +kernel
theorem dX8_init_78 : decode cX8_init 78 = .ok (.aload_n 0, 1) := by decide +kernel
theorem dX8_init_79 : decode cX8_init 79 = .ok (.new 50, 3) := by decide +kernel
theorem dX8_init_82 : decode cX8_init 82 = .ok (.dup, 1) := by decide +kernel
theorem dX8_init_83 : decode cX8_init 83 = .ok (.invokespecial 52, 3) := by decide +kernel
theorem dX8_init_86 : decode cX8_init 86 = .ok (.putfield 53, 3) := by decide +kernel
theorem dX8_init_89 : decode cX8_init 89 = .ok (.aload_n 0, 1) := by decide +kernel
theorem dX8_init_90 : decode cX8_init 90 = .ok (.new 57, 3) := by decide +kernel
theorem dX8_init_93 : decode cX8_init 93 = .ok (.dup, 1) := by decide +kernel
theorem dX8_init_94 : decode cX8_init 94 = .ok (.invokespecial 59, 3) := by decide +kernel
theorem dX8_init_97 : decode cX8_init 97 = .ok (.putfield 60, 3) := by decide +kernel
theorem dX8_init_100 : decode cX8_init 100 = .ok (.aload_n 0, 1) := by decide +kernel
theorem dX8_init_101 : decode cX8_init 101 = .ok (.new 64, 3) := by decide +kernel
theorem dX8_init_104 : decode cX8_init 104 = .ok (.dup, 1) := by decide +kernel
theorem dX8_init_105 : decode cX8_init 105 = .ok (.invokespecial 66, 3) := by decide +kernel
theorem dX8_init_108 : decode cX8_init 108 = .ok (.putfield 67, 3) := by decide +kernel
theorem dX8_init_111 : decode cX8_init 111 = .ok (.aload_n 0, 1) := by decide +kernel
theorem dX8_init_112 : decode cX8_init 112 = .ok (.new 71, 3) := by decide +kernel
theorem dX8_init_115 : decode cX8_init 115 = .ok (.dup, 1) := by decide +kernel
theorem dX8_init_116 : decode cX8_init 116 = .ok (.invokespecial 73, 3) := by decide +kernel
theorem dX8_init_119 : decode cX8_init 119 = .ok (.putfield 74, 3) := by decide +kernel
theorem dX8_init_122 : decode cX8_init 122 = .ok (.iconst 0, 1) := by decide +kernel
theorem dX8_init_123 : decode cX8_init 123 = .ok (.istore_n 1, 1) := by decide +kernel
theorem dX8_init_124 : decode cX8_init 124 = .ok (.iload_n 1, 1) := by decide +kernel
theorem dX8_init_125 : decode cX8_init 125 = .ok (.iconst 3, 1) := by decide +kernel
theorem dX8_init_126 : decode cX8_init 126 = .ok (.if_icmp .ge 22, 3) := by decide +kernel
theorem dX8_init_129 : decode cX8_init 129 = .ok (.aload_n 0, 1) := by decide +kernel
theorem dX8_init_130 : decode cX8_init 130 = .ok (.getfield 19, 3) := by decide +kernel
theorem dX8_init_133 : decode cX8_init 133 = .ok (.iload_n 1, 1) := by decide +kernel
theorem dX8_init_134 : decode cX8_init 134 = .ok (.new 7, 3) := by decide +kernel
theorem dX8_init_137 : decode cX8_init 137 = .ok (.dup, 1) := by decide +kernel
theorem dX8_init_138 : decode cX8_init 138 = .ok (.invokespecial 9, 3) := by decide +kernel
theorem dX8_init_141 : decode cX8_init 141 = .ok (.aastore, 1) := by decide +kernel
theorem dX8_init_142 : decode cX8_init 142 = .ok (.iinc 1 1, 3) := by decide +kernel
theorem dX8_init_145 : decode cX8_init 145 = .ok (.goto (-21), 3) := by decide +kernel
theorem dX8_init_148 : decode cX8_init 148 = .ok (.return_, 1) := by decide +kernel
set_option maxRecDepth 20000 in
theorem ggX8_feed_X3_hasRoom : GoodIn wsX8_feed wsX3_hasRoom := goodIn_r _ [7, 8, 26, 27, 28, 29, 30, 31, 32, 33, 34, 35, 36, 37] (by decide +kernel) (by decide +kernel)
set_option maxRecDepth 20000 in
theorem gX8_feed_X3_hasRoom : GoodIn wsX8_feed (wsV RX8 78 RX3 yX3_hasRoom wsX3_hasRoom) := goodIn_app (goodIn_of _ (by decide +kernel)) ggX8_feed_X3_hasRoom
set_option maxRecDepth 20000 in
theorem ggX8_feed_X3_append : GoodIn wsX8_feed wsX3_append := goodIn_r _ [12, 13, 8, 14, 4, 5, 6, 7, 26, 27, 28, 29, 30, 31, 32, 33, 34, 35, 36, 37] (by decide +kernel) (by decide +kernel)
set_option maxRecDepth 20000 in
theorem gX8_feed_X3_append : GoodIn wsX8_feed (wsV RX8 82 RX3 yX3_append wsX3_append) := goodIn_app (goodIn_of _ (by decide +kernel)) ggX8_feed_X3_append
theorem dX8_feed_0 : decode cX8_feed 0 = .ok (.aload_n 0, 1) := by decide +kernel
theorem dX8_feed_1 : decode cX8_feed 1 = .ok (.getfield 32, 3) := by decide +kernel
theorem dX8_feed_4 : decode cX8_feed 4 = .ok (.bipush 20, 2) := by decide +kernel
theorem dX8_feed_6 : decode cX8_feed 6 = .ok (.invokevirtual 78, 3) := by decide +kernel
theorem dX8_feed_9 : decode cX8_feed 9 = .ok (.ifCond .ne 5, 3) := by decide +kernel
theorem dX8_feed_12 : decode cX8_feed 12 = .ok (.iconst (-1), 1) := by decide +kernel
theorem dX8_feed_13 : decode cX8_feed 13 = .ok (.ireturn, 1) := by decide +kernel
theorem dX8_feed_14 : decode cX8_feed 14 = .ok (.aload_n 0, 1) := by decide +kernel
theorem dX8_feed_15 : decode cX8_feed 15 = .ok (.getfield 32, 3) := by decide +kernel
theorem dX8_feed_18 : decode cX8_feed 18 = .ok (.iload_n 1, 1) := by decide +kernel
theorem dX8_feed_19 : decode cX8_feed 19 = .ok (.invokevirtual 82, 3) := by decide +kernel
theorem dX8_feed_22 : decode cX8_feed 22 = .ok (.aload_n 0, 1) := by decide +kernel
theorem dX8_feed_23 : decode cX8_feed 23 = .ok (.getfield 32, 3) := by decide +kernel
theorem dX8_feed_26 : decode cX8_feed 26 = .ok (.iload_n 2, 1) := by decide +kernel
theorem dX8_feed_27 : decode cX8_feed 27 = .ok (.invokevirtual 82, 3) := by decide +kernel
theorem dX8_feed_30 : decode cX8_feed 30 = .ok (.aload_n 0, 1) := by decide +kernel
theorem dX8_feed_31 : decode cX8_feed 31 = .ok (.getfield 32, 3) := by decide +kernel
theorem dX8_feed_34 : decode cX8_feed 34 = .ok (.iload_n 3, 1) := by decide +kernel
theorem dX8_feed_35 : decode cX8_feed 35 = .ok (.invokevirtual 82, 3) := by decide +kernel
theorem dX8_feed_38 : decode cX8_feed 38 = .ok (.aload_n 0, 1) := by decide +kernel
theorem dX8_feed_39 : decode cX8_feed 39 = .ok (.getfield 32, 3) := by decide +kernel
theorem dX8_feed_42 : decode cX8_feed 42 = .ok (.iload 4, 2) := by decide +kernel
theorem dX8_feed_44 : decode cX8_feed 44 = .ok (.invokevirtual 82, 3) := by decide +kernel
theorem dX8_feed_47 : decode cX8_feed 47 = .ok (.aload_n 0, 1) := by decide +kernel
theorem dX8_feed_48 : decode cX8_feed 48 = .ok (.getfield 32, 3) := by decide +kernel
theorem dX8_feed_51 : decode cX8_feed 51 = .ok (.iload 5, 2) := by decide +kernel
theorem dX8_feed_53 : decode cX8_feed 53 = .ok (.invokevirtual 82, 3) := by decide +kernel
theorem dX8_feed_56 : decode cX8_feed 56 = .ok (.aload_n 0, 1) := by decide +kernel
theorem dX8_feed_57 : decode cX8_feed 57 = .ok (.getfield 32, 3) := by decide +kernel
theorem dX8_feed_60 : decode cX8_feed 60 = .ok (.getfield 86, 3) := by decide +kernel
theorem dX8_feed_63 : decode cX8_feed 63 = .ok (.ireturn, 1) := by decide +kernel
theorem dX8_end_0 : decode cX8_end 0 = .ok (.iload_n 1, 1) := by decide +kernel
theorem dX8_end_1 : decode cX8_end 1 = .ok (.ifCond .lt 14, 3) := by decide +kernel
theorem dX8_end_4 : decode cX8_end 4 = .ok (.iload_n 1, 1) := by decide +kernel
theorem dX8_end_5 : decode cX8_end 5 = .ok (.aload_n 0, 1) := by decide +kernel
theorem dX8_end_6 : decode cX8_end 6 = .ok (.getfield 32, 3) := by decide +kernel
theorem dX8_end_9 : decode cX8_end 9 = .ok (.getfield 86, 3) := by decide +kernel
theorem dX8_end_12 : decode cX8_end 12 = .ok (.if_icmp .le 5, 3) := by decide +kernel
theorem dX8_end_15 : decode cX8_end 15 = .ok (.iconst (-1), 1) := by decide +kernel
theorem dX8_end_16 : decode cX8_end 16 = .ok (.ireturn, 1) := by decide +kernel
theorem dX8_end_17 : decode cX8_end 17 = .ok (.aload_n 0, 1) := by decide +kernel
theorem dX8_end_18 : decode cX8_end 18 = .ok (.getfield 32, 3) := by decide +kernel
theorem dX8_end_21 : decode cX8_end 21 = .ok (.iload_n 1, 1) := by decide +kernel
theorem dX8_end_22 : decode cX8_end 22 = .ok (.putfield 86, 3) := by decide +kernel
theorem dX8_end_25 : decode cX8_end 25 = .ok (.iload_n 1, 1) := by decide +kernel
theorem dX8_end_26 : decode cX8_end 26 = .ok (.ireturn, 1) := by decide +kernel
set_option maxRecDepth 20000 in
theorem ggX8_city_X3_readAll : GoodIn wsX8_city wsX3_readAll := goodIn_r _ [10, 11, 12, 13, 14, 15, 16, 17, 18, 19, 20, 21, 22, 23, 24, 25, 26, 27, 28, 29, 30, 31, 32, 9, 33, 34, 35, 36, 37, 38, 39, 40, 41, 42, 43, 44, 45, 46, 47, 48, 49, 50, 51, 52, 53, 54, 55, 56, 57, 58, 59, 60, 61, 62, 63, 64, 65, 66, 67, 68, 69, 70, 71, 72, 73, 74, 75, 76, 77, 78, 79, 80, 81, 82, 83, 84, 85, 86, 87, 88, 89, 90, 91, 92, 93, 94, 95, 96, 97, 98, 99, 100, 101, 102, 103, 104, 105, 106, 107, 108, 109, 110, 111, 112, 113, 114, 115, 116, 117, 118, 119, 120, 121, 122, 123, 124, 125, 126, 127, 128, 129, 130, 131, 132, 133, 134, 135, 136, 137, 138, 139, 140, 141, 142, 143, 144, 145, 146, 147, 148, 149, 150, 151, 152, 153, 154, 155, 156, 157, 158, 159, 160, 161, 162, 163, 164, 165, 166, 167, 168, 169, 170, 171, 172, 173, 174, 175, 176, 177, 178, 179, 180, 181, 182, 183, 184, 185, 186, 187, 188, 189, 190, 191, 192, 193, 194, 195, 196, 197, 198, 199, 200, 201, 202, 203, 204, 205, 206, 207, 208, 209, 229, 230, 231, 232, 233, 234, 235, 236, 237, 238, 239, 240, 241, 242, 243, 244, 245, 246, 247, 248, 249, 250, 251, 252, 253, 254, 255, 256] (by decide +kernel) (by decide +kernel)
set_option maxRecDepth 20000 in
theorem gX8_city_X3_readAll : GoodIn wsX8_city (wsV RX8 90 RX3 yX3_readAll wsX3_readAll) := goodIn_app (goodIn_of _ (by decide +kernel)) ggX8_city_X3_readAll
set_option maxRecDepth 20000 in
theorem ggX8_city_X0_copyOf : GoodIn wsX8_city wsX0_copyOf := goodIn_r _ [213, 24, 25, 26, 27, 28, 139, 214, 215, 216, 217, 140, 132, 133, 134, 199, 29, 241, 242, 243, 244, 245, 246, 247, 248, 249, 250, 251, 252, 253, 254, 255, 256] (by decide +kernel) (by decide +kernel)
set_option maxRecDepth 20000 in
theorem gX8_city_X0_copyOf : GoodIn wsX8_city (wsV RX8 94 RX0 yX0_copyOf wsX0_copyOf) := goodIn_app (goodIn_of _ (by decide +kernel)) ggX8_city_X0_copyOf
theorem dX8_city_0 : decode cX8_city 0 = .ok (.aload_n 0, 1) := by decide +kernel
theorem dX8_city_1 : decode cX8_city 1 = .ok (.getfield 32, 3) := by decide +kernel
theorem dX8_city_4 : decode cX8_city 4 = .ok (.invokevirtual 90, 3) := by decide +kernel
theorem dX8_city_7 : decode cX8_city 7 = .ok (.ifCond .ne 6, 3) := by decide +kernel
theorem dX8_city_10 : decode cX8_city 10 = .ok (.bipush (-4), 2) := by decide +kernel
theorem dX8_city_12 : decode cX8_city 12 = .ok (.ireturn, 1) := by decide +kernel
theorem dX8_city_13 : decode cX8_city 13 = .ok (.aload_n 0, 1) := by decide +kernel
theorem dX8_city_14 : decode cX8_city 14 = .ok (.getfield 32, 3) := by decide +kernel
theorem dX8_city_17 : decode cX8_city 17 = .ok (.iconst 0, 1) := by decide +kernel
theorem dX8_city_18 : decode cX8_city 18 = .ok (.putfield 86, 3) := by decide +kernel
theorem dX8_city_21 : decode cX8_city 21 = .ok (.aload_n 0, 1) := by decide +kernel
theorem dX8_city_22 : decode cX8_city 22 = .ok (.getfield 10, 3) := by decide +kernel
theorem dX8_city_25 : decode cX8_city 25 = .ok (.aload_n 0, 1) := by decide +kernel
theorem dX8_city_26 : decode cX8_city 26 = .ok (.getfield 16, 3) := by decide +kernel
theorem dX8_city_29 : decode cX8_city 29 = .ok (.invokevirtual 94, 3) := by decide +kernel
theorem dX8_city_32 : decode cX8_city 32 = .ok (.aload_n 0, 1) := by decide +kernel
theorem dX8_city_33 : decode cX8_city 33 = .ok (.getfield 10, 3) := by decide +kernel
theorem dX8_city_36 : decode cX8_city 36 = .ok (.getfield 97, 3) := by decide +kernel
theorem dX8_city_39 : decode cX8_city 39 = .ok (.ireturn, 1) := by decide +kernel
theorem dX8_fault_0 : decode cX8_fault 0 = .ok (.iload_n 1, 1) := by decide +kernel
theorem dX8_fault_1 : decode cX8_fault 1 = .ok (.ifCond .ne 11, 3) := by decide +kernel
theorem dX8_fault_4 : decode cX8_fault 4 = .ok (.aload_n 0, 1) := by decide +kernel
theorem dX8_fault_5 : decode cX8_fault 5 = .ok (.getfield 32, 3) := by decide +kernel
theorem dX8_fault_8 : decode cX8_fault 8 = .ok (.getfield 100, 3) := by decide +kernel
theorem dX8_fault_11 : decode cX8_fault 11 = .ok (.ireturn, 1) := by decide +kernel
theorem dX8_fault_12 : decode cX8_fault 12 = .ok (.iload_n 1, 1) := by decide +kernel
theorem dX8_fault_13 : decode cX8_fault 13 = .ok (.iconst 1, 1) := by decide +kernel
theorem dX8_fault_14 : decode cX8_fault 14 = .ok (.if_icmp .ne 13, 3) := by decide +kernel
theorem dX8_fault_17 : decode cX8_fault 17 = .ok (.aload_n 0, 1) := by decide +kernel
theorem dX8_fault_18 : decode cX8_fault 18 = .ok (.getfield 32, 3) := by decide +kernel
theorem dX8_fault_21 : decode cX8_fault 21 = .ok (.getfield 103, 3) := by decide +kernel
theorem dX8_fault_24 : decode cX8_fault 24 = .ok (.goto 4, 3) := by decide +kernel
theorem dX8_fault_27 : decode cX8_fault 27 = .ok (.iconst (-1), 1) := by decide +kernel
theorem dX8_fault_28 : decode cX8_fault 28 = .ok (.ireturn, 1) := by decide +kernel
set_option maxRecDepth 20000 in
theorem ggX8_tosses_X0_hasRoof : GoodIn wsX8_tosses wsX0_hasRoof := goodIn_r _ [7, 8, 47, 48, 49, 50, 51, 52, 53, 54, 55, 56, 57, 58, 59, 60, 61, 62] (by decide +kernel) (by decide +kernel)
set_option maxRecDepth 20000 in
theorem gX8_tosses_X0_hasRoof : GoodIn wsX8_tosses (wsV RX8 106 RX0 yX0_hasRoof wsX0_hasRoof) := goodIn_app (goodIn_of _ (by decide +kernel)) ggX8_tosses_X0_hasRoof
set_option maxRecDepth 20000 in
theorem ggX8_tosses_X8_isBeat : GoodIn wsX8_tosses wsX8_isBeat := goodIn_r _ [12, 13, 14, 15, 11, 16] (by decide +kernel) (by decide +kernel)
set_option maxRecDepth 20000 in
theorem gX8_tosses_X8_isBeat : GoodIn wsX8_tosses (va_wsS RX8 109 yX8_isBeat wsX8_isBeat) := goodIn_app (goodIn_of _ (by decide +kernel)) ggX8_tosses_X8_isBeat
set_option maxRecDepth 20000 in
theorem ggX8_tosses_X8_isWithin : GoodIn wsX8_tosses wsX8_isWithin := goodIn_r _ [16] (by decide +kernel) (by decide +kernel)
set_option maxRecDepth 20000 in
theorem gX8_tosses_X8_isWithin : GoodIn wsX8_tosses (va_wsS RX8 112 yX8_isWithin wsX8_isWithin) := goodIn_app (goodIn_of _ (by decide +kernel)) ggX8_tosses_X8_isWithin
set_option maxRecDepth 20000 in
theorem ggX8_tosses_X0_heightAt : GoodIn wsX8_tosses wsX0_heightAt := goodIn_r _ [20, 21, 22, 23, 24, 6, 25, 8, 26, 27, 28, 29, 30, 47, 48, 49, 50, 51, 52, 53, 54, 55, 56, 57, 58, 59, 60, 61, 62] (by decide +kernel) (by decide +kernel)
set_option maxRecDepth 20000 in
theorem gX8_tosses_X0_heightAt : GoodIn wsX8_tosses (wsV RX8 116 RX0 yX0_heightAt wsX0_heightAt) := goodIn_app (goodIn_of _ (by decide +kernel)) ggX8_tosses_X0_heightAt
set_option maxRecDepth 20000 in
theorem ggX8_tosses_X0_goalAt : GoodIn wsX8_tosses wsX0_goalAt := goodIn_r _ [34, 35, 22, 23, 24, 6, 25, 8, 26, 27, 28, 29, 30, 47, 48, 49, 50, 51, 52, 53, 54, 55, 56, 57, 58, 59, 60, 61, 62] (by decide +kernel) (by decide +kernel)
set_option maxRecDepth 20000 in
theorem gX8_tosses_X0_goalAt : GoodIn wsX8_tosses (wsV RX8 120 RX0 yX0_goalAt wsX0_goalAt) := goodIn_app (goodIn_of _ (by decide +kernel)) ggX8_tosses_X0_goalAt
theorem dX8_tosses_0 : decode cX8_tosses 0 = .ok (.aload_n 0, 1) := by decide +kernel
theorem dX8_tosses_1 : decode cX8_tosses 1 = .ok (.getfield 10, 3) := by decide +kernel
theorem dX8_tosses_4 : decode cX8_tosses 4 = .ok (.iload_n 1, 1) := by decide +kernel
theorem dX8_tosses_5 : decode cX8_tosses 5 = .ok (.invokevirtual 106, 3) := by decide +kernel
theorem dX8_tosses_8 : decode cX8_tosses 8 = .ok (.ifCond .eq 18, 3) := by decide +kernel
theorem dX8_tosses_11 : decode cX8_tosses 11 = .ok (.iload_n 2, 1) := by decide +kernel
theorem dX8_tosses_12 : decode cX8_tosses 12 = .ok (.invokestatic 109, 3) := by decide +kernel
theorem dX8_tosses_15 : decode cX8_tosses 15 = .ok (.ifCond .eq 11, 3) := by decide +kernel
theorem dX8_tosses_18 : decode cX8_tosses 18 = .ok (.iload_n 3, 1) := by decide +kernel
theorem dX8_tosses_19 : decode cX8_tosses 19 = .ok (.iconst 2, 1) := by decide +kernel
theorem dX8_tosses_20 : decode cX8_tosses 20 = .ok (.invokestatic 112, 3) := by decide +kernel
theorem dX8_tosses_23 : decode cX8_tosses 23 = .ok (.ifCond .ne 6, 3) := by decide +kernel
theorem dX8_tosses_26 : decode cX8_tosses 26 = .ok (.bipush (-2), 2) := by decide +kernel
theorem dX8_tosses_28 : decode cX8_tosses 28 = .ok (.ireturn, 1) := by decide +kernel
theorem dX8_tosses_29 : decode cX8_tosses 29 = .ok (.iload_n 3, 1) := by decide +kernel
theorem dX8_tosses_30 : decode cX8_tosses 30 = .ok (.ifCond .ne 13, 3) := by decide +kernel
theorem dX8_tosses_33 : decode cX8_tosses 33 = .ok (.aload_n 0, 1) := by decide +kernel
theorem dX8_tosses_34 : decode cX8_tosses 34 = .ok (.getfield 10, 3) := by decide +kernel
theorem dX8_tosses_37 : decode cX8_tosses 37 = .ok (.iload_n 1, 1) := by decide +kernel
theorem dX8_tosses_38 : decode cX8_tosses 38 = .ok (.iload_n 2, 1) := by decide +kernel
theorem dX8_tosses_39 : decode cX8_tosses 39 = .ok (.invokevirtual 116, 3) := by decide +kernel
theorem dX8_tosses_42 : decode cX8_tosses 42 = .ok (.ireturn, 1) := by decide +kernel
theorem dX8_tosses_43 : decode cX8_tosses 43 = .ok (.iload_n 3, 1) := by decide +kernel
theorem dX8_tosses_44 : decode cX8_tosses 44 = .ok (.iconst 1, 1) := by decide +kernel
theorem dX8_tosses_45 : decode cX8_tosses 45 = .ok (.if_icmp .ne 13, 3) := by decide +kernel
theorem dX8_tosses_48 : decode cX8_tosses 48 = .ok (.aload_n 0, 1) := by decide +kernel
theorem dX8_tosses_49 : decode cX8_tosses 49 = .ok (.getfield 10, 3) := by decide +kernel
theorem dX8_tosses_52 : decode cX8_tosses 52 = .ok (.iload_n 1, 1) := by decide +kernel
theorem dX8_tosses_53 : decode cX8_tosses 53 = .ok (.iload_n 2, 1) := by decide +kernel
theorem dX8_tosses_54 : decode cX8_tosses 54 = .ok (.invokevirtual 120, 3) := by decide +kernel
theorem dX8_tosses_57 : decode cX8_tosses 57 = .ok (.ireturn, 1) := by decide +kernel
theorem dX8_tosses_58 : decode cX8_tosses 58 = .ok (.iload_n 2, 1) := by decide +kernel
theorem dX8_tosses_59 : decode cX8_tosses 59 = .ok (.iconst 2, 1) := by decide +kernel
theorem dX8_tosses_60 : decode cX8_tosses 60 = .ok (.irem, 1) := by decide +kernel
theorem dX8_tosses_61 : decode cX8_tosses 61 = .ok (.istore 4, 2) := by decide +kernel
theorem dX8_tosses_63 : decode cX8_tosses 63 = .ok (.aload_n 0, 1) := by decide +kernel
theorem dX8_tosses_64 : decode cX8_tosses 64 = .ok (.getfield 10, 3) := by decide +kernel
theorem dX8_tosses_67 : decode cX8_tosses 67 = .ok (.getfield 123, 3) := by decide +kernel
theorem dX8_tosses_70 : decode cX8_tosses 70 = .ok (.iload_n 1, 1) := by decide +kernel
theorem dX8_tosses_71 : decode cX8_tosses 71 = .ok (.iaload, 1) := by decide +kernel
theorem dX8_tosses_72 : decode cX8_tosses 72 = .ok (.iconst 1, 1) := by decide +kernel
theorem dX8_tosses_73 : decode cX8_tosses 73 = .ok (.if_icmp .ne 10, 3) := by decide +kernel
theorem dX8_tosses_76 : decode cX8_tosses 76 = .ok (.iconst 1, 1) := by decide +kernel
theorem dX8_tosses_77 : decode cX8_tosses 77 = .ok (.iload 4, 2) := by decide +kernel
theorem dX8_tosses_79 : decode cX8_tosses 79 = .ok (.isub, 1) := by decide +kernel
theorem dX8_tosses_80 : decode cX8_tosses 80 = .ok (.goto 5, 3) := by decide +kernel
theorem dX8_tosses_83 : decode cX8_tosses 83 = .ok (.iload 4, 2) := by decide +kernel
theorem dX8_tosses_85 : decode cX8_tosses 85 = .ok (.ireturn, 1) := by decide +kernel
set_option maxRecDepth 20000 in
theorem ggX8_period_X0_hasRoof : GoodIn wsX8_period wsX0_hasRoof := goodIn_r _ [7, 8, 20, 21, 22, 23, 24, 25, 26, 27, 28, 29, 30, 31, 32, 33, 34, 35] (by decide +kernel) (by decide +kernel)
set_option maxRecDepth 20000 in
theorem gX8_period_X0_hasRoof : GoodIn wsX8_period (wsV RX8 106 RX0 yX0_hasRoof wsX0_hasRoof) := goodIn_app (goodIn_of _ (by decide +kernel)) ggX8_period_X0_hasRoof
theorem dX8_period_0 : decode cX8_period 0 = .ok (.aload_n 0, 1) := by decide +kernel
theorem dX8_period_1 : decode cX8_period 1 = .ok (.getfield 10, 3) := by decide +kernel
theorem dX8_period_4 : decode cX8_period 4 = .ok (.iload_n 1, 1) := by decide +kernel
theorem dX8_period_5 : decode cX8_period 5 = .ok (.invokevirtual 106, 3) := by decide +kernel
theorem dX8_period_8 : decode cX8_period 8 = .ok (.ifCond .eq 15, 3) := by decide +kernel
theorem dX8_period_11 : decode cX8_period 11 = .ok (.aload_n 0, 1) := by decide +kernel
theorem dX8_period_12 : decode cX8_period 12 = .ok (.getfield 10, 3) := by decide +kernel
theorem dX8_period_15 : decode cX8_period 15 = .ok (.getfield 127, 3) := by decide +kernel
theorem dX8_period_18 : decode cX8_period 18 = .ok (.iload_n 1, 1) := by decide +kernel
theorem dX8_period_19 : decode cX8_period 19 = .ok (.iaload, 1) := by decide +kernel
theorem dX8_period_20 : decode cX8_period 20 = .ok (.goto 5, 3) := by decide +kernel
theorem dX8_period_23 : decode cX8_period 23 = .ok (.bipush (-2), 2) := by decide +kernel
theorem dX8_period_25 : decode cX8_period 25 = .ok (.ireturn, 1) := by decide +kernel
set_option maxRecDepth 20000 in
theorem ggX8_turn_X0_isTold : GoodIn wsX8_turn wsX0_isTold := goodIn_r _ [7, 8, 76, 77, 78, 79, 80, 81, 82, 83, 84, 85, 86, 87, 88, 89, 90, 91] (by decide +kernel) (by decide +kernel)
set_option maxRecDepth 20000 in
theorem gX8_turn_X0_isTold : GoodIn wsX8_turn (wsV RX8 130 RX0 yX0_isTold wsX0_isTold) := goodIn_app (goodIn_of _ (by decide +kernel)) ggX8_turn_X0_isTold
set_option maxRecDepth 20000 in
theorem ggX8_turn_X1_roundOf : GoodIn wsX8_turn wsX1_roundOf := goodIn_r _ [13, 14, 15, 16, 17, 12, 18, 19, 20, 21, 22, 23, 24, 25, 26, 27, 28, 29, 30, 31, 32, 33, 34, 35, 36, 37, 38, 39, 40, 41, 42, 43, 44, 45, 6, 46, 47, 48, 49, 50, 51, 8, 52, 53, 54, 55, 56, 57, 58, 59, 60, 61, 62, 63, 64, 76, 77, 78, 79, 80, 81, 82, 83, 84, 85, 86, 87, 88, 89, 90, 91, 92, 93, 94, 95, 96, 97, 98, 99] (by decide +kernel) (by decide +kernel)
set_option maxRecDepth 20000 in
theorem gX8_turn_X1_roundOf : GoodIn wsX8_turn (wsV RX8 133 RX1 yX1_roundOf wsX1_roundOf) := goodIn_app (goodIn_of _ (by decide +kernel)) ggX8_turn_X1_roundOf
theorem dX8_turn_0 : decode cX8_turn 0 = .ok (.aload_n 0, 1) := by decide +kernel
theorem dX8_turn_1 : decode cX8_turn 1 = .ok (.getfield 10, 3) := by decide +kernel
theorem dX8_turn_4 : decode cX8_turn 4 = .ok (.invokevirtual 130, 3) := by decide +kernel
theorem dX8_turn_7 : decode cX8_turn 7 = .ok (.ifCond .eq 17, 3) := by decide +kernel
theorem dX8_turn_10 : decode cX8_turn 10 = .ok (.aload_n 0, 1) := by decide +kernel
theorem dX8_turn_11 : decode cX8_turn 11 = .ok (.getfield 39, 3) := by decide +kernel
theorem dX8_turn_14 : decode cX8_turn 14 = .ok (.aload_n 0, 1) := by decide +kernel
theorem dX8_turn_15 : decode cX8_turn 15 = .ok (.getfield 10, 3) := by decide +kernel
theorem dX8_turn_18 : decode cX8_turn 18 = .ok (.invokevirtual 133, 3) := by decide +kernel
theorem dX8_turn_21 : decode cX8_turn 21 = .ok (.goto 5, 3) := by decide +kernel
theorem dX8_turn_24 : decode cX8_turn 24 = .ok (.bipush (-2), 2) := by decide +kernel
theorem dX8_turn_26 : decode cX8_turn 26 = .ok (.ireturn, 1) := by decide +kernel
set_option maxRecDepth 20000 in
theorem ggX8_set_X0_hasThrow : GoodIn wsX8_set wsX0_hasThrow := goodIn_r _ [6, 7, 8, 9, 10, 5, 11, 12, 53, 54, 55, 56, 57, 58, 59, 60, 61, 62, 63, 64, 65, 66, 67, 68] (by decide +kernel) (by decide +kernel)
set_option maxRecDepth 20000 in
theorem gX8_set_X0_hasThrow : GoodIn wsX8_set (wsV RX8 137 RX0 yX0_hasThrow wsX0_hasThrow) := goodIn_app (goodIn_of _ (by decide +kernel)) ggX8_set_X0_hasThrow
set_option maxRecDepth 20000 in
theorem ggX8_set_X0_hasRoof : GoodIn wsX8_set wsX0_hasRoof := goodIn_r _ [11, 12, 53, 54, 55, 56, 57, 58, 59, 60, 61, 62, 63, 64, 65, 66, 67, 68] (by decide +kernel) (by decide +kernel)
set_option maxRecDepth 20000 in
theorem gX8_set_X0_hasRoof : GoodIn wsX8_set (wsV RX8 106 RX0 yX0_hasRoof wsX0_hasRoof) := goodIn_app (goodIn_of _ (by decide +kernel)) ggX8_set_X0_hasRoof
set_option maxRecDepth 20000 in
theorem ggX8_set_X8_isWithin : GoodIn wsX8_set wsX8_isWithin := goodIn_r _ [17] (by decide +kernel) (by decide +kernel)
set_option maxRecDepth 20000 in
theorem gX8_set_X8_isWithin : GoodIn wsX8_set (va_wsS RX8 112 yX8_isWithin wsX8_isWithin) := goodIn_app (goodIn_of _ (by decide +kernel)) ggX8_set_X8_isWithin
set_option maxRecDepth 20000 in
theorem ggX8_set_X0_heightAt : GoodIn wsX8_set wsX0_heightAt := goodIn_r _ [21, 22, 23, 24, 25, 5, 26, 12, 7, 27, 28, 29, 30, 53, 54, 55, 56, 57, 58, 59, 60, 61, 62, 63, 64, 65, 66, 67, 68] (by decide +kernel) (by decide +kernel)
set_option maxRecDepth 20000 in
theorem gX8_set_X0_heightAt : GoodIn wsX8_set (wsV RX8 116 RX0 yX0_heightAt wsX0_heightAt) := goodIn_app (goodIn_of _ (by decide +kernel)) ggX8_set_X0_heightAt
set_option maxRecDepth 20000 in
theorem ggX8_set_X0_goalAt : GoodIn wsX8_set wsX0_goalAt := goodIn_r _ [34, 35, 23, 24, 25, 5, 26, 12, 7, 27, 28, 29, 30, 53, 54, 55, 56, 57, 58, 59, 60, 61, 62, 63, 64, 65, 66, 67, 68] (by decide +kernel) (by decide +kernel)
set_option maxRecDepth 20000 in
theorem gX8_set_X0_goalAt : GoodIn wsX8_set (wsV RX8 120 RX0 yX0_goalAt wsX0_goalAt) := goodIn_app (goodIn_of _ (by decide +kernel)) ggX8_set_X0_goalAt
set_option maxRecDepth 20000 in
theorem ggX8_set_X0_put : GoodIn wsX8_set wsX0_put := goodIn_r _ [39, 22, 35, 40, 41, 3, 4, 5, 6, 7, 8, 9, 10, 11, 12, 15, 16, 17, 53, 54, 55, 56, 57, 58, 59, 60, 61, 62, 63, 64, 65, 66, 67, 68] (by decide +kernel) (by decide +kernel)
set_option maxRecDepth 20000 in
theorem gX8_set_X0_put : GoodIn wsX8_set (wsV RX8 140 RX0 yX0_put wsX0_put) := goodIn_app (goodIn_of _ (by decide +kernel)) ggX8_set_X0_put
theorem dX8_set_0 : decode cX8_set 0 = .ok (.aload_n 0, 1) := by decide +kernel
theorem dX8_set_1 : decode cX8_set 1 = .ok (.getfield 10, 3) := by decide +kernel
theorem dX8_set_4 : decode cX8_set 4 = .ok (.iload_n 1, 1) := by decide +kernel
theorem dX8_set_5 : decode cX8_set 5 = .ok (.iload_n 2, 1) := by decide +kernel
theorem dX8_set_6 : decode cX8_set 6 = .ok (.invokevirtual 137, 3) := by decide +kernel
theorem dX8_set_9 : decode cX8_set 9 = .ok (.ifCond .eq 24, 3) := by decide +kernel
theorem dX8_set_12 : decode cX8_set 12 = .ok (.aload_n 0, 1) := by decide +kernel
theorem dX8_set_13 : decode cX8_set 13 = .ok (.getfield 10, 3) := by decide +kernel
theorem dX8_set_16 : decode cX8_set 16 = .ok (.iload 4, 2) := by decide +kernel
theorem dX8_set_18 : decode cX8_set 18 = .ok (.invokevirtual 106, 3) := by decide +kernel
theorem dX8_set_21 : decode cX8_set 21 = .ok (.ifCond .eq 12, 3) := by decide +kernel
theorem dX8_set_24 : decode cX8_set 24 = .ok (.iload_n 3, 1) := by decide +kernel
theorem dX8_set_25 : decode cX8_set 25 = .ok (.bipush 9, 2) := by decide +kernel
theorem dX8_set_27 : decode cX8_set 27 = .ok (.invokestatic 112, 3) := by decide +kernel
theorem dX8_set_30 : decode cX8_set 30 = .ok (.ifCond .ne 6, 3) := by decide +kernel
theorem dX8_set_33 : decode cX8_set 33 = .ok (.bipush (-2), 2) := by decide +kernel
theorem dX8_set_35 : decode cX8_set 35 = .ok (.ireturn, 1) := by decide +kernel
theorem dX8_set_36 : decode cX8_set 36 = .ok (.iload_n 3, 1) := by decide +kernel
theorem dX8_set_37 : decode cX8_set 37 = .ok (.ifCond .ne 12, 3) := by decide +kernel
theorem dX8_set_40 : decode cX8_set 40 = .ok (.iload 4, 2) := by decide +kernel
theorem dX8_set_42 : decode cX8_set 42 = .ok (.iload_n 1, 1) := by decide +kernel
theorem dX8_set_43 : decode cX8_set 43 = .ok (.if_icmp .eq 6, 3) := by decide +kernel
theorem dX8_set_46 : decode cX8_set 46 = .ok (.bipush (-2), 2) := by decide +kernel
theorem dX8_set_48 : decode cX8_set 48 = .ok (.ireturn, 1) := by decide +kernel
theorem dX8_set_49 : decode cX8_set 49 = .ok (.bipush 10, 2) := by decide +kernel
theorem dX8_set_51 : decode cX8_set 51 = .ok (.aload_n 0, 1) := by decide +kernel
theorem dX8_set_52 : decode cX8_set 52 = .ok (.getfield 10, 3) := by decide +kernel
theorem dX8_set_55 : decode cX8_set 55 = .ok (.iload_n 1, 1) := by decide +kernel
theorem dX8_set_56 : decode cX8_set 56 = .ok (.iload_n 2, 1) := by decide +kernel
theorem dX8_set_57 : decode cX8_set 57 = .ok (.invokevirtual 116, 3) := by decide +kernel
theorem dX8_set_60 : decode cX8_set 60 = .ok (.imul, 1) := by decide +kernel
theorem dX8_set_61 : decode cX8_set 61 = .ok (.aload_n 0, 1) := by decide +kernel
theorem dX8_set_62 : decode cX8_set 62 = .ok (.getfield 10, 3) := by decide +kernel
theorem dX8_set_65 : decode cX8_set 65 = .ok (.iload_n 1, 1) := by decide +kernel
theorem dX8_set_66 : decode cX8_set 66 = .ok (.iload_n 2, 1) := by decide +kernel
theorem dX8_set_67 : decode cX8_set 67 = .ok (.invokevirtual 120, 3) := by decide +kernel
theorem dX8_set_70 : decode cX8_set 70 = .ok (.iadd, 1) := by decide +kernel
theorem dX8_set_71 : decode cX8_set 71 = .ok (.istore 5, 2) := by decide +kernel
theorem dX8_set_73 : decode cX8_set 73 = .ok (.aload_n 0, 1) := by decide +kernel
theorem dX8_set_74 : decode cX8_set 74 = .ok (.getfield 10, 3) := by decide +kernel
theorem dX8_set_77 : decode cX8_set 77 = .ok (.iload_n 1, 1) := by decide +kernel
theorem dX8_set_78 : decode cX8_set 78 = .ok (.iload_n 2, 1) := by decide +kernel
theorem dX8_set_79 : decode cX8_set 79 = .ok (.iload_n 3, 1) := by decide +kernel
theorem dX8_set_80 : decode cX8_set 80 = .ok (.iload 4, 2) := by decide +kernel
theorem dX8_set_82 : decode cX8_set 82 = .ok (.invokevirtual 140, 3) := by decide +kernel
theorem dX8_set_85 : decode cX8_set 85 = .ok (.iload 5, 2) := by decide +kernel
theorem dX8_set_87 : decode cX8_set 87 = .ok (.ireturn, 1) := by decide +kernel
set_option maxRecDepth 20000 in
theorem ggX8_swap_X0_hasThrow : GoodIn wsX8_swap wsX0_hasThrow := goodIn_r _ [6, 7, 8, 9, 10, 5, 11, 12, 58, 59, 60, 61, 62, 63, 64, 65, 66, 67, 68, 69, 70, 71, 72, 73] (by decide +kernel) (by decide +kernel)
set_option maxRecDepth 20000 in
theorem gX8_swap_X0_hasThrow : GoodIn wsX8_swap (wsV RX8 137 RX0 yX0_hasThrow wsX0_hasThrow) := goodIn_app (goodIn_of _ (by decide +kernel)) ggX8_swap_X0_hasThrow
set_option maxRecDepth 20000 in
theorem ggX8_swap_X8_trade : GoodIn wsX8_swap wsX8_trade := goodIn_r _ [17, 1, 18, 19, 20, 5, 21, 22, 23, 24, 25, 26, 12, 7, 27, 28, 29, 30, 31, 32, 33, 34, 35, 36, 37, 16, 38, 39, 40, 41, 42, 43, 44, 3, 4, 6, 8, 9, 10, 11, 45, 46, 47, 48, 49, 50, 51, 52, 53, 54, 55, 56, 57, 58, 59, 60, 61, 62, 63, 64, 65, 66, 67, 68, 69, 70, 71, 72, 73] (by decide +kernel) (by decide +kernel)
set_option maxRecDepth 20000 in
theorem gX8_swap_X8_trade : GoodIn wsX8_swap (wsV RX8 144 RX8 yX8_trade wsX8_trade) := goodIn_app (goodIn_of _ (by decide +kernel)) ggX8_swap_X8_trade
theorem dX8_swap_0 : decode cX8_swap 0 = .ok (.aload_n 0, 1) := by decide +kernel
theorem dX8_swap_1 : decode cX8_swap 1 = .ok (.getfield 10, 3) := by decide +kernel
theorem dX8_swap_4 : decode cX8_swap 4 = .ok (.iload_n 1, 1) := by decide +kernel
theorem dX8_swap_5 : decode cX8_swap 5 = .ok (.iload_n 2, 1) := by decide +kernel
theorem dX8_swap_6 : decode cX8_swap 6 = .ok (.invokevirtual 137, 3) := by decide +kernel
theorem dX8_swap_9 : decode cX8_swap 9 = .ok (.ifCond .eq 20, 3) := by decide +kernel
theorem dX8_swap_12 : decode cX8_swap 12 = .ok (.aload_n 0, 1) := by decide +kernel
theorem dX8_swap_13 : decode cX8_swap 13 = .ok (.getfield 10, 3) := by decide +kernel
theorem dX8_swap_16 : decode cX8_swap 16 = .ok (.iload_n 1, 1) := by decide +kernel
theorem dX8_swap_17 : decode cX8_swap 17 = .ok (.iload_n 3, 1) := by decide +kernel
theorem dX8_swap_18 : decode cX8_swap 18 = .ok (.invokevirtual 137, 3) := by decide +kernel
theorem dX8_swap_21 : decode cX8_swap 21 = .ok (.ifCond .eq 8, 3) := by decide +kernel
theorem dX8_swap_24 : decode cX8_swap 24 = .ok (.iload_n 2, 1) := by decide +kernel
theorem dX8_swap_25 : decode cX8_swap 25 = .ok (.iload_n 3, 1) := by decide +kernel
theorem dX8_swap_26 : decode cX8_swap 26 = .ok (.if_icmp .ne 6, 3) := by decide +kernel
theorem dX8_swap_29 : decode cX8_swap 29 = .ok (.bipush (-2), 2) := by decide +kernel
theorem dX8_swap_31 : decode cX8_swap 31 = .ok (.ireturn, 1) := by decide +kernel
theorem dX8_swap_32 : decode cX8_swap 32 = .ok (.aload_n 0, 1) := by decide +kernel
theorem dX8_swap_33 : decode cX8_swap 33 = .ok (.iload_n 1, 1) := by decide +kernel
theorem dX8_swap_34 : decode cX8_swap 34 = .ok (.iload_n 2, 1) := by decide +kernel
theorem dX8_swap_35 : decode cX8_swap 35 = .ok (.iload_n 1, 1) := by decide +kernel
theorem dX8_swap_36 : decode cX8_swap 36 = .ok (.iload_n 3, 1) := by decide +kernel
theorem dX8_swap_37 : decode cX8_swap 37 = .ok (.invokevirtual 144, 3) := by decide +kernel
theorem dX8_swap_40 : decode cX8_swap 40 = .ok (.ireturn, 1) := by decide +kernel
set_option maxRecDepth 20000 in
theorem ggX8_exchange_X0_hasThrow : GoodIn wsX8_exchange wsX0_hasThrow := goodIn_r _ [7, 8, 9, 10, 11, 6, 12, 13, 59, 60, 61, 62, 63, 64, 65, 66, 67, 68, 69, 70, 71, 72, 73, 74] (by decide +kernel) (by decide +kernel)
set_option maxRecDepth 20000 in
theorem gX8_exchange_X0_hasThrow : GoodIn wsX8_exchange (wsV RX8 137 RX0 yX0_hasThrow wsX0_hasThrow) := goodIn_app (goodIn_of _ (by decide +kernel)) ggX8_exchange_X0_hasThrow
set_option maxRecDepth 20000 in
theorem ggX8_exchange_X8_trade : GoodIn wsX8_exchange wsX8_trade := goodIn_r _ [18, 1, 19, 20, 21, 6, 22, 23, 24, 25, 26, 27, 13, 8, 28, 29, 30, 31, 32, 33, 34, 35, 36, 37, 38, 17, 39, 40, 41, 42, 43, 44, 45, 4, 5, 7, 9, 10, 11, 12, 46, 47, 48, 49, 50, 51, 52, 53, 54, 55, 56, 57, 58, 59, 60, 61, 62, 63, 64, 65, 66, 67, 68, 69, 70, 71, 72, 73, 74] (by decide +kernel) (by decide +kernel)
set_option maxRecDepth 20000 in
theorem gX8_exchange_X8_trade : GoodIn wsX8_exchange (wsV RX8 144 RX8 yX8_trade wsX8_trade) := goodIn_app (goodIn_of _ (by decide +kernel)) ggX8_exchange_X8_trade
theorem dX8_exchange_0 : decode cX8_exchange 0 = .ok (.aload_n 0, 1) := by decide +kernel
theorem dX8_exchange_1 : decode cX8_exchange 1 = .ok (.getfield 10, 3) := by decide +kernel
theorem dX8_exchange_4 : decode cX8_exchange 4 = .ok (.iload_n 1, 1) := by decide +kernel
theorem dX8_exchange_5 : decode cX8_exchange 5 = .ok (.iload_n 2, 1) := by decide +kernel
theorem dX8_exchange_6 : decode cX8_exchange 6 = .ok (.invokevirtual 137, 3) := by decide +kernel
theorem dX8_exchange_9 : decode cX8_exchange 9 = .ok (.ifCond .eq 21, 3) := by decide +kernel
theorem dX8_exchange_12 : decode cX8_exchange 12 = .ok (.aload_n 0, 1) := by decide +kernel
theorem dX8_exchange_13 : decode cX8_exchange 13 = .ok (.getfield 10, 3) := by decide +kernel
theorem dX8_exchange_16 : decode cX8_exchange 16 = .ok (.iload_n 3, 1) := by decide +kernel
theorem dX8_exchange_17 : decode cX8_exchange 17 = .ok (.iload 4, 2) := by decide +kernel
theorem dX8_exchange_19 : decode cX8_exchange 19 = .ok (.invokevirtual 137, 3) := by decide +kernel
theorem dX8_exchange_22 : decode cX8_exchange 22 = .ok (.ifCond .eq 8, 3) := by decide +kernel
theorem dX8_exchange_25 : decode cX8_exchange 25 = .ok (.iload_n 1, 1) := by decide +kernel
theorem dX8_exchange_26 : decode cX8_exchange 26 = .ok (.iload_n 3, 1) := by decide +kernel
theorem dX8_exchange_27 : decode cX8_exchange 27 = .ok (.if_icmp .ne 6, 3) := by decide +kernel
theorem dX8_exchange_30 : decode cX8_exchange 30 = .ok (.bipush (-2), 2) := by decide +kernel
theorem dX8_exchange_32 : decode cX8_exchange 32 = .ok (.ireturn, 1) := by decide +kernel
theorem dX8_exchange_33 : decode cX8_exchange 33 = .ok (.aload_n 0, 1) := by decide +kernel
theorem dX8_exchange_34 : decode cX8_exchange 34 = .ok (.getfield 10, 3) := by decide +kernel
theorem dX8_exchange_37 : decode cX8_exchange 37 = .ok (.getfield 127, 3) := by decide +kernel
theorem dX8_exchange_40 : decode cX8_exchange 40 = .ok (.iload_n 1, 1) := by decide +kernel
theorem dX8_exchange_41 : decode cX8_exchange 41 = .ok (.iaload, 1) := by decide +kernel
theorem dX8_exchange_42 : decode cX8_exchange 42 = .ok (.aload_n 0, 1) := by decide +kernel
theorem dX8_exchange_43 : decode cX8_exchange 43 = .ok (.getfield 10, 3) := by decide +kernel
theorem dX8_exchange_46 : decode cX8_exchange 46 = .ok (.getfield 127, 3) := by decide +kernel
theorem dX8_exchange_49 : decode cX8_exchange 49 = .ok (.iload_n 3, 1) := by decide +kernel
theorem dX8_exchange_50 : decode cX8_exchange 50 = .ok (.iaload, 1) := by decide +kernel
theorem dX8_exchange_51 : decode cX8_exchange 51 = .ok (.if_icmp .eq 6, 3) := by decide +kernel
theorem dX8_exchange_54 : decode cX8_exchange 54 = .ok (.bipush (-5), 2) := by decide +kernel
theorem dX8_exchange_56 : decode cX8_exchange 56 = .ok (.ireturn, 1) := by decide +kernel
theorem dX8_exchange_57 : decode cX8_exchange 57 = .ok (.aload_n 0, 1) := by decide +kernel
theorem dX8_exchange_58 : decode cX8_exchange 58 = .ok (.iload_n 1, 1) := by decide +kernel
theorem dX8_exchange_59 : decode cX8_exchange 59 = .ok (.iload_n 2, 1) := by decide +kernel
theorem dX8_exchange_60 : decode cX8_exchange 60 = .ok (.iload_n 3, 1) := by decide +kernel
theorem dX8_exchange_61 : decode cX8_exchange 61 = .ok (.iload 4, 2) := by decide +kernel
theorem dX8_exchange_63 : decode cX8_exchange 63 = .ok (.invokevirtual 144, 3) := by decide +kernel
theorem dX8_exchange_66 : decode cX8_exchange 66 = .ok (.ireturn, 1) := by decide +kernel
set_option maxRecDepth 20000 in
theorem ggX8_trade_X0_heightAt : GoodIn wsX8_trade wsX0_heightAt := goodIn_r _ [6, 7, 8, 9, 10, 5, 11, 12, 13, 14, 15, 16, 17, 53, 54, 55, 56, 57, 58, 59, 60, 61, 62, 63, 64, 65, 66, 67, 68] (by decide +kernel) (by decide +kernel)
set_option maxRecDepth 20000 in
theorem gX8_trade_X0_heightAt : GoodIn wsX8_trade (wsV RX8 116 RX0 yX0_heightAt wsX0_heightAt) := goodIn_app (goodIn_of _ (by decide +kernel)) ggX8_trade_X0_heightAt
set_option maxRecDepth 20000 in
theorem ggX8_trade_X0_goalAt : GoodIn wsX8_trade wsX0_goalAt := goodIn_r _ [21, 22, 8, 9, 10, 5, 11, 12, 13, 14, 15, 16, 17, 53, 54, 55, 56, 57, 58, 59, 60, 61, 62, 63, 64, 65, 66, 67, 68] (by decide +kernel) (by decide +kernel)
set_option maxRecDepth 20000 in
theorem gX8_trade_X0_goalAt : GoodIn wsX8_trade (wsV RX8 120 RX0 yX0_goalAt wsX0_goalAt) := goodIn_app (goodIn_of _ (by decide +kernel)) ggX8_trade_X0_goalAt
set_option maxRecDepth 20000 in
theorem ggX8_trade_X8_isThrown : GoodIn wsX8_trade wsX8_isThrown := goodIn_r _ [26] (by decide +kernel) (by decide +kernel)
set_option maxRecDepth 20000 in
theorem gX8_trade_X8_isThrown : GoodIn wsX8_trade (va_wsS RX8 148 yX8_isThrown wsX8_isThrown) := goodIn_app (goodIn_of _ (by decide +kernel)) ggX8_trade_X8_isThrown
set_option maxRecDepth 20000 in
theorem ggX8_trade_X0_put : GoodIn wsX8_trade wsX0_put := goodIn_r _ [30, 7, 22, 31, 32, 33, 34, 5, 35, 13, 36, 37, 38, 39, 12, 40, 25, 41, 53, 54, 55, 56, 57, 58, 59, 60, 61, 62, 63, 64, 65, 66, 67, 68] (by decide +kernel) (by decide +kernel)
set_option maxRecDepth 20000 in
theorem gX8_trade_X0_put : GoodIn wsX8_trade (wsV RX8 140 RX0 yX0_put wsX0_put) := goodIn_app (goodIn_of _ (by decide +kernel)) ggX8_trade_X0_put
theorem dX8_trade_0 : decode cX8_trade 0 = .ok (.aload_n 0, 1) := by decide +kernel
theorem dX8_trade_1 : decode cX8_trade 1 = .ok (.getfield 10, 3) := by decide +kernel
theorem dX8_trade_4 : decode cX8_trade 4 = .ok (.iload_n 1, 1) := by decide +kernel
theorem dX8_trade_5 : decode cX8_trade 5 = .ok (.iload_n 2, 1) := by decide +kernel
theorem dX8_trade_6 : decode cX8_trade 6 = .ok (.invokevirtual 116, 3) := by decide +kernel
theorem dX8_trade_9 : decode cX8_trade 9 = .ok (.istore 5, 2) := by decide +kernel
theorem dX8_trade_11 : decode cX8_trade 11 = .ok (.aload_n 0, 1) := by decide +kernel
theorem dX8_trade_12 : decode cX8_trade 12 = .ok (.getfield 10, 3) := by decide +kernel
theorem dX8_trade_15 : decode cX8_trade 15 = .ok (.iload_n 3, 1) := by decide +kernel
theorem dX8_trade_16 : decode cX8_trade 16 = .ok (.iload 4, 2) := by decide +kernel
theorem dX8_trade_18 : decode cX8_trade 18 = .ok (.invokevirtual 116, 3) := by decide +kernel
theorem dX8_trade_21 : decode cX8_trade 21 = .ok (.istore 6, 2) := by decide +kernel
theorem dX8_trade_23 : decode cX8_trade 23 = .ok (.aload_n 0, 1) := by decide +kernel
theorem dX8_trade_24 : decode cX8_trade 24 = .ok (.getfield 10, 3) := by decide +kernel
theorem dX8_trade_27 : decode cX8_trade 27 = .ok (.iload_n 1, 1) := by decide +kernel
theorem dX8_trade_28 : decode cX8_trade 28 = .ok (.iload_n 2, 1) := by decide +kernel
theorem dX8_trade_29 : decode cX8_trade 29 = .ok (.invokevirtual 120, 3) := by decide +kernel
theorem dX8_trade_32 : decode cX8_trade 32 = .ok (.istore 7, 2) := by decide +kernel
theorem dX8_trade_34 : decode cX8_trade 34 = .ok (.aload_n 0, 1) := by decide +kernel
theorem dX8_trade_35 : decode cX8_trade 35 = .ok (.getfield 10, 3) := by decide +kernel
theorem dX8_trade_38 : decode cX8_trade 38 = .ok (.iload_n 3, 1) := by decide +kernel
theorem dX8_trade_39 : decode cX8_trade 39 = .ok (.iload 4, 2) := by decide +kernel
theorem dX8_trade_41 : decode cX8_trade 41 = .ok (.invokevirtual 120, 3) := by decide +kernel
theorem dX8_trade_44 : decode cX8_trade 44 = .ok (.istore 8, 2) := by decide +kernel
theorem dX8_trade_46 : decode cX8_trade 46 = .ok (.iload 6, 2) := by decide +kernel
theorem dX8_trade_48 : decode cX8_trade 48 = .ok (.iload 4, 2) := by decide +kernel
theorem dX8_trade_50 : decode cX8_trade 50 = .ok (.iadd, 1) := by decide +kernel
theorem dX8_trade_51 : decode cX8_trade 51 = .ok (.iload_n 2, 1) := by decide +kernel
theorem dX8_trade_52 : decode cX8_trade 52 = .ok (.isub, 1) := by decide +kernel
theorem dX8_trade_53 : decode cX8_trade 53 = .ok (.istore 9, 2) := by decide +kernel
theorem dX8_trade_55 : decode cX8_trade 55 = .ok (.iload 5, 2) := by decide +kernel
theorem dX8_trade_57 : decode cX8_trade 57 = .ok (.iload_n 2, 1) := by decide +kernel
theorem dX8_trade_58 : decode cX8_trade 58 = .ok (.iadd, 1) := by decide +kernel
theorem dX8_trade_59 : decode cX8_trade 59 = .ok (.iload 4, 2) := by decide +kernel
theorem dX8_trade_61 : decode cX8_trade 61 = .ok (.isub, 1) := by decide +kernel
theorem dX8_trade_62 : decode cX8_trade 62 = .ok (.istore 10, 2) := by decide +kernel
theorem dX8_trade_64 : decode cX8_trade 64 = .ok (.iload 5, 2) := by decide +kernel
theorem dX8_trade_66 : decode cX8_trade 66 = .ok (.ifCond .eq 24, 3) := by decide +kernel
theorem dX8_trade_69 : decode cX8_trade 69 = .ok (.iload 6, 2) := by decide +kernel
theorem dX8_trade_71 : decode cX8_trade 71 = .ok (.ifCond .eq 19, 3) := by decide +kernel
theorem dX8_trade_74 : decode cX8_trade 74 = .ok (.iload 9, 2) := by decide +kernel
theorem dX8_trade_76 : decode cX8_trade 76 = .ok (.invokestatic 148, 3) := by decide +kernel
theorem dX8_trade_79 : decode cX8_trade 79 = .ok (.ifCond .eq 11, 3) := by decide +kernel
theorem dX8_trade_82 : decode cX8_trade 82 = .ok (.iload 10, 2) := by decide +kernel
theorem dX8_trade_84 : decode cX8_trade 84 = .ok (.invokestatic 148, 3) := by decide +kernel
theorem dX8_trade_87 : decode cX8_trade 87 = .ok (.ifCond .ne 6, 3) := by decide +kernel
theorem dX8_trade_90 : decode cX8_trade 90 = .ok (.bipush (-5), 2) := by decide +kernel
theorem dX8_trade_92 : decode cX8_trade 92 = .ok (.ireturn, 1) := by decide +kernel
theorem dX8_trade_93 : decode cX8_trade 93 = .ok (.aload_n 0, 1) := by decide +kernel
theorem dX8_trade_94 : decode cX8_trade 94 = .ok (.getfield 10, 3) := by decide +kernel
theorem dX8_trade_97 : decode cX8_trade 97 = .ok (.iload_n 1, 1) := by decide +kernel
theorem dX8_trade_98 : decode cX8_trade 98 = .ok (.iload_n 2, 1) := by decide +kernel
theorem dX8_trade_99 : decode cX8_trade 99 = .ok (.iload 9, 2) := by decide +kernel
theorem dX8_trade_101 : decode cX8_trade 101 = .ok (.iload 8, 2) := by decide +kernel
theorem dX8_trade_103 : decode cX8_trade 103 = .ok (.invokevirtual 140, 3) := by decide +kernel
theorem dX8_trade_106 : decode cX8_trade 106 = .ok (.aload_n 0, 1) := by decide +kernel
theorem dX8_trade_107 : decode cX8_trade 107 = .ok (.getfield 10, 3) := by decide +kernel
theorem dX8_trade_110 : decode cX8_trade 110 = .ok (.iload_n 3, 1) := by decide +kernel
theorem dX8_trade_111 : decode cX8_trade 111 = .ok (.iload 4, 2) := by decide +kernel
theorem dX8_trade_113 : decode cX8_trade 113 = .ok (.iload 10, 2) := by decide +kernel
theorem dX8_trade_115 : decode cX8_trade 115 = .ok (.iload 7, 2) := by decide +kernel
theorem dX8_trade_117 : decode cX8_trade 117 = .ok (.invokevirtual 140, 3) := by decide +kernel
theorem dX8_trade_120 : decode cX8_trade 120 = .ok (.iconst 0, 1) := by decide +kernel
theorem dX8_trade_121 : decode cX8_trade 121 = .ok (.ireturn, 1) := by decide +kernel
set_option maxRecDepth 20000 in
theorem ggX8_shift_X0_hasThrow : GoodIn wsX8_shift wsX0_hasThrow := goodIn_r _ [8, 9, 10, 11, 12, 7, 13, 14, 68, 69, 70, 71, 72, 73, 74, 75, 76, 77, 78, 79, 80, 81, 82, 83] (by decide +kernel) (by decide +kernel)
set_option maxRecDepth 20000 in
theorem gX8_shift_X0_hasThrow : GoodIn wsX8_shift (wsV RX8 137 RX0 yX0_hasThrow wsX0_hasThrow) := goodIn_app (goodIn_of _ (by decide +kernel)) ggX8_shift_X0_hasThrow
set_option maxRecDepth 20000 in
theorem ggX8_shift_X0_copyOf : GoodIn wsX8_shift wsX0_copyOf := goodIn_r _ [18, 14, 19, 20, 21, 22, 23, 24, 25, 26, 27, 28, 9, 29, 30, 31, 32, 68, 69, 70, 71, 72, 73, 74, 75, 76, 77, 78, 79, 80, 81, 82, 83] (by decide +kernel) (by decide +kernel)
set_option maxRecDepth 20000 in
theorem gX8_shift_X0_copyOf : GoodIn wsX8_shift (wsV RX8 94 RX0 yX0_copyOf wsX0_copyOf) := goodIn_app (goodIn_of _ (by decide +kernel)) ggX8_shift_X0_copyOf
set_option maxRecDepth 20000 in
theorem ggX8_shift_X0_heightAt : GoodIn wsX8_shift wsX0_heightAt := goodIn_r _ [36, 23, 37, 38, 39, 7, 40, 14, 9, 41, 42, 43, 44, 68, 69, 70, 71, 72, 73, 74, 75, 76, 77, 78, 79, 80, 81, 82, 83] (by decide +kernel) (by decide +kernel)
set_option maxRecDepth 20000 in
theorem gX8_shift_X0_heightAt : GoodIn wsX8_shift (wsV RX8 116 RX0 yX0_heightAt wsX0_heightAt) := goodIn_app (goodIn_of _ (by decide +kernel)) ggX8_shift_X0_heightAt
set_option maxRecDepth 20000 in
theorem ggX8_shift_X0_goalAt : GoodIn wsX8_shift wsX0_goalAt := goodIn_r _ [48, 28, 37, 38, 39, 7, 40, 14, 9, 41, 42, 43, 44, 68, 69, 70, 71, 72, 73, 74, 75, 76, 77, 78, 79, 80, 81, 82, 83] (by decide +kernel) (by decide +kernel)
set_option maxRecDepth 20000 in
theorem gX8_shift_X0_goalAt : GoodIn wsX8_shift (wsV RX8 120 RX0 yX0_goalAt wsX0_goalAt) := goodIn_app (goodIn_of _ (by decide +kernel)) ggX8_shift_X0_goalAt
set_option maxRecDepth 20000 in
theorem ggX8_shift_X0_put : GoodIn wsX8_shift wsX0_put := goodIn_r _ [52, 23, 28, 32, 53, 5, 6, 7, 8, 9, 10, 11, 12, 13, 14, 54, 55, 56, 68, 69, 70, 71, 72, 73, 74, 75, 76, 77, 78, 79, 80, 81, 82, 83] (by decide +kernel) (by decide +kernel)
set_option maxRecDepth 20000 in
theorem gX8_shift_X0_put : GoodIn wsX8_shift (wsV RX8 140 RX0 yX0_put wsX0_put) := goodIn_app (goodIn_of _ (by decide +kernel)) ggX8_shift_X0_put
theorem dX8_shift_0 : decode cX8_shift 0 = .ok (.aload_n 0, 1) := by decide +kernel
theorem dX8_shift_1 : decode cX8_shift 1 = .ok (.getfield 10, 3) := by decide +kernel
theorem dX8_shift_4 : decode cX8_shift 4 = .ok (.iload_n 1, 1) := by decide +kernel
theorem dX8_shift_5 : decode cX8_shift 5 = .ok (.iload_n 2, 1) := by decide +kernel
theorem dX8_shift_6 : decode cX8_shift 6 = .ok (.invokevirtual 137, 3) := by decide +kernel
theorem dX8_shift_9 : decode cX8_shift 9 = .ok (.ifCond .ne 6, 3) := by decide +kernel
theorem dX8_shift_12 : decode cX8_shift 12 = .ok (.bipush (-2), 2) := by decide +kernel
theorem dX8_shift_14 : decode cX8_shift 14 = .ok (.ireturn, 1) := by decide +kernel
theorem dX8_shift_15 : decode cX8_shift 15 = .ok (.aload_n 0, 1) := by decide +kernel
theorem dX8_shift_16 : decode cX8_shift 16 = .ok (.getfield 16, 3) := by decide +kernel
theorem dX8_shift_19 : decode cX8_shift 19 = .ok (.aload_n 0, 1) := by decide +kernel
theorem dX8_shift_20 : decode cX8_shift 20 = .ok (.getfield 10, 3) := by decide +kernel
theorem dX8_shift_23 : decode cX8_shift 23 = .ok (.invokevirtual 94, 3) := by decide +kernel
theorem dX8_shift_26 : decode cX8_shift 26 = .ok (.aload_n 0, 1) := by decide +kernel
theorem dX8_shift_27 : decode cX8_shift 27 = .ok (.getfield 10, 3) := by decide +kernel
theorem dX8_shift_30 : decode cX8_shift 30 = .ok (.getfield 127, 3) := by decide +kernel
theorem dX8_shift_33 : decode cX8_shift 33 = .ok (.iload_n 1, 1) := by decide +kernel
theorem dX8_shift_34 : decode cX8_shift 34 = .ok (.iaload, 1) := by decide +kernel
theorem dX8_shift_35 : decode cX8_shift 35 = .ok (.istore_n 3, 1) := by decide +kernel
theorem dX8_shift_36 : decode cX8_shift 36 = .ok (.iconst 0, 1) := by decide +kernel
theorem dX8_shift_37 : decode cX8_shift 37 = .ok (.istore 4, 2) := by decide +kernel
theorem dX8_shift_39 : decode cX8_shift 39 = .ok (.iload 4, 2) := by decide +kernel
theorem dX8_shift_41 : decode cX8_shift 41 = .ok (.iload_n 3, 1) := by decide +kernel
theorem dX8_shift_42 : decode cX8_shift 42 = .ok (.if_icmp .ge 43, 3) := by decide +kernel
theorem dX8_shift_45 : decode cX8_shift 45 = .ok (.aload_n 0, 1) := by decide +kernel
theorem dX8_shift_46 : decode cX8_shift 46 = .ok (.getfield 10, 3) := by decide +kernel
theorem dX8_shift_49 : decode cX8_shift 49 = .ok (.iload_n 1, 1) := by decide +kernel
theorem dX8_shift_50 : decode cX8_shift 50 = .ok (.iload 4, 2) := by decide +kernel
theorem dX8_shift_52 : decode cX8_shift 52 = .ok (.aload_n 0, 1) := by decide +kernel
theorem dX8_shift_53 : decode cX8_shift 53 = .ok (.getfield 16, 3) := by decide +kernel
theorem dX8_shift_56 : decode cX8_shift 56 = .ok (.iload_n 1, 1) := by decide +kernel
theorem dX8_shift_57 : decode cX8_shift 57 = .ok (.iload 4, 2) := by decide +kernel
theorem dX8_shift_59 : decode cX8_shift 59 = .ok (.iload_n 2, 1) := by decide +kernel
theorem dX8_shift_60 : decode cX8_shift 60 = .ok (.iadd, 1) := by decide +kernel
theorem dX8_shift_61 : decode cX8_shift 61 = .ok (.invokevirtual 116, 3) := by decide +kernel
theorem dX8_shift_64 : decode cX8_shift 64 = .ok (.aload_n 0, 1) := by decide +kernel
theorem dX8_shift_65 : decode cX8_shift 65 = .ok (.getfield 16, 3) := by decide +kernel
theorem dX8_shift_68 : decode cX8_shift 68 = .ok (.iload_n 1, 1) := by decide +kernel
theorem dX8_shift_69 : decode cX8_shift 69 = .ok (.iload 4, 2) := by decide +kernel
theorem dX8_shift_71 : decode cX8_shift 71 = .ok (.iload_n 2, 1) := by decide +kernel
theorem dX8_shift_72 : decode cX8_shift 72 = .ok (.iadd, 1) := by decide +kernel
theorem dX8_shift_73 : decode cX8_shift 73 = .ok (.invokevirtual 120, 3) := by decide +kernel
theorem dX8_shift_76 : decode cX8_shift 76 = .ok (.invokevirtual 140, 3) := by decide +kernel
theorem dX8_shift_79 : decode cX8_shift 79 = .ok (.iinc 4 1, 3) := by decide +kernel
theorem dX8_shift_82 : decode cX8_shift 82 = .ok (.goto (-43), 3) := by decide +kernel
theorem dX8_shift_85 : decode cX8_shift 85 = .ok (.iload_n 3, 1) := by decide +kernel
theorem dX8_shift_86 : decode cX8_shift 86 = .ok (.ireturn, 1) := by decide +kernel
set_option maxRecDepth 20000 in
theorem ggX8_backwards_X0_isTold : GoodIn wsX8_backwards wsX0_isTold := goodIn_r _ [9, 10, 121, 122, 123, 124, 125, 126, 127, 128, 129, 130, 131, 132, 133, 134, 135, 136] (by decide +kernel) (by decide +kernel)
set_option maxRecDepth 20000 in
theorem gX8_backwards_X0_isTold : GoodIn wsX8_backwards (wsV RX8 130 RX0 yX0_isTold wsX0_isTold) := goodIn_app (goodIn_of _ (by decide +kernel)) ggX8_backwards_X0_isTold
set_option maxRecDepth 20000 in
theorem ggX8_backwards_X1_isKeptUp : GoodIn wsX8_backwards wsX1_isKeptUp := goodIn_r _ [15, 16, 17, 18, 19, 14, 20, 21, 22, 23, 24, 25, 26, 27, 28, 29, 30, 31, 32, 33, 34, 35, 36, 37, 38, 39, 40, 41, 42, 43, 44, 45, 46, 47, 8, 48, 49, 50, 51, 52, 53, 10, 54, 55, 56, 57, 58, 59, 60, 61, 62, 63, 64, 65, 66, 121, 122, 123, 124, 125, 126, 127, 128, 129, 130, 131, 132, 133, 134, 135, 136, 137, 138, 139, 140, 141, 142, 143, 144] (by decide +kernel) (by decide +kernel)
set_option maxRecDepth 20000 in
theorem gX8_backwards_X1_isKeptUp : GoodIn wsX8_backwards (wsV RX8 151 RX1 yX1_isKeptUp wsX1_isKeptUp) := goodIn_app (goodIn_of _ (by decide +kernel)) ggX8_backwards_X1_isKeptUp
set_option maxRecDepth 20000 in
theorem ggX8_backwards_X1_roundOf : GoodIn wsX8_backwards wsX1_roundOf := goodIn_r _ [70, 22, 17, 18, 19, 14, 20, 21, 16, 23, 24, 25, 26, 27, 28, 29, 30, 31, 32, 33, 34, 35, 36, 37, 38, 39, 40, 41, 42, 43, 44, 45, 46, 47, 8, 48, 49, 50, 51, 52, 53, 10, 54, 55, 56, 57, 58, 59, 60, 61, 62, 63, 64, 65, 66, 121, 122, 123, 124, 125, 126, 127, 128, 129, 130, 131, 132, 133, 134, 135, 136, 137, 138, 139, 140, 141, 142, 143, 144] (by decide +kernel) (by decide +kernel)
set_option maxRecDepth 20000 in
theorem gX8_backwards_X1_roundOf : GoodIn wsX8_backwards (wsV RX8 133 RX1 yX1_roundOf wsX1_roundOf) := goodIn_app (goodIn_of _ (by decide +kernel)) ggX8_backwards_X1_roundOf
set_option maxRecDepth 20000 in
theorem ggX8_backwards_X0_copyOf : GoodIn wsX8_backwards wsX0_copyOf := goodIn_r _ [74, 10, 75, 76, 77, 78, 49, 79, 80, 81, 82, 60, 54, 83, 84, 85, 86, 121, 122, 123, 124, 125, 126, 127, 128, 129, 130, 131, 132, 133, 134, 135, 136] (by decide +kernel) (by decide +kernel)
set_option maxRecDepth 20000 in
theorem gX8_backwards_X0_copyOf : GoodIn wsX8_backwards (wsV RX8 94 RX0 yX0_copyOf wsX0_copyOf) := goodIn_app (goodIn_of _ (by decide +kernel)) ggX8_backwards_X0_copyOf
set_option maxRecDepth 20000 in
theorem ggX8_backwards_X0_resize : GoodIn wsX8_backwards wsX0_resize := goodIn_r _ [90, 54, 86, 91, 92, 93, 8, 94, 10, 121, 122, 123, 124, 125, 126, 127, 128, 129, 130, 131, 132, 133, 134, 135, 136] (by decide +kernel) (by decide +kernel)
set_option maxRecDepth 20000 in
theorem gX8_backwards_X0_resize : GoodIn wsX8_backwards (wsV RX8 158 RX0 yX0_resize wsX0_resize) := goodIn_app (goodIn_of _ (by decide +kernel)) ggX8_backwards_X0_resize
set_option maxRecDepth 20000 in
theorem ggX8_backwards_X1_sourceOf : GoodIn wsX8_backwards wsX1_sourceOf := goodIn_r _ [98, 27, 45, 46, 47, 8, 48, 49, 50, 51, 52, 53, 10, 54, 55, 42, 43, 44, 56, 57, 58, 59, 60, 121, 122, 123, 124, 125, 126, 127, 128, 129, 130, 131, 132, 133, 134, 135, 136] (by decide +kernel) (by decide +kernel)
set_option maxRecDepth 20000 in
theorem gX8_backwards_X1_sourceOf : GoodIn wsX8_backwards (wsV RX8 162 RX1 yX1_sourceOf wsX1_sourceOf) := goodIn_app (goodIn_of _ (by decide +kernel)) ggX8_backwards_X1_sourceOf
set_option maxRecDepth 20000 in
theorem ggX8_backwards_X0_put : GoodIn wsX8_backwards wsX0_put := goodIn_r _ [102, 49, 60, 86, 103, 104, 105, 8, 106, 54, 91, 92, 93, 94, 10, 107, 108, 109, 121, 122, 123, 124, 125, 126, 127, 128, 129, 130, 131, 132, 133, 134, 135, 136] (by decide +kernel) (by decide +kernel)
set_option maxRecDepth 20000 in
theorem gX8_backwards_X0_put : GoodIn wsX8_backwards (wsV RX8 140 RX0 yX0_put wsX0_put) := goodIn_app (goodIn_of _ (by decide +kernel)) ggX8_backwards_X0_put
theorem dX8_backwards_0 : decode cX8_backwards 0 = .ok (.aload_n 0, 1) := by decide +kernel
theorem dX8_backwards_1 : decode cX8_backwards 1 = .ok (.getfield 10, 3) := by decide +kernel
theorem dX8_backwards_4 : decode cX8_backwards 4 = .ok (.invokevirtual 130, 3) := by decide +kernel
theorem dX8_backwards_7 : decode cX8_backwards 7 = .ok (.ifCond .ne 6, 3) := by decide +kernel
theorem dX8_backwards_10 : decode cX8_backwards 10 = .ok (.bipush (-2), 2) := by decide +kernel
theorem dX8_backwards_12 : decode cX8_backwards 12 = .ok (.ireturn, 1) := by decide +kernel
theorem dX8_backwards_13 : decode cX8_backwards 13 = .ok (.aload_n 0, 1) := by decide +kernel
theorem dX8_backwards_14 : decode cX8_backwards 14 = .ok (.getfield 39, 3) := by decide +kernel
theorem dX8_backwards_17 : decode cX8_backwards 17 = .ok (.aload_n 0, 1) := by decide +kernel
theorem dX8_backwards_18 : decode cX8_backwards 18 = .ok (.getfield 10, 3) := by decide +kernel
theorem dX8_backwards_21 : decode cX8_backwards 21 = .ok (.invokevirtual 151, 3) := by decide +kernel
theorem dX8_backwards_24 : decode cX8_backwards 24 = .ok (.ifCond .ne 5, 3) := by decide +kernel
theorem dX8_backwards_27 : decode cX8_backwards 27 = .ok (.iconst (-1), 1) := by decide +kernel
theorem dX8_backwards_28 : decode cX8_backwards 28 = .ok (.ireturn, 1) := by decide +kernel
theorem dX8_backwards_29 : decode cX8_backwards 29 = .ok (.aload_n 0, 1) := by decide +kernel
theorem dX8_backwards_30 : decode cX8_backwards 30 = .ok (.getfield 39, 3) := by decide +kernel
theorem dX8_backwards_33 : decode cX8_backwards 33 = .ok (.aload_n 0, 1) := by decide +kernel
theorem dX8_backwards_34 : decode cX8_backwards 34 = .ok (.getfield 10, 3) := by decide +kernel
theorem dX8_backwards_37 : decode cX8_backwards 37 = .ok (.invokevirtual 133, 3) := by decide +kernel
theorem dX8_backwards_40 : decode cX8_backwards 40 = .ok (.istore_n 1, 1) := by decide +kernel
theorem dX8_backwards_41 : decode cX8_backwards 41 = .ok (.iload_n 1, 1) := by decide +kernel
theorem dX8_backwards_42 : decode cX8_backwards 42 = .ok (.bipush 8, 2) := by decide +kernel
theorem dX8_backwards_44 : decode cX8_backwards 44 = .ok (.if_icmp .le 6, 3) := by decide +kernel
theorem dX8_backwards_47 : decode cX8_backwards 47 = .ok (.bipush (-5), 2) := by decide +kernel
theorem dX8_backwards_49 : decode cX8_backwards 49 = .ok (.ireturn, 1) := by decide +kernel
theorem dX8_backwards_50 : decode cX8_backwards 50 = .ok (.aload_n 0, 1) := by decide +kernel
theorem dX8_backwards_51 : decode cX8_backwards 51 = .ok (.getfield 16, 3) := by decide +kernel
theorem dX8_backwards_54 : decode cX8_backwards 54 = .ok (.aload_n 0, 1) := by decide +kernel
theorem dX8_backwards_55 : decode cX8_backwards 55 = .ok (.getfield 10, 3) := by decide +kernel
theorem dX8_backwards_58 : decode cX8_backwards 58 = .ok (.invokevirtual 94, 3) := by decide +kernel
theorem dX8_backwards_61 : decode cX8_backwards 61 = .ok (.iconst 0, 1) := by decide +kernel
theorem dX8_backwards_62 : decode cX8_backwards 62 = .ok (.istore_n 2, 1) := by decide +kernel
theorem dX8_backwards_63 : decode cX8_backwards 63 = .ok (.iload_n 2, 1) := by decide +kernel
theorem dX8_backwards_64 : decode cX8_backwards 64 = .ok (.aload_n 0, 1) := by decide +kernel
theorem dX8_backwards_65 : decode cX8_backwards 65 = .ok (.getfield 10, 3) := by decide +kernel
theorem dX8_backwards_68 : decode cX8_backwards 68 = .ok (.getfield 155, 3) := by decide +kernel
theorem dX8_backwards_71 : decode cX8_backwards 71 = .ok (.if_icmp .ge 85, 3) := by decide +kernel
theorem dX8_backwards_74 : decode cX8_backwards 74 = .ok (.aload_n 0, 1) := by decide +kernel
theorem dX8_backwards_75 : decode cX8_backwards 75 = .ok (.getfield 16, 3) := by decide +kernel
theorem dX8_backwards_78 : decode cX8_backwards 78 = .ok (.iload_n 2, 1) := by decide +kernel
theorem dX8_backwards_79 : decode cX8_backwards 79 = .ok (.iload_n 1, 1) := by decide +kernel
theorem dX8_backwards_80 : decode cX8_backwards 80 = .ok (.invokevirtual 158, 3) := by decide +kernel
theorem dX8_backwards_83 : decode cX8_backwards 83 = .ok (.iconst 0, 1) := by decide +kernel
theorem dX8_backwards_84 : decode cX8_backwards 84 = .ok (.istore_n 3, 1) := by decide +kernel
theorem dX8_backwards_85 : decode cX8_backwards 85 = .ok (.iload_n 3, 1) := by decide +kernel
theorem dX8_backwards_86 : decode cX8_backwards 86 = .ok (.iload_n 1, 1) := by decide +kernel
theorem dX8_backwards_87 : decode cX8_backwards 87 = .ok (.if_icmp .ge 63, 3) := by decide +kernel
theorem dX8_backwards_90 : decode cX8_backwards 90 = .ok (.aload_n 0, 1) := by decide +kernel
theorem dX8_backwards_91 : decode cX8_backwards 91 = .ok (.getfield 39, 3) := by decide +kernel
theorem dX8_backwards_94 : decode cX8_backwards 94 = .ok (.aload_n 0, 1) := by decide +kernel
theorem dX8_backwards_95 : decode cX8_backwards 95 = .ok (.getfield 10, 3) := by decide +kernel
theorem dX8_backwards_98 : decode cX8_backwards 98 = .ok (.iload_n 2, 1) := by decide +kernel
theorem dX8_backwards_99 : decode cX8_backwards 99 = .ok (.iload_n 1, 1) := by decide +kernel
theorem dX8_backwards_100 : decode cX8_backwards 100 = .ok (.iload_n 3, 1) := by decide +kernel
theorem dX8_backwards_101 : decode cX8_backwards 101 = .ok (.isub, 1) := by decide +kernel
theorem dX8_backwards_102 : decode cX8_backwards 102 = .ok (.invokevirtual 162, 3) := by decide +kernel
theorem dX8_backwards_105 : decode cX8_backwards 105 = .ok (.istore 4, 2) := by decide +kernel
theorem dX8_backwards_107 : decode cX8_backwards 107 = .ok (.aload_n 0, 1) := by decide +kernel
theorem dX8_backwards_108 : decode cX8_backwards 108 = .ok (.getfield 16, 3) := by decide +kernel
theorem dX8_backwards_111 : decode cX8_backwards 111 = .ok (.iload_n 2, 1) := by decide +kernel
theorem dX8_backwards_112 : decode cX8_backwards 112 = .ok (.iload_n 3, 1) := by decide +kernel
theorem dX8_backwards_113 : decode cX8_backwards 113 = .ok (.iload 4, 2) := by decide +kernel
theorem dX8_backwards_115 : decode cX8_backwards 115 = .ok (.ifCond .ge 7, 3) := by decide +kernel
theorem dX8_backwards_118 : decode cX8_backwards 118 = .ok (.iconst 0, 1) := by decide +kernel
theorem dX8_backwards_119 : decode cX8_backwards 119 = .ok (.goto 8, 3) := by decide +kernel
theorem dX8_backwards_122 : decode cX8_backwards 122 = .ok (.iload 4, 2) := by decide +kernel
theorem dX8_backwards_124 : decode cX8_backwards 124 = .ok (.bipush 10, 2) := by decide +kernel
theorem dX8_backwards_126 : decode cX8_backwards 126 = .ok (.idiv, 1) := by decide +kernel
theorem dX8_backwards_127 : decode cX8_backwards 127 = .ok (.iload 4, 2) := by decide +kernel
theorem dX8_backwards_129 : decode cX8_backwards 129 = .ok (.ifCond .ge 7, 3) := by decide +kernel
theorem dX8_backwards_132 : decode cX8_backwards 132 = .ok (.iload_n 2, 1) := by decide +kernel
theorem dX8_backwards_133 : decode cX8_backwards 133 = .ok (.goto 8, 3) := by decide +kernel
theorem dX8_backwards_136 : decode cX8_backwards 136 = .ok (.iload 4, 2) := by decide +kernel
theorem dX8_backwards_138 : decode cX8_backwards 138 = .ok (.bipush 10, 2) := by decide +kernel
theorem dX8_backwards_140 : decode cX8_backwards 140 = .ok (.irem, 1) := by decide +kernel
theorem dX8_backwards_141 : decode cX8_backwards 141 = .ok (.invokevirtual 140, 3) := by decide +kernel
theorem dX8_backwards_144 : decode cX8_backwards 144 = .ok (.iinc 3 1, 3) := by decide +kernel
theorem dX8_backwards_147 : decode cX8_backwards 147 = .ok (.goto (-62), 3) := by decide +kernel
theorem dX8_backwards_150 : decode cX8_backwards 150 = .ok (.iinc 2 1, 3) := by decide +kernel
theorem dX8_backwards_153 : decode cX8_backwards 153 = .ok (.goto (-90), 3) := by decide +kernel
theorem dX8_backwards_156 : decode cX8_backwards 156 = .ok (.aload_n 0, 1) := by decide +kernel
theorem dX8_backwards_157 : decode cX8_backwards 157 = .ok (.getfield 10, 3) := by decide +kernel
theorem dX8_backwards_160 : decode cX8_backwards 160 = .ok (.aload_n 0, 1) := by decide +kernel
theorem dX8_backwards_161 : decode cX8_backwards 161 = .ok (.getfield 16, 3) := by decide +kernel
theorem dX8_backwards_164 : decode cX8_backwards 164 = .ok (.invokevirtual 94, 3) := by decide +kernel
theorem dX8_backwards_167 : decode cX8_backwards 167 = .ok (.iload_n 1, 1) := by decide +kernel
theorem dX8_backwards_168 : decode cX8_backwards 168 = .ok (.ireturn, 1) := by decide +kernel
set_option maxRecDepth 20000 in
theorem ggX8_keeps_X0_isTold : GoodIn wsX8_keeps wsX0_isTold := goodIn_r _ [7, 8, 76, 77, 78, 79, 80, 81, 82, 83, 84, 85, 86, 87, 88, 89, 90, 91] (by decide +kernel) (by decide +kernel)
set_option maxRecDepth 20000 in
theorem gX8_keeps_X0_isTold : GoodIn wsX8_keeps (wsV RX8 130 RX0 yX0_isTold wsX0_isTold) := goodIn_app (goodIn_of _ (by decide +kernel)) ggX8_keeps_X0_isTold
set_option maxRecDepth 20000 in
theorem ggX8_keeps_X1_isKeptUp : GoodIn wsX8_keeps wsX1_isKeptUp := goodIn_r _ [13, 14, 15, 16, 17, 12, 18, 19, 20, 21, 22, 23, 24, 25, 26, 27, 28, 29, 30, 31, 32, 33, 34, 35, 36, 37, 38, 39, 40, 41, 42, 43, 44, 45, 6, 46, 47, 48, 49, 50, 51, 8, 52, 53, 54, 55, 56, 57, 58, 59, 60, 61, 62, 63, 64, 76, 77, 78, 79, 80, 81, 82, 83, 84, 85, 86, 87, 88, 89, 90, 91, 92, 93, 94, 95, 96, 97, 98, 99] (by decide +kernel) (by decide +kernel)
set_option maxRecDepth 20000 in
theorem gX8_keeps_X1_isKeptUp : GoodIn wsX8_keeps (wsV RX8 151 RX1 yX1_isKeptUp wsX1_isKeptUp) := goodIn_app (goodIn_of _ (by decide +kernel)) ggX8_keeps_X1_isKeptUp
theorem dX8_keeps_0 : decode cX8_keeps 0 = .ok (.aload_n 0, 1) := by decide +kernel
theorem dX8_keeps_1 : decode cX8_keeps 1 = .ok (.getfield 10, 3) := by decide +kernel
theorem dX8_keeps_4 : decode cX8_keeps 4 = .ok (.invokevirtual 130, 3) := by decide +kernel
theorem dX8_keeps_7 : decode cX8_keeps 7 = .ok (.ifCond .ne 6, 3) := by decide +kernel
theorem dX8_keeps_10 : decode cX8_keeps 10 = .ok (.bipush (-2), 2) := by decide +kernel
theorem dX8_keeps_12 : decode cX8_keeps 12 = .ok (.ireturn, 1) := by decide +kernel
theorem dX8_keeps_13 : decode cX8_keeps 13 = .ok (.aload_n 0, 1) := by decide +kernel
theorem dX8_keeps_14 : decode cX8_keeps 14 = .ok (.getfield 39, 3) := by decide +kernel
theorem dX8_keeps_17 : decode cX8_keeps 17 = .ok (.aload_n 0, 1) := by decide +kernel
theorem dX8_keeps_18 : decode cX8_keeps 18 = .ok (.getfield 10, 3) := by decide +kernel
theorem dX8_keeps_21 : decode cX8_keeps 21 = .ok (.invokevirtual 151, 3) := by decide +kernel
theorem dX8_keeps_24 : decode cX8_keeps 24 = .ok (.ifCond .eq 7, 3) := by decide +kernel
theorem dX8_keeps_27 : decode cX8_keeps 27 = .ok (.iconst 1, 1) := by decide +kernel
theorem dX8_keeps_28 : decode cX8_keeps 28 = .ok (.goto 4, 3) := by decide +kernel
theorem dX8_keeps_31 : decode cX8_keeps 31 = .ok (.iconst 0, 1) := by decide +kernel
theorem dX8_keeps_32 : decode cX8_keeps 32 = .ok (.ireturn, 1) := by decide +kernel
set_option maxRecDepth 20000 in
theorem ggX8_clash_X0_isTold : GoodIn wsX8_clash wsX0_isTold := goodIn_r _ [10, 11, 83, 84, 85, 86, 87, 88, 89, 90, 91, 92, 93, 94, 95, 96, 97, 98] (by decide +kernel) (by decide +kernel)
set_option maxRecDepth 20000 in
theorem gX8_clash_X0_isTold : GoodIn wsX8_clash (wsV RX8 130 RX0 yX0_isTold wsX0_isTold) := goodIn_app (goodIn_of _ (by decide +kernel)) ggX8_clash_X0_isTold
set_option maxRecDepth 20000 in
theorem ggX8_clash_X8_isWithin : GoodIn wsX8_clash wsX8_isWithin := goodIn_r _ [15] (by decide +kernel) (by decide +kernel)
set_option maxRecDepth 20000 in
theorem gX8_clash_X8_isWithin : GoodIn wsX8_clash (va_wsS RX8 112 yX8_isWithin wsX8_isWithin) := goodIn_app (goodIn_of _ (by decide +kernel)) ggX8_clash_X8_isWithin
set_option maxRecDepth 20000 in
theorem ggX8_clash_X1_isKeptUp : GoodIn wsX8_clash wsX1_isKeptUp := goodIn_r _ [20, 21, 22, 23, 24, 19, 25, 26, 27, 28, 29, 30, 31, 32, 33, 34, 35, 36, 37, 38, 39, 40, 41, 42, 43, 44, 45, 46, 47, 48, 49, 50, 51, 52, 9, 53, 54, 55, 56, 57, 58, 11, 59, 60, 61, 62, 63, 64, 65, 66, 67, 68, 69, 70, 71, 83, 84, 85, 86, 87, 88, 89, 90, 91, 92, 93, 94, 95, 96, 97, 98, 99, 100, 101, 102, 103, 104, 105, 106] (by decide +kernel) (by decide +kernel)
set_option maxRecDepth 20000 in
theorem gX8_clash_X1_isKeptUp : GoodIn wsX8_clash (wsV RX8 151 RX1 yX1_isKeptUp wsX1_isKeptUp) := goodIn_app (goodIn_of _ (by decide +kernel)) ggX8_clash_X1_isKeptUp
theorem dX8_clash_0 : decode cX8_clash 0 = .ok (.aload_n 0, 1) := by decide +kernel
theorem dX8_clash_1 : decode cX8_clash 1 = .ok (.getfield 10, 3) := by decide +kernel
theorem dX8_clash_4 : decode cX8_clash 4 = .ok (.invokevirtual 130, 3) := by decide +kernel
theorem dX8_clash_7 : decode cX8_clash 7 = .ok (.ifCond .eq 11, 3) := by decide +kernel
theorem dX8_clash_10 : decode cX8_clash 10 = .ok (.iload_n 1, 1) := by decide +kernel
theorem dX8_clash_11 : decode cX8_clash 11 = .ok (.iconst 2, 1) := by decide +kernel
theorem dX8_clash_12 : decode cX8_clash 12 = .ok (.invokestatic 112, 3) := by decide +kernel
theorem dX8_clash_15 : decode cX8_clash 15 = .ok (.ifCond .ne 6, 3) := by decide +kernel
theorem dX8_clash_18 : decode cX8_clash 18 = .ok (.bipush (-2), 2) := by decide +kernel
theorem dX8_clash_20 : decode cX8_clash 20 = .ok (.ireturn, 1) := by decide +kernel
theorem dX8_clash_21 : decode cX8_clash 21 = .ok (.aload_n 0, 1) := by decide +kernel
theorem dX8_clash_22 : decode cX8_clash 22 = .ok (.getfield 39, 3) := by decide +kernel
theorem dX8_clash_25 : decode cX8_clash 25 = .ok (.aload_n 0, 1) := by decide +kernel
theorem dX8_clash_26 : decode cX8_clash 26 = .ok (.getfield 10, 3) := by decide +kernel
theorem dX8_clash_29 : decode cX8_clash 29 = .ok (.invokevirtual 151, 3) := by decide +kernel
theorem dX8_clash_32 : decode cX8_clash 32 = .ok (.ifCond .eq 5, 3) := by decide +kernel
theorem dX8_clash_35 : decode cX8_clash 35 = .ok (.iconst (-1), 1) := by decide +kernel
theorem dX8_clash_36 : decode cX8_clash 36 = .ok (.ireturn, 1) := by decide +kernel
theorem dX8_clash_37 : decode cX8_clash 37 = .ok (.iload_n 1, 1) := by decide +kernel
theorem dX8_clash_38 : decode cX8_clash 38 = .ok (.ifCond .ne 11, 3) := by decide +kernel
theorem dX8_clash_41 : decode cX8_clash 41 = .ok (.aload_n 0, 1) := by decide +kernel
theorem dX8_clash_42 : decode cX8_clash 42 = .ok (.getfield 10, 3) := by decide +kernel
theorem dX8_clash_45 : decode cX8_clash 45 = .ok (.getfield 166, 3) := by decide +kernel
theorem dX8_clash_48 : decode cX8_clash 48 = .ok (.ireturn, 1) := by decide +kernel
theorem dX8_clash_49 : decode cX8_clash 49 = .ok (.iload_n 1, 1) := by decide +kernel
theorem dX8_clash_50 : decode cX8_clash 50 = .ok (.iconst 1, 1) := by decide +kernel
theorem dX8_clash_51 : decode cX8_clash 51 = .ok (.if_icmp .ne 13, 3) := by decide +kernel
theorem dX8_clash_54 : decode cX8_clash 54 = .ok (.aload_n 0, 1) := by decide +kernel
theorem dX8_clash_55 : decode cX8_clash 55 = .ok (.getfield 10, 3) := by decide +kernel
theorem dX8_clash_58 : decode cX8_clash 58 = .ok (.getfield 169, 3) := by decide +kernel
theorem dX8_clash_61 : decode cX8_clash 61 = .ok (.goto 10, 3) := by decide +kernel
theorem dX8_clash_64 : decode cX8_clash 64 = .ok (.aload_n 0, 1) := by decide +kernel
theorem dX8_clash_65 : decode cX8_clash 65 = .ok (.getfield 10, 3) := by decide +kernel
theorem dX8_clash_68 : decode cX8_clash 68 = .ok (.getfield 172, 3) := by decide +kernel
theorem dX8_clash_71 : decode cX8_clash 71 = .ok (.ireturn, 1) := by decide +kernel
set_option maxRecDepth 20000 in
theorem ggX8_balls_X0_isTold : GoodIn wsX8_balls wsX0_isTold := goodIn_r _ [7, 8, 84, 85, 86, 87, 88, 89, 90, 91, 92, 93, 94, 95, 96, 97, 98, 99] (by decide +kernel) (by decide +kernel)
set_option maxRecDepth 20000 in
theorem gX8_balls_X0_isTold : GoodIn wsX8_balls (wsV RX8 130 RX0 yX0_isTold wsX0_isTold) := goodIn_app (goodIn_of _ (by decide +kernel)) ggX8_balls_X0_isTold
set_option maxRecDepth 20000 in
theorem ggX8_balls_X1_isKeptUp : GoodIn wsX8_balls wsX1_isKeptUp := goodIn_r _ [13, 14, 15, 16, 17, 12, 18, 19, 20, 21, 22, 23, 24, 25, 26, 27, 28, 29, 30, 31, 32, 33, 34, 35, 36, 37, 38, 39, 40, 41, 42, 43, 44, 45, 6, 46, 47, 48, 49, 50, 51, 8, 52, 53, 54, 55, 56, 57, 58, 59, 60, 61, 62, 63, 64, 84, 85, 86, 87, 88, 89, 90, 91, 92, 93, 94, 95, 96, 97, 98, 99, 100, 101, 102, 103, 104, 105, 106, 107] (by decide +kernel) (by decide +kernel)
set_option maxRecDepth 20000 in
theorem gX8_balls_X1_isKeptUp : GoodIn wsX8_balls (wsV RX8 151 RX1 yX1_isKeptUp wsX1_isKeptUp) := goodIn_app (goodIn_of _ (by decide +kernel)) ggX8_balls_X1_isKeptUp
set_option maxRecDepth 20000 in
theorem ggX8_balls_X1_ballsOf : GoodIn wsX8_balls wsX1_ballsOf := goodIn_r _ [68, 69, 70, 71, 12, 72, 25, 43, 44, 45, 6, 46, 47, 48, 49, 50, 51, 8, 52, 53, 40, 41, 42, 84, 85, 86, 87, 88, 89, 90, 91, 92, 93, 94, 95, 96, 97, 98, 99] (by decide +kernel) (by decide +kernel)
set_option maxRecDepth 20000 in
theorem gX8_balls_X1_ballsOf : GoodIn wsX8_balls (wsV RX8 175 RX1 yX1_ballsOf wsX1_ballsOf) := goodIn_app (goodIn_of _ (by decide +kernel)) ggX8_balls_X1_ballsOf
theorem dX8_balls_0 : decode cX8_balls 0 = .ok (.aload_n 0, 1) := by decide +kernel
theorem dX8_balls_1 : decode cX8_balls 1 = .ok (.getfield 10, 3) := by decide +kernel
theorem dX8_balls_4 : decode cX8_balls 4 = .ok (.invokevirtual 130, 3) := by decide +kernel
theorem dX8_balls_7 : decode cX8_balls 7 = .ok (.ifCond .ne 6, 3) := by decide +kernel
theorem dX8_balls_10 : decode cX8_balls 10 = .ok (.bipush (-2), 2) := by decide +kernel
theorem dX8_balls_12 : decode cX8_balls 12 = .ok (.ireturn, 1) := by decide +kernel
theorem dX8_balls_13 : decode cX8_balls 13 = .ok (.aload_n 0, 1) := by decide +kernel
theorem dX8_balls_14 : decode cX8_balls 14 = .ok (.getfield 39, 3) := by decide +kernel
theorem dX8_balls_17 : decode cX8_balls 17 = .ok (.aload_n 0, 1) := by decide +kernel
theorem dX8_balls_18 : decode cX8_balls 18 = .ok (.getfield 10, 3) := by decide +kernel
theorem dX8_balls_21 : decode cX8_balls 21 = .ok (.invokevirtual 151, 3) := by decide +kernel
theorem dX8_balls_24 : decode cX8_balls 24 = .ok (.ifCond .eq 17, 3) := by decide +kernel
theorem dX8_balls_27 : decode cX8_balls 27 = .ok (.aload_n 0, 1) := by decide +kernel
theorem dX8_balls_28 : decode cX8_balls 28 = .ok (.getfield 39, 3) := by decide +kernel
theorem dX8_balls_31 : decode cX8_balls 31 = .ok (.aload_n 0, 1) := by decide +kernel
theorem dX8_balls_32 : decode cX8_balls 32 = .ok (.getfield 10, 3) := by decide +kernel
theorem dX8_balls_35 : decode cX8_balls 35 = .ok (.invokevirtual 175, 3) := by decide +kernel
theorem dX8_balls_38 : decode cX8_balls 38 = .ok (.goto 4, 3) := by decide +kernel
theorem dX8_balls_41 : decode cX8_balls 41 = .ok (.iconst (-1), 1) := by decide +kernel
theorem dX8_balls_42 : decode cX8_balls 42 = .ok (.ireturn, 1) := by decide +kernel
set_option maxRecDepth 20000 in
theorem ggX8_lands_X0_hasRoof : GoodIn wsX8_lands wsX0_hasRoof := goodIn_r _ [7, 8, 88, 89, 90, 91, 92, 93, 94, 95, 96, 97, 98, 99, 100, 101, 102, 103] (by decide +kernel) (by decide +kernel)
set_option maxRecDepth 20000 in
theorem gX8_lands_X0_hasRoof : GoodIn wsX8_lands (wsV RX8 106 RX0 yX0_hasRoof wsX0_hasRoof) := goodIn_app (goodIn_of _ (by decide +kernel)) ggX8_lands_X0_hasRoof
set_option maxRecDepth 20000 in
theorem ggX8_lands_X8_isBeat : GoodIn wsX8_lands wsX8_isBeat := goodIn_r _ [12, 13, 14, 15, 11, 16] (by decide +kernel) (by decide +kernel)
set_option maxRecDepth 20000 in
theorem gX8_lands_X8_isBeat : GoodIn wsX8_lands (va_wsS RX8 109 yX8_isBeat wsX8_isBeat) := goodIn_app (goodIn_of _ (by decide +kernel)) ggX8_lands_X8_isBeat
set_option maxRecDepth 20000 in
theorem ggX8_lands_X1_isKeptUp : GoodIn wsX8_lands wsX1_isKeptUp := goodIn_r _ [21, 22, 23, 24, 25, 20, 26, 27, 28, 29, 30, 31, 32, 33, 34, 35, 36, 37, 38, 39, 40, 41, 42, 43, 44, 45, 46, 47, 48, 49, 50, 51, 52, 53, 6, 54, 55, 56, 57, 58, 59, 8, 60, 61, 62, 63, 64, 65, 66, 67, 68, 69, 70, 71, 72, 88, 89, 90, 91, 92, 93, 94, 95, 96, 97, 98, 99, 100, 101, 102, 103, 104, 105, 106, 107, 108, 109, 110, 111] (by decide +kernel) (by decide +kernel)
set_option maxRecDepth 20000 in
theorem gX8_lands_X1_isKeptUp : GoodIn wsX8_lands (wsV RX8 151 RX1 yX1_isKeptUp wsX1_isKeptUp) := goodIn_app (goodIn_of _ (by decide +kernel)) ggX8_lands_X1_isKeptUp
set_option maxRecDepth 20000 in
theorem ggX8_lands_X1_sourceOf : GoodIn wsX8_lands wsX1_sourceOf := goodIn_r _ [76, 33, 51, 52, 53, 6, 54, 55, 56, 57, 58, 59, 8, 60, 61, 48, 49, 50, 62, 63, 64, 65, 66, 88, 89, 90, 91, 92, 93, 94, 95, 96, 97, 98, 99, 100, 101, 102, 103] (by decide +kernel) (by decide +kernel)
set_option maxRecDepth 20000 in
theorem gX8_lands_X1_sourceOf : GoodIn wsX8_lands (wsV RX8 162 RX1 yX1_sourceOf wsX1_sourceOf) := goodIn_app (goodIn_of _ (by decide +kernel)) ggX8_lands_X1_sourceOf
theorem dX8_lands_0 : decode cX8_lands 0 = .ok (.aload_n 0, 1) := by decide +kernel
theorem dX8_lands_1 : decode cX8_lands 1 = .ok (.getfield 10, 3) := by decide +kernel
theorem dX8_lands_4 : decode cX8_lands 4 = .ok (.iload_n 1, 1) := by decide +kernel
theorem dX8_lands_5 : decode cX8_lands 5 = .ok (.invokevirtual 106, 3) := by decide +kernel
theorem dX8_lands_8 : decode cX8_lands 8 = .ok (.ifCond .eq 10, 3) := by decide +kernel
theorem dX8_lands_11 : decode cX8_lands 11 = .ok (.iload_n 2, 1) := by decide +kernel
theorem dX8_lands_12 : decode cX8_lands 12 = .ok (.invokestatic 109, 3) := by decide +kernel
theorem dX8_lands_15 : decode cX8_lands 15 = .ok (.ifCond .ne 6, 3) := by decide +kernel
theorem dX8_lands_18 : decode cX8_lands 18 = .ok (.bipush (-2), 2) := by decide +kernel
theorem dX8_lands_20 : decode cX8_lands 20 = .ok (.ireturn, 1) := by decide +kernel
theorem dX8_lands_21 : decode cX8_lands 21 = .ok (.aload_n 0, 1) := by decide +kernel
theorem dX8_lands_22 : decode cX8_lands 22 = .ok (.getfield 39, 3) := by decide +kernel
theorem dX8_lands_25 : decode cX8_lands 25 = .ok (.aload_n 0, 1) := by decide +kernel
theorem dX8_lands_26 : decode cX8_lands 26 = .ok (.getfield 10, 3) := by decide +kernel
theorem dX8_lands_29 : decode cX8_lands 29 = .ok (.invokevirtual 151, 3) := by decide +kernel
theorem dX8_lands_32 : decode cX8_lands 32 = .ok (.ifCond .eq 19, 3) := by decide +kernel
theorem dX8_lands_35 : decode cX8_lands 35 = .ok (.aload_n 0, 1) := by decide +kernel
theorem dX8_lands_36 : decode cX8_lands 36 = .ok (.getfield 39, 3) := by decide +kernel
theorem dX8_lands_39 : decode cX8_lands 39 = .ok (.aload_n 0, 1) := by decide +kernel
theorem dX8_lands_40 : decode cX8_lands 40 = .ok (.getfield 10, 3) := by decide +kernel
theorem dX8_lands_43 : decode cX8_lands 43 = .ok (.iload_n 1, 1) := by decide +kernel
theorem dX8_lands_44 : decode cX8_lands 44 = .ok (.iload_n 2, 1) := by decide +kernel
theorem dX8_lands_45 : decode cX8_lands 45 = .ok (.invokevirtual 162, 3) := by decide +kernel
theorem dX8_lands_48 : decode cX8_lands 48 = .ok (.goto 4, 3) := by decide +kernel
theorem dX8_lands_51 : decode cX8_lands 51 = .ok (.iconst (-1), 1) := by decide +kernel
theorem dX8_lands_52 : decode cX8_lands 52 = .ok (.ireturn, 1) := by decide +kernel
set_option maxRecDepth 20000 in
theorem ggX8_air_X0_isTold : GoodIn wsX8_air wsX0_isTold := goodIn_r _ [7, 8, 88, 89, 90, 91, 92, 93, 94, 95, 96, 97, 98, 99, 100, 101, 102, 103] (by decide +kernel) (by decide +kernel)
set_option maxRecDepth 20000 in
theorem gX8_air_X0_isTold : GoodIn wsX8_air (wsV RX8 130 RX0 yX0_isTold wsX0_isTold) := goodIn_app (goodIn_of _ (by decide +kernel)) ggX8_air_X0_isTold
set_option maxRecDepth 20000 in
theorem ggX8_air_X8_isBeat : GoodIn wsX8_air wsX8_isBeat := goodIn_r _ [12, 13, 14, 15, 11, 16] (by decide +kernel) (by decide +kernel)
set_option maxRecDepth 20000 in
theorem gX8_air_X8_isBeat : GoodIn wsX8_air (va_wsS RX8 109 yX8_isBeat wsX8_isBeat) := goodIn_app (goodIn_of _ (by decide +kernel)) ggX8_air_X8_isBeat
set_option maxRecDepth 20000 in
theorem ggX8_air_X1_isKeptUp : GoodIn wsX8_air wsX1_isKeptUp := goodIn_r _ [21, 22, 23, 24, 25, 20, 26, 27, 28, 29, 30, 31, 32, 33, 34, 35, 36, 37, 38, 39, 40, 41, 42, 43, 44, 45, 46, 47, 48, 49, 50, 51, 52, 53, 6, 54, 55, 56, 57, 58, 59, 8, 60, 61, 62, 63, 64, 65, 66, 67, 68, 69, 70, 71, 72, 88, 89, 90, 91, 92, 93, 94, 95, 96, 97, 98, 99, 100, 101, 102, 103, 104, 105, 106, 107, 108, 109, 110, 111] (by decide +kernel) (by decide +kernel)
set_option maxRecDepth 20000 in
theorem gX8_air_X1_isKeptUp : GoodIn wsX8_air (wsV RX8 151 RX1 yX1_isKeptUp wsX1_isKeptUp) := goodIn_app (goodIn_of _ (by decide +kernel)) ggX8_air_X1_isKeptUp
set_option maxRecDepth 20000 in
theorem ggX8_air_X1_aloftBehind : GoodIn wsX8_air wsX1_aloftBehind := goodIn_r _ [76, 33, 51, 52, 53, 6, 54, 55, 56, 57, 58, 59, 8, 60, 61, 48, 49, 50, 88, 89, 90, 91, 92, 93, 94, 95, 96, 97, 98, 99, 100, 101, 102, 103] (by decide +kernel) (by decide +kernel)
set_option maxRecDepth 20000 in
theorem gX8_air_X1_aloftBehind : GoodIn wsX8_air (wsV RX8 178 RX1 yX1_aloftBehind wsX1_aloftBehind) := goodIn_app (goodIn_of _ (by decide +kernel)) ggX8_air_X1_aloftBehind
theorem dX8_air_0 : decode cX8_air 0 = .ok (.aload_n 0, 1) := by decide +kernel
