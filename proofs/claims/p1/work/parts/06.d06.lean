theorem dX8_air_1 : decode cX8_air 1 = .ok (.getfield 10, 3) := by decide +kernel
theorem dX8_air_4 : decode cX8_air 4 = .ok (.invokevirtual 130, 3) := by decide +kernel
theorem dX8_air_7 : decode cX8_air 7 = .ok (.ifCond .eq 10, 3) := by decide +kernel
theorem dX8_air_10 : decode cX8_air 10 = .ok (.iload_n 1, 1) := by decide +kernel
theorem dX8_air_11 : decode cX8_air 11 = .ok (.invokestatic 109, 3) := by decide +kernel
theorem dX8_air_14 : decode cX8_air 14 = .ok (.ifCond .ne 6, 3) := by decide +kernel
theorem dX8_air_17 : decode cX8_air 17 = .ok (.bipush (-2), 2) := by decide +kernel
theorem dX8_air_19 : decode cX8_air 19 = .ok (.ireturn, 1) := by decide +kernel
theorem dX8_air_20 : decode cX8_air 20 = .ok (.aload_n 0, 1) := by decide +kernel
theorem dX8_air_21 : decode cX8_air 21 = .ok (.getfield 39, 3) := by decide +kernel
theorem dX8_air_24 : decode cX8_air 24 = .ok (.aload_n 0, 1) := by decide +kernel
theorem dX8_air_25 : decode cX8_air 25 = .ok (.getfield 10, 3) := by decide +kernel
theorem dX8_air_28 : decode cX8_air 28 = .ok (.invokevirtual 151, 3) := by decide +kernel
theorem dX8_air_31 : decode cX8_air 31 = .ok (.ifCond .eq 18, 3) := by decide +kernel
theorem dX8_air_34 : decode cX8_air 34 = .ok (.aload_n 0, 1) := by decide +kernel
theorem dX8_air_35 : decode cX8_air 35 = .ok (.getfield 39, 3) := by decide +kernel
theorem dX8_air_38 : decode cX8_air 38 = .ok (.aload_n 0, 1) := by decide +kernel
theorem dX8_air_39 : decode cX8_air 39 = .ok (.getfield 10, 3) := by decide +kernel
theorem dX8_air_42 : decode cX8_air 42 = .ok (.iload_n 1, 1) := by decide +kernel
theorem dX8_air_43 : decode cX8_air 43 = .ok (.invokevirtual 178, 3) := by decide +kernel
theorem dX8_air_46 : decode cX8_air 46 = .ok (.goto 4, 3) := by decide +kernel
theorem dX8_air_49 : decode cX8_air 49 = .ok (.iconst (-1), 1) := by decide +kernel
theorem dX8_air_50 : decode cX8_air 50 = .ok (.ireturn, 1) := by decide +kernel
set_option maxRecDepth 20000 in
theorem ggX8_ball_X0_hasRoof : GoodIn wsX8_ball wsX0_hasRoof := goodIn_r _ [9, 10, 108, 109, 110, 111, 112, 113, 114, 115, 116, 117, 118, 119, 120, 121, 122, 123] (by decide +kernel) (by decide +kernel)
set_option maxRecDepth 20000 in
theorem gX8_ball_X0_hasRoof : GoodIn wsX8_ball (wsV RX8 106 RX0 yX0_hasRoof wsX0_hasRoof) := goodIn_app (goodIn_of _ (by decide +kernel)) ggX8_ball_X0_hasRoof
set_option maxRecDepth 20000 in
theorem ggX8_ball_X8_isBeat : GoodIn wsX8_ball wsX8_isBeat := goodIn_r _ [14, 15, 16, 17, 13, 18] (by decide +kernel) (by decide +kernel)
set_option maxRecDepth 20000 in
theorem gX8_ball_X8_isBeat : GoodIn wsX8_ball (va_wsS RX8 109 yX8_isBeat wsX8_isBeat) := goodIn_app (goodIn_of _ (by decide +kernel)) ggX8_ball_X8_isBeat
set_option maxRecDepth 20000 in
theorem ggX8_ball_X8_isWithin : GoodIn wsX8_ball wsX8_isWithin := goodIn_r _ [18] (by decide +kernel) (by decide +kernel)
set_option maxRecDepth 20000 in
theorem gX8_ball_X8_isWithin : GoodIn wsX8_ball (va_wsS RX8 112 yX8_isWithin wsX8_isWithin) := goodIn_app (goodIn_of _ (by decide +kernel)) ggX8_ball_X8_isWithin
set_option maxRecDepth 20000 in
theorem ggX8_ball_X1_isThrownFrom : GoodIn wsX8_ball wsX1_isThrownFrom := goodIn_r _ [23, 24, 25, 26, 27, 22, 28, 29, 30, 31, 32, 33, 34, 35, 36, 37, 38, 39, 40, 41, 42, 43, 44, 45, 46, 47, 48, 49, 50, 51, 52, 53, 54, 55, 8, 56, 57, 58, 59, 60, 61, 10, 62, 63, 64, 65, 66, 67, 68, 69, 70, 71, 72, 73, 74, 108, 109, 110, 111, 112, 113, 114, 115, 116, 117, 118, 119, 120, 121, 122, 123, 100, 101, 102, 103, 104, 105, 106, 107] (by decide +kernel) (by decide +kernel)
set_option maxRecDepth 20000 in
theorem gX8_ball_X1_isThrownFrom : GoodIn wsX8_ball (wsV RX8 182 RX1 yX1_isThrownFrom wsX1_isThrownFrom) := goodIn_app (goodIn_of _ (by decide +kernel)) ggX8_ball_X1_isThrownFrom
set_option maxRecDepth 20000 in
theorem ggX8_ball_X1_follow : GoodIn wsX8_ball wsX1_follow := goodIn_r _ [78, 79, 80, 81, 22, 82, 83, 84, 85, 86, 87, 88, 53, 54, 55, 8, 56, 57, 58, 59, 60, 61, 10, 62, 63, 50, 51, 52, 64, 65, 66, 67, 68, 100, 101, 102, 103, 104, 105, 106, 107, 108, 109, 110, 111, 112, 113, 114, 115, 116, 117, 118, 119, 120, 121, 122, 123] (by decide +kernel) (by decide +kernel)
set_option maxRecDepth 20000 in
theorem gX8_ball_X1_follow : GoodIn wsX8_ball (wsV RX8 186 RX1 yX1_follow wsX1_follow) := goodIn_app (goodIn_of _ (by decide +kernel)) ggX8_ball_X1_follow
theorem dX8_ball_0 : decode cX8_ball 0 = .ok (.aload_n 0, 1) := by decide +kernel
theorem dX8_ball_1 : decode cX8_ball 1 = .ok (.getfield 10, 3) := by decide +kernel
theorem dX8_ball_4 : decode cX8_ball 4 = .ok (.iload_n 1, 1) := by decide +kernel
theorem dX8_ball_5 : decode cX8_ball 5 = .ok (.invokevirtual 106, 3) := by decide +kernel
theorem dX8_ball_8 : decode cX8_ball 8 = .ok (.ifCond .eq 29, 3) := by decide +kernel
theorem dX8_ball_11 : decode cX8_ball 11 = .ok (.iload_n 2, 1) := by decide +kernel
theorem dX8_ball_12 : decode cX8_ball 12 = .ok (.invokestatic 109, 3) := by decide +kernel
theorem dX8_ball_15 : decode cX8_ball 15 = .ok (.ifCond .eq 22, 3) := by decide +kernel
theorem dX8_ball_18 : decode cX8_ball 18 = .ok (.iload_n 3, 1) := by decide +kernel
theorem dX8_ball_19 : decode cX8_ball 19 = .ok (.sipush 200, 3) := by decide +kernel
theorem dX8_ball_22 : decode cX8_ball 22 = .ok (.invokestatic 112, 3) := by decide +kernel
theorem dX8_ball_25 : decode cX8_ball 25 = .ok (.ifCond .eq 12, 3) := by decide +kernel
theorem dX8_ball_28 : decode cX8_ball 28 = .ok (.iload 4, 2) := by decide +kernel
theorem dX8_ball_30 : decode cX8_ball 30 = .ok (.iconst 1, 1) := by decide +kernel
theorem dX8_ball_31 : decode cX8_ball 31 = .ok (.invokestatic 112, 3) := by decide +kernel
theorem dX8_ball_34 : decode cX8_ball 34 = .ok (.ifCond .ne 6, 3) := by decide +kernel
theorem dX8_ball_37 : decode cX8_ball 37 = .ok (.bipush (-2), 2) := by decide +kernel
theorem dX8_ball_39 : decode cX8_ball 39 = .ok (.ireturn, 1) := by decide +kernel
theorem dX8_ball_40 : decode cX8_ball 40 = .ok (.aload_n 0, 1) := by decide +kernel
theorem dX8_ball_41 : decode cX8_ball 41 = .ok (.getfield 39, 3) := by decide +kernel
theorem dX8_ball_44 : decode cX8_ball 44 = .ok (.aload_n 0, 1) := by decide +kernel
theorem dX8_ball_45 : decode cX8_ball 45 = .ok (.getfield 10, 3) := by decide +kernel
theorem dX8_ball_48 : decode cX8_ball 48 = .ok (.iload_n 1, 1) := by decide +kernel
theorem dX8_ball_49 : decode cX8_ball 49 = .ok (.iload_n 2, 1) := by decide +kernel
theorem dX8_ball_50 : decode cX8_ball 50 = .ok (.invokevirtual 182, 3) := by decide +kernel
theorem dX8_ball_53 : decode cX8_ball 53 = .ok (.ifCond .ne 5, 3) := by decide +kernel
theorem dX8_ball_56 : decode cX8_ball 56 = .ok (.iconst (-1), 1) := by decide +kernel
theorem dX8_ball_57 : decode cX8_ball 57 = .ok (.ireturn, 1) := by decide +kernel
theorem dX8_ball_58 : decode cX8_ball 58 = .ok (.aload_n 0, 1) := by decide +kernel
theorem dX8_ball_59 : decode cX8_ball 59 = .ok (.getfield 39, 3) := by decide +kernel
theorem dX8_ball_62 : decode cX8_ball 62 = .ok (.aload_n 0, 1) := by decide +kernel
theorem dX8_ball_63 : decode cX8_ball 63 = .ok (.getfield 10, 3) := by decide +kernel
theorem dX8_ball_66 : decode cX8_ball 66 = .ok (.iload_n 1, 1) := by decide +kernel
theorem dX8_ball_67 : decode cX8_ball 67 = .ok (.iload_n 2, 1) := by decide +kernel
theorem dX8_ball_68 : decode cX8_ball 68 = .ok (.iload_n 3, 1) := by decide +kernel
theorem dX8_ball_69 : decode cX8_ball 69 = .ok (.invokevirtual 186, 3) := by decide +kernel
theorem dX8_ball_72 : decode cX8_ball 72 = .ok (.iload 4, 2) := by decide +kernel
theorem dX8_ball_74 : decode cX8_ball 74 = .ok (.ifCond .ne 13, 3) := by decide +kernel
theorem dX8_ball_77 : decode cX8_ball 77 = .ok (.aload_n 0, 1) := by decide +kernel
theorem dX8_ball_78 : decode cX8_ball 78 = .ok (.getfield 39, 3) := by decide +kernel
theorem dX8_ball_81 : decode cX8_ball 81 = .ok (.getfield 190, 3) := by decide +kernel
theorem dX8_ball_84 : decode cX8_ball 84 = .ok (.goto 10, 3) := by decide +kernel
theorem dX8_ball_87 : decode cX8_ball 87 = .ok (.aload_n 0, 1) := by decide +kernel
theorem dX8_ball_88 : decode cX8_ball 88 = .ok (.getfield 39, 3) := by decide +kernel
theorem dX8_ball_91 : decode cX8_ball 91 = .ok (.getfield 193, 3) := by decide +kernel
theorem dX8_ball_94 : decode cX8_ball 94 = .ok (.ireturn, 1) := by decide +kernel
set_option maxRecDepth 20000 in
theorem ggX8_orbit_X0_hasRoof : GoodIn wsX8_orbit wsX0_hasRoof := goodIn_r _ [11, 12, 118, 119, 120, 121, 122, 123, 124, 125, 126, 127, 128, 129, 130, 131, 132, 133] (by decide +kernel) (by decide +kernel)
set_option maxRecDepth 20000 in
theorem gX8_orbit_X0_hasRoof : GoodIn wsX8_orbit (wsV RX8 106 RX0 yX0_hasRoof wsX0_hasRoof) := goodIn_app (goodIn_of _ (by decide +kernel)) ggX8_orbit_X0_hasRoof
set_option maxRecDepth 20000 in
theorem ggX8_orbit_X8_isBeat : GoodIn wsX8_orbit wsX8_isBeat := goodIn_r _ [16, 17, 18, 19, 15, 20] (by decide +kernel) (by decide +kernel)
set_option maxRecDepth 20000 in
theorem gX8_orbit_X8_isBeat : GoodIn wsX8_orbit (va_wsS RX8 109 yX8_isBeat wsX8_isBeat) := goodIn_app (goodIn_of _ (by decide +kernel)) ggX8_orbit_X8_isBeat
set_option maxRecDepth 20000 in
theorem ggX8_orbit_X8_isWithin : GoodIn wsX8_orbit wsX8_isWithin := goodIn_r _ [20] (by decide +kernel) (by decide +kernel)
set_option maxRecDepth 20000 in
theorem gX8_orbit_X8_isWithin : GoodIn wsX8_orbit (va_wsS RX8 112 yX8_isWithin wsX8_isWithin) := goodIn_app (goodIn_of _ (by decide +kernel)) ggX8_orbit_X8_isWithin
set_option maxRecDepth 20000 in
theorem ggX8_orbit_X1_isThrownFrom : GoodIn wsX8_orbit wsX1_isThrownFrom := goodIn_r _ [25, 26, 27, 28, 29, 24, 30, 31, 32, 33, 34, 35, 36, 37, 38, 39, 40, 41, 42, 43, 44, 45, 46, 47, 48, 49, 50, 51, 52, 53, 54, 55, 56, 57, 10, 58, 59, 60, 61, 62, 63, 12, 64, 65, 66, 67, 68, 69, 70, 71, 72, 73, 74, 75, 76, 118, 119, 120, 121, 122, 123, 124, 125, 126, 127, 128, 129, 130, 131, 132, 133, 110, 111, 112, 113, 114, 115, 116, 117] (by decide +kernel) (by decide +kernel)
set_option maxRecDepth 20000 in
theorem gX8_orbit_X1_isThrownFrom : GoodIn wsX8_orbit (wsV RX8 182 RX1 yX1_isThrownFrom wsX1_isThrownFrom) := goodIn_app (goodIn_of _ (by decide +kernel)) ggX8_orbit_X1_isThrownFrom
set_option maxRecDepth 20000 in
theorem ggX8_orbit_X1_goRound : GoodIn wsX8_orbit wsX1_goRound := goodIn_r _ [80, 81, 82, 83, 84, 85, 32, 86, 87, 88, 89, 24, 90, 91, 92, 93, 94, 55, 56, 57, 10, 58, 59, 60, 61, 62, 63, 12, 64, 65, 52, 53, 54, 66, 67, 68, 69, 70, 95, 96, 97, 98, 110, 111, 112, 113, 114, 115, 116, 117, 118, 119, 120, 121, 122, 123, 124, 125, 126, 127, 128, 129, 130, 131, 132, 133] (by decide +kernel) (by decide +kernel)
set_option maxRecDepth 20000 in
theorem gX8_orbit_X1_goRound : GoodIn wsX8_orbit (wsV RX8 196 RX1 yX1_goRound wsX1_goRound) := goodIn_app (goodIn_of _ (by decide +kernel)) ggX8_orbit_X1_goRound
theorem dX8_orbit_0 : decode cX8_orbit 0 = .ok (.aload_n 0, 1) := by decide +kernel
theorem dX8_orbit_1 : decode cX8_orbit 1 = .ok (.getfield 10, 3) := by decide +kernel
theorem dX8_orbit_4 : decode cX8_orbit 4 = .ok (.iload_n 1, 1) := by decide +kernel
theorem dX8_orbit_5 : decode cX8_orbit 5 = .ok (.invokevirtual 106, 3) := by decide +kernel
theorem dX8_orbit_8 : decode cX8_orbit 8 = .ok (.ifCond .eq 18, 3) := by decide +kernel
theorem dX8_orbit_11 : decode cX8_orbit 11 = .ok (.iload_n 2, 1) := by decide +kernel
theorem dX8_orbit_12 : decode cX8_orbit 12 = .ok (.invokestatic 109, 3) := by decide +kernel
theorem dX8_orbit_15 : decode cX8_orbit 15 = .ok (.ifCond .eq 11, 3) := by decide +kernel
theorem dX8_orbit_18 : decode cX8_orbit 18 = .ok (.iload_n 3, 1) := by decide +kernel
theorem dX8_orbit_19 : decode cX8_orbit 19 = .ok (.iconst 3, 1) := by decide +kernel
theorem dX8_orbit_20 : decode cX8_orbit 20 = .ok (.invokestatic 112, 3) := by decide +kernel
theorem dX8_orbit_23 : decode cX8_orbit 23 = .ok (.ifCond .ne 6, 3) := by decide +kernel
theorem dX8_orbit_26 : decode cX8_orbit 26 = .ok (.bipush (-2), 2) := by decide +kernel
theorem dX8_orbit_28 : decode cX8_orbit 28 = .ok (.ireturn, 1) := by decide +kernel
theorem dX8_orbit_29 : decode cX8_orbit 29 = .ok (.aload_n 0, 1) := by decide +kernel
theorem dX8_orbit_30 : decode cX8_orbit 30 = .ok (.getfield 39, 3) := by decide +kernel
theorem dX8_orbit_33 : decode cX8_orbit 33 = .ok (.aload_n 0, 1) := by decide +kernel
theorem dX8_orbit_34 : decode cX8_orbit 34 = .ok (.getfield 10, 3) := by decide +kernel
theorem dX8_orbit_37 : decode cX8_orbit 37 = .ok (.iload_n 1, 1) := by decide +kernel
theorem dX8_orbit_38 : decode cX8_orbit 38 = .ok (.iload_n 2, 1) := by decide +kernel
theorem dX8_orbit_39 : decode cX8_orbit 39 = .ok (.invokevirtual 182, 3) := by decide +kernel
theorem dX8_orbit_42 : decode cX8_orbit 42 = .ok (.ifCond .ne 5, 3) := by decide +kernel
theorem dX8_orbit_45 : decode cX8_orbit 45 = .ok (.iconst (-1), 1) := by decide +kernel
theorem dX8_orbit_46 : decode cX8_orbit 46 = .ok (.ireturn, 1) := by decide +kernel
theorem dX8_orbit_47 : decode cX8_orbit 47 = .ok (.aload_n 0, 1) := by decide +kernel
theorem dX8_orbit_48 : decode cX8_orbit 48 = .ok (.getfield 39, 3) := by decide +kernel
theorem dX8_orbit_51 : decode cX8_orbit 51 = .ok (.aload_n 0, 1) := by decide +kernel
theorem dX8_orbit_52 : decode cX8_orbit 52 = .ok (.getfield 10, 3) := by decide +kernel
theorem dX8_orbit_55 : decode cX8_orbit 55 = .ok (.iload_n 1, 1) := by decide +kernel
theorem dX8_orbit_56 : decode cX8_orbit 56 = .ok (.iload_n 2, 1) := by decide +kernel
theorem dX8_orbit_57 : decode cX8_orbit 57 = .ok (.invokevirtual 196, 3) := by decide +kernel
theorem dX8_orbit_60 : decode cX8_orbit 60 = .ok (.iload_n 3, 1) := by decide +kernel
theorem dX8_orbit_61 : decode cX8_orbit 61 = .ok (.ifCond .ne 11, 3) := by decide +kernel
theorem dX8_orbit_64 : decode cX8_orbit 64 = .ok (.aload_n 0, 1) := by decide +kernel
theorem dX8_orbit_65 : decode cX8_orbit 65 = .ok (.getfield 39, 3) := by decide +kernel
theorem dX8_orbit_68 : decode cX8_orbit 68 = .ok (.getfield 200, 3) := by decide +kernel
theorem dX8_orbit_71 : decode cX8_orbit 71 = .ok (.ireturn, 1) := by decide +kernel
theorem dX8_orbit_72 : decode cX8_orbit 72 = .ok (.iload_n 3, 1) := by decide +kernel
theorem dX8_orbit_73 : decode cX8_orbit 73 = .ok (.iconst 1, 1) := by decide +kernel
theorem dX8_orbit_74 : decode cX8_orbit 74 = .ok (.if_icmp .ne 11, 3) := by decide +kernel
theorem dX8_orbit_77 : decode cX8_orbit 77 = .ok (.aload_n 0, 1) := by decide +kernel
theorem dX8_orbit_78 : decode cX8_orbit 78 = .ok (.getfield 39, 3) := by decide +kernel
theorem dX8_orbit_81 : decode cX8_orbit 81 = .ok (.getfield 203, 3) := by decide +kernel
theorem dX8_orbit_84 : decode cX8_orbit 84 = .ok (.ireturn, 1) := by decide +kernel
theorem dX8_orbit_85 : decode cX8_orbit 85 = .ok (.iload_n 3, 1) := by decide +kernel
theorem dX8_orbit_86 : decode cX8_orbit 86 = .ok (.iconst 2, 1) := by decide +kernel
theorem dX8_orbit_87 : decode cX8_orbit 87 = .ok (.if_icmp .ne 13, 3) := by decide +kernel
theorem dX8_orbit_90 : decode cX8_orbit 90 = .ok (.aload_n 0, 1) := by decide +kernel
theorem dX8_orbit_91 : decode cX8_orbit 91 = .ok (.getfield 39, 3) := by decide +kernel
theorem dX8_orbit_94 : decode cX8_orbit 94 = .ok (.getfield 206, 3) := by decide +kernel
theorem dX8_orbit_97 : decode cX8_orbit 97 = .ok (.goto 10, 3) := by decide +kernel
theorem dX8_orbit_100 : decode cX8_orbit 100 = .ok (.aload_n 0, 1) := by decide +kernel
theorem dX8_orbit_101 : decode cX8_orbit 101 = .ok (.getfield 39, 3) := by decide +kernel
theorem dX8_orbit_104 : decode cX8_orbit 104 = .ok (.getfield 209, 3) := by decide +kernel
theorem dX8_orbit_107 : decode cX8_orbit 107 = .ok (.ireturn, 1) := by decide +kernel
set_option maxRecDepth 20000 in
theorem ggX8_orbits_X0_isTold : GoodIn wsX8_orbits wsX0_isTold := goodIn_r _ [7, 8, 99, 100, 101, 102, 103, 104, 105, 106, 107, 108, 109, 110, 111, 112, 113, 114] (by decide +kernel) (by decide +kernel)
set_option maxRecDepth 20000 in
theorem gX8_orbits_X0_isTold : GoodIn wsX8_orbits (wsV RX8 130 RX0 yX0_isTold wsX0_isTold) := goodIn_app (goodIn_of _ (by decide +kernel)) ggX8_orbits_X0_isTold
set_option maxRecDepth 20000 in
theorem ggX8_orbits_X1_isKeptUp : GoodIn wsX8_orbits wsX1_isKeptUp := goodIn_r _ [13, 14, 15, 16, 17, 12, 18, 19, 20, 21, 22, 23, 24, 25, 26, 27, 28, 29, 30, 31, 32, 33, 34, 35, 36, 37, 38, 39, 40, 41, 42, 43, 44, 45, 6, 46, 47, 48, 49, 50, 51, 8, 52, 53, 54, 55, 56, 57, 58, 59, 60, 61, 62, 63, 64, 99, 100, 101, 102, 103, 104, 105, 106, 107, 108, 109, 110, 111, 112, 113, 114, 115, 116, 117, 118, 119, 120, 121, 122] (by decide +kernel) (by decide +kernel)
set_option maxRecDepth 20000 in
theorem gX8_orbits_X1_isKeptUp : GoodIn wsX8_orbits (wsV RX8 151 RX1 yX1_isKeptUp wsX1_isKeptUp) := goodIn_app (goodIn_of _ (by decide +kernel)) ggX8_orbits_X1_isKeptUp
set_option maxRecDepth 20000 in
theorem ggX8_orbits_X1_orbitsOf : GoodIn wsX8_orbits wsX1_orbitsOf := goodIn_r _ [68, 69, 25, 20, 31, 32, 33, 34, 43, 44, 45, 6, 46, 47, 48, 49, 50, 51, 8, 52, 53, 40, 41, 42, 70, 71, 72, 12, 73, 74, 75, 76, 77, 78, 79, 80, 81, 82, 83, 84, 85, 86, 87, 54, 55, 56, 57, 58, 115, 116, 117, 118, 119, 120, 121, 122, 99, 100, 101, 102, 103, 104, 105, 106, 107, 108, 109, 110, 111, 112, 113, 114] (by decide +kernel) (by decide +kernel)
set_option maxRecDepth 20000 in
theorem gX8_orbits_X1_orbitsOf : GoodIn wsX8_orbits (wsV RX8 212 RX1 yX1_orbitsOf wsX1_orbitsOf) := goodIn_app (goodIn_of _ (by decide +kernel)) ggX8_orbits_X1_orbitsOf
theorem dX8_orbits_0 : decode cX8_orbits 0 = .ok (.aload_n 0, 1) := by decide +kernel
theorem dX8_orbits_1 : decode cX8_orbits 1 = .ok (.getfield 10, 3) := by decide +kernel
theorem dX8_orbits_4 : decode cX8_orbits 4 = .ok (.invokevirtual 130, 3) := by decide +kernel
theorem dX8_orbits_7 : decode cX8_orbits 7 = .ok (.ifCond .ne 6, 3) := by decide +kernel
theorem dX8_orbits_10 : decode cX8_orbits 10 = .ok (.bipush (-2), 2) := by decide +kernel
theorem dX8_orbits_12 : decode cX8_orbits 12 = .ok (.ireturn, 1) := by decide +kernel
theorem dX8_orbits_13 : decode cX8_orbits 13 = .ok (.aload_n 0, 1) := by decide +kernel
theorem dX8_orbits_14 : decode cX8_orbits 14 = .ok (.getfield 39, 3) := by decide +kernel
theorem dX8_orbits_17 : decode cX8_orbits 17 = .ok (.aload_n 0, 1) := by decide +kernel
theorem dX8_orbits_18 : decode cX8_orbits 18 = .ok (.getfield 10, 3) := by decide +kernel
theorem dX8_orbits_21 : decode cX8_orbits 21 = .ok (.invokevirtual 151, 3) := by decide +kernel
theorem dX8_orbits_24 : decode cX8_orbits 24 = .ok (.ifCond .eq 17, 3) := by decide +kernel
theorem dX8_orbits_27 : decode cX8_orbits 27 = .ok (.aload_n 0, 1) := by decide +kernel
theorem dX8_orbits_28 : decode cX8_orbits 28 = .ok (.getfield 39, 3) := by decide +kernel
theorem dX8_orbits_31 : decode cX8_orbits 31 = .ok (.aload_n 0, 1) := by decide +kernel
theorem dX8_orbits_32 : decode cX8_orbits 32 = .ok (.getfield 10, 3) := by decide +kernel
theorem dX8_orbits_35 : decode cX8_orbits 35 = .ok (.invokevirtual 212, 3) := by decide +kernel
theorem dX8_orbits_38 : decode cX8_orbits 38 = .ok (.goto 4, 3) := by decide +kernel
theorem dX8_orbits_41 : decode cX8_orbits 41 = .ok (.iconst (-1), 1) := by decide +kernel
theorem dX8_orbits_42 : decode cX8_orbits 42 = .ok (.ireturn, 1) := by decide +kernel
set_option maxRecDepth 20000 in
theorem ggX8_same_X0_hasRoof : GoodIn wsX8_same wsX0_hasRoof := goodIn_r _ [7, 8, 110, 111, 112, 113, 114, 115, 116, 117, 118, 119, 120, 121, 122, 123, 124, 125] (by decide +kernel) (by decide +kernel)
set_option maxRecDepth 20000 in
theorem gX8_same_X0_hasRoof : GoodIn wsX8_same (wsV RX8 106 RX0 yX0_hasRoof wsX0_hasRoof) := goodIn_app (goodIn_of _ (by decide +kernel)) ggX8_same_X0_hasRoof
set_option maxRecDepth 20000 in
theorem ggX8_same_X8_isBeat : GoodIn wsX8_same wsX8_isBeat := goodIn_r _ [12, 13, 14, 15, 11, 16] (by decide +kernel) (by decide +kernel)
set_option maxRecDepth 20000 in
theorem gX8_same_X8_isBeat : GoodIn wsX8_same (va_wsS RX8 109 yX8_isBeat wsX8_isBeat) := goodIn_app (goodIn_of _ (by decide +kernel)) ggX8_same_X8_isBeat
set_option maxRecDepth 20000 in
theorem ggX8_same_X1_isThrownFrom : GoodIn wsX8_same wsX1_isThrownFrom := goodIn_r _ [21, 22, 23, 24, 25, 20, 26, 27, 28, 29, 30, 31, 32, 33, 34, 35, 36, 37, 38, 39, 40, 41, 42, 43, 44, 45, 46, 47, 48, 49, 50, 51, 52, 53, 6, 54, 55, 56, 57, 58, 59, 8, 60, 61, 62, 63, 64, 65, 66, 67, 68, 69, 70, 71, 72, 110, 111, 112, 113, 114, 115, 116, 117, 118, 119, 120, 121, 122, 123, 124, 125, 126, 127, 128, 129, 130, 131, 132, 133] (by decide +kernel) (by decide +kernel)
set_option maxRecDepth 20000 in
theorem gX8_same_X1_isThrownFrom : GoodIn wsX8_same (wsV RX8 182 RX1 yX1_isThrownFrom wsX1_isThrownFrom) := goodIn_app (goodIn_of _ (by decide +kernel)) ggX8_same_X1_isThrownFrom
set_option maxRecDepth 20000 in
theorem ggX8_same_X1_comesBy : GoodIn wsX8_same wsX1_comesBy := goodIn_r _ [76, 77, 78, 79, 80, 81, 82, 20, 83, 84, 85, 28, 86, 87, 88, 89, 90, 91, 92, 93, 94, 51, 52, 53, 6, 54, 55, 56, 57, 58, 59, 8, 60, 61, 48, 49, 50, 62, 63, 64, 65, 66, 95, 96, 97, 98, 126, 127, 128, 129, 130, 131, 132, 133, 110, 111, 112, 113, 114, 115, 116, 117, 118, 119, 120, 121, 122, 123, 124, 125] (by decide +kernel) (by decide +kernel)
set_option maxRecDepth 20000 in
theorem gX8_same_X1_comesBy : GoodIn wsX8_same (wsV RX8 215 RX1 yX1_comesBy wsX1_comesBy) := goodIn_app (goodIn_of _ (by decide +kernel)) ggX8_same_X1_comesBy
theorem dX8_same_0 : decode cX8_same 0 = .ok (.aload_n 0, 1) := by decide +kernel
theorem dX8_same_1 : decode cX8_same 1 = .ok (.getfield 10, 3) := by decide +kernel
theorem dX8_same_4 : decode cX8_same 4 = .ok (.iload_n 1, 1) := by decide +kernel
theorem dX8_same_5 : decode cX8_same 5 = .ok (.invokevirtual 106, 3) := by decide +kernel
theorem dX8_same_8 : decode cX8_same 8 = .ok (.ifCond .eq 29, 3) := by decide +kernel
theorem dX8_same_11 : decode cX8_same 11 = .ok (.iload_n 2, 1) := by decide +kernel
theorem dX8_same_12 : decode cX8_same 12 = .ok (.invokestatic 109, 3) := by decide +kernel
theorem dX8_same_15 : decode cX8_same 15 = .ok (.ifCond .eq 22, 3) := by decide +kernel
theorem dX8_same_18 : decode cX8_same 18 = .ok (.aload_n 0, 1) := by decide +kernel
theorem dX8_same_19 : decode cX8_same 19 = .ok (.getfield 10, 3) := by decide +kernel
theorem dX8_same_22 : decode cX8_same 22 = .ok (.iload_n 3, 1) := by decide +kernel
theorem dX8_same_23 : decode cX8_same 23 = .ok (.invokevirtual 106, 3) := by decide +kernel
theorem dX8_same_26 : decode cX8_same 26 = .ok (.ifCond .eq 11, 3) := by decide +kernel
theorem dX8_same_29 : decode cX8_same 29 = .ok (.iload 4, 2) := by decide +kernel
theorem dX8_same_31 : decode cX8_same 31 = .ok (.invokestatic 109, 3) := by decide +kernel
theorem dX8_same_34 : decode cX8_same 34 = .ok (.ifCond .ne 6, 3) := by decide +kernel
theorem dX8_same_37 : decode cX8_same 37 = .ok (.bipush (-2), 2) := by decide +kernel
theorem dX8_same_39 : decode cX8_same 39 = .ok (.ireturn, 1) := by decide +kernel
theorem dX8_same_40 : decode cX8_same 40 = .ok (.aload_n 0, 1) := by decide +kernel
theorem dX8_same_41 : decode cX8_same 41 = .ok (.getfield 39, 3) := by decide +kernel
theorem dX8_same_44 : decode cX8_same 44 = .ok (.aload_n 0, 1) := by decide +kernel
theorem dX8_same_45 : decode cX8_same 45 = .ok (.getfield 10, 3) := by decide +kernel
theorem dX8_same_48 : decode cX8_same 48 = .ok (.iload_n 1, 1) := by decide +kernel
theorem dX8_same_49 : decode cX8_same 49 = .ok (.iload_n 2, 1) := by decide +kernel
theorem dX8_same_50 : decode cX8_same 50 = .ok (.invokevirtual 182, 3) := by decide +kernel
theorem dX8_same_53 : decode cX8_same 53 = .ok (.ifCond .ne 5, 3) := by decide +kernel
theorem dX8_same_56 : decode cX8_same 56 = .ok (.iconst (-1), 1) := by decide +kernel
theorem dX8_same_57 : decode cX8_same 57 = .ok (.ireturn, 1) := by decide +kernel
theorem dX8_same_58 : decode cX8_same 58 = .ok (.iload 4, 2) := by decide +kernel
theorem dX8_same_60 : decode cX8_same 60 = .ok (.iload_n 2, 1) := by decide +kernel
theorem dX8_same_61 : decode cX8_same 61 = .ok (.if_icmp .ge 5, 3) := by decide +kernel
theorem dX8_same_64 : decode cX8_same 64 = .ok (.iconst 0, 1) := by decide +kernel
theorem dX8_same_65 : decode cX8_same 65 = .ok (.ireturn, 1) := by decide +kernel
theorem dX8_same_66 : decode cX8_same 66 = .ok (.aload_n 0, 1) := by decide +kernel
theorem dX8_same_67 : decode cX8_same 67 = .ok (.getfield 39, 3) := by decide +kernel
theorem dX8_same_70 : decode cX8_same 70 = .ok (.aload_n 0, 1) := by decide +kernel
theorem dX8_same_71 : decode cX8_same 71 = .ok (.getfield 10, 3) := by decide +kernel
theorem dX8_same_74 : decode cX8_same 74 = .ok (.iload_n 1, 1) := by decide +kernel
theorem dX8_same_75 : decode cX8_same 75 = .ok (.iload_n 2, 1) := by decide +kernel
theorem dX8_same_76 : decode cX8_same 76 = .ok (.iload_n 3, 1) := by decide +kernel
theorem dX8_same_77 : decode cX8_same 77 = .ok (.iload 4, 2) := by decide +kernel
theorem dX8_same_79 : decode cX8_same 79 = .ok (.invokevirtual 215, 3) := by decide +kernel
theorem dX8_same_82 : decode cX8_same 82 = .ok (.ifCond .eq 7, 3) := by decide +kernel
theorem dX8_same_85 : decode cX8_same 85 = .ok (.iconst 1, 1) := by decide +kernel
theorem dX8_same_86 : decode cX8_same 86 = .ok (.goto 4, 3) := by decide +kernel
theorem dX8_same_89 : decode cX8_same 89 = .ok (.iconst 0, 1) := by decide +kernel
theorem dX8_same_90 : decode cX8_same 90 = .ok (.ireturn, 1) := by decide +kernel
set_option maxRecDepth 20000 in
theorem ggX8_misses_X0_hasRoof : GoodIn wsX8_misses wsX0_hasRoof := goodIn_r _ [7, 8, 102, 103, 104, 105, 106, 107, 108, 109, 110, 111, 112, 113, 114, 115, 116, 117] (by decide +kernel) (by decide +kernel)
set_option maxRecDepth 20000 in
theorem gX8_misses_X0_hasRoof : GoodIn wsX8_misses (wsV RX8 106 RX0 yX0_hasRoof wsX0_hasRoof) := goodIn_app (goodIn_of _ (by decide +kernel)) ggX8_misses_X0_hasRoof
set_option maxRecDepth 20000 in
theorem ggX8_misses_X8_isBeat : GoodIn wsX8_misses wsX8_isBeat := goodIn_r _ [12, 13, 14, 15, 11, 16] (by decide +kernel) (by decide +kernel)
set_option maxRecDepth 20000 in
theorem gX8_misses_X8_isBeat : GoodIn wsX8_misses (va_wsS RX8 109 yX8_isBeat wsX8_isBeat) := goodIn_app (goodIn_of _ (by decide +kernel)) ggX8_misses_X8_isBeat
set_option maxRecDepth 20000 in
theorem ggX8_misses_X1_isThrownFrom : GoodIn wsX8_misses wsX1_isThrownFrom := goodIn_r _ [21, 22, 23, 24, 25, 20, 26, 27, 28, 29, 30, 31, 32, 33, 34, 35, 36, 37, 38, 39, 40, 41, 42, 43, 44, 45, 46, 47, 48, 49, 50, 51, 52, 53, 6, 54, 55, 56, 57, 58, 59, 8, 60, 61, 62, 63, 64, 65, 66, 67, 68, 69, 70, 71, 72, 102, 103, 104, 105, 106, 107, 108, 109, 110, 111, 112, 113, 114, 115, 116, 117, 118, 119, 120, 121, 122, 123, 124, 125] (by decide +kernel) (by decide +kernel)
set_option maxRecDepth 20000 in
theorem gX8_misses_X1_isThrownFrom : GoodIn wsX8_misses (wsV RX8 182 RX1 yX1_isThrownFrom wsX1_isThrownFrom) := goodIn_app (goodIn_of _ (by decide +kernel)) ggX8_misses_X1_isThrownFrom
set_option maxRecDepth 20000 in
theorem ggX8_misses_X1_firstDown : GoodIn wsX8_misses wsX1_firstDown := goodIn_r _ [76, 77, 78, 79, 80, 81, 20, 82, 83, 84, 85, 86, 51, 52, 53, 6, 54, 55, 56, 57, 58, 59, 8, 60, 61, 48, 49, 50, 62, 63, 64, 65, 66, 87, 88, 89, 90, 28, 118, 119, 120, 121, 122, 123, 124, 125, 102, 103, 104, 105, 106, 107, 108, 109, 110, 111, 112, 113, 114, 115, 116, 117] (by decide +kernel) (by decide +kernel)
set_option maxRecDepth 20000 in
theorem gX8_misses_X1_firstDown : GoodIn wsX8_misses (wsV RX8 219 RX1 yX1_firstDown wsX1_firstDown) := goodIn_app (goodIn_of _ (by decide +kernel)) ggX8_misses_X1_firstDown
theorem dX8_misses_0 : decode cX8_misses 0 = .ok (.aload_n 0, 1) := by decide +kernel
theorem dX8_misses_1 : decode cX8_misses 1 = .ok (.getfield 10, 3) := by decide +kernel
theorem dX8_misses_4 : decode cX8_misses 4 = .ok (.iload_n 1, 1) := by decide +kernel
theorem dX8_misses_5 : decode cX8_misses 5 = .ok (.invokevirtual 106, 3) := by decide +kernel
theorem dX8_misses_8 : decode cX8_misses 8 = .ok (.ifCond .eq 21, 3) := by decide +kernel
theorem dX8_misses_11 : decode cX8_misses 11 = .ok (.iload_n 2, 1) := by decide +kernel
theorem dX8_misses_12 : decode cX8_misses 12 = .ok (.invokestatic 109, 3) := by decide +kernel
theorem dX8_misses_15 : decode cX8_misses 15 = .ok (.ifCond .eq 14, 3) := by decide +kernel
theorem dX8_misses_18 : decode cX8_misses 18 = .ok (.aload_n 0, 1) := by decide +kernel
theorem dX8_misses_19 : decode cX8_misses 19 = .ok (.getfield 10, 3) := by decide +kernel
theorem dX8_misses_22 : decode cX8_misses 22 = .ok (.iload_n 3, 1) := by decide +kernel
theorem dX8_misses_23 : decode cX8_misses 23 = .ok (.invokevirtual 106, 3) := by decide +kernel
theorem dX8_misses_26 : decode cX8_misses 26 = .ok (.ifCond .ne 6, 3) := by decide +kernel
theorem dX8_misses_29 : decode cX8_misses 29 = .ok (.bipush (-2), 2) := by decide +kernel
theorem dX8_misses_31 : decode cX8_misses 31 = .ok (.ireturn, 1) := by decide +kernel
theorem dX8_misses_32 : decode cX8_misses 32 = .ok (.aload_n 0, 1) := by decide +kernel
theorem dX8_misses_33 : decode cX8_misses 33 = .ok (.getfield 39, 3) := by decide +kernel
theorem dX8_misses_36 : decode cX8_misses 36 = .ok (.aload_n 0, 1) := by decide +kernel
theorem dX8_misses_37 : decode cX8_misses 37 = .ok (.getfield 10, 3) := by decide +kernel
theorem dX8_misses_40 : decode cX8_misses 40 = .ok (.iload_n 1, 1) := by decide +kernel
theorem dX8_misses_41 : decode cX8_misses 41 = .ok (.iload_n 2, 1) := by decide +kernel
theorem dX8_misses_42 : decode cX8_misses 42 = .ok (.invokevirtual 182, 3) := by decide +kernel
theorem dX8_misses_45 : decode cX8_misses 45 = .ok (.ifCond .ne 5, 3) := by decide +kernel
theorem dX8_misses_48 : decode cX8_misses 48 = .ok (.iconst (-1), 1) := by decide +kernel
theorem dX8_misses_49 : decode cX8_misses 49 = .ok (.ireturn, 1) := by decide +kernel
theorem dX8_misses_50 : decode cX8_misses 50 = .ok (.aload_n 0, 1) := by decide +kernel
theorem dX8_misses_51 : decode cX8_misses 51 = .ok (.getfield 39, 3) := by decide +kernel
theorem dX8_misses_54 : decode cX8_misses 54 = .ok (.aload_n 0, 1) := by decide +kernel
theorem dX8_misses_55 : decode cX8_misses 55 = .ok (.getfield 10, 3) := by decide +kernel
theorem dX8_misses_58 : decode cX8_misses 58 = .ok (.iload_n 1, 1) := by decide +kernel
theorem dX8_misses_59 : decode cX8_misses 59 = .ok (.iload_n 2, 1) := by decide +kernel
theorem dX8_misses_60 : decode cX8_misses 60 = .ok (.iload_n 3, 1) := by decide +kernel
theorem dX8_misses_61 : decode cX8_misses 61 = .ok (.invokevirtual 219, 3) := by decide +kernel
theorem dX8_misses_64 : decode cX8_misses 64 = .ok (.ireturn, 1) := by decide +kernel
set_option maxRecDepth 20000 in
theorem ggX8_missed_X0_hasRoof : GoodIn wsX8_missed wsX0_hasRoof := goodIn_r _ [7, 8, 106, 107, 108, 109, 110, 111, 112, 113, 114, 115, 116, 117, 118, 119, 120, 121] (by decide +kernel) (by decide +kernel)
set_option maxRecDepth 20000 in
theorem gX8_missed_X0_hasRoof : GoodIn wsX8_missed (wsV RX8 106 RX0 yX0_hasRoof wsX0_hasRoof) := goodIn_app (goodIn_of _ (by decide +kernel)) ggX8_missed_X0_hasRoof
set_option maxRecDepth 20000 in
theorem ggX8_missed_X8_isBeat : GoodIn wsX8_missed wsX8_isBeat := goodIn_r _ [12, 13, 14, 15, 11, 16] (by decide +kernel) (by decide +kernel)
set_option maxRecDepth 20000 in
theorem gX8_missed_X8_isBeat : GoodIn wsX8_missed (va_wsS RX8 109 yX8_isBeat wsX8_isBeat) := goodIn_app (goodIn_of _ (by decide +kernel)) ggX8_missed_X8_isBeat
set_option maxRecDepth 20000 in
theorem ggX8_missed_X8_isWithin : GoodIn wsX8_missed wsX8_isWithin := goodIn_r _ [16] (by decide +kernel) (by decide +kernel)
set_option maxRecDepth 20000 in
theorem gX8_missed_X8_isWithin : GoodIn wsX8_missed (va_wsS RX8 112 yX8_isWithin wsX8_isWithin) := goodIn_app (goodIn_of _ (by decide +kernel)) ggX8_missed_X8_isWithin
set_option maxRecDepth 20000 in
theorem ggX8_missed_X1_isThrownFrom : GoodIn wsX8_missed wsX1_isThrownFrom := goodIn_r _ [21, 22, 23, 24, 25, 20, 26, 27, 28, 29, 30, 31, 32, 33, 34, 35, 36, 37, 38, 39, 40, 41, 42, 43, 44, 45, 46, 47, 48, 49, 50, 51, 52, 53, 6, 54, 55, 56, 57, 58, 59, 8, 60, 61, 62, 63, 64, 65, 66, 67, 68, 69, 70, 71, 72, 106, 107, 108, 109, 110, 111, 112, 113, 114, 115, 116, 117, 118, 119, 120, 121, 122, 123, 124, 125, 126, 127, 128, 129] (by decide +kernel) (by decide +kernel)
set_option maxRecDepth 20000 in
theorem gX8_missed_X1_isThrownFrom : GoodIn wsX8_missed (wsV RX8 182 RX1 yX1_isThrownFrom wsX1_isThrownFrom) := goodIn_app (goodIn_of _ (by decide +kernel)) ggX8_missed_X1_isThrownFrom
set_option maxRecDepth 20000 in
theorem ggX8_missed_X1_firstDown : GoodIn wsX8_missed wsX1_firstDown := goodIn_r _ [76, 77, 78, 79, 80, 81, 20, 82, 83, 84, 85, 86, 51, 52, 53, 6, 54, 55, 56, 57, 58, 59, 8, 60, 61, 48, 49, 50, 62, 63, 64, 65, 66, 87, 88, 89, 90, 28, 122, 123, 124, 125, 126, 127, 128, 129, 106, 107, 108, 109, 110, 111, 112, 113, 114, 115, 116, 117, 118, 119, 120, 121] (by decide +kernel) (by decide +kernel)
set_option maxRecDepth 20000 in
theorem gX8_missed_X1_firstDown : GoodIn wsX8_missed (wsV RX8 219 RX1 yX1_firstDown wsX1_firstDown) := goodIn_app (goodIn_of _ (by decide +kernel)) ggX8_missed_X1_firstDown
set_option maxRecDepth 20000 in
theorem ggX8_missed_X1_timesDown : GoodIn wsX8_missed wsX1_timesDown := goodIn_r _ [94, 78, 77, 79, 80, 81, 20, 82, 83, 84, 85, 86, 51, 52, 53, 6, 54, 55, 56, 57, 58, 59, 8, 60, 61, 48, 49, 50, 62, 63, 64, 65, 66, 122, 123, 124, 125, 126, 127, 128, 129, 106, 107, 108, 109, 110, 111, 112, 113, 114, 115, 116, 117, 118, 119, 120, 121] (by decide +kernel) (by decide +kernel)
set_option maxRecDepth 20000 in
theorem gX8_missed_X1_timesDown : GoodIn wsX8_missed (wsV RX8 223 RX1 yX1_timesDown wsX1_timesDown) := goodIn_app (goodIn_of _ (by decide +kernel)) ggX8_missed_X1_timesDown
theorem dX8_missed_0 : decode cX8_missed 0 = .ok (.aload_n 0, 1) := by decide +kernel
theorem dX8_missed_1 : decode cX8_missed 1 = .ok (.getfield 10, 3) := by decide +kernel
theorem dX8_missed_4 : decode cX8_missed 4 = .ok (.iload_n 1, 1) := by decide +kernel
theorem dX8_missed_5 : decode cX8_missed 5 = .ok (.invokevirtual 106, 3) := by decide +kernel
theorem dX8_missed_8 : decode cX8_missed 8 = .ok (.ifCond .eq 32, 3) := by decide +kernel
theorem dX8_missed_11 : decode cX8_missed 11 = .ok (.iload_n 2, 1) := by decide +kernel
theorem dX8_missed_12 : decode cX8_missed 12 = .ok (.invokestatic 109, 3) := by decide +kernel
theorem dX8_missed_15 : decode cX8_missed 15 = .ok (.ifCond .eq 25, 3) := by decide +kernel
theorem dX8_missed_18 : decode cX8_missed 18 = .ok (.aload_n 0, 1) := by decide +kernel
theorem dX8_missed_19 : decode cX8_missed 19 = .ok (.getfield 10, 3) := by decide +kernel
theorem dX8_missed_22 : decode cX8_missed 22 = .ok (.iload_n 3, 1) := by decide +kernel
theorem dX8_missed_23 : decode cX8_missed 23 = .ok (.invokevirtual 106, 3) := by decide +kernel
theorem dX8_missed_26 : decode cX8_missed 26 = .ok (.ifCond .eq 14, 3) := by decide +kernel
theorem dX8_missed_29 : decode cX8_missed 29 = .ok (.iload 4, 2) := by decide +kernel
theorem dX8_missed_31 : decode cX8_missed 31 = .ok (.sipush 10000, 3) := by decide +kernel
theorem dX8_missed_34 : decode cX8_missed 34 = .ok (.invokestatic 112, 3) := by decide +kernel
theorem dX8_missed_37 : decode cX8_missed 37 = .ok (.ifCond .ne 6, 3) := by decide +kernel
theorem dX8_missed_40 : decode cX8_missed 40 = .ok (.bipush (-2), 2) := by decide +kernel
theorem dX8_missed_42 : decode cX8_missed 42 = .ok (.ireturn, 1) := by decide +kernel
theorem dX8_missed_43 : decode cX8_missed 43 = .ok (.aload_n 0, 1) := by decide +kernel
theorem dX8_missed_44 : decode cX8_missed 44 = .ok (.getfield 39, 3) := by decide +kernel
theorem dX8_missed_47 : decode cX8_missed 47 = .ok (.aload_n 0, 1) := by decide +kernel
theorem dX8_missed_48 : decode cX8_missed 48 = .ok (.getfield 10, 3) := by decide +kernel
theorem dX8_missed_51 : decode cX8_missed 51 = .ok (.iload_n 1, 1) := by decide +kernel
theorem dX8_missed_52 : decode cX8_missed 52 = .ok (.iload_n 2, 1) := by decide +kernel
theorem dX8_missed_53 : decode cX8_missed 53 = .ok (.invokevirtual 182, 3) := by decide +kernel
theorem dX8_missed_56 : decode cX8_missed 56 = .ok (.ifCond .eq 21, 3) := by decide +kernel
theorem dX8_missed_59 : decode cX8_missed 59 = .ok (.aload_n 0, 1) := by decide +kernel
theorem dX8_missed_60 : decode cX8_missed 60 = .ok (.getfield 39, 3) := by decide +kernel
theorem dX8_missed_63 : decode cX8_missed 63 = .ok (.aload_n 0, 1) := by decide +kernel
theorem dX8_missed_64 : decode cX8_missed 64 = .ok (.getfield 10, 3) := by decide +kernel
theorem dX8_missed_67 : decode cX8_missed 67 = .ok (.iload_n 1, 1) := by decide +kernel
theorem dX8_missed_68 : decode cX8_missed 68 = .ok (.iload_n 2, 1) := by decide +kernel
theorem dX8_missed_69 : decode cX8_missed 69 = .ok (.iload_n 3, 1) := by decide +kernel
theorem dX8_missed_70 : decode cX8_missed 70 = .ok (.invokevirtual 219, 3) := by decide +kernel
theorem dX8_missed_73 : decode cX8_missed 73 = .ok (.iconst (-1), 1) := by decide +kernel
theorem dX8_missed_74 : decode cX8_missed 74 = .ok (.if_icmp .ne 5, 3) := by decide +kernel
theorem dX8_missed_77 : decode cX8_missed 77 = .ok (.iconst (-1), 1) := by decide +kernel
theorem dX8_missed_78 : decode cX8_missed 78 = .ok (.ireturn, 1) := by decide +kernel
theorem dX8_missed_79 : decode cX8_missed 79 = .ok (.aload_n 0, 1) := by decide +kernel
theorem dX8_missed_80 : decode cX8_missed 80 = .ok (.getfield 39, 3) := by decide +kernel
theorem dX8_missed_83 : decode cX8_missed 83 = .ok (.aload_n 0, 1) := by decide +kernel
theorem dX8_missed_84 : decode cX8_missed 84 = .ok (.getfield 10, 3) := by decide +kernel
theorem dX8_missed_87 : decode cX8_missed 87 = .ok (.iload_n 1, 1) := by decide +kernel
theorem dX8_missed_88 : decode cX8_missed 88 = .ok (.iload_n 2, 1) := by decide +kernel
theorem dX8_missed_89 : decode cX8_missed 89 = .ok (.iload_n 3, 1) := by decide +kernel
theorem dX8_missed_90 : decode cX8_missed 90 = .ok (.iload 4, 2) := by decide +kernel
theorem dX8_missed_92 : decode cX8_missed 92 = .ok (.invokevirtual 223, 3) := by decide +kernel
theorem dX8_missed_95 : decode cX8_missed 95 = .ok (.ireturn, 1) := by decide +kernel
set_option maxRecDepth 20000 in
theorem ggX8_crossings_X0_isTold : GoodIn wsX8_crossings wsX0_isTold := goodIn_r _ [8, 9, 88, 89, 90, 91, 92, 93, 94, 95, 96, 97, 98, 99, 100, 101, 102, 103] (by decide +kernel) (by decide +kernel)
set_option maxRecDepth 20000 in
theorem gX8_crossings_X0_isTold : GoodIn wsX8_crossings (wsV RX8 130 RX0 yX0_isTold wsX0_isTold) := goodIn_app (goodIn_of _ (by decide +kernel)) ggX8_crossings_X0_isTold
set_option maxRecDepth 20000 in
theorem ggX8_crossings_X8_isWithin : GoodIn wsX8_crossings wsX8_isWithin := goodIn_r _ [13] (by decide +kernel) (by decide +kernel)
set_option maxRecDepth 20000 in
theorem gX8_crossings_X8_isWithin : GoodIn wsX8_crossings (va_wsS RX8 112 yX8_isWithin wsX8_isWithin) := goodIn_app (goodIn_of _ (by decide +kernel)) ggX8_crossings_X8_isWithin
set_option maxRecDepth 20000 in
theorem ggX8_crossings_X1_roundOf : GoodIn wsX8_crossings wsX1_roundOf := goodIn_r _ [18, 19, 20, 21, 22, 17, 23, 24, 25, 26, 27, 28, 29, 30, 31, 32, 33, 34, 35, 36, 37, 38, 39, 40, 41, 42, 43, 44, 45, 46, 47, 48, 49, 50, 7, 51, 52, 53, 54, 55, 56, 9, 57, 58, 59, 60, 61, 62, 63, 64, 65, 66, 67, 68, 69, 88, 89, 90, 91, 92, 93, 94, 95, 96, 97, 98, 99, 100, 101, 102, 103, 104, 105, 106, 107, 108, 109, 110, 111] (by decide +kernel) (by decide +kernel)
set_option maxRecDepth 20000 in
theorem gX8_crossings_X1_roundOf : GoodIn wsX8_crossings (wsV RX8 133 RX1 yX1_roundOf wsX1_roundOf) := goodIn_app (goodIn_of _ (by decide +kernel)) ggX8_crossings_X1_roundOf
set_option maxRecDepth 20000 in
theorem ggX8_crossings_X0_crossesAt : GoodIn wsX8_crossings wsX0_crossesAt := goodIn_r _ [73, 74, 75, 60, 61, 7, 62, 63, 53, 54, 55, 56, 9, 57, 58, 45, 46, 47, 88, 89, 90, 91, 92, 93, 94, 95, 96, 97, 98, 99, 100, 101, 102, 103] (by decide +kernel) (by decide +kernel)
set_option maxRecDepth 20000 in
theorem gX8_crossings_X0_crossesAt : GoodIn wsX8_crossings (wsV RX8 227 RX0 yX0_crossesAt wsX0_crossesAt) := goodIn_app (goodIn_of _ (by decide +kernel)) ggX8_crossings_X0_crossesAt
set_option maxRecDepth 20000 in
theorem ggX8_crossings_X0_goalAt : GoodIn wsX8_crossings wsX0_goalAt := goodIn_r _ [62, 63, 53, 54, 55, 7, 56, 9, 57, 58, 45, 46, 47, 88, 89, 90, 91, 92, 93, 94, 95, 96, 97, 98, 99, 100, 101, 102, 103] (by decide +kernel) (by decide +kernel)
set_option maxRecDepth 20000 in
theorem gX8_crossings_X0_goalAt : GoodIn wsX8_crossings (wsV RX8 120 RX0 yX0_goalAt wsX0_goalAt) := goodIn_app (goodIn_of _ (by decide +kernel)) ggX8_crossings_X0_goalAt
theorem dX8_crossings_0 : decode cX8_crossings 0 = .ok (.aload_n 0, 1) := by decide +kernel
theorem dX8_crossings_1 : decode cX8_crossings 1 = .ok (.getfield 10, 3) := by decide +kernel
theorem dX8_crossings_4 : decode cX8_crossings 4 = .ok (.invokevirtual 130, 3) := by decide +kernel
theorem dX8_crossings_7 : decode cX8_crossings 7 = .ok (.ifCond .eq 11, 3) := by decide +kernel
theorem dX8_crossings_10 : decode cX8_crossings 10 = .ok (.iload_n 1, 1) := by decide +kernel
theorem dX8_crossings_11 : decode cX8_crossings 11 = .ok (.iconst 3, 1) := by decide +kernel
theorem dX8_crossings_12 : decode cX8_crossings 12 = .ok (.invokestatic 112, 3) := by decide +kernel
theorem dX8_crossings_15 : decode cX8_crossings 15 = .ok (.ifCond .ne 6, 3) := by decide +kernel
theorem dX8_crossings_18 : decode cX8_crossings 18 = .ok (.bipush (-2), 2) := by decide +kernel
theorem dX8_crossings_20 : decode cX8_crossings 20 = .ok (.ireturn, 1) := by decide +kernel
theorem dX8_crossings_21 : decode cX8_crossings 21 = .ok (.aload_n 0, 1) := by decide +kernel
theorem dX8_crossings_22 : decode cX8_crossings 22 = .ok (.getfield 39, 3) := by decide +kernel
theorem dX8_crossings_25 : decode cX8_crossings 25 = .ok (.aload_n 0, 1) := by decide +kernel
theorem dX8_crossings_26 : decode cX8_crossings 26 = .ok (.getfield 10, 3) := by decide +kernel
theorem dX8_crossings_29 : decode cX8_crossings 29 = .ok (.invokevirtual 133, 3) := by decide +kernel
theorem dX8_crossings_32 : decode cX8_crossings 32 = .ok (.istore_n 2, 1) := by decide +kernel
theorem dX8_crossings_33 : decode cX8_crossings 33 = .ok (.iconst 0, 1) := by decide +kernel
theorem dX8_crossings_34 : decode cX8_crossings 34 = .ok (.istore_n 3, 1) := by decide +kernel
theorem dX8_crossings_35 : decode cX8_crossings 35 = .ok (.iconst (-1), 1) := by decide +kernel
theorem dX8_crossings_36 : decode cX8_crossings 36 = .ok (.istore 4, 2) := by decide +kernel
theorem dX8_crossings_38 : decode cX8_crossings 38 = .ok (.iconst 0, 1) := by decide +kernel
theorem dX8_crossings_39 : decode cX8_crossings 39 = .ok (.istore 5, 2) := by decide +kernel
theorem dX8_crossings_41 : decode cX8_crossings 41 = .ok (.iload 5, 2) := by decide +kernel
theorem dX8_crossings_43 : decode cX8_crossings 43 = .ok (.iload_n 2, 1) := by decide +kernel
theorem dX8_crossings_44 : decode cX8_crossings 44 = .ok (.if_icmp .ge 68, 3) := by decide +kernel
theorem dX8_crossings_47 : decode cX8_crossings 47 = .ok (.iconst 0, 1) := by decide +kernel
theorem dX8_crossings_48 : decode cX8_crossings 48 = .ok (.istore 6, 2) := by decide +kernel
theorem dX8_crossings_50 : decode cX8_crossings 50 = .ok (.iload 6, 2) := by decide +kernel
theorem dX8_crossings_52 : decode cX8_crossings 52 = .ok (.aload_n 0, 1) := by decide +kernel
theorem dX8_crossings_53 : decode cX8_crossings 53 = .ok (.getfield 10, 3) := by decide +kernel
theorem dX8_crossings_56 : decode cX8_crossings 56 = .ok (.getfield 155, 3) := by decide +kernel
theorem dX8_crossings_59 : decode cX8_crossings 59 = .ok (.if_icmp .ge 47, 3) := by decide +kernel
theorem dX8_crossings_62 : decode cX8_crossings 62 = .ok (.aload_n 0, 1) := by decide +kernel
theorem dX8_crossings_63 : decode cX8_crossings 63 = .ok (.getfield 10, 3) := by decide +kernel
theorem dX8_crossings_66 : decode cX8_crossings 66 = .ok (.iload 6, 2) := by decide +kernel
theorem dX8_crossings_68 : decode cX8_crossings 68 = .ok (.iload 5, 2) := by decide +kernel
theorem dX8_crossings_70 : decode cX8_crossings 70 = .ok (.invokevirtual 227, 3) := by decide +kernel
theorem dX8_crossings_73 : decode cX8_crossings 73 = .ok (.ifCond .eq 27, 3) := by decide +kernel
theorem dX8_crossings_76 : decode cX8_crossings 76 = .ok (.iinc 3 1, 3) := by decide +kernel
theorem dX8_crossings_79 : decode cX8_crossings 79 = .ok (.iload 4, 2) := by decide +kernel
theorem dX8_crossings_81 : decode cX8_crossings 81 = .ok (.iconst (-1), 1) := by decide +kernel
theorem dX8_crossings_82 : decode cX8_crossings 82 = .ok (.if_icmp .ne 14, 3) := by decide +kernel
theorem dX8_crossings_85 : decode cX8_crossings 85 = .ok (.iload 5, 2) := by decide +kernel
theorem dX8_crossings_87 : decode cX8_crossings 87 = .ok (.bipush 10, 2) := by decide +kernel
theorem dX8_crossings_89 : decode cX8_crossings 89 = .ok (.imul, 1) := by decide +kernel
theorem dX8_crossings_90 : decode cX8_crossings 90 = .ok (.iload 6, 2) := by decide +kernel
theorem dX8_crossings_92 : decode cX8_crossings 92 = .ok (.iadd, 1) := by decide +kernel
theorem dX8_crossings_93 : decode cX8_crossings 93 = .ok (.goto 5, 3) := by decide +kernel
theorem dX8_crossings_96 : decode cX8_crossings 96 = .ok (.iload 4, 2) := by decide +kernel
theorem dX8_crossings_98 : decode cX8_crossings 98 = .ok (.istore 4, 2) := by decide +kernel
theorem dX8_crossings_100 : decode cX8_crossings 100 = .ok (.iinc 6 1, 3) := by decide +kernel
theorem dX8_crossings_103 : decode cX8_crossings 103 = .ok (.goto (-53), 3) := by decide +kernel
theorem dX8_crossings_106 : decode cX8_crossings 106 = .ok (.iinc 5 1, 3) := by decide +kernel
theorem dX8_crossings_109 : decode cX8_crossings 109 = .ok (.goto (-68), 3) := by decide +kernel
theorem dX8_crossings_112 : decode cX8_crossings 112 = .ok (.iload_n 1, 1) := by decide +kernel
theorem dX8_crossings_113 : decode cX8_crossings 113 = .ok (.ifCond .ne 5, 3) := by decide +kernel
theorem dX8_crossings_116 : decode cX8_crossings 116 = .ok (.iload_n 3, 1) := by decide +kernel
theorem dX8_crossings_117 : decode cX8_crossings 117 = .ok (.ireturn, 1) := by decide +kernel
theorem dX8_crossings_118 : decode cX8_crossings 118 = .ok (.iload 4, 2) := by decide +kernel
theorem dX8_crossings_120 : decode cX8_crossings 120 = .ok (.iconst (-1), 1) := by decide +kernel
theorem dX8_crossings_121 : decode cX8_crossings 121 = .ok (.if_icmp .ne 5, 3) := by decide +kernel
theorem dX8_crossings_124 : decode cX8_crossings 124 = .ok (.iconst (-1), 1) := by decide +kernel
theorem dX8_crossings_125 : decode cX8_crossings 125 = .ok (.ireturn, 1) := by decide +kernel
theorem dX8_crossings_126 : decode cX8_crossings 126 = .ok (.iload_n 1, 1) := by decide +kernel
theorem dX8_crossings_127 : decode cX8_crossings 127 = .ok (.iconst 1, 1) := by decide +kernel
theorem dX8_crossings_128 : decode cX8_crossings 128 = .ok (.if_icmp .ne 9, 3) := by decide +kernel
theorem dX8_crossings_131 : decode cX8_crossings 131 = .ok (.iload 4, 2) := by decide +kernel
theorem dX8_crossings_133 : decode cX8_crossings 133 = .ok (.bipush 10, 2) := by decide +kernel
theorem dX8_crossings_135 : decode cX8_crossings 135 = .ok (.idiv, 1) := by decide +kernel
theorem dX8_crossings_136 : decode cX8_crossings 136 = .ok (.ireturn, 1) := by decide +kernel
theorem dX8_crossings_137 : decode cX8_crossings 137 = .ok (.iload_n 1, 1) := by decide +kernel
theorem dX8_crossings_138 : decode cX8_crossings 138 = .ok (.iconst 2, 1) := by decide +kernel
theorem dX8_crossings_139 : decode cX8_crossings 139 = .ok (.if_icmp .ne 11, 3) := by decide +kernel
theorem dX8_crossings_142 : decode cX8_crossings 142 = .ok (.iload 4, 2) := by decide +kernel
theorem dX8_crossings_144 : decode cX8_crossings 144 = .ok (.bipush 10, 2) := by decide +kernel
theorem dX8_crossings_146 : decode cX8_crossings 146 = .ok (.irem, 1) := by decide +kernel
theorem dX8_crossings_147 : decode cX8_crossings 147 = .ok (.goto 20, 3) := by decide +kernel
theorem dX8_crossings_150 : decode cX8_crossings 150 = .ok (.aload_n 0, 1) := by decide +kernel
theorem dX8_crossings_151 : decode cX8_crossings 151 = .ok (.getfield 10, 3) := by decide +kernel
theorem dX8_crossings_154 : decode cX8_crossings 154 = .ok (.iload 4, 2) := by decide +kernel
theorem dX8_crossings_156 : decode cX8_crossings 156 = .ok (.bipush 10, 2) := by decide +kernel
theorem dX8_crossings_158 : decode cX8_crossings 158 = .ok (.irem, 1) := by decide +kernel
theorem dX8_crossings_159 : decode cX8_crossings 159 = .ok (.iload 4, 2) := by decide +kernel
theorem dX8_crossings_161 : decode cX8_crossings 161 = .ok (.bipush 10, 2) := by decide +kernel
theorem dX8_crossings_163 : decode cX8_crossings 163 = .ok (.idiv, 1) := by decide +kernel
theorem dX8_crossings_164 : decode cX8_crossings 164 = .ok (.invokevirtual 120, 3) := by decide +kernel
theorem dX8_crossings_167 : decode cX8_crossings 167 = .ok (.ireturn, 1) := by decide +kernel
set_option maxRecDepth 20000 in
theorem ggX8_suits_X0_hasRoof : GoodIn wsX8_suits wsX0_hasRoof := goodIn_r _ [6, 7, 96, 97, 98, 99, 100, 101, 102, 103, 104, 105, 106, 107, 108, 109, 110, 111] (by decide +kernel) (by decide +kernel)
set_option maxRecDepth 20000 in
theorem gX8_suits_X0_hasRoof : GoodIn wsX8_suits (wsV RX8 106 RX0 yX0_hasRoof wsX0_hasRoof) := goodIn_app (goodIn_of _ (by decide +kernel)) ggX8_suits_X0_hasRoof
set_option maxRecDepth 20000 in
theorem ggX8_suits_X8_firstUnsuited : GoodIn wsX8_suits wsX8_firstUnsuited := goodIn_r _ [12, 13, 1, 14, 15, 16, 17, 18, 19, 20, 21, 22, 23, 24, 25, 26, 27, 28, 29, 30, 31, 32, 33, 34, 35, 36, 37, 38, 39, 40, 41, 42, 43, 44, 45, 46, 47, 48, 49, 50, 5, 51, 52, 53, 54, 55, 56, 7, 57, 58, 59, 60, 61, 62, 63, 64, 65, 66, 67, 68, 69, 70, 71, 72, 73, 74, 75, 76, 77, 78, 79, 80, 81, 82, 83, 84, 85, 86, 87, 88, 89, 90, 91, 92, 93, 94, 95, 96, 97, 98, 99, 100, 101, 102, 103, 104, 105, 106, 107, 108, 109, 110, 111, 112, 113, 114, 115, 116, 117, 118, 119] (by decide +kernel) (by decide +kernel)
set_option maxRecDepth 20000 in
theorem gX8_suits_X8_firstUnsuited : GoodIn wsX8_suits (wsV RX8 230 RX8 yX8_firstUnsuited wsX8_firstUnsuited) := goodIn_app (goodIn_of _ (by decide +kernel)) ggX8_suits_X8_firstUnsuited
theorem dX8_suits_0 : decode cX8_suits 0 = .ok (.aload_n 0, 1) := by decide +kernel
theorem dX8_suits_1 : decode cX8_suits 1 = .ok (.getfield 10, 3) := by decide +kernel
theorem dX8_suits_4 : decode cX8_suits 4 = .ok (.iload_n 1, 1) := by decide +kernel
theorem dX8_suits_5 : decode cX8_suits 5 = .ok (.invokevirtual 106, 3) := by decide +kernel
theorem dX8_suits_8 : decode cX8_suits 8 = .ok (.ifCond .ne 6, 3) := by decide +kernel
theorem dX8_suits_11 : decode cX8_suits 11 = .ok (.bipush (-2), 2) := by decide +kernel
theorem dX8_suits_13 : decode cX8_suits 13 = .ok (.ireturn, 1) := by decide +kernel
theorem dX8_suits_14 : decode cX8_suits 14 = .ok (.aload_n 0, 1) := by decide +kernel
theorem dX8_suits_15 : decode cX8_suits 15 = .ok (.iload_n 1, 1) := by decide +kernel
theorem dX8_suits_16 : decode cX8_suits 16 = .ok (.invokevirtual 230, 3) := by decide +kernel
theorem dX8_suits_19 : decode cX8_suits 19 = .ok (.iconst (-1), 1) := by decide +kernel
theorem dX8_suits_20 : decode cX8_suits 20 = .ok (.if_icmp .ne 7, 3) := by decide +kernel
theorem dX8_suits_23 : decode cX8_suits 23 = .ok (.iconst 1, 1) := by decide +kernel
theorem dX8_suits_24 : decode cX8_suits 24 = .ok (.goto 4, 3) := by decide +kernel
theorem dX8_suits_27 : decode cX8_suits 27 = .ok (.iconst 0, 1) := by decide +kernel
theorem dX8_suits_28 : decode cX8_suits 28 = .ok (.ireturn, 1) := by decide +kernel
set_option maxRecDepth 20000 in
theorem ggX8_unsuited_X0_hasRoof : GoodIn wsX8_unsuited wsX0_hasRoof := goodIn_r _ [6, 7, 96, 97, 98, 99, 100, 101, 102, 103, 104, 105, 106, 107, 108, 109, 110, 111] (by decide +kernel) (by decide +kernel)
set_option maxRecDepth 20000 in
theorem gX8_unsuited_X0_hasRoof : GoodIn wsX8_unsuited (wsV RX8 106 RX0 yX0_hasRoof wsX0_hasRoof) := goodIn_app (goodIn_of _ (by decide +kernel)) ggX8_unsuited_X0_hasRoof
set_option maxRecDepth 20000 in
theorem ggX8_unsuited_X8_firstUnsuited : GoodIn wsX8_unsuited wsX8_firstUnsuited := goodIn_r _ [12, 13, 1, 14, 15, 16, 17, 18, 19, 20, 21, 22, 23, 24, 25, 26, 27, 28, 29, 30, 31, 32, 33, 34, 35, 36, 37, 38, 39, 40, 41, 42, 43, 44, 45, 46, 47, 48, 49, 50, 5, 51, 52, 53, 54, 55, 56, 7, 57, 58, 59, 60, 61, 62, 63, 64, 65, 66, 67, 68, 69, 70, 71, 72, 73, 74, 75, 76, 77, 78, 79, 80, 81, 82, 83, 84, 85, 86, 87, 88, 89, 90, 91, 92, 93, 94, 95, 96, 97, 98, 99, 100, 101, 102, 103, 104, 105, 106, 107, 108, 109, 110, 111, 112, 113, 114, 115, 116, 117, 118, 119] (by decide +kernel) (by decide +kernel)
set_option maxRecDepth 20000 in
theorem gX8_unsuited_X8_firstUnsuited : GoodIn wsX8_unsuited (wsV RX8 230 RX8 yX8_firstUnsuited wsX8_firstUnsuited) := goodIn_app (goodIn_of _ (by decide +kernel)) ggX8_unsuited_X8_firstUnsuited
theorem dX8_unsuited_0 : decode cX8_unsuited 0 = .ok (.aload_n 0, 1) := by decide +kernel
theorem dX8_unsuited_1 : decode cX8_unsuited 1 = .ok (.getfield 10, 3) := by decide +kernel
theorem dX8_unsuited_4 : decode cX8_unsuited 4 = .ok (.iload_n 1, 1) := by decide +kernel
theorem dX8_unsuited_5 : decode cX8_unsuited 5 = .ok (.invokevirtual 106, 3) := by decide +kernel
theorem dX8_unsuited_8 : decode cX8_unsuited 8 = .ok (.ifCond .eq 11, 3) := by decide +kernel
theorem dX8_unsuited_11 : decode cX8_unsuited 11 = .ok (.aload_n 0, 1) := by decide +kernel
theorem dX8_unsuited_12 : decode cX8_unsuited 12 = .ok (.iload_n 1, 1) := by decide +kernel
theorem dX8_unsuited_13 : decode cX8_unsuited 13 = .ok (.invokevirtual 230, 3) := by decide +kernel
theorem dX8_unsuited_16 : decode cX8_unsuited 16 = .ok (.goto 5, 3) := by decide +kernel
theorem dX8_unsuited_19 : decode cX8_unsuited 19 = .ok (.bipush (-2), 2) := by decide +kernel
theorem dX8_unsuited_21 : decode cX8_unsuited 21 = .ok (.ireturn, 1) := by decide +kernel
set_option maxRecDepth 20000 in
theorem ggX8_firstUnsuited_X1_roundOf : GoodIn wsX8_firstUnsuited wsX1_roundOf := goodIn_r _ [7, 8, 9, 10, 11, 6, 12, 13, 14, 15, 16, 17, 18, 19, 20, 21, 22, 23, 24, 25, 26, 27, 28, 29, 30, 31, 32, 33, 34, 35, 36, 37, 38, 39, 40, 41, 42, 43, 44, 45, 46, 47, 48, 49, 50, 51, 52, 53, 54, 55, 56, 57, 58, 59, 60, 87, 88, 89, 90, 91, 92, 93, 94, 95, 96, 97, 98, 99, 100, 101, 102, 103, 104, 105, 106, 107, 108, 109, 110] (by decide +kernel) (by decide +kernel)
set_option maxRecDepth 20000 in
theorem gX8_firstUnsuited_X1_roundOf : GoodIn wsX8_firstUnsuited (wsV RX8 133 RX1 yX1_roundOf wsX1_roundOf) := goodIn_app (goodIn_of _ (by decide +kernel)) ggX8_firstUnsuited_X1_roundOf
set_option maxRecDepth 20000 in
theorem ggX8_firstUnsuited_X0_suitsAt : GoodIn wsX8_firstUnsuited wsX0_suitsAt := goodIn_r _ [64, 65, 66, 67, 68, 40, 69, 47, 70, 38, 39, 41, 42, 43, 44, 45, 46, 48, 49, 34, 35, 36, 71, 51, 52, 53, 54, 72, 73, 74, 75, 87, 88, 89, 90, 91, 92, 93, 94, 95, 96, 97, 98, 99, 100, 101, 102] (by decide +kernel) (by decide +kernel)
set_option maxRecDepth 20000 in
theorem gX8_firstUnsuited_X0_suitsAt : GoodIn wsX8_firstUnsuited (wsV RX8 234 RX0 yX0_suitsAt wsX0_suitsAt) := goodIn_app (goodIn_of _ (by decide +kernel)) ggX8_firstUnsuited_X0_suitsAt
theorem dX8_firstUnsuited_0 : decode cX8_firstUnsuited 0 = .ok (.iconst 2, 1) := by decide +kernel
theorem dX8_firstUnsuited_1 : decode cX8_firstUnsuited 1 = .ok (.aload_n 0, 1) := by decide +kernel
theorem dX8_firstUnsuited_2 : decode cX8_firstUnsuited 2 = .ok (.getfield 39, 3) := by decide +kernel
theorem dX8_firstUnsuited_5 : decode cX8_firstUnsuited 5 = .ok (.aload_n 0, 1) := by decide +kernel
theorem dX8_firstUnsuited_6 : decode cX8_firstUnsuited 6 = .ok (.getfield 10, 3) := by decide +kernel
theorem dX8_firstUnsuited_9 : decode cX8_firstUnsuited 9 = .ok (.invokevirtual 133, 3) := by decide +kernel
theorem dX8_firstUnsuited_12 : decode cX8_firstUnsuited 12 = .ok (.imul, 1) := by decide +kernel
theorem dX8_firstUnsuited_13 : decode cX8_firstUnsuited 13 = .ok (.istore_n 2, 1) := by decide +kernel
theorem dX8_firstUnsuited_14 : decode cX8_firstUnsuited 14 = .ok (.iconst 0, 1) := by decide +kernel
theorem dX8_firstUnsuited_15 : decode cX8_firstUnsuited 15 = .ok (.istore_n 3, 1) := by decide +kernel
theorem dX8_firstUnsuited_16 : decode cX8_firstUnsuited 16 = .ok (.iload_n 3, 1) := by decide +kernel
theorem dX8_firstUnsuited_17 : decode cX8_firstUnsuited 17 = .ok (.iload_n 2, 1) := by decide +kernel
theorem dX8_firstUnsuited_18 : decode cX8_firstUnsuited 18 = .ok (.if_icmp .ge 23, 3) := by decide +kernel
theorem dX8_firstUnsuited_21 : decode cX8_firstUnsuited 21 = .ok (.aload_n 0, 1) := by decide +kernel
theorem dX8_firstUnsuited_22 : decode cX8_firstUnsuited 22 = .ok (.getfield 10, 3) := by decide +kernel
theorem dX8_firstUnsuited_25 : decode cX8_firstUnsuited 25 = .ok (.iload_n 1, 1) := by decide +kernel
theorem dX8_firstUnsuited_26 : decode cX8_firstUnsuited 26 = .ok (.iload_n 3, 1) := by decide +kernel
theorem dX8_firstUnsuited_27 : decode cX8_firstUnsuited 27 = .ok (.invokevirtual 234, 3) := by decide +kernel
theorem dX8_firstUnsuited_30 : decode cX8_firstUnsuited 30 = .ok (.ifCond .ne 5, 3) := by decide +kernel
theorem dX8_firstUnsuited_33 : decode cX8_firstUnsuited 33 = .ok (.iload_n 3, 1) := by decide +kernel
theorem dX8_firstUnsuited_34 : decode cX8_firstUnsuited 34 = .ok (.ireturn, 1) := by decide +kernel
theorem dX8_firstUnsuited_35 : decode cX8_firstUnsuited 35 = .ok (.iinc 3 1, 3) := by decide +kernel
theorem dX8_firstUnsuited_38 : decode cX8_firstUnsuited 38 = .ok (.goto (-22), 3) := by decide +kernel
theorem dX8_firstUnsuited_41 : decode cX8_firstUnsuited 41 = .ok (.iconst (-1), 1) := by decide +kernel
theorem dX8_firstUnsuited_42 : decode cX8_firstUnsuited 42 = .ok (.ireturn, 1) := by decide +kernel
set_option maxRecDepth 20000 in
theorem ggX8_wages_X0_hasRoof : GoodIn wsX8_wages wsX0_hasRoof := goodIn_r _ [9, 10, 45, 46, 47, 48, 49, 50, 51, 52, 53, 54, 55, 56, 57, 58, 59, 60] (by decide +kernel) (by decide +kernel)
set_option maxRecDepth 20000 in
theorem gX8_wages_X0_hasRoof : GoodIn wsX8_wages (wsV RX8 106 RX0 yX0_hasRoof wsX0_hasRoof) := goodIn_app (goodIn_of _ (by decide +kernel)) ggX8_wages_X0_hasRoof
set_option maxRecDepth 20000 in
theorem ggX8_wages_X8_isWithin : GoodIn wsX8_wages wsX8_isWithin := goodIn_r _ [14] (by decide +kernel) (by decide +kernel)
set_option maxRecDepth 20000 in
theorem gX8_wages_X8_isWithin : GoodIn wsX8_wages (va_wsS RX8 112 yX8_isWithin wsX8_isWithin) := goodIn_app (goodIn_of _ (by decide +kernel)) ggX8_wages_X8_isWithin
set_option maxRecDepth 20000 in
theorem ggX8_wages_X0_heightAt : GoodIn wsX8_wages wsX0_heightAt := goodIn_r _ [18, 19, 20, 21, 22, 8, 23, 10, 24, 25, 26, 27, 28, 45, 46, 47, 48, 49, 50, 51, 52, 53, 54, 55, 56, 57, 58, 59, 60] (by decide +kernel) (by decide +kernel)
set_option maxRecDepth 20000 in
theorem gX8_wages_X0_heightAt : GoodIn wsX8_wages (wsV RX8 116 RX0 yX0_heightAt wsX0_heightAt) := goodIn_app (goodIn_of _ (by decide +kernel)) ggX8_wages_X0_heightAt
set_option maxRecDepth 20000 in
theorem ggX8_wages_X0_goalAt : GoodIn wsX8_wages wsX0_goalAt := goodIn_r _ [32, 33, 20, 21, 22, 8, 23, 10, 24, 25, 26, 27, 28, 45, 46, 47, 48, 49, 50, 51, 52, 53, 54, 55, 56, 57, 58, 59, 60] (by decide +kernel) (by decide +kernel)
set_option maxRecDepth 20000 in
theorem gX8_wages_X0_goalAt : GoodIn wsX8_wages (wsV RX8 120 RX0 yX0_goalAt wsX0_goalAt) := goodIn_app (goodIn_of _ (by decide +kernel)) ggX8_wages_X0_goalAt
theorem dX8_wages_0 : decode cX8_wages 0 = .ok (.aload_n 0, 1) := by decide +kernel
theorem dX8_wages_1 : decode cX8_wages 1 = .ok (.getfield 10, 3) := by decide +kernel
theorem dX8_wages_4 : decode cX8_wages 4 = .ok (.iload_n 1, 1) := by decide +kernel
theorem dX8_wages_5 : decode cX8_wages 5 = .ok (.invokevirtual 106, 3) := by decide +kernel
theorem dX8_wages_8 : decode cX8_wages 8 = .ok (.ifCond .eq 13, 3) := by decide +kernel
theorem dX8_wages_11 : decode cX8_wages 11 = .ok (.iload_n 2, 1) := by decide +kernel
theorem dX8_wages_12 : decode cX8_wages 12 = .ok (.sipush 10000, 3) := by decide +kernel
theorem dX8_wages_15 : decode cX8_wages 15 = .ok (.invokestatic 112, 3) := by decide +kernel
theorem dX8_wages_18 : decode cX8_wages 18 = .ok (.ifCond .ne 7, 3) := by decide +kernel
theorem dX8_wages_21 : decode cX8_wages 21 = .ok (.ldc2_w 237, 3) := by decide +kernel
theorem dX8_wages_24 : decode cX8_wages 24 = .ok (.lreturn, 1) := by decide +kernel
theorem dX8_wages_25 : decode cX8_wages 25 = .ok (.aload_n 0, 1) := by decide +kernel
theorem dX8_wages_26 : decode cX8_wages 26 = .ok (.getfield 10, 3) := by decide +kernel
theorem dX8_wages_29 : decode cX8_wages 29 = .ok (.getfield 127, 3) := by decide +kernel
theorem dX8_wages_32 : decode cX8_wages 32 = .ok (.iload_n 1, 1) := by decide +kernel
theorem dX8_wages_33 : decode cX8_wages 33 = .ok (.iaload, 1) := by decide +kernel
theorem dX8_wages_34 : decode cX8_wages 34 = .ok (.istore_n 3, 1) := by decide +kernel
theorem dX8_wages_35 : decode cX8_wages 35 = .ok (.iload_n 3, 1) := by decide +kernel
theorem dX8_wages_36 : decode cX8_wages 36 = .ok (.iconst 1, 1) := by decide +kernel
theorem dX8_wages_37 : decode cX8_wages 37 = .ok (.if_icmp .ge 7, 3) := by decide +kernel
theorem dX8_wages_40 : decode cX8_wages 40 = .ok (.ldc2_w 237, 3) := by decide +kernel
theorem dX8_wages_43 : decode cX8_wages 43 = .ok (.lreturn, 1) := by decide +kernel
theorem dX8_wages_44 : decode cX8_wages 44 = .ok (.lconst 0, 1) := by decide +kernel
theorem dX8_wages_45 : decode cX8_wages 45 = .ok (.lstore 4, 2) := by decide +kernel
theorem dX8_wages_47 : decode cX8_wages 47 = .ok (.iconst 0, 1) := by decide +kernel
theorem dX8_wages_48 : decode cX8_wages 48 = .ok (.istore 6, 2) := by decide +kernel
theorem dX8_wages_50 : decode cX8_wages 50 = .ok (.iload 6, 2) := by decide +kernel
theorem dX8_wages_52 : decode cX8_wages 52 = .ok (.iload_n 3, 1) := by decide +kernel
theorem dX8_wages_53 : decode cX8_wages 53 = .ok (.if_icmp .ge 81, 3) := by decide +kernel
theorem dX8_wages_56 : decode cX8_wages 56 = .ok (.iload 6, 2) := by decide +kernel
theorem dX8_wages_58 : decode cX8_wages 58 = .ok (.iload_n 2, 1) := by decide +kernel
theorem dX8_wages_59 : decode cX8_wages 59 = .ok (.if_icmp .ge 75, 3) := by decide +kernel
theorem dX8_wages_62 : decode cX8_wages 62 = .ok (.aload_n 0, 1) := by decide +kernel
theorem dX8_wages_63 : decode cX8_wages 63 = .ok (.getfield 10, 3) := by decide +kernel
theorem dX8_wages_66 : decode cX8_wages 66 = .ok (.iload_n 1, 1) := by decide +kernel
theorem dX8_wages_67 : decode cX8_wages 67 = .ok (.iload 6, 2) := by decide +kernel
theorem dX8_wages_69 : decode cX8_wages 69 = .ok (.invokevirtual 116, 3) := by decide +kernel
theorem dX8_wages_72 : decode cX8_wages 72 = .ok (.i2l, 1) := by decide +kernel
theorem dX8_wages_73 : decode cX8_wages 73 = .ok (.lstore 7, 2) := by decide +kernel
theorem dX8_wages_75 : decode cX8_wages 75 = .ok (.iload_n 2, 1) := by decide +kernel
theorem dX8_wages_76 : decode cX8_wages 76 = .ok (.iload 6, 2) := by decide +kernel
theorem dX8_wages_78 : decode cX8_wages 78 = .ok (.isub, 1) := by decide +kernel
theorem dX8_wages_79 : decode cX8_wages 79 = .ok (.iload_n 3, 1) := by decide +kernel
theorem dX8_wages_80 : decode cX8_wages 80 = .ok (.iadd, 1) := by decide +kernel
theorem dX8_wages_81 : decode cX8_wages 81 = .ok (.iconst 1, 1) := by decide +kernel
theorem dX8_wages_82 : decode cX8_wages 82 = .ok (.isub, 1) := by decide +kernel
theorem dX8_wages_83 : decode cX8_wages 83 = .ok (.iload_n 3, 1) := by decide +kernel
theorem dX8_wages_84 : decode cX8_wages 84 = .ok (.idiv, 1) := by decide +kernel
theorem dX8_wages_85 : decode cX8_wages 85 = .ok (.i2l, 1) := by decide +kernel
theorem dX8_wages_86 : decode cX8_wages 86 = .ok (.lstore 9, 2) := by decide +kernel
theorem dX8_wages_88 : decode cX8_wages 88 = .ok (.lload 7, 2) := by decide +kernel
theorem dX8_wages_90 : decode cX8_wages 90 = .ok (.lload 7, 2) := by decide +kernel
theorem dX8_wages_92 : decode cX8_wages 92 = .ok (.lmul, 1) := by decide +kernel
theorem dX8_wages_93 : decode cX8_wages 93 = .ok (.lload 9, 2) := by decide +kernel
theorem dX8_wages_95 : decode cX8_wages 95 = .ok (.lmul, 1) := by decide +kernel
theorem dX8_wages_96 : decode cX8_wages 96 = .ok (.lstore 11, 2) := by decide +kernel
theorem dX8_wages_98 : decode cX8_wages 98 = .ok (.lload 4, 2) := by decide +kernel
theorem dX8_wages_100 : decode cX8_wages 100 = .ok (.aload_n 0, 1) := by decide +kernel
theorem dX8_wages_101 : decode cX8_wages 101 = .ok (.getfield 10, 3) := by decide +kernel
theorem dX8_wages_104 : decode cX8_wages 104 = .ok (.iload_n 1, 1) := by decide +kernel
theorem dX8_wages_105 : decode cX8_wages 105 = .ok (.iload 6, 2) := by decide +kernel
theorem dX8_wages_107 : decode cX8_wages 107 = .ok (.invokevirtual 120, 3) := by decide +kernel
theorem dX8_wages_110 : decode cX8_wages 110 = .ok (.iload_n 1, 1) := by decide +kernel
theorem dX8_wages_111 : decode cX8_wages 111 = .ok (.if_icmp .ne 8, 3) := by decide +kernel
theorem dX8_wages_114 : decode cX8_wages 114 = .ok (.lload 11, 2) := by decide +kernel
theorem dX8_wages_116 : decode cX8_wages 116 = .ok (.goto 9, 3) := by decide +kernel
theorem dX8_wages_119 : decode cX8_wages 119 = .ok (.ldc2_w 239, 3) := by decide +kernel
theorem dX8_wages_122 : decode cX8_wages 122 = .ok (.lload 11, 2) := by decide +kernel
theorem dX8_wages_124 : decode cX8_wages 124 = .ok (.lmul, 1) := by decide +kernel
theorem dX8_wages_125 : decode cX8_wages 125 = .ok (.ladd, 1) := by decide +kernel
theorem dX8_wages_126 : decode cX8_wages 126 = .ok (.lstore 4, 2) := by decide +kernel
theorem dX8_wages_128 : decode cX8_wages 128 = .ok (.iinc 6 1, 3) := by decide +kernel
theorem dX8_wages_131 : decode cX8_wages 131 = .ok (.goto (-81), 3) := by decide +kernel
theorem dX8_wages_134 : decode cX8_wages 134 = .ok (.lload 4, 2) := by decide +kernel
theorem dX8_wages_136 : decode cX8_wages 136 = .ok (.lreturn, 1) := by decide +kernel
set_option maxRecDepth 20000 in
theorem ggX8_carries_X0_hasRoof : GoodIn wsX8_carries wsX0_hasRoof := goodIn_r _ [7, 8, 78, 79, 80, 81, 82, 83, 84, 85, 86, 87, 88, 89, 90, 91, 92, 93] (by decide +kernel) (by decide +kernel)
set_option maxRecDepth 20000 in
theorem gX8_carries_X0_hasRoof : GoodIn wsX8_carries (wsV RX8 106 RX0 yX0_hasRoof wsX0_hasRoof) := goodIn_app (goodIn_of _ (by decide +kernel)) ggX8_carries_X0_hasRoof
set_option maxRecDepth 20000 in
theorem ggX8_carries_X1_roundOf : GoodIn wsX8_carries wsX1_roundOf := goodIn_r _ [13, 14, 15, 16, 17, 12, 18, 19, 20, 21, 22, 23, 24, 25, 26, 27, 28, 29, 30, 31, 32, 33, 34, 35, 36, 37, 38, 39, 40, 41, 42, 43, 44, 45, 6, 46, 47, 48, 49, 50, 51, 8, 52, 53, 54, 55, 56, 57, 58, 59, 60, 61, 62, 63, 64, 78, 79, 80, 81, 82, 83, 84, 85, 86, 87, 88, 89, 90, 91, 92, 93, 94, 95, 96, 97, 98, 99, 100, 101] (by decide +kernel) (by decide +kernel)
set_option maxRecDepth 20000 in
theorem gX8_carries_X1_roundOf : GoodIn wsX8_carries (wsV RX8 133 RX1 yX1_roundOf wsX1_roundOf) := goodIn_app (goodIn_of _ (by decide +kernel)) ggX8_carries_X1_roundOf
set_option maxRecDepth 20000 in
theorem ggX8_carries_X0_heightAt : GoodIn wsX8_carries wsX0_heightAt := goodIn_r _ [46, 47, 48, 49, 50, 6, 51, 8, 52, 53, 40, 41, 42, 78, 79, 80, 81, 82, 83, 84, 85, 86, 87, 88, 89, 90, 91, 92, 93] (by decide +kernel) (by decide +kernel)
set_option maxRecDepth 20000 in
theorem gX8_carries_X0_heightAt : GoodIn wsX8_carries (wsV RX8 116 RX0 yX0_heightAt wsX0_heightAt) := goodIn_app (goodIn_of _ (by decide +kernel)) ggX8_carries_X0_heightAt
set_option maxRecDepth 20000 in
theorem ggX8_carries_X0_goalAt : GoodIn wsX8_carries wsX0_goalAt := goodIn_r _ [57, 58, 48, 49, 50, 6, 51, 8, 52, 53, 40, 41, 42, 78, 79, 80, 81, 82, 83, 84, 85, 86, 87, 88, 89, 90, 91, 92, 93] (by decide +kernel) (by decide +kernel)
set_option maxRecDepth 20000 in
theorem gX8_carries_X0_goalAt : GoodIn wsX8_carries (wsV RX8 120 RX0 yX0_goalAt wsX0_goalAt) := goodIn_app (goodIn_of _ (by decide +kernel)) ggX8_carries_X0_goalAt
theorem dX8_carries_0 : decode cX8_carries 0 = .ok (.aload_n 0, 1) := by decide +kernel
theorem dX8_carries_1 : decode cX8_carries 1 = .ok (.getfield 10, 3) := by decide +kernel
theorem dX8_carries_4 : decode cX8_carries 4 = .ok (.iload_n 1, 1) := by decide +kernel
theorem dX8_carries_5 : decode cX8_carries 5 = .ok (.invokevirtual 106, 3) := by decide +kernel
theorem dX8_carries_8 : decode cX8_carries 8 = .ok (.ifCond .eq 14, 3) := by decide +kernel
theorem dX8_carries_11 : decode cX8_carries 11 = .ok (.aload_n 0, 1) := by decide +kernel
theorem dX8_carries_12 : decode cX8_carries 12 = .ok (.getfield 10, 3) := by decide +kernel
theorem dX8_carries_15 : decode cX8_carries 15 = .ok (.iload_n 2, 1) := by decide +kernel
theorem dX8_carries_16 : decode cX8_carries 16 = .ok (.invokevirtual 106, 3) := by decide +kernel
theorem dX8_carries_19 : decode cX8_carries 19 = .ok (.ifCond .ne 6, 3) := by decide +kernel
theorem dX8_carries_22 : decode cX8_carries 22 = .ok (.bipush (-2), 2) := by decide +kernel
theorem dX8_carries_24 : decode cX8_carries 24 = .ok (.ireturn, 1) := by decide +kernel
theorem dX8_carries_25 : decode cX8_carries 25 = .ok (.iconst 0, 1) := by decide +kernel
theorem dX8_carries_26 : decode cX8_carries 26 = .ok (.istore_n 3, 1) := by decide +kernel
theorem dX8_carries_27 : decode cX8_carries 27 = .ok (.aload_n 0, 1) := by decide +kernel
theorem dX8_carries_28 : decode cX8_carries 28 = .ok (.getfield 39, 3) := by decide +kernel
theorem dX8_carries_31 : decode cX8_carries 31 = .ok (.aload_n 0, 1) := by decide +kernel
theorem dX8_carries_32 : decode cX8_carries 32 = .ok (.getfield 10, 3) := by decide +kernel
theorem dX8_carries_35 : decode cX8_carries 35 = .ok (.invokevirtual 133, 3) := by decide +kernel
theorem dX8_carries_38 : decode cX8_carries 38 = .ok (.istore 4, 2) := by decide +kernel
theorem dX8_carries_40 : decode cX8_carries 40 = .ok (.iconst 0, 1) := by decide +kernel
theorem dX8_carries_41 : decode cX8_carries 41 = .ok (.istore 5, 2) := by decide +kernel
theorem dX8_carries_43 : decode cX8_carries 43 = .ok (.iload 5, 2) := by decide +kernel
theorem dX8_carries_45 : decode cX8_carries 45 = .ok (.iload 4, 2) := by decide +kernel
theorem dX8_carries_47 : decode cX8_carries 47 = .ok (.if_icmp .ge 39, 3) := by decide +kernel
theorem dX8_carries_50 : decode cX8_carries 50 = .ok (.aload_n 0, 1) := by decide +kernel
theorem dX8_carries_51 : decode cX8_carries 51 = .ok (.getfield 10, 3) := by decide +kernel
theorem dX8_carries_54 : decode cX8_carries 54 = .ok (.iload_n 1, 1) := by decide +kernel
theorem dX8_carries_55 : decode cX8_carries 55 = .ok (.iload 5, 2) := by decide +kernel
theorem dX8_carries_57 : decode cX8_carries 57 = .ok (.invokevirtual 116, 3) := by decide +kernel
theorem dX8_carries_60 : decode cX8_carries 60 = .ok (.ifCond .le 20, 3) := by decide +kernel
theorem dX8_carries_63 : decode cX8_carries 63 = .ok (.aload_n 0, 1) := by decide +kernel
theorem dX8_carries_64 : decode cX8_carries 64 = .ok (.getfield 10, 3) := by decide +kernel
theorem dX8_carries_67 : decode cX8_carries 67 = .ok (.iload_n 1, 1) := by decide +kernel
theorem dX8_carries_68 : decode cX8_carries 68 = .ok (.iload 5, 2) := by decide +kernel
theorem dX8_carries_70 : decode cX8_carries 70 = .ok (.invokevirtual 120, 3) := by decide +kernel
theorem dX8_carries_73 : decode cX8_carries 73 = .ok (.iload_n 2, 1) := by decide +kernel
theorem dX8_carries_74 : decode cX8_carries 74 = .ok (.if_icmp .ne 6, 3) := by decide +kernel
theorem dX8_carries_77 : decode cX8_carries 77 = .ok (.iinc 3 1, 3) := by decide +kernel
theorem dX8_carries_80 : decode cX8_carries 80 = .ok (.iinc 5 1, 3) := by decide +kernel
theorem dX8_carries_83 : decode cX8_carries 83 = .ok (.goto (-40), 3) := by decide +kernel
theorem dX8_carries_86 : decode cX8_carries 86 = .ok (.iload_n 3, 1) := by decide +kernel
theorem dX8_carries_87 : decode cX8_carries 87 = .ok (.ireturn, 1) := by decide +kernel
set_option maxRecDepth 20000 in
theorem ggX8_busiest_X0_isTold : GoodIn wsX8_busiest wsX0_isTold := goodIn_r _ [7, 8, 85, 86, 87, 88, 89, 90, 91, 92, 93, 94, 95, 96, 97, 98, 99, 100] (by decide +kernel) (by decide +kernel)
set_option maxRecDepth 20000 in
theorem gX8_busiest_X0_isTold : GoodIn wsX8_busiest (wsV RX8 130 RX0 yX0_isTold wsX0_isTold) := goodIn_app (goodIn_of _ (by decide +kernel)) ggX8_busiest_X0_isTold
set_option maxRecDepth 20000 in
theorem ggX8_busiest_X8_isWithin : GoodIn wsX8_busiest wsX8_isWithin := goodIn_r _ [12] (by decide +kernel) (by decide +kernel)
set_option maxRecDepth 20000 in
theorem gX8_busiest_X8_isWithin : GoodIn wsX8_busiest (va_wsS RX8 112 yX8_isWithin wsX8_isWithin) := goodIn_app (goodIn_of _ (by decide +kernel)) ggX8_busiest_X8_isWithin
set_option maxRecDepth 20000 in
theorem ggX8_busiest_X1_roundOf : GoodIn wsX8_busiest wsX1_roundOf := goodIn_r _ [17, 18, 19, 20, 21, 16, 22, 23, 24, 25, 26, 27, 28, 29, 30, 31, 32, 33, 34, 35, 36, 37, 38, 39, 40, 41, 42, 43, 44, 45, 46, 47, 48, 49, 6, 50, 51, 52, 53, 54, 55, 8, 56, 57, 58, 59, 60, 61, 62, 63, 64, 65, 66, 67, 68, 85, 86, 87, 88, 89, 90, 91, 92, 93, 94, 95, 96, 97, 98, 99, 100, 101, 102, 103, 104, 105, 106, 107, 108] (by decide +kernel) (by decide +kernel)
set_option maxRecDepth 20000 in
theorem gX8_busiest_X1_roundOf : GoodIn wsX8_busiest (wsV RX8 133 RX1 yX1_roundOf wsX1_roundOf) := goodIn_app (goodIn_of _ (by decide +kernel)) ggX8_busiest_X1_roundOf
set_option maxRecDepth 20000 in
theorem ggX8_busiest_X0_throwersAt : GoodIn wsX8_busiest wsX0_throwersAt := goodIn_r _ [72, 8, 73, 48, 49, 6, 50, 51, 52, 53, 54, 55, 56, 57, 44, 45, 46, 85, 86, 87, 88, 89, 90, 91, 92, 93, 94, 95, 96, 97, 98, 99, 100] (by decide +kernel) (by decide +kernel)
set_option maxRecDepth 20000 in
theorem gX8_busiest_X0_throwersAt : GoodIn wsX8_busiest (wsV RX8 241 RX0 yX0_throwersAt wsX0_throwersAt) := goodIn_app (goodIn_of _ (by decide +kernel)) ggX8_busiest_X0_throwersAt
theorem dX8_busiest_0 : decode cX8_busiest 0 = .ok (.aload_n 0, 1) := by decide +kernel
theorem dX8_busiest_1 : decode cX8_busiest 1 = .ok (.getfield 10, 3) := by decide +kernel
theorem dX8_busiest_4 : decode cX8_busiest 4 = .ok (.invokevirtual 130, 3) := by decide +kernel
theorem dX8_busiest_7 : decode cX8_busiest 7 = .ok (.ifCond .eq 11, 3) := by decide +kernel
theorem dX8_busiest_10 : decode cX8_busiest 10 = .ok (.iload_n 1, 1) := by decide +kernel
theorem dX8_busiest_11 : decode cX8_busiest 11 = .ok (.iconst 1, 1) := by decide +kernel
theorem dX8_busiest_12 : decode cX8_busiest 12 = .ok (.invokestatic 112, 3) := by decide +kernel
theorem dX8_busiest_15 : decode cX8_busiest 15 = .ok (.ifCond .ne 6, 3) := by decide +kernel
theorem dX8_busiest_18 : decode cX8_busiest 18 = .ok (.bipush (-2), 2) := by decide +kernel
theorem dX8_busiest_20 : decode cX8_busiest 20 = .ok (.ireturn, 1) := by decide +kernel
theorem dX8_busiest_21 : decode cX8_busiest 21 = .ok (.iconst (-1), 1) := by decide +kernel
theorem dX8_busiest_22 : decode cX8_busiest 22 = .ok (.istore_n 2, 1) := by decide +kernel
theorem dX8_busiest_23 : decode cX8_busiest 23 = .ok (.iconst 0, 1) := by decide +kernel
theorem dX8_busiest_24 : decode cX8_busiest 24 = .ok (.istore_n 3, 1) := by decide +kernel
theorem dX8_busiest_25 : decode cX8_busiest 25 = .ok (.aload_n 0, 1) := by decide +kernel
theorem dX8_busiest_26 : decode cX8_busiest 26 = .ok (.getfield 39, 3) := by decide +kernel
theorem dX8_busiest_29 : decode cX8_busiest 29 = .ok (.aload_n 0, 1) := by decide +kernel
theorem dX8_busiest_30 : decode cX8_busiest 30 = .ok (.getfield 10, 3) := by decide +kernel
theorem dX8_busiest_33 : decode cX8_busiest 33 = .ok (.invokevirtual 133, 3) := by decide +kernel
theorem dX8_busiest_36 : decode cX8_busiest 36 = .ok (.istore 4, 2) := by decide +kernel
theorem dX8_busiest_38 : decode cX8_busiest 38 = .ok (.iconst 0, 1) := by decide +kernel
theorem dX8_busiest_39 : decode cX8_busiest 39 = .ok (.istore 5, 2) := by decide +kernel
theorem dX8_busiest_41 : decode cX8_busiest 41 = .ok (.iload 5, 2) := by decide +kernel
theorem dX8_busiest_43 : decode cX8_busiest 43 = .ok (.iload 4, 2) := by decide +kernel
theorem dX8_busiest_45 : decode cX8_busiest 45 = .ok (.if_icmp .ge 32, 3) := by decide +kernel
theorem dX8_busiest_48 : decode cX8_busiest 48 = .ok (.aload_n 0, 1) := by decide +kernel
theorem dX8_busiest_49 : decode cX8_busiest 49 = .ok (.getfield 10, 3) := by decide +kernel
theorem dX8_busiest_52 : decode cX8_busiest 52 = .ok (.iload 5, 2) := by decide +kernel
theorem dX8_busiest_54 : decode cX8_busiest 54 = .ok (.invokevirtual 241, 3) := by decide +kernel
theorem dX8_busiest_57 : decode cX8_busiest 57 = .ok (.istore 6, 2) := by decide +kernel
theorem dX8_busiest_59 : decode cX8_busiest 59 = .ok (.iload 6, 2) := by decide +kernel
theorem dX8_busiest_61 : decode cX8_busiest 61 = .ok (.iload_n 2, 1) := by decide +kernel
theorem dX8_busiest_62 : decode cX8_busiest 62 = .ok (.if_icmp .le 9, 3) := by decide +kernel
theorem dX8_busiest_65 : decode cX8_busiest 65 = .ok (.iload 6, 2) := by decide +kernel
theorem dX8_busiest_67 : decode cX8_busiest 67 = .ok (.istore_n 2, 1) := by decide +kernel
theorem dX8_busiest_68 : decode cX8_busiest 68 = .ok (.iload 5, 2) := by decide +kernel
theorem dX8_busiest_70 : decode cX8_busiest 70 = .ok (.istore_n 3, 1) := by decide +kernel
theorem dX8_busiest_71 : decode cX8_busiest 71 = .ok (.iinc 5 1, 3) := by decide +kernel
theorem dX8_busiest_74 : decode cX8_busiest 74 = .ok (.goto (-33), 3) := by decide +kernel
theorem dX8_busiest_77 : decode cX8_busiest 77 = .ok (.iload_n 1, 1) := by decide +kernel
theorem dX8_busiest_78 : decode cX8_busiest 78 = .ok (.ifCond .ne 7, 3) := by decide +kernel
theorem dX8_busiest_81 : decode cX8_busiest 81 = .ok (.iload_n 3, 1) := by decide +kernel
theorem dX8_busiest_82 : decode cX8_busiest 82 = .ok (.goto 4, 3) := by decide +kernel
theorem dX8_busiest_85 : decode cX8_busiest 85 = .ok (.iload_n 2, 1) := by decide +kernel
theorem dX8_busiest_86 : decode cX8_busiest 86 = .ok (.ireturn, 1) := by decide +kernel
set_option maxRecDepth 20000 in
theorem ggX8_silent_X0_hasRoof : GoodIn wsX8_silent wsX0_hasRoof := goodIn_r _ [7, 8, 77, 78, 79, 80, 81, 82, 83, 84, 85, 86, 87, 88, 89, 90, 91, 92] (by decide +kernel) (by decide +kernel)
set_option maxRecDepth 20000 in
theorem gX8_silent_X0_hasRoof : GoodIn wsX8_silent (wsV RX8 106 RX0 yX0_hasRoof wsX0_hasRoof) := goodIn_app (goodIn_of _ (by decide +kernel)) ggX8_silent_X0_hasRoof
set_option maxRecDepth 20000 in
theorem ggX8_silent_X1_roundOf : GoodIn wsX8_silent wsX1_roundOf := goodIn_r _ [13, 14, 15, 16, 17, 12, 18, 19, 20, 21, 22, 23, 24, 25, 26, 27, 28, 29, 30, 31, 32, 33, 34, 35, 36, 37, 38, 39, 40, 41, 42, 43, 44, 45, 6, 46, 47, 48, 49, 50, 51, 8, 52, 53, 54, 55, 56, 57, 58, 59, 60, 61, 62, 63, 64, 77, 78, 79, 80, 81, 82, 83, 84, 85, 86, 87, 88, 89, 90, 91, 92, 93, 94, 95, 96, 97, 98, 99, 100] (by decide +kernel) (by decide +kernel)
set_option maxRecDepth 20000 in
theorem gX8_silent_X1_roundOf : GoodIn wsX8_silent (wsV RX8 133 RX1 yX1_roundOf wsX1_roundOf) := goodIn_app (goodIn_of _ (by decide +kernel)) ggX8_silent_X1_roundOf
set_option maxRecDepth 20000 in
theorem ggX8_silent_X0_heightAt : GoodIn wsX8_silent wsX0_heightAt := goodIn_r _ [46, 47, 48, 49, 50, 6, 51, 8, 52, 53, 40, 41, 42, 77, 78, 79, 80, 81, 82, 83, 84, 85, 86, 87, 88, 89, 90, 91, 92] (by decide +kernel) (by decide +kernel)
set_option maxRecDepth 20000 in
theorem gX8_silent_X0_heightAt : GoodIn wsX8_silent (wsV RX8 116 RX0 yX0_heightAt wsX0_heightAt) := goodIn_app (goodIn_of _ (by decide +kernel)) ggX8_silent_X0_heightAt
theorem dX8_silent_0 : decode cX8_silent 0 = .ok (.aload_n 0, 1) := by decide +kernel
theorem dX8_silent_1 : decode cX8_silent 1 = .ok (.getfield 10, 3) := by decide +kernel
theorem dX8_silent_4 : decode cX8_silent 4 = .ok (.iload_n 1, 1) := by decide +kernel
theorem dX8_silent_5 : decode cX8_silent 5 = .ok (.invokevirtual 106, 3) := by decide +kernel
theorem dX8_silent_8 : decode cX8_silent 8 = .ok (.ifCond .ne 6, 3) := by decide +kernel
theorem dX8_silent_11 : decode cX8_silent 11 = .ok (.bipush (-2), 2) := by decide +kernel
theorem dX8_silent_13 : decode cX8_silent 13 = .ok (.ireturn, 1) := by decide +kernel
theorem dX8_silent_14 : decode cX8_silent 14 = .ok (.iconst 0, 1) := by decide +kernel
theorem dX8_silent_15 : decode cX8_silent 15 = .ok (.istore_n 2, 1) := by decide +kernel
theorem dX8_silent_16 : decode cX8_silent 16 = .ok (.aload_n 0, 1) := by decide +kernel
theorem dX8_silent_17 : decode cX8_silent 17 = .ok (.getfield 39, 3) := by decide +kernel
theorem dX8_silent_20 : decode cX8_silent 20 = .ok (.aload_n 0, 1) := by decide +kernel
theorem dX8_silent_21 : decode cX8_silent 21 = .ok (.getfield 10, 3) := by decide +kernel
theorem dX8_silent_24 : decode cX8_silent 24 = .ok (.invokevirtual 133, 3) := by decide +kernel
theorem dX8_silent_27 : decode cX8_silent 27 = .ok (.istore_n 3, 1) := by decide +kernel
theorem dX8_silent_28 : decode cX8_silent 28 = .ok (.iconst 0, 1) := by decide +kernel
theorem dX8_silent_29 : decode cX8_silent 29 = .ok (.istore 4, 2) := by decide +kernel
theorem dX8_silent_31 : decode cX8_silent 31 = .ok (.iload 4, 2) := by decide +kernel
theorem dX8_silent_33 : decode cX8_silent 33 = .ok (.iload_n 3, 1) := by decide +kernel
theorem dX8_silent_34 : decode cX8_silent 34 = .ok (.if_icmp .ge 25, 3) := by decide +kernel
theorem dX8_silent_37 : decode cX8_silent 37 = .ok (.aload_n 0, 1) := by decide +kernel
theorem dX8_silent_38 : decode cX8_silent 38 = .ok (.getfield 10, 3) := by decide +kernel
theorem dX8_silent_41 : decode cX8_silent 41 = .ok (.iload_n 1, 1) := by decide +kernel
theorem dX8_silent_42 : decode cX8_silent 42 = .ok (.iload 4, 2) := by decide +kernel
theorem dX8_silent_44 : decode cX8_silent 44 = .ok (.invokevirtual 116, 3) := by decide +kernel
theorem dX8_silent_47 : decode cX8_silent 47 = .ok (.ifCond .ne 6, 3) := by decide +kernel
theorem dX8_silent_50 : decode cX8_silent 50 = .ok (.iinc 2 1, 3) := by decide +kernel
theorem dX8_silent_53 : decode cX8_silent 53 = .ok (.iinc 4 1, 3) := by decide +kernel
theorem dX8_silent_56 : decode cX8_silent 56 = .ok (.goto (-25), 3) := by decide +kernel
theorem dX8_silent_59 : decode cX8_silent 59 = .ok (.iload_n 2, 1) := by decide +kernel
theorem dX8_silent_60 : decode cX8_silent 60 = .ok (.ireturn, 1) := by decide +kernel
set_option maxRecDepth 20000 in
theorem ggX8_letter_X0_hasLetter : GoodIn wsX8_letter wsX0_hasLetter := goodIn_r _ [7, 8, 24, 25, 26, 27, 28, 29, 30, 31, 32, 33, 34, 35, 36, 37, 38, 39] (by decide +kernel) (by decide +kernel)
set_option maxRecDepth 20000 in
theorem gX8_letter_X0_hasLetter : GoodIn wsX8_letter (wsV RX8 244 RX0 yX0_hasLetter wsX0_hasLetter) := goodIn_app (goodIn_of _ (by decide +kernel)) ggX8_letter_X0_hasLetter
set_option maxRecDepth 20000 in
theorem ggX8_letter_X8_isWithin : GoodIn wsX8_letter wsX8_isWithin := goodIn_r _ [12] (by decide +kernel) (by decide +kernel)
set_option maxRecDepth 20000 in
theorem gX8_letter_X8_isWithin : GoodIn wsX8_letter (va_wsS RX8 112 yX8_isWithin wsX8_isWithin) := goodIn_app (goodIn_of _ (by decide +kernel)) ggX8_letter_X8_isWithin
theorem dX8_letter_0 : decode cX8_letter 0 = .ok (.aload_n 0, 1) := by decide +kernel
theorem dX8_letter_1 : decode cX8_letter 1 = .ok (.getfield 10, 3) := by decide +kernel
theorem dX8_letter_4 : decode cX8_letter 4 = .ok (.iload_n 1, 1) := by decide +kernel
theorem dX8_letter_5 : decode cX8_letter 5 = .ok (.invokevirtual 244, 3) := by decide +kernel
theorem dX8_letter_8 : decode cX8_letter 8 = .ok (.ifCond .eq 27, 3) := by decide +kernel
theorem dX8_letter_11 : decode cX8_letter 11 = .ok (.iload_n 2, 1) := by decide +kernel
theorem dX8_letter_12 : decode cX8_letter 12 = .ok (.iconst 2, 1) := by decide +kernel
theorem dX8_letter_13 : decode cX8_letter 13 = .ok (.invokestatic 112, 3) := by decide +kernel
theorem dX8_letter_16 : decode cX8_letter 16 = .ok (.ifCond .eq 19, 3) := by decide +kernel
theorem dX8_letter_19 : decode cX8_letter 19 = .ok (.aload_n 0, 1) := by decide +kernel
theorem dX8_letter_20 : decode cX8_letter 20 = .ok (.getfield 10, 3) := by decide +kernel
theorem dX8_letter_23 : decode cX8_letter 23 = .ok (.getfield 247, 3) := by decide +kernel
theorem dX8_letter_26 : decode cX8_letter 26 = .ok (.iconst 3, 1) := by decide +kernel
theorem dX8_letter_27 : decode cX8_letter 27 = .ok (.iload_n 1, 1) := by decide +kernel
theorem dX8_letter_28 : decode cX8_letter 28 = .ok (.imul, 1) := by decide +kernel
theorem dX8_letter_29 : decode cX8_letter 29 = .ok (.iload_n 2, 1) := by decide +kernel
theorem dX8_letter_30 : decode cX8_letter 30 = .ok (.iadd, 1) := by decide +kernel
theorem dX8_letter_31 : decode cX8_letter 31 = .ok (.iaload, 1) := by decide +kernel
theorem dX8_letter_32 : decode cX8_letter 32 = .ok (.goto 5, 3) := by decide +kernel
theorem dX8_letter_35 : decode cX8_letter 35 = .ok (.bipush (-2), 2) := by decide +kernel
theorem dX8_letter_37 : decode cX8_letter 37 = .ok (.ireturn, 1) := by decide +kernel
set_option maxRecDepth 20000 in
theorem ggX8_alone_X0_hasLetter : GoodIn wsX8_alone wsX0_hasLetter := goodIn_r _ [8, 9, 96, 97, 98, 99, 100, 101, 102, 103, 104, 105, 106, 107, 108, 109, 110, 111] (by decide +kernel) (by decide +kernel)
set_option maxRecDepth 20000 in
theorem gX8_alone_X0_hasLetter : GoodIn wsX8_alone (wsV RX8 244 RX0 yX0_hasLetter wsX0_hasLetter) := goodIn_app (goodIn_of _ (by decide +kernel)) ggX8_alone_X0_hasLetter
set_option maxRecDepth 20000 in
theorem ggX8_alone_X1_isThrownFrom : GoodIn wsX8_alone wsX1_isThrownFrom := goodIn_r _ [14, 15, 16, 17, 18, 13, 19, 20, 21, 22, 23, 24, 25, 26, 27, 28, 29, 30, 31, 32, 33, 34, 35, 36, 37, 38, 39, 40, 41, 42, 43, 44, 45, 46, 7, 47, 48, 49, 50, 51, 52, 53, 54, 55, 56, 57, 58, 59, 60, 61, 62, 63, 64, 65, 66, 96, 97, 98, 99, 100, 101, 102, 103, 104, 105, 106, 107, 108, 109, 110, 111, 112, 113, 114, 115, 116, 117, 118, 119] (by decide +kernel) (by decide +kernel)
set_option maxRecDepth 20000 in
theorem gX8_alone_X1_isThrownFrom : GoodIn wsX8_alone (wsV RX8 182 RX1 yX1_isThrownFrom wsX1_isThrownFrom) := goodIn_app (goodIn_of _ (by decide +kernel)) ggX8_alone_X1_isThrownFrom
set_option maxRecDepth 20000 in
theorem ggX8_alone_X1_firstDown : GoodIn wsX8_alone wsX1_firstDown := goodIn_r _ [70, 71, 72, 73, 74, 75, 13, 76, 77, 78, 79, 80, 44, 45, 46, 7, 47, 48, 49, 50, 51, 52, 53, 54, 55, 41, 42, 43, 56, 57, 58, 59, 60, 81, 82, 83, 84, 21, 112, 113, 114, 115, 116, 117, 118, 119, 96, 97, 98, 99, 100, 101, 102, 103, 104, 105, 106, 107, 108, 109, 110, 111] (by decide +kernel) (by decide +kernel)
set_option maxRecDepth 20000 in
theorem gX8_alone_X1_firstDown : GoodIn wsX8_alone (wsV RX8 219 RX1 yX1_firstDown wsX1_firstDown) := goodIn_app (goodIn_of _ (by decide +kernel)) ggX8_alone_X1_firstDown
theorem dX8_alone_0 : decode cX8_alone 0 = .ok (.aload_n 0, 1) := by decide +kernel
theorem dX8_alone_1 : decode cX8_alone 1 = .ok (.getfield 10, 3) := by decide +kernel
theorem dX8_alone_4 : decode cX8_alone 4 = .ok (.iload_n 1, 1) := by decide +kernel
theorem dX8_alone_5 : decode cX8_alone 5 = .ok (.invokevirtual 244, 3) := by decide +kernel
theorem dX8_alone_8 : decode cX8_alone 8 = .ok (.ifCond .ne 6, 3) := by decide +kernel
theorem dX8_alone_11 : decode cX8_alone 11 = .ok (.bipush (-2), 2) := by decide +kernel
theorem dX8_alone_13 : decode cX8_alone 13 = .ok (.ireturn, 1) := by decide +kernel
theorem dX8_alone_14 : decode cX8_alone 14 = .ok (.aload_n 0, 1) := by decide +kernel
theorem dX8_alone_15 : decode cX8_alone 15 = .ok (.getfield 10, 3) := by decide +kernel
theorem dX8_alone_18 : decode cX8_alone 18 = .ok (.getfield 247, 3) := by decide +kernel
theorem dX8_alone_21 : decode cX8_alone 21 = .ok (.iconst 3, 1) := by decide +kernel
theorem dX8_alone_22 : decode cX8_alone 22 = .ok (.iload_n 1, 1) := by decide +kernel
theorem dX8_alone_23 : decode cX8_alone 23 = .ok (.imul, 1) := by decide +kernel
theorem dX8_alone_24 : decode cX8_alone 24 = .ok (.iaload, 1) := by decide +kernel
theorem dX8_alone_25 : decode cX8_alone 25 = .ok (.istore_n 2, 1) := by decide +kernel
theorem dX8_alone_26 : decode cX8_alone 26 = .ok (.aload_n 0, 1) := by decide +kernel
theorem dX8_alone_27 : decode cX8_alone 27 = .ok (.getfield 10, 3) := by decide +kernel
theorem dX8_alone_30 : decode cX8_alone 30 = .ok (.getfield 247, 3) := by decide +kernel
theorem dX8_alone_33 : decode cX8_alone 33 = .ok (.iconst 3, 1) := by decide +kernel
theorem dX8_alone_34 : decode cX8_alone 34 = .ok (.iload_n 1, 1) := by decide +kernel
theorem dX8_alone_35 : decode cX8_alone 35 = .ok (.imul, 1) := by decide +kernel
theorem dX8_alone_36 : decode cX8_alone 36 = .ok (.iconst 1, 1) := by decide +kernel
theorem dX8_alone_37 : decode cX8_alone 37 = .ok (.iadd, 1) := by decide +kernel
theorem dX8_alone_38 : decode cX8_alone 38 = .ok (.iaload, 1) := by decide +kernel
theorem dX8_alone_39 : decode cX8_alone 39 = .ok (.istore_n 3, 1) := by decide +kernel
theorem dX8_alone_40 : decode cX8_alone 40 = .ok (.aload_n 0, 1) := by decide +kernel
theorem dX8_alone_41 : decode cX8_alone 41 = .ok (.getfield 39, 3) := by decide +kernel
theorem dX8_alone_44 : decode cX8_alone 44 = .ok (.aload_n 0, 1) := by decide +kernel
theorem dX8_alone_45 : decode cX8_alone 45 = .ok (.getfield 10, 3) := by decide +kernel
theorem dX8_alone_48 : decode cX8_alone 48 = .ok (.iload_n 2, 1) := by decide +kernel
theorem dX8_alone_49 : decode cX8_alone 49 = .ok (.iload_n 3, 1) := by decide +kernel
theorem dX8_alone_50 : decode cX8_alone 50 = .ok (.invokevirtual 182, 3) := by decide +kernel
theorem dX8_alone_53 : decode cX8_alone 53 = .ok (.ifCond .ne 5, 3) := by decide +kernel
theorem dX8_alone_56 : decode cX8_alone 56 = .ok (.iconst (-1), 1) := by decide +kernel
theorem dX8_alone_57 : decode cX8_alone 57 = .ok (.ireturn, 1) := by decide +kernel
theorem dX8_alone_58 : decode cX8_alone 58 = .ok (.aload_n 0, 1) := by decide +kernel
theorem dX8_alone_59 : decode cX8_alone 59 = .ok (.getfield 39, 3) := by decide +kernel
theorem dX8_alone_62 : decode cX8_alone 62 = .ok (.aload_n 0, 1) := by decide +kernel
theorem dX8_alone_63 : decode cX8_alone 63 = .ok (.getfield 10, 3) := by decide +kernel
theorem dX8_alone_66 : decode cX8_alone 66 = .ok (.iload_n 2, 1) := by decide +kernel
theorem dX8_alone_67 : decode cX8_alone 67 = .ok (.iload_n 3, 1) := by decide +kernel
theorem dX8_alone_68 : decode cX8_alone 68 = .ok (.aload_n 0, 1) := by decide +kernel
theorem dX8_alone_69 : decode cX8_alone 69 = .ok (.getfield 10, 3) := by decide +kernel
theorem dX8_alone_72 : decode cX8_alone 72 = .ok (.getfield 247, 3) := by decide +kernel
theorem dX8_alone_75 : decode cX8_alone 75 = .ok (.iconst 3, 1) := by decide +kernel
theorem dX8_alone_76 : decode cX8_alone 76 = .ok (.iload_n 1, 1) := by decide +kernel
theorem dX8_alone_77 : decode cX8_alone 77 = .ok (.imul, 1) := by decide +kernel
theorem dX8_alone_78 : decode cX8_alone 78 = .ok (.iconst 2, 1) := by decide +kernel
theorem dX8_alone_79 : decode cX8_alone 79 = .ok (.iadd, 1) := by decide +kernel
theorem dX8_alone_80 : decode cX8_alone 80 = .ok (.iaload, 1) := by decide +kernel
theorem dX8_alone_81 : decode cX8_alone 81 = .ok (.invokevirtual 219, 3) := by decide +kernel
theorem dX8_alone_84 : decode cX8_alone 84 = .ok (.ireturn, 1) := by decide +kernel
set_option maxRecDepth 20000 in
theorem ggX8_soonest_X0_hasLetter : GoodIn wsX8_soonest wsX0_hasLetter := goodIn_r _ [10, 11, 105, 106, 107, 108, 109, 110, 111, 112, 113, 114, 115, 116, 117, 118, 119, 120] (by decide +kernel) (by decide +kernel)
set_option maxRecDepth 20000 in
theorem gX8_soonest_X0_hasLetter : GoodIn wsX8_soonest (wsV RX8 244 RX0 yX0_hasLetter wsX0_hasLetter) := goodIn_app (goodIn_of _ (by decide +kernel)) ggX8_soonest_X0_hasLetter
set_option maxRecDepth 20000 in
theorem ggX8_soonest_X8_isWithin : GoodIn wsX8_soonest wsX8_isWithin := goodIn_r _ [15] (by decide +kernel) (by decide +kernel)
set_option maxRecDepth 20000 in
theorem gX8_soonest_X8_isWithin : GoodIn wsX8_soonest (va_wsS RX8 112 yX8_isWithin wsX8_isWithin) := goodIn_app (goodIn_of _ (by decide +kernel)) ggX8_soonest_X8_isWithin
set_option maxRecDepth 20000 in
theorem ggX8_soonest_X2_plan : GoodIn wsX8_soonest wsX2_plan := goodIn_r _ [20, 21, 22, 23, 24, 25, 26, 19, 27, 28, 29, 30, 31, 32, 33, 34, 35, 36, 37, 38, 39, 40, 41, 42, 43, 44, 45, 46, 47, 48, 49, 9, 50, 51, 52, 53, 54, 55, 56, 57, 58, 59, 60, 61, 62, 63, 64, 65, 66, 67, 68, 69, 70, 71, 72, 73, 74, 75, 76, 77, 78, 79, 80, 81, 82, 83, 84, 96, 97, 98, 99, 100, 101, 102, 103, 104, 105, 106, 107, 108, 109, 110, 111, 112, 113, 114, 115, 116, 117, 118, 119, 120] (by decide +kernel) (by decide +kernel)
set_option maxRecDepth 20000 in
theorem gX8_soonest_X2_plan : GoodIn wsX8_soonest (wsV RX8 250 RX2 yX2_plan wsX2_plan) := goodIn_app (goodIn_of _ (by decide +kernel)) ggX8_soonest_X2_plan
theorem dX8_soonest_0 : decode cX8_soonest 0 = .ok (.aload_n 0, 1) := by decide +kernel
theorem dX8_soonest_1 : decode cX8_soonest 1 = .ok (.getfield 10, 3) := by decide +kernel
theorem dX8_soonest_4 : decode cX8_soonest 4 = .ok (.iload_n 1, 1) := by decide +kernel
theorem dX8_soonest_5 : decode cX8_soonest 5 = .ok (.invokevirtual 244, 3) := by decide +kernel
theorem dX8_soonest_8 : decode cX8_soonest 8 = .ok (.ifCond .eq 11, 3) := by decide +kernel
theorem dX8_soonest_11 : decode cX8_soonest 11 = .ok (.iload_n 2, 1) := by decide +kernel
theorem dX8_soonest_12 : decode cX8_soonest 12 = .ok (.iconst 2, 1) := by decide +kernel
theorem dX8_soonest_13 : decode cX8_soonest 13 = .ok (.invokestatic 112, 3) := by decide +kernel
theorem dX8_soonest_16 : decode cX8_soonest 16 = .ok (.ifCond .ne 6, 3) := by decide +kernel
theorem dX8_soonest_19 : decode cX8_soonest 19 = .ok (.bipush (-2), 2) := by decide +kernel
theorem dX8_soonest_21 : decode cX8_soonest 21 = .ok (.ireturn, 1) := by decide +kernel
theorem dX8_soonest_22 : decode cX8_soonest 22 = .ok (.aload_n 0, 1) := by decide +kernel
theorem dX8_soonest_23 : decode cX8_soonest 23 = .ok (.getfield 46, 3) := by decide +kernel
theorem dX8_soonest_26 : decode cX8_soonest 26 = .ok (.aload_n 0, 1) := by decide +kernel
theorem dX8_soonest_27 : decode cX8_soonest 27 = .ok (.getfield 10, 3) := by decide +kernel
theorem dX8_soonest_30 : decode cX8_soonest 30 = .ok (.iload_n 1, 1) := by decide +kernel
theorem dX8_soonest_31 : decode cX8_soonest 31 = .ok (.invokevirtual 250, 3) := by decide +kernel
theorem dX8_soonest_34 : decode cX8_soonest 34 = .ok (.aload_n 0, 1) := by decide +kernel
theorem dX8_soonest_35 : decode cX8_soonest 35 = .ok (.getfield 46, 3) := by decide +kernel
theorem dX8_soonest_38 : decode cX8_soonest 38 = .ok (.getfield 254, 3) := by decide +kernel
theorem dX8_soonest_41 : decode cX8_soonest 41 = .ok (.iconst (-1), 1) := by decide +kernel
theorem dX8_soonest_42 : decode cX8_soonest 42 = .ok (.if_icmp .eq 7, 3) := by decide +kernel
theorem dX8_soonest_45 : decode cX8_soonest 45 = .ok (.iload_n 2, 1) := by decide +kernel
theorem dX8_soonest_46 : decode cX8_soonest 46 = .ok (.ifCond .ne 11, 3) := by decide +kernel
theorem dX8_soonest_49 : decode cX8_soonest 49 = .ok (.aload_n 0, 1) := by decide +kernel
theorem dX8_soonest_50 : decode cX8_soonest 50 = .ok (.getfield 46, 3) := by decide +kernel
theorem dX8_soonest_53 : decode cX8_soonest 53 = .ok (.getfield 254, 3) := by decide +kernel
theorem dX8_soonest_56 : decode cX8_soonest 56 = .ok (.ireturn, 1) := by decide +kernel
theorem dX8_soonest_57 : decode cX8_soonest 57 = .ok (.iload_n 2, 1) := by decide +kernel
theorem dX8_soonest_58 : decode cX8_soonest 58 = .ok (.iconst 1, 1) := by decide +kernel
theorem dX8_soonest_59 : decode cX8_soonest 59 = .ok (.if_icmp .ne 13, 3) := by decide +kernel
theorem dX8_soonest_62 : decode cX8_soonest 62 = .ok (.aload_n 0, 1) := by decide +kernel
theorem dX8_soonest_63 : decode cX8_soonest 63 = .ok (.getfield 46, 3) := by decide +kernel
theorem dX8_soonest_66 : decode cX8_soonest 66 = .ok (.getfield 257, 3) := by decide +kernel
theorem dX8_soonest_69 : decode cX8_soonest 69 = .ok (.goto 10, 3) := by decide +kernel
theorem dX8_soonest_72 : decode cX8_soonest 72 = .ok (.aload_n 0, 1) := by decide +kernel
theorem dX8_soonest_73 : decode cX8_soonest 73 = .ok (.getfield 46, 3) := by decide +kernel
theorem dX8_soonest_76 : decode cX8_soonest 76 = .ok (.getfield 260, 3) := by decide +kernel
theorem dX8_soonest_79 : decode cX8_soonest 79 = .ok (.ireturn, 1) := by decide +kernel
set_option maxRecDepth 20000 in
theorem ggX8_way_X0_hasLetter : GoodIn wsX8_way wsX0_hasLetter := goodIn_r _ [9, 10, 100, 101, 102, 103, 104, 105, 106, 107, 108, 109, 110, 111, 112, 113, 114, 115] (by decide +kernel) (by decide +kernel)
set_option maxRecDepth 20000 in
theorem gX8_way_X0_hasLetter : GoodIn wsX8_way (wsV RX8 244 RX0 yX0_hasLetter wsX0_hasLetter) := goodIn_app (goodIn_of _ (by decide +kernel)) ggX8_way_X0_hasLetter
set_option maxRecDepth 20000 in
theorem ggX8_way_X2_plan : GoodIn wsX8_way wsX2_plan := goodIn_r _ [15, 16, 17, 18, 19, 20, 21, 14, 22, 23, 24, 25, 26, 27, 28, 29, 30, 31, 32, 33, 34, 35, 36, 37, 38, 39, 40, 41, 42, 43, 44, 8, 45, 46, 47, 48, 49, 50, 51, 52, 53, 54, 55, 56, 57, 58, 59, 60, 61, 62, 63, 64, 65, 66, 67, 68, 69, 70, 71, 72, 73, 74, 75, 76, 77, 78, 79, 91, 92, 93, 94, 95, 96, 97, 98, 99, 100, 101, 102, 103, 104, 105, 106, 107, 108, 109, 110, 111, 112, 113, 114, 115] (by decide +kernel) (by decide +kernel)
set_option maxRecDepth 20000 in
theorem gX8_way_X2_plan : GoodIn wsX8_way (wsV RX8 250 RX2 yX2_plan wsX2_plan) := goodIn_app (goodIn_of _ (by decide +kernel)) ggX8_way_X2_plan
theorem dX8_way_0 : decode cX8_way 0 = .ok (.aload_n 0, 1) := by decide +kernel
theorem dX8_way_1 : decode cX8_way 1 = .ok (.getfield 10, 3) := by decide +kernel
theorem dX8_way_4 : decode cX8_way 4 = .ok (.iload_n 1, 1) := by decide +kernel
theorem dX8_way_5 : decode cX8_way 5 = .ok (.invokevirtual 244, 3) := by decide +kernel
theorem dX8_way_8 : decode cX8_way 8 = .ok (.ifCond .eq 7, 3) := by decide +kernel
theorem dX8_way_11 : decode cX8_way 11 = .ok (.iload_n 2, 1) := by decide +kernel
theorem dX8_way_12 : decode cX8_way 12 = .ok (.ifCond .ge 6, 3) := by decide +kernel
theorem dX8_way_15 : decode cX8_way 15 = .ok (.bipush (-2), 2) := by decide +kernel
theorem dX8_way_17 : decode cX8_way 17 = .ok (.ireturn, 1) := by decide +kernel
theorem dX8_way_18 : decode cX8_way 18 = .ok (.aload_n 0, 1) := by decide +kernel
theorem dX8_way_19 : decode cX8_way 19 = .ok (.getfield 46, 3) := by decide +kernel
theorem dX8_way_22 : decode cX8_way 22 = .ok (.aload_n 0, 1) := by decide +kernel
theorem dX8_way_23 : decode cX8_way 23 = .ok (.getfield 10, 3) := by decide +kernel
theorem dX8_way_26 : decode cX8_way 26 = .ok (.iload_n 1, 1) := by decide +kernel
theorem dX8_way_27 : decode cX8_way 27 = .ok (.invokevirtual 250, 3) := by decide +kernel
theorem dX8_way_30 : decode cX8_way 30 = .ok (.iload_n 2, 1) := by decide +kernel
theorem dX8_way_31 : decode cX8_way 31 = .ok (.aload_n 0, 1) := by decide +kernel
theorem dX8_way_32 : decode cX8_way 32 = .ok (.getfield 46, 3) := by decide +kernel
theorem dX8_way_35 : decode cX8_way 35 = .ok (.getfield 257, 3) := by decide +kernel
theorem dX8_way_38 : decode cX8_way 38 = .ok (.if_icmp .ge 15, 3) := by decide +kernel
theorem dX8_way_41 : decode cX8_way 41 = .ok (.aload_n 0, 1) := by decide +kernel
theorem dX8_way_42 : decode cX8_way 42 = .ok (.getfield 46, 3) := by decide +kernel
theorem dX8_way_45 : decode cX8_way 45 = .ok (.getfield 263, 3) := by decide +kernel
theorem dX8_way_48 : decode cX8_way 48 = .ok (.iload_n 2, 1) := by decide +kernel
theorem dX8_way_49 : decode cX8_way 49 = .ok (.iaload, 1) := by decide +kernel
theorem dX8_way_50 : decode cX8_way 50 = .ok (.goto 4, 3) := by decide +kernel
theorem dX8_way_53 : decode cX8_way 53 = .ok (.iconst (-1), 1) := by decide +kernel
theorem dX8_way_54 : decode cX8_way 54 = .ok (.ireturn, 1) := by decide +kernel
set_option maxRecDepth 20000 in
theorem ggX8_readers_X0_hasLetter : GoodIn wsX8_readers wsX0_hasLetter := goodIn_r _ [8, 9, 100, 101, 102, 103, 104, 105, 106, 107, 108, 109, 110, 111, 112, 113, 114, 115] (by decide +kernel) (by decide +kernel)
set_option maxRecDepth 20000 in
theorem gX8_readers_X0_hasLetter : GoodIn wsX8_readers (wsV RX8 244 RX0 yX0_hasLetter wsX0_hasLetter) := goodIn_app (goodIn_of _ (by decide +kernel)) ggX8_readers_X0_hasLetter
set_option maxRecDepth 20000 in
theorem ggX8_readers_X8_isBeat : GoodIn wsX8_readers wsX8_isBeat := goodIn_r _ [13, 14, 15, 16, 12, 17] (by decide +kernel) (by decide +kernel)
set_option maxRecDepth 20000 in
theorem gX8_readers_X8_isBeat : GoodIn wsX8_readers (va_wsS RX8 109 yX8_isBeat wsX8_isBeat) := goodIn_app (goodIn_of _ (by decide +kernel)) ggX8_readers_X8_isBeat
set_option maxRecDepth 20000 in
theorem ggX8_readers_X1_isThrownFrom : GoodIn wsX8_readers wsX1_isThrownFrom := goodIn_r _ [22, 23, 24, 25, 26, 21, 27, 28, 29, 30, 31, 32, 33, 34, 35, 36, 37, 38, 39, 40, 41, 42, 43, 44, 45, 46, 47, 48, 49, 50, 51, 52, 53, 54, 7, 55, 56, 57, 58, 59, 60, 61, 62, 63, 64, 65, 66, 67, 68, 69, 70, 71, 72, 73, 74, 100, 101, 102, 103, 104, 105, 106, 107, 108, 109, 110, 111, 112, 113, 114, 115, 116, 117, 118, 119, 120, 121, 122, 123] (by decide +kernel) (by decide +kernel)
set_option maxRecDepth 20000 in
theorem gX8_readers_X1_isThrownFrom : GoodIn wsX8_readers (wsV RX8 182 RX1 yX1_isThrownFrom wsX1_isThrownFrom) := goodIn_app (goodIn_of _ (by decide +kernel)) ggX8_readers_X1_isThrownFrom
set_option maxRecDepth 20000 in
theorem ggX8_readers_X1_roofsUpTo : GoodIn wsX8_readers wsX1_roofsUpTo := goodIn_r _ [78, 79, 80, 81, 82, 83, 21, 84, 85, 86, 87, 88, 52, 53, 54, 7, 55, 56, 57, 58, 59, 60, 61, 62, 63, 49, 50, 51, 64, 65, 66, 67, 68, 116, 117, 118, 119, 120, 121, 122, 123, 100, 101, 102, 103, 104, 105, 106, 107, 108, 109, 110, 111, 112, 113, 114, 115] (by decide +kernel) (by decide +kernel)
set_option maxRecDepth 20000 in
theorem gX8_readers_X1_roofsUpTo : GoodIn wsX8_readers (wsV RX8 266 RX1 yX1_roofsUpTo wsX1_roofsUpTo) := goodIn_app (goodIn_of _ (by decide +kernel)) ggX8_readers_X1_roofsUpTo
theorem dX8_readers_0 : decode cX8_readers 0 = .ok (.aload_n 0, 1) := by decide +kernel
theorem dX8_readers_1 : decode cX8_readers 1 = .ok (.getfield 10, 3) := by decide +kernel
theorem dX8_readers_4 : decode cX8_readers 4 = .ok (.iload_n 1, 1) := by decide +kernel
theorem dX8_readers_5 : decode cX8_readers 5 = .ok (.invokevirtual 244, 3) := by decide +kernel
theorem dX8_readers_8 : decode cX8_readers 8 = .ok (.ifCond .eq 10, 3) := by decide +kernel
theorem dX8_readers_11 : decode cX8_readers 11 = .ok (.iload_n 2, 1) := by decide +kernel
theorem dX8_readers_12 : decode cX8_readers 12 = .ok (.invokestatic 109, 3) := by decide +kernel
theorem dX8_readers_15 : decode cX8_readers 15 = .ok (.ifCond .ne 6, 3) := by decide +kernel
theorem dX8_readers_18 : decode cX8_readers 18 = .ok (.bipush (-2), 2) := by decide +kernel
theorem dX8_readers_20 : decode cX8_readers 20 = .ok (.ireturn, 1) := by decide +kernel
theorem dX8_readers_21 : decode cX8_readers 21 = .ok (.aload_n 0, 1) := by decide +kernel
theorem dX8_readers_22 : decode cX8_readers 22 = .ok (.getfield 10, 3) := by decide +kernel
theorem dX8_readers_25 : decode cX8_readers 25 = .ok (.getfield 247, 3) := by decide +kernel
theorem dX8_readers_28 : decode cX8_readers 28 = .ok (.iconst 3, 1) := by decide +kernel
theorem dX8_readers_29 : decode cX8_readers 29 = .ok (.iload_n 1, 1) := by decide +kernel
theorem dX8_readers_30 : decode cX8_readers 30 = .ok (.imul, 1) := by decide +kernel
theorem dX8_readers_31 : decode cX8_readers 31 = .ok (.iaload, 1) := by decide +kernel
theorem dX8_readers_32 : decode cX8_readers 32 = .ok (.istore_n 3, 1) := by decide +kernel
theorem dX8_readers_33 : decode cX8_readers 33 = .ok (.aload_n 0, 1) := by decide +kernel
theorem dX8_readers_34 : decode cX8_readers 34 = .ok (.getfield 10, 3) := by decide +kernel
theorem dX8_readers_37 : decode cX8_readers 37 = .ok (.getfield 247, 3) := by decide +kernel
theorem dX8_readers_40 : decode cX8_readers 40 = .ok (.iconst 3, 1) := by decide +kernel
theorem dX8_readers_41 : decode cX8_readers 41 = .ok (.iload_n 1, 1) := by decide +kernel
theorem dX8_readers_42 : decode cX8_readers 42 = .ok (.imul, 1) := by decide +kernel
theorem dX8_readers_43 : decode cX8_readers 43 = .ok (.iconst 1, 1) := by decide +kernel
theorem dX8_readers_44 : decode cX8_readers 44 = .ok (.iadd, 1) := by decide +kernel
theorem dX8_readers_45 : decode cX8_readers 45 = .ok (.iaload, 1) := by decide +kernel
theorem dX8_readers_46 : decode cX8_readers 46 = .ok (.istore 4, 2) := by decide +kernel
theorem dX8_readers_48 : decode cX8_readers 48 = .ok (.aload_n 0, 1) := by decide +kernel
theorem dX8_readers_49 : decode cX8_readers 49 = .ok (.getfield 39, 3) := by decide +kernel
theorem dX8_readers_52 : decode cX8_readers 52 = .ok (.aload_n 0, 1) := by decide +kernel
theorem dX8_readers_53 : decode cX8_readers 53 = .ok (.getfield 10, 3) := by decide +kernel
theorem dX8_readers_56 : decode cX8_readers 56 = .ok (.iload_n 3, 1) := by decide +kernel
theorem dX8_readers_57 : decode cX8_readers 57 = .ok (.iload 4, 2) := by decide +kernel
theorem dX8_readers_59 : decode cX8_readers 59 = .ok (.invokevirtual 182, 3) := by decide +kernel
theorem dX8_readers_62 : decode cX8_readers 62 = .ok (.ifCond .ne 5, 3) := by decide +kernel
theorem dX8_readers_65 : decode cX8_readers 65 = .ok (.iconst (-1), 1) := by decide +kernel
theorem dX8_readers_66 : decode cX8_readers 66 = .ok (.ireturn, 1) := by decide +kernel
theorem dX8_readers_67 : decode cX8_readers 67 = .ok (.iload_n 2, 1) := by decide +kernel
theorem dX8_readers_68 : decode cX8_readers 68 = .ok (.iload 4, 2) := by decide +kernel
theorem dX8_readers_70 : decode cX8_readers 70 = .ok (.if_icmp .ge 7, 3) := by decide +kernel
theorem dX8_readers_73 : decode cX8_readers 73 = .ok (.iconst 0, 1) := by decide +kernel
theorem dX8_readers_74 : decode cX8_readers 74 = .ok (.goto 18, 3) := by decide +kernel
theorem dX8_readers_77 : decode cX8_readers 77 = .ok (.aload_n 0, 1) := by decide +kernel
theorem dX8_readers_78 : decode cX8_readers 78 = .ok (.getfield 39, 3) := by decide +kernel
theorem dX8_readers_81 : decode cX8_readers 81 = .ok (.aload_n 0, 1) := by decide +kernel
theorem dX8_readers_82 : decode cX8_readers 82 = .ok (.getfield 10, 3) := by decide +kernel
theorem dX8_readers_85 : decode cX8_readers 85 = .ok (.iload_n 3, 1) := by decide +kernel
theorem dX8_readers_86 : decode cX8_readers 86 = .ok (.iload 4, 2) := by decide +kernel
theorem dX8_readers_88 : decode cX8_readers 88 = .ok (.iload_n 2, 1) := by decide +kernel
theorem dX8_readers_89 : decode cX8_readers 89 = .ok (.invokevirtual 266, 3) := by decide +kernel
theorem dX8_readers_92 : decode cX8_readers 92 = .ok (.ireturn, 1) := by decide +kernel
set_option maxRecDepth 20000 in
theorem ggX8_latest_X0_hasLetter : GoodIn wsX8_latest wsX0_hasLetter := goodIn_r _ [7, 8, 71, 72, 73, 74, 75, 76, 77, 78, 79, 80, 81, 82, 83, 84, 85, 86] (by decide +kernel) (by decide +kernel)
set_option maxRecDepth 20000 in
theorem gX8_latest_X0_hasLetter : GoodIn wsX8_latest (wsV RX8 244 RX0 yX0_hasLetter wsX0_hasLetter) := goodIn_app (goodIn_of _ (by decide +kernel)) ggX8_latest_X0_hasLetter
set_option maxRecDepth 20000 in
theorem ggX8_latest_X8_isBeat : GoodIn wsX8_latest wsX8_isBeat := goodIn_r _ [12, 13, 14, 15, 11, 16] (by decide +kernel) (by decide +kernel)
set_option maxRecDepth 20000 in
theorem gX8_latest_X8_isBeat : GoodIn wsX8_latest (va_wsS RX8 109 yX8_isBeat wsX8_isBeat) := goodIn_app (goodIn_of _ (by decide +kernel)) ggX8_latest_X8_isBeat
set_option maxRecDepth 20000 in
theorem ggX8_latest_X2_lastLeave : GoodIn wsX8_latest wsX2_lastLeave := goodIn_r _ [21, 22, 23, 24, 25, 26, 27, 28, 29, 30, 31, 32, 33, 20, 34, 35, 36, 37, 38, 39, 40, 41, 42, 6, 43, 44, 45, 46, 47, 48, 49, 50, 51, 52, 53, 54, 55, 56, 57, 58, 59, 87, 88, 89, 90, 91, 92, 93, 94, 95, 71, 72, 73, 74, 75, 76, 77, 78, 79, 80, 81, 82, 83, 84, 85, 86] (by decide +kernel) (by decide +kernel)
set_option maxRecDepth 20000 in
theorem gX8_latest_X2_lastLeave : GoodIn wsX8_latest (wsV RX8 269 RX2 yX2_lastLeave wsX2_lastLeave) := goodIn_app (goodIn_of _ (by decide +kernel)) ggX8_latest_X2_lastLeave
theorem dX8_latest_0 : decode cX8_latest 0 = .ok (.aload_n 0, 1) := by decide +kernel
theorem dX8_latest_1 : decode cX8_latest 1 = .ok (.getfield 10, 3) := by decide +kernel
theorem dX8_latest_4 : decode cX8_latest 4 = .ok (.iload_n 1, 1) := by decide +kernel
theorem dX8_latest_5 : decode cX8_latest 5 = .ok (.invokevirtual 244, 3) := by decide +kernel
theorem dX8_latest_8 : decode cX8_latest 8 = .ok (.ifCond .eq 10, 3) := by decide +kernel
theorem dX8_latest_11 : decode cX8_latest 11 = .ok (.iload_n 2, 1) := by decide +kernel
theorem dX8_latest_12 : decode cX8_latest 12 = .ok (.invokestatic 109, 3) := by decide +kernel
theorem dX8_latest_15 : decode cX8_latest 15 = .ok (.ifCond .ne 6, 3) := by decide +kernel
theorem dX8_latest_18 : decode cX8_latest 18 = .ok (.bipush (-2), 2) := by decide +kernel
theorem dX8_latest_20 : decode cX8_latest 20 = .ok (.ireturn, 1) := by decide +kernel
theorem dX8_latest_21 : decode cX8_latest 21 = .ok (.aload_n 0, 1) := by decide +kernel
theorem dX8_latest_22 : decode cX8_latest 22 = .ok (.getfield 46, 3) := by decide +kernel
theorem dX8_latest_25 : decode cX8_latest 25 = .ok (.aload_n 0, 1) := by decide +kernel
theorem dX8_latest_26 : decode cX8_latest 26 = .ok (.getfield 10, 3) := by decide +kernel
theorem dX8_latest_29 : decode cX8_latest 29 = .ok (.iload_n 1, 1) := by decide +kernel
theorem dX8_latest_30 : decode cX8_latest 30 = .ok (.iload_n 2, 1) := by decide +kernel
theorem dX8_latest_31 : decode cX8_latest 31 = .ok (.invokevirtual 269, 3) := by decide +kernel
theorem dX8_latest_34 : decode cX8_latest 34 = .ok (.ireturn, 1) := by decide +kernel
set_option maxRecDepth 20000 in
theorem ggX8_state_X0_hasThrow : GoodIn wsX8_state wsX0_hasThrow := goodIn_r _ [7, 8, 9, 10, 11, 6, 12, 13, 52, 53, 54, 55, 56, 57, 58, 59, 60, 61, 62, 63, 64, 65, 66, 67] (by decide +kernel) (by decide +kernel)
set_option maxRecDepth 20000 in
theorem gX8_state_X0_hasThrow : GoodIn wsX8_state (wsV RX8 137 RX0 yX0_hasThrow wsX0_hasThrow) := goodIn_app (goodIn_of _ (by decide +kernel)) ggX8_state_X0_hasThrow
set_option maxRecDepth 20000 in
theorem ggX8_state_X5_stateOf : GoodIn wsX8_state wsX5_stateOf := goodIn_r _ [18, 19, 20, 17, 21, 22, 23, 24, 25, 6, 26, 27, 28, 29, 30, 31, 13, 8, 32, 33, 34, 35, 36, 37, 38, 39, 40, 52, 53, 54, 55, 56, 57, 58, 59, 60, 61, 62, 63, 64, 65, 66, 67] (by decide +kernel) (by decide +kernel)
set_option maxRecDepth 20000 in
theorem gX8_state_X5_stateOf : GoodIn wsX8_state (wsV RX8 272 RX5 yX5_stateOf wsX5_stateOf) := goodIn_app (goodIn_of _ (by decide +kernel)) ggX8_state_X5_stateOf
theorem dX8_state_0 : decode cX8_state 0 = .ok (.aload_n 0, 1) := by decide +kernel
theorem dX8_state_1 : decode cX8_state 1 = .ok (.getfield 10, 3) := by decide +kernel
theorem dX8_state_4 : decode cX8_state 4 = .ok (.iload_n 1, 1) := by decide +kernel
theorem dX8_state_5 : decode cX8_state 5 = .ok (.iload_n 2, 1) := by decide +kernel
theorem dX8_state_6 : decode cX8_state 6 = .ok (.invokevirtual 137, 3) := by decide +kernel
theorem dX8_state_9 : decode cX8_state 9 = .ok (.ifCond .eq 19, 3) := by decide +kernel
theorem dX8_state_12 : decode cX8_state 12 = .ok (.aload_n 0, 1) := by decide +kernel
theorem dX8_state_13 : decode cX8_state 13 = .ok (.getfield 53, 3) := by decide +kernel
theorem dX8_state_16 : decode cX8_state 16 = .ok (.aload_n 0, 1) := by decide +kernel
theorem dX8_state_17 : decode cX8_state 17 = .ok (.getfield 10, 3) := by decide +kernel
theorem dX8_state_20 : decode cX8_state 20 = .ok (.iload_n 1, 1) := by decide +kernel
theorem dX8_state_21 : decode cX8_state 21 = .ok (.iload_n 2, 1) := by decide +kernel
theorem dX8_state_22 : decode cX8_state 22 = .ok (.invokevirtual 272, 3) := by decide +kernel
theorem dX8_state_25 : decode cX8_state 25 = .ok (.goto 5, 3) := by decide +kernel
theorem dX8_state_28 : decode cX8_state 28 = .ok (.bipush (-2), 2) := by decide +kernel
theorem dX8_state_30 : decode cX8_state 30 = .ok (.ireturn, 1) := by decide +kernel
set_option maxRecDepth 20000 in
theorem ggX8_change_X0_hasThrow : GoodIn wsX8_change wsX0_hasThrow := goodIn_r _ [7, 8, 9, 10, 11, 6, 12, 13, 73, 74, 75, 76, 77, 78, 79, 80, 81, 82, 83, 84, 85, 86, 87, 88] (by decide +kernel) (by decide +kernel)
set_option maxRecDepth 20000 in
theorem gX8_change_X0_hasThrow : GoodIn wsX8_change (wsV RX8 137 RX0 yX0_hasThrow wsX0_hasThrow) := goodIn_app (goodIn_of _ (by decide +kernel)) ggX8_change_X0_hasThrow
set_option maxRecDepth 20000 in
theorem ggX8_change_X5_stateOf : GoodIn wsX8_change wsX5_stateOf := goodIn_r _ [18, 19, 20, 17, 21, 22, 23, 24, 25, 6, 26, 27, 28, 29, 30, 31, 13, 8, 32, 33, 34, 35, 36, 37, 38, 39, 40, 73, 74, 75, 76, 77, 78, 79, 80, 81, 82, 83, 84, 85, 86, 87, 88] (by decide +kernel) (by decide +kernel)
set_option maxRecDepth 20000 in
theorem gX8_change_X5_stateOf : GoodIn wsX8_change (wsV RX8 272 RX5 yX5_stateOf wsX5_stateOf) := goodIn_app (goodIn_of _ (by decide +kernel)) ggX8_change_X5_stateOf
set_option maxRecDepth 20000 in
theorem ggX8_change_X5_throwsBetween : GoodIn wsX8_change wsX5_throwsBetween := goodIn_r _ [44, 45, 46, 47, 17, 48, 49, 50, 51, 52, 53, 54, 55, 56, 57, 58, 59, 60, 61, 89, 90] (by decide +kernel) (by decide +kernel)
set_option maxRecDepth 20000 in
theorem gX8_change_X5_throwsBetween : GoodIn wsX8_change (wsV RX8 275 RX5 yX5_throwsBetween wsX5_throwsBetween) := goodIn_app (goodIn_of _ (by decide +kernel)) ggX8_change_X5_throwsBetween
theorem dX8_change_0 : decode cX8_change 0 = .ok (.aload_n 0, 1) := by decide +kernel
theorem dX8_change_1 : decode cX8_change 1 = .ok (.getfield 10, 3) := by decide +kernel
theorem dX8_change_4 : decode cX8_change 4 = .ok (.iload_n 1, 1) := by decide +kernel
theorem dX8_change_5 : decode cX8_change 5 = .ok (.iload_n 2, 1) := by decide +kernel
theorem dX8_change_6 : decode cX8_change 6 = .ok (.invokevirtual 137, 3) := by decide +kernel
theorem dX8_change_9 : decode cX8_change 9 = .ok (.ifCond .eq 16, 3) := by decide +kernel
theorem dX8_change_12 : decode cX8_change 12 = .ok (.aload_n 0, 1) := by decide +kernel
theorem dX8_change_13 : decode cX8_change 13 = .ok (.getfield 10, 3) := by decide +kernel
theorem dX8_change_16 : decode cX8_change 16 = .ok (.iload_n 3, 1) := by decide +kernel
theorem dX8_change_17 : decode cX8_change 17 = .ok (.iload 4, 2) := by decide +kernel
theorem dX8_change_19 : decode cX8_change 19 = .ok (.invokevirtual 137, 3) := by decide +kernel
theorem dX8_change_22 : decode cX8_change 22 = .ok (.ifCond .ne 6, 3) := by decide +kernel
theorem dX8_change_25 : decode cX8_change 25 = .ok (.bipush (-2), 2) := by decide +kernel
theorem dX8_change_27 : decode cX8_change 27 = .ok (.ireturn, 1) := by decide +kernel
theorem dX8_change_28 : decode cX8_change 28 = .ok (.aload_n 0, 1) := by decide +kernel
theorem dX8_change_29 : decode cX8_change 29 = .ok (.getfield 53, 3) := by decide +kernel
theorem dX8_change_32 : decode cX8_change 32 = .ok (.aload_n 0, 1) := by decide +kernel
theorem dX8_change_33 : decode cX8_change 33 = .ok (.getfield 53, 3) := by decide +kernel
theorem dX8_change_36 : decode cX8_change 36 = .ok (.aload_n 0, 1) := by decide +kernel
theorem dX8_change_37 : decode cX8_change 37 = .ok (.getfield 10, 3) := by decide +kernel
theorem dX8_change_40 : decode cX8_change 40 = .ok (.iload_n 1, 1) := by decide +kernel
theorem dX8_change_41 : decode cX8_change 41 = .ok (.iload_n 2, 1) := by decide +kernel
theorem dX8_change_42 : decode cX8_change 42 = .ok (.invokevirtual 272, 3) := by decide +kernel
theorem dX8_change_45 : decode cX8_change 45 = .ok (.aload_n 0, 1) := by decide +kernel
theorem dX8_change_46 : decode cX8_change 46 = .ok (.getfield 53, 3) := by decide +kernel
theorem dX8_change_49 : decode cX8_change 49 = .ok (.aload_n 0, 1) := by decide +kernel
theorem dX8_change_50 : decode cX8_change 50 = .ok (.getfield 10, 3) := by decide +kernel
theorem dX8_change_53 : decode cX8_change 53 = .ok (.iload_n 3, 1) := by decide +kernel
theorem dX8_change_54 : decode cX8_change 54 = .ok (.iload 4, 2) := by decide +kernel
theorem dX8_change_56 : decode cX8_change 56 = .ok (.invokevirtual 272, 3) := by decide +kernel
theorem dX8_change_59 : decode cX8_change 59 = .ok (.invokevirtual 275, 3) := by decide +kernel
theorem dX8_change_62 : decode cX8_change 62 = .ok (.ireturn, 1) := by decide +kernel
set_option maxRecDepth 20000 in
theorem ggX8_changes_X0_hasThrow : GoodIn wsX8_changes wsX0_hasThrow := goodIn_r _ [7, 8, 9, 10, 11, 6, 12, 13, 84, 85, 86, 87, 88, 89, 90, 91, 92, 93, 94, 95, 96, 97, 98, 99] (by decide +kernel) (by decide +kernel)
set_option maxRecDepth 20000 in
theorem gX8_changes_X0_hasThrow : GoodIn wsX8_changes (wsV RX8 137 RX0 yX0_hasThrow wsX0_hasThrow) := goodIn_app (goodIn_of _ (by decide +kernel)) ggX8_changes_X0_hasThrow
set_option maxRecDepth 20000 in
theorem ggX8_changes_X5_stateOf : GoodIn wsX8_changes wsX5_stateOf := goodIn_r _ [18, 19, 20, 17, 21, 22, 23, 24, 25, 6, 26, 27, 28, 29, 30, 31, 13, 8, 32, 33, 34, 35, 36, 37, 38, 39, 40, 84, 85, 86, 87, 88, 89, 90, 91, 92, 93, 94, 95, 96, 97, 98, 99] (by decide +kernel) (by decide +kernel)
set_option maxRecDepth 20000 in
theorem gX8_changes_X5_stateOf : GoodIn wsX8_changes (wsV RX8 272 RX5 yX5_stateOf wsX5_stateOf) := goodIn_app (goodIn_of _ (by decide +kernel)) ggX8_changes_X5_stateOf
set_option maxRecDepth 20000 in
theorem ggX8_changes_X5_throwsBetween : GoodIn wsX8_changes wsX5_throwsBetween := goodIn_r _ [44, 45, 46, 47, 17, 48, 49, 50, 51, 52, 53, 54, 55, 56, 57, 58, 59, 60, 61, 100, 101] (by decide +kernel) (by decide +kernel)
set_option maxRecDepth 20000 in
theorem gX8_changes_X5_throwsBetween : GoodIn wsX8_changes (wsV RX8 275 RX5 yX5_throwsBetween wsX5_throwsBetween) := goodIn_app (goodIn_of _ (by decide +kernel)) ggX8_changes_X5_throwsBetween
set_option maxRecDepth 20000 in
theorem ggX8_changes_X5_throwOfChange : GoodIn wsX8_changes wsX5_throwOfChange := goodIn_r _ [65, 66, 67, 68, 17, 69, 45, 70, 71, 72, 100, 101] (by decide +kernel) (by decide +kernel)
set_option maxRecDepth 20000 in
theorem gX8_changes_X5_throwOfChange : GoodIn wsX8_changes (wsV RX8 278 RX5 yX5_throwOfChange wsX5_throwOfChange) := goodIn_app (goodIn_of _ (by decide +kernel)) ggX8_changes_X5_throwOfChange
theorem dX8_changes_0 : decode cX8_changes 0 = .ok (.aload_n 0, 1) := by decide +kernel
theorem dX8_changes_1 : decode cX8_changes 1 = .ok (.getfield 10, 3) := by decide +kernel
theorem dX8_changes_4 : decode cX8_changes 4 = .ok (.iload_n 1, 1) := by decide +kernel
theorem dX8_changes_5 : decode cX8_changes 5 = .ok (.iload_n 2, 1) := by decide +kernel
theorem dX8_changes_6 : decode cX8_changes 6 = .ok (.invokevirtual 137, 3) := by decide +kernel
theorem dX8_changes_9 : decode cX8_changes 9 = .ok (.ifCond .eq 21, 3) := by decide +kernel
theorem dX8_changes_12 : decode cX8_changes 12 = .ok (.aload_n 0, 1) := by decide +kernel
theorem dX8_changes_13 : decode cX8_changes 13 = .ok (.getfield 10, 3) := by decide +kernel
theorem dX8_changes_16 : decode cX8_changes 16 = .ok (.iload_n 3, 1) := by decide +kernel
theorem dX8_changes_17 : decode cX8_changes 17 = .ok (.iload 4, 2) := by decide +kernel
theorem dX8_changes_19 : decode cX8_changes 19 = .ok (.invokevirtual 137, 3) := by decide +kernel
theorem dX8_changes_22 : decode cX8_changes 22 = .ok (.ifCond .eq 8, 3) := by decide +kernel
theorem dX8_changes_25 : decode cX8_changes 25 = .ok (.iload 5, 2) := by decide +kernel
theorem dX8_changes_27 : decode cX8_changes 27 = .ok (.ifCond .ge 6, 3) := by decide +kernel
theorem dX8_changes_30 : decode cX8_changes 30 = .ok (.bipush (-2), 2) := by decide +kernel
theorem dX8_changes_32 : decode cX8_changes 32 = .ok (.ireturn, 1) := by decide +kernel
theorem dX8_changes_33 : decode cX8_changes 33 = .ok (.aload_n 0, 1) := by decide +kernel
theorem dX8_changes_34 : decode cX8_changes 34 = .ok (.getfield 53, 3) := by decide +kernel
theorem dX8_changes_37 : decode cX8_changes 37 = .ok (.aload_n 0, 1) := by decide +kernel
theorem dX8_changes_38 : decode cX8_changes 38 = .ok (.getfield 10, 3) := by decide +kernel
theorem dX8_changes_41 : decode cX8_changes 41 = .ok (.iload_n 1, 1) := by decide +kernel
theorem dX8_changes_42 : decode cX8_changes 42 = .ok (.iload_n 2, 1) := by decide +kernel
theorem dX8_changes_43 : decode cX8_changes 43 = .ok (.invokevirtual 272, 3) := by decide +kernel
theorem dX8_changes_46 : decode cX8_changes 46 = .ok (.istore 6, 2) := by decide +kernel
theorem dX8_changes_48 : decode cX8_changes 48 = .ok (.aload_n 0, 1) := by decide +kernel
theorem dX8_changes_49 : decode cX8_changes 49 = .ok (.getfield 53, 3) := by decide +kernel
theorem dX8_changes_52 : decode cX8_changes 52 = .ok (.iload 6, 2) := by decide +kernel
theorem dX8_changes_54 : decode cX8_changes 54 = .ok (.aload_n 0, 1) := by decide +kernel
theorem dX8_changes_55 : decode cX8_changes 55 = .ok (.getfield 53, 3) := by decide +kernel
theorem dX8_changes_58 : decode cX8_changes 58 = .ok (.aload_n 0, 1) := by decide +kernel
theorem dX8_changes_59 : decode cX8_changes 59 = .ok (.getfield 10, 3) := by decide +kernel
theorem dX8_changes_62 : decode cX8_changes 62 = .ok (.iload_n 3, 1) := by decide +kernel
theorem dX8_changes_63 : decode cX8_changes 63 = .ok (.iload 4, 2) := by decide +kernel
theorem dX8_changes_65 : decode cX8_changes 65 = .ok (.invokevirtual 272, 3) := by decide +kernel
theorem dX8_changes_68 : decode cX8_changes 68 = .ok (.invokevirtual 275, 3) := by decide +kernel
theorem dX8_changes_71 : decode cX8_changes 71 = .ok (.istore 7, 2) := by decide +kernel
theorem dX8_changes_73 : decode cX8_changes 73 = .ok (.iload 5, 2) := by decide +kernel
theorem dX8_changes_75 : decode cX8_changes 75 = .ok (.iload 7, 2) := by decide +kernel
theorem dX8_changes_77 : decode cX8_changes 77 = .ok (.if_icmp .ge 17, 3) := by decide +kernel
theorem dX8_changes_80 : decode cX8_changes 80 = .ok (.aload_n 0, 1) := by decide +kernel
theorem dX8_changes_81 : decode cX8_changes 81 = .ok (.getfield 53, 3) := by decide +kernel
theorem dX8_changes_84 : decode cX8_changes 84 = .ok (.iload 6, 2) := by decide +kernel
theorem dX8_changes_86 : decode cX8_changes 86 = .ok (.iload 5, 2) := by decide +kernel
theorem dX8_changes_88 : decode cX8_changes 88 = .ok (.invokevirtual 278, 3) := by decide +kernel
theorem dX8_changes_91 : decode cX8_changes 91 = .ok (.goto 4, 3) := by decide +kernel
theorem dX8_changes_94 : decode cX8_changes 94 = .ok (.iconst (-1), 1) := by decide +kernel
theorem dX8_changes_95 : decode cX8_changes 95 = .ok (.ireturn, 1) := by decide +kernel
set_option maxRecDepth 20000 in
theorem ggX8_ground_X0_hasThrow : GoodIn wsX8_ground wsX0_hasThrow := goodIn_r _ [7, 8, 9, 10, 11, 6, 12, 13, 80, 81, 82, 83, 84, 85, 86, 87, 88, 89, 90, 91, 92, 93, 94, 95] (by decide +kernel) (by decide +kernel)
set_option maxRecDepth 20000 in
theorem gX8_ground_X0_hasThrow : GoodIn wsX8_ground (wsV RX8 137 RX0 yX0_hasThrow wsX0_hasThrow) := goodIn_app (goodIn_of _ (by decide +kernel)) ggX8_ground_X0_hasThrow
set_option maxRecDepth 20000 in
theorem ggX8_ground_X5_stateOf : GoodIn wsX8_ground wsX5_stateOf := goodIn_r _ [18, 19, 20, 17, 21, 22, 23, 24, 25, 6, 26, 27, 28, 29, 30, 31, 13, 8, 32, 33, 34, 35, 36, 37, 38, 39, 40, 80, 81, 82, 83, 84, 85, 86, 87, 88, 89, 90, 91, 92, 93, 94, 95] (by decide +kernel) (by decide +kernel)
set_option maxRecDepth 20000 in
theorem gX8_ground_X5_stateOf : GoodIn wsX8_ground (wsV RX8 272 RX5 yX5_stateOf wsX5_stateOf) := goodIn_app (goodIn_of _ (by decide +kernel)) ggX8_ground_X5_stateOf
set_option maxRecDepth 20000 in
theorem ggX8_ground_J6_bitCount_0f7a4 : GoodIn wsX8_ground wsJ6_bitCount_0f7a4 := goodIn_r _ [44, 45, 46, 47] (by decide +kernel) (by decide +kernel)
set_option maxRecDepth 20000 in
theorem gX8_ground_J6_bitCount_0f7a4 : GoodIn wsX8_ground (va_wsS RX8 281 yJ6_bitCount_0f7a4 wsJ6_bitCount_0f7a4) := goodIn_app (goodIn_of _ (by decide +kernel)) ggX8_ground_J6_bitCount_0f7a4
set_option maxRecDepth 20000 in
theorem ggX8_ground_X5_throwsBetween : GoodIn wsX8_ground wsX5_throwsBetween := goodIn_r _ [51, 52, 53, 54, 17, 55, 56, 57, 58, 59, 60, 61, 62, 63, 64, 65, 66, 67, 68, 96, 97] (by decide +kernel) (by decide +kernel)
set_option maxRecDepth 20000 in
theorem gX8_ground_X5_throwsBetween : GoodIn wsX8_ground (wsV RX8 275 RX5 yX5_throwsBetween wsX5_throwsBetween) := goodIn_app (goodIn_of _ (by decide +kernel)) ggX8_ground_X5_throwsBetween
theorem dX8_ground_0 : decode cX8_ground 0 = .ok (.aload_n 0, 1) := by decide +kernel
theorem dX8_ground_1 : decode cX8_ground 1 = .ok (.getfield 10, 3) := by decide +kernel
theorem dX8_ground_4 : decode cX8_ground 4 = .ok (.iload_n 1, 1) := by decide +kernel
theorem dX8_ground_5 : decode cX8_ground 5 = .ok (.iload_n 2, 1) := by decide +kernel
theorem dX8_ground_6 : decode cX8_ground 6 = .ok (.invokevirtual 137, 3) := by decide +kernel
theorem dX8_ground_9 : decode cX8_ground 9 = .ok (.ifCond .ne 6, 3) := by decide +kernel
theorem dX8_ground_12 : decode cX8_ground 12 = .ok (.bipush (-2), 2) := by decide +kernel
theorem dX8_ground_14 : decode cX8_ground 14 = .ok (.ireturn, 1) := by decide +kernel
theorem dX8_ground_15 : decode cX8_ground 15 = .ok (.aload_n 0, 1) := by decide +kernel
theorem dX8_ground_16 : decode cX8_ground 16 = .ok (.getfield 53, 3) := by decide +kernel
theorem dX8_ground_19 : decode cX8_ground 19 = .ok (.aload_n 0, 1) := by decide +kernel
theorem dX8_ground_20 : decode cX8_ground 20 = .ok (.getfield 10, 3) := by decide +kernel
theorem dX8_ground_23 : decode cX8_ground 23 = .ok (.iload_n 1, 1) := by decide +kernel
theorem dX8_ground_24 : decode cX8_ground 24 = .ok (.iload_n 2, 1) := by decide +kernel
theorem dX8_ground_25 : decode cX8_ground 25 = .ok (.invokevirtual 272, 3) := by decide +kernel
theorem dX8_ground_28 : decode cX8_ground 28 = .ok (.istore_n 3, 1) := by decide +kernel
theorem dX8_ground_29 : decode cX8_ground 29 = .ok (.iload_n 3, 1) := by decide +kernel
theorem dX8_ground_30 : decode cX8_ground 30 = .ok (.iconst (-1), 1) := by decide +kernel
theorem dX8_ground_31 : decode cX8_ground 31 = .ok (.if_icmp .ne 5, 3) := by decide +kernel
theorem dX8_ground_34 : decode cX8_ground 34 = .ok (.iconst (-1), 1) := by decide +kernel
theorem dX8_ground_35 : decode cX8_ground 35 = .ok (.ireturn, 1) := by decide +kernel
theorem dX8_ground_36 : decode cX8_ground 36 = .ok (.aload_n 0, 1) := by decide +kernel
theorem dX8_ground_37 : decode cX8_ground 37 = .ok (.getfield 53, 3) := by decide +kernel
theorem dX8_ground_40 : decode cX8_ground 40 = .ok (.iload_n 3, 1) := by decide +kernel
theorem dX8_ground_41 : decode cX8_ground 41 = .ok (.iconst 1, 1) := by decide +kernel
theorem dX8_ground_42 : decode cX8_ground 42 = .ok (.iload_n 3, 1) := by decide +kernel
theorem dX8_ground_43 : decode cX8_ground 43 = .ok (.invokestatic 281, 3) := by decide +kernel
theorem dX8_ground_46 : decode cX8_ground 46 = .ok (.ishl, 1) := by decide +kernel
theorem dX8_ground_47 : decode cX8_ground 47 = .ok (.iconst 1, 1) := by decide +kernel
theorem dX8_ground_48 : decode cX8_ground 48 = .ok (.isub, 1) := by decide +kernel
theorem dX8_ground_49 : decode cX8_ground 49 = .ok (.invokevirtual 275, 3) := by decide +kernel
theorem dX8_ground_52 : decode cX8_ground 52 = .ok (.ireturn, 1) := by decide +kernel
set_option maxRecDepth 20000 in
theorem ggX8_rows_X8_isRowKind : GoodIn wsX8_rows wsX8_isRowKind := goodIn_r _ [6, 7, 8, 5, 9] (by decide +kernel) (by decide +kernel)
set_option maxRecDepth 20000 in
theorem gX8_rows_X8_isRowKind : GoodIn wsX8_rows (va_wsS RX8 286 yX8_isRowKind wsX8_isRowKind) := goodIn_app (goodIn_of _ (by decide +kernel)) ggX8_rows_X8_isRowKind
set_option maxRecDepth 20000 in
theorem ggX8_rows_X7_waysOf : GoodIn wsX8_rows wsX7_waysOf := goodIn_r _ [14, 15, 16, 17, 13, 18, 19, 20, 21, 22, 23, 24, 25, 26, 27, 28, 29, 30, 31, 32, 33, 34, 35, 36, 37, 38, 39, 40, 41, 42, 43, 44, 45, 46, 47, 48, 60, 61, 62] (by decide +kernel) (by decide +kernel)
set_option maxRecDepth 20000 in
theorem gX8_rows_X7_waysOf : GoodIn wsX8_rows (wsV RX8 290 RX7 yX7_waysOf wsX7_waysOf) := goodIn_app (goodIn_of _ (by decide +kernel)) ggX8_rows_X7_waysOf
theorem dX8_rows_0 : decode cX8_rows 0 = .ok (.iload_n 1, 1) := by decide +kernel
theorem dX8_rows_1 : decode cX8_rows 1 = .ok (.iload_n 2, 1) := by decide +kernel
theorem dX8_rows_2 : decode cX8_rows 2 = .ok (.iload_n 3, 1) := by decide +kernel
theorem dX8_rows_3 : decode cX8_rows 3 = .ok (.invokestatic 286, 3) := by decide +kernel
theorem dX8_rows_6 : decode cX8_rows 6 = .ok (.ifCond .ne 7, 3) := by decide +kernel
theorem dX8_rows_9 : decode cX8_rows 9 = .ok (.ldc2_w 237, 3) := by decide +kernel
theorem dX8_rows_12 : decode cX8_rows 12 = .ok (.lreturn, 1) := by decide +kernel
theorem dX8_rows_13 : decode cX8_rows 13 = .ok (.aload_n 0, 1) := by decide +kernel
theorem dX8_rows_14 : decode cX8_rows 14 = .ok (.getfield 60, 3) := by decide +kernel
theorem dX8_rows_17 : decode cX8_rows 17 = .ok (.iload_n 1, 1) := by decide +kernel
theorem dX8_rows_18 : decode cX8_rows 18 = .ok (.iload_n 2, 1) := by decide +kernel
theorem dX8_rows_19 : decode cX8_rows 19 = .ok (.iload_n 3, 1) := by decide +kernel
theorem dX8_rows_20 : decode cX8_rows 20 = .ok (.invokevirtual 290, 3) := by decide +kernel
theorem dX8_rows_23 : decode cX8_rows 23 = .ok (.i2l, 1) := by decide +kernel
theorem dX8_rows_24 : decode cX8_rows 24 = .ok (.lreturn, 1) := by decide +kernel
set_option maxRecDepth 20000 in
theorem ggX8_least_X8_isRowKind : GoodIn wsX8_least wsX8_isRowKind := goodIn_r _ [5, 6, 7, 4, 8] (by decide +kernel) (by decide +kernel)
set_option maxRecDepth 20000 in
theorem gX8_least_X8_isRowKind : GoodIn wsX8_least (va_wsS RX8 286 yX8_isRowKind wsX8_isRowKind) := goodIn_app (goodIn_of _ (by decide +kernel)) ggX8_least_X8_isRowKind
set_option maxRecDepth 20000 in
theorem ggX8_least_X7_waysOf : GoodIn wsX8_least wsX7_waysOf := goodIn_r _ [13, 14, 15, 16, 12, 17, 18, 19, 20, 21, 22, 23, 24, 25, 26, 27, 28, 29, 30, 31, 32, 33, 34, 35, 36, 37, 38, 39, 40, 41, 42, 43, 44, 45, 46, 47, 67, 68, 69] (by decide +kernel) (by decide +kernel)
set_option maxRecDepth 20000 in
theorem gX8_least_X7_waysOf : GoodIn wsX8_least (wsV RX8 290 RX7 yX7_waysOf wsX7_waysOf) := goodIn_app (goodIn_of _ (by decide +kernel)) ggX8_least_X7_waysOf
set_option maxRecDepth 20000 in
theorem ggX8_least_X7_heightOfLeast : GoodIn wsX8_least wsX7_heightOfLeast := goodIn_r _ [51, 14, 15, 16, 12, 17, 18, 19, 20, 21, 22, 23, 24, 25, 26, 27, 28, 29, 30, 31, 32, 33, 34, 35, 36, 37, 38, 39, 40, 41, 42, 43, 52, 53, 54, 55, 44, 45, 46, 47, 67, 68, 69] (by decide +kernel) (by decide +kernel)
set_option maxRecDepth 20000 in
theorem gX8_least_X7_heightOfLeast : GoodIn wsX8_least (wsV RX8 294 RX7 yX7_heightOfLeast wsX7_heightOfLeast) := goodIn_app (goodIn_of _ (by decide +kernel)) ggX8_least_X7_heightOfLeast
theorem dX8_least_0 : decode cX8_least 0 = .ok (.iload_n 1, 1) := by decide +kernel
theorem dX8_least_1 : decode cX8_least 1 = .ok (.iload_n 2, 1) := by decide +kernel
theorem dX8_least_2 : decode cX8_least 2 = .ok (.iload_n 3, 1) := by decide +kernel
theorem dX8_least_3 : decode cX8_least 3 = .ok (.invokestatic 286, 3) := by decide +kernel
theorem dX8_least_6 : decode cX8_least 6 = .ok (.ifCond .eq 14, 3) := by decide +kernel
theorem dX8_least_9 : decode cX8_least 9 = .ok (.iload 4, 2) := by decide +kernel
theorem dX8_least_11 : decode cX8_least 11 = .ok (.ifCond .lt 9, 3) := by decide +kernel
theorem dX8_least_14 : decode cX8_least 14 = .ok (.iload 4, 2) := by decide +kernel
theorem dX8_least_16 : decode cX8_least 16 = .ok (.iload_n 1, 1) := by decide +kernel
theorem dX8_least_17 : decode cX8_least 17 = .ok (.if_icmp .lt 6, 3) := by decide +kernel
theorem dX8_least_20 : decode cX8_least 20 = .ok (.bipush (-2), 2) := by decide +kernel
theorem dX8_least_22 : decode cX8_least 22 = .ok (.ireturn, 1) := by decide +kernel
theorem dX8_least_23 : decode cX8_least 23 = .ok (.aload_n 0, 1) := by decide +kernel
theorem dX8_least_24 : decode cX8_least 24 = .ok (.getfield 60, 3) := by decide +kernel
theorem dX8_least_27 : decode cX8_least 27 = .ok (.iload_n 1, 1) := by decide +kernel
theorem dX8_least_28 : decode cX8_least 28 = .ok (.iload_n 2, 1) := by decide +kernel
theorem dX8_least_29 : decode cX8_least 29 = .ok (.iload_n 3, 1) := by decide +kernel
theorem dX8_least_30 : decode cX8_least 30 = .ok (.invokevirtual 290, 3) := by decide +kernel
theorem dX8_least_33 : decode cX8_least 33 = .ok (.ifCond .ne 7, 3) := by decide +kernel
theorem dX8_least_36 : decode cX8_least 36 = .ok (.iconst (-1), 1) := by decide +kernel
theorem dX8_least_37 : decode cX8_least 37 = .ok (.goto 15, 3) := by decide +kernel
theorem dX8_least_40 : decode cX8_least 40 = .ok (.aload_n 0, 1) := by decide +kernel
theorem dX8_least_41 : decode cX8_least 41 = .ok (.getfield 60, 3) := by decide +kernel
theorem dX8_least_44 : decode cX8_least 44 = .ok (.iload_n 1, 1) := by decide +kernel
theorem dX8_least_45 : decode cX8_least 45 = .ok (.iload_n 2, 1) := by decide +kernel
theorem dX8_least_46 : decode cX8_least 46 = .ok (.iload_n 3, 1) := by decide +kernel
theorem dX8_least_47 : decode cX8_least 47 = .ok (.iload 4, 2) := by decide +kernel
theorem dX8_least_49 : decode cX8_least 49 = .ok (.invokevirtual 294, 3) := by decide +kernel
theorem dX8_least_52 : decode cX8_least 52 = .ok (.ireturn, 1) := by decide +kernel
set_option maxRecDepth 20000 in
theorem ggX8_isRowKind_X8_isWithin : GoodIn wsX8_isRowKind wsX8_isWithin := goodIn_r _ [4] (by decide +kernel) (by decide +kernel)
set_option maxRecDepth 20000 in
theorem gX8_isRowKind_X8_isWithin : GoodIn wsX8_isRowKind (va_wsS RX8 112 yX8_isWithin wsX8_isWithin) := goodIn_app (goodIn_of _ (by decide +kernel)) ggX8_isRowKind_X8_isWithin
theorem dX8_isRowKind_0 : decode cX8_isRowKind 0 = .ok (.iload_n 0, 1) := by decide +kernel
theorem dX8_isRowKind_1 : decode cX8_isRowKind 1 = .ok (.iconst 1, 1) := by decide +kernel
theorem dX8_isRowKind_2 : decode cX8_isRowKind 2 = .ok (.if_icmp .lt 31, 3) := by decide +kernel
theorem dX8_isRowKind_5 : decode cX8_isRowKind 5 = .ok (.iload_n 0, 1) := by decide +kernel
theorem dX8_isRowKind_6 : decode cX8_isRowKind 6 = .ok (.bipush 8, 2) := by decide +kernel
theorem dX8_isRowKind_8 : decode cX8_isRowKind 8 = .ok (.if_icmp .gt 25, 3) := by decide +kernel
theorem dX8_isRowKind_11 : decode cX8_isRowKind 11 = .ok (.iload_n 1, 1) := by decide +kernel
theorem dX8_isRowKind_12 : decode cX8_isRowKind 12 = .ok (.bipush 9, 2) := by decide +kernel
theorem dX8_isRowKind_14 : decode cX8_isRowKind 14 = .ok (.invokestatic 112, 3) := by decide +kernel
theorem dX8_isRowKind_17 : decode cX8_isRowKind 17 = .ok (.ifCond .eq 16, 3) := by decide +kernel
theorem dX8_isRowKind_20 : decode cX8_isRowKind 20 = .ok (.iload_n 2, 1) := by decide +kernel
theorem dX8_isRowKind_21 : decode cX8_isRowKind 21 = .ok (.bipush 9, 2) := by decide +kernel
theorem dX8_isRowKind_23 : decode cX8_isRowKind 23 = .ok (.invokestatic 112, 3) := by decide +kernel
theorem dX8_isRowKind_26 : decode cX8_isRowKind 26 = .ok (.ifCond .eq 7, 3) := by decide +kernel
theorem dX8_isRowKind_29 : decode cX8_isRowKind 29 = .ok (.iconst 1, 1) := by decide +kernel
theorem dX8_isRowKind_30 : decode cX8_isRowKind 30 = .ok (.goto 4, 3) := by decide +kernel
theorem dX8_isRowKind_33 : decode cX8_isRowKind 33 = .ok (.iconst 0, 1) := by decide +kernel
theorem dX8_isRowKind_34 : decode cX8_isRowKind 34 = .ok (.ireturn, 1) := by decide +kernel
set_option maxRecDepth 20000 in
theorem ggX8_gusts_X8_areGusts : GoodIn wsX8_gusts wsX8_areGusts := goodIn_r _ [11, 2, 12, 13, 14, 15, 16, 17, 18, 19, 20, 10, 21, 117, 118, 119, 120, 121, 122, 123, 124, 125, 126, 127, 133, 134, 135, 136, 137, 138, 139, 140, 141, 142, 143, 144, 145, 146, 147, 148] (by decide +kernel) (by decide +kernel)
set_option maxRecDepth 20000 in
theorem gX8_gusts_X8_areGusts : GoodIn wsX8_gusts (wsV RX8 297 RX8 yX8_areGusts wsX8_areGusts) := goodIn_app (goodIn_of _ (by decide +kernel)) ggX8_gusts_X8_areGusts
set_option maxRecDepth 20000 in
theorem ggX8_gusts_X8_isWithin : GoodIn wsX8_gusts wsX8_isWithin := goodIn_r _ [21] (by decide +kernel) (by decide +kernel)
set_option maxRecDepth 20000 in
theorem gX8_gusts_X8_isWithin : GoodIn wsX8_gusts (va_wsS RX8 112 yX8_isWithin wsX8_isWithin) := goodIn_app (goodIn_of _ (by decide +kernel)) ggX8_gusts_X8_isWithin
set_option maxRecDepth 20000 in
theorem ggX8_gusts_X1_isKeptUp : GoodIn wsX8_gusts wsX1_isKeptUp := goodIn_r _ [26, 27, 28, 29, 30, 25, 31, 32, 33, 34, 35, 36, 37, 38, 39, 40, 41, 42, 43, 44, 45, 46, 47, 48, 49, 50, 51, 52, 53, 54, 55, 56, 57, 58, 16, 59, 60, 61, 62, 63, 64, 18, 65, 66, 67, 68, 69, 70, 71, 72, 73, 74, 75, 76, 77, 133, 134, 135, 136, 137, 138, 139, 140, 141, 142, 143, 144, 145, 146, 147, 148, 149, 150, 151, 152, 153, 154, 155, 156] (by decide +kernel) (by decide +kernel)
set_option maxRecDepth 20000 in
theorem gX8_gusts_X1_isKeptUp : GoodIn wsX8_gusts (wsV RX8 151 RX1 yX1_isKeptUp wsX1_isKeptUp) := goodIn_app (goodIn_of _ (by decide +kernel)) ggX8_gusts_X1_isKeptUp
set_option maxRecDepth 20000 in
theorem ggX8_gusts_X6_blow : GoodIn wsX8_gusts wsX6_blow := goodIn_r _ [82, 83, 84, 85, 86, 87, 88, 89, 90, 91, 92, 81, 93, 94, 45, 46, 47, 95, 57, 58, 16, 59, 60, 61, 62, 63, 64, 18, 65, 66, 53, 54, 55, 96, 68, 69, 70, 71, 97, 98, 99, 100, 101, 102, 103, 104, 105, 106, 107, 108, 128, 129, 130, 131, 132, 133, 134, 135, 136, 137, 138, 139, 140, 141, 142, 143, 144, 145, 146, 147, 148] (by decide +kernel) (by decide +kernel)
set_option maxRecDepth 20000 in
theorem gX8_gusts_X6_blow : GoodIn wsX8_gusts (wsV RX8 300 RX6 yX6_blow wsX6_blow) := goodIn_app (goodIn_of _ (by decide +kernel)) ggX8_gusts_X6_blow
set_option maxRecDepth 20000 in
theorem ggX8_gusts_X1_ballsOf : GoodIn wsX8_gusts wsX1_ballsOf := goodIn_r _ [112, 113, 114, 115, 25, 116, 38, 56, 57, 58, 16, 59, 60, 61, 62, 63, 64, 18, 65, 66, 53, 54, 55, 133, 134, 135, 136, 137, 138, 139, 140, 141, 142, 143, 144, 145, 146, 147, 148] (by decide +kernel) (by decide +kernel)
set_option maxRecDepth 20000 in
theorem gX8_gusts_X1_ballsOf : GoodIn wsX8_gusts (wsV RX8 175 RX1 yX1_ballsOf wsX1_ballsOf) := goodIn_app (goodIn_of _ (by decide +kernel)) ggX8_gusts_X1_ballsOf
theorem dX8_gusts_0 : decode cX8_gusts 0 = .ok (.aload_n 0, 1) := by decide +kernel
theorem dX8_gusts_1 : decode cX8_gusts 1 = .ok (.iload_n 1, 1) := by decide +kernel
theorem dX8_gusts_2 : decode cX8_gusts 2 = .ok (.iload_n 2, 1) := by decide +kernel
theorem dX8_gusts_3 : decode cX8_gusts 3 = .ok (.invokevirtual 297, 3) := by decide +kernel
theorem dX8_gusts_6 : decode cX8_gusts 6 = .ok (.ifCond .eq 11, 3) := by decide +kernel
theorem dX8_gusts_9 : decode cX8_gusts 9 = .ok (.iload_n 3, 1) := by decide +kernel
theorem dX8_gusts_10 : decode cX8_gusts 10 = .ok (.iconst 2, 1) := by decide +kernel
theorem dX8_gusts_11 : decode cX8_gusts 11 = .ok (.invokestatic 112, 3) := by decide +kernel
theorem dX8_gusts_14 : decode cX8_gusts 14 = .ok (.ifCond .ne 6, 3) := by decide +kernel
theorem dX8_gusts_17 : decode cX8_gusts 17 = .ok (.bipush (-2), 2) := by decide +kernel
theorem dX8_gusts_19 : decode cX8_gusts 19 = .ok (.ireturn, 1) := by decide +kernel
theorem dX8_gusts_20 : decode cX8_gusts 20 = .ok (.aload_n 0, 1) := by decide +kernel
theorem dX8_gusts_21 : decode cX8_gusts 21 = .ok (.getfield 39, 3) := by decide +kernel
theorem dX8_gusts_24 : decode cX8_gusts 24 = .ok (.aload_n 0, 1) := by decide +kernel
theorem dX8_gusts_25 : decode cX8_gusts 25 = .ok (.getfield 10, 3) := by decide +kernel
theorem dX8_gusts_28 : decode cX8_gusts 28 = .ok (.invokevirtual 151, 3) := by decide +kernel
theorem dX8_gusts_31 : decode cX8_gusts 31 = .ok (.ifCond .ne 5, 3) := by decide +kernel
theorem dX8_gusts_34 : decode cX8_gusts 34 = .ok (.iconst (-1), 1) := by decide +kernel
theorem dX8_gusts_35 : decode cX8_gusts 35 = .ok (.ireturn, 1) := by decide +kernel
theorem dX8_gusts_36 : decode cX8_gusts 36 = .ok (.aload_n 0, 1) := by decide +kernel
theorem dX8_gusts_37 : decode cX8_gusts 37 = .ok (.getfield 67, 3) := by decide +kernel
theorem dX8_gusts_40 : decode cX8_gusts 40 = .ok (.aload_n 0, 1) := by decide +kernel
theorem dX8_gusts_41 : decode cX8_gusts 41 = .ok (.getfield 10, 3) := by decide +kernel
theorem dX8_gusts_44 : decode cX8_gusts 44 = .ok (.iload_n 1, 1) := by decide +kernel
theorem dX8_gusts_45 : decode cX8_gusts 45 = .ok (.iload_n 2, 1) := by decide +kernel
theorem dX8_gusts_46 : decode cX8_gusts 46 = .ok (.iload_n 3, 1) := by decide +kernel
theorem dX8_gusts_47 : decode cX8_gusts 47 = .ok (.ifCond .eq 7, 3) := by decide +kernel
theorem dX8_gusts_50 : decode cX8_gusts 50 = .ok (.iconst 1, 1) := by decide +kernel
theorem dX8_gusts_51 : decode cX8_gusts 51 = .ok (.goto 4, 3) := by decide +kernel
theorem dX8_gusts_54 : decode cX8_gusts 54 = .ok (.iconst 0, 1) := by decide +kernel
theorem dX8_gusts_55 : decode cX8_gusts 55 = .ok (.invokevirtual 300, 3) := by decide +kernel
theorem dX8_gusts_58 : decode cX8_gusts 58 = .ok (.iload_n 3, 1) := by decide +kernel
theorem dX8_gusts_59 : decode cX8_gusts 59 = .ok (.ifCond .ne 23, 3) := by decide +kernel
theorem dX8_gusts_62 : decode cX8_gusts 62 = .ok (.aload_n 0, 1) := by decide +kernel
theorem dX8_gusts_63 : decode cX8_gusts 63 = .ok (.getfield 39, 3) := by decide +kernel
theorem dX8_gusts_66 : decode cX8_gusts 66 = .ok (.aload_n 0, 1) := by decide +kernel
theorem dX8_gusts_67 : decode cX8_gusts 67 = .ok (.getfield 10, 3) := by decide +kernel
theorem dX8_gusts_70 : decode cX8_gusts 70 = .ok (.invokevirtual 175, 3) := by decide +kernel
theorem dX8_gusts_73 : decode cX8_gusts 73 = .ok (.aload_n 0, 1) := by decide +kernel
theorem dX8_gusts_74 : decode cX8_gusts 74 = .ok (.getfield 67, 3) := by decide +kernel
theorem dX8_gusts_77 : decode cX8_gusts 77 = .ok (.getfield 304, 3) := by decide +kernel
theorem dX8_gusts_80 : decode cX8_gusts 80 = .ok (.isub, 1) := by decide +kernel
theorem dX8_gusts_81 : decode cX8_gusts 81 = .ok (.ireturn, 1) := by decide +kernel
theorem dX8_gusts_82 : decode cX8_gusts 82 = .ok (.iload_n 3, 1) := by decide +kernel
theorem dX8_gusts_83 : decode cX8_gusts 83 = .ok (.iconst 1, 1) := by decide +kernel
theorem dX8_gusts_84 : decode cX8_gusts 84 = .ok (.if_icmp .ne 13, 3) := by decide +kernel
theorem dX8_gusts_87 : decode cX8_gusts 87 = .ok (.aload_n 0, 1) := by decide +kernel
theorem dX8_gusts_88 : decode cX8_gusts 88 = .ok (.getfield 67, 3) := by decide +kernel
theorem dX8_gusts_91 : decode cX8_gusts 91 = .ok (.getfield 307, 3) := by decide +kernel
theorem dX8_gusts_94 : decode cX8_gusts 94 = .ok (.goto 10, 3) := by decide +kernel
theorem dX8_gusts_97 : decode cX8_gusts 97 = .ok (.aload_n 0, 1) := by decide +kernel
theorem dX8_gusts_98 : decode cX8_gusts 98 = .ok (.getfield 67, 3) := by decide +kernel
theorem dX8_gusts_101 : decode cX8_gusts 101 = .ok (.getfield 310, 3) := by decide +kernel
theorem dX8_gusts_104 : decode cX8_gusts 104 = .ok (.ireturn, 1) := by decide +kernel
set_option maxRecDepth 20000 in
theorem ggX8_years_X8_areGusts : GoodIn wsX8_years wsX8_areGusts := goodIn_r _ [9, 2, 10, 11, 12, 13, 14, 15, 16, 17, 18, 8, 19, 107, 108, 109, 110, 111, 112, 113, 114, 115, 116, 117, 123, 124, 125, 126, 127, 128, 129, 130, 131, 132, 133, 134, 135, 136, 137, 138] (by decide +kernel) (by decide +kernel)
set_option maxRecDepth 20000 in
theorem gX8_years_X8_areGusts : GoodIn wsX8_years (wsV RX8 297 RX8 yX8_areGusts wsX8_areGusts) := goodIn_app (goodIn_of _ (by decide +kernel)) ggX8_years_X8_areGusts
set_option maxRecDepth 20000 in
theorem ggX8_years_X1_isKeptUp : GoodIn wsX8_years wsX1_isKeptUp := goodIn_r _ [24, 25, 26, 27, 28, 23, 29, 30, 31, 32, 33, 34, 35, 36, 37, 38, 39, 40, 41, 42, 43, 44, 45, 46, 47, 48, 49, 50, 51, 52, 53, 54, 55, 56, 14, 57, 58, 59, 60, 61, 62, 16, 63, 64, 65, 66, 67, 68, 69, 70, 71, 72, 73, 74, 75, 123, 124, 125, 126, 127, 128, 129, 130, 131, 132, 133, 134, 135, 136, 137, 138, 139, 140, 141, 142, 143, 144, 145, 146] (by decide +kernel) (by decide +kernel)
set_option maxRecDepth 20000 in
theorem gX8_years_X1_isKeptUp : GoodIn wsX8_years (wsV RX8 151 RX1 yX1_isKeptUp wsX1_isKeptUp) := goodIn_app (goodIn_of _ (by decide +kernel)) ggX8_years_X1_isKeptUp
set_option maxRecDepth 20000 in
theorem ggX8_years_X6_blow : GoodIn wsX8_years wsX6_blow := goodIn_r _ [80, 81, 82, 83, 84, 85, 86, 87, 88, 89, 90, 79, 91, 92, 43, 44, 45, 93, 55, 56, 14, 57, 58, 59, 60, 61, 62, 16, 63, 64, 51, 52, 53, 94, 66, 67, 68, 69, 95, 96, 97, 98, 99, 100, 101, 102, 103, 104, 105, 106, 118, 119, 120, 121, 122, 123, 124, 125, 126, 127, 128, 129, 130, 131, 132, 133, 134, 135, 136, 137, 138] (by decide +kernel) (by decide +kernel)
set_option maxRecDepth 20000 in
theorem gX8_years_X6_blow : GoodIn wsX8_years (wsV RX8 300 RX6 yX6_blow wsX6_blow) := goodIn_app (goodIn_of _ (by decide +kernel)) ggX8_years_X6_blow
theorem dX8_years_0 : decode cX8_years 0 = .ok (.aload_n 0, 1) := by decide +kernel
theorem dX8_years_1 : decode cX8_years 1 = .ok (.iload_n 1, 1) := by decide +kernel
theorem dX8_years_2 : decode cX8_years 2 = .ok (.iload_n 3, 1) := by decide +kernel
theorem dX8_years_3 : decode cX8_years 3 = .ok (.invokevirtual 297, 3) := by decide +kernel
theorem dX8_years_6 : decode cX8_years 6 = .ok (.ifCond .eq 14, 3) := by decide +kernel
theorem dX8_years_9 : decode cX8_years 9 = .ok (.iload_n 2, 1) := by decide +kernel
theorem dX8_years_10 : decode cX8_years 10 = .ok (.iconst 1, 1) := by decide +kernel
theorem dX8_years_11 : decode cX8_years 11 = .ok (.if_icmp .lt 9, 3) := by decide +kernel
theorem dX8_years_14 : decode cX8_years 14 = .ok (.iload_n 2, 1) := by decide +kernel
theorem dX8_years_15 : decode cX8_years 15 = .ok (.bipush 20, 2) := by decide +kernel
theorem dX8_years_17 : decode cX8_years 17 = .ok (.if_icmp .le 6, 3) := by decide +kernel
theorem dX8_years_20 : decode cX8_years 20 = .ok (.bipush (-2), 2) := by decide +kernel
theorem dX8_years_22 : decode cX8_years 22 = .ok (.ireturn, 1) := by decide +kernel
theorem dX8_years_23 : decode cX8_years 23 = .ok (.aload_n 0, 1) := by decide +kernel
theorem dX8_years_24 : decode cX8_years 24 = .ok (.getfield 39, 3) := by decide +kernel
theorem dX8_years_27 : decode cX8_years 27 = .ok (.aload_n 0, 1) := by decide +kernel
theorem dX8_years_28 : decode cX8_years 28 = .ok (.getfield 10, 3) := by decide +kernel
theorem dX8_years_31 : decode cX8_years 31 = .ok (.invokevirtual 151, 3) := by decide +kernel
theorem dX8_years_34 : decode cX8_years 34 = .ok (.ifCond .ne 5, 3) := by decide +kernel
theorem dX8_years_37 : decode cX8_years 37 = .ok (.iconst (-1), 1) := by decide +kernel
theorem dX8_years_38 : decode cX8_years 38 = .ok (.ireturn, 1) := by decide +kernel
theorem dX8_years_39 : decode cX8_years 39 = .ok (.iconst 0, 1) := by decide +kernel
theorem dX8_years_40 : decode cX8_years 40 = .ok (.istore 4, 2) := by decide +kernel
theorem dX8_years_42 : decode cX8_years 42 = .ok (.iconst 0, 1) := by decide +kernel
theorem dX8_years_43 : decode cX8_years 43 = .ok (.istore 5, 2) := by decide +kernel
theorem dX8_years_45 : decode cX8_years 45 = .ok (.iload 5, 2) := by decide +kernel
theorem dX8_years_47 : decode cX8_years 47 = .ok (.iload_n 2, 1) := by decide +kernel
theorem dX8_years_48 : decode cX8_years 48 = .ok (.if_icmp .ge 39, 3) := by decide +kernel
theorem dX8_years_51 : decode cX8_years 51 = .ok (.aload_n 0, 1) := by decide +kernel
theorem dX8_years_52 : decode cX8_years 52 = .ok (.getfield 67, 3) := by decide +kernel
theorem dX8_years_55 : decode cX8_years 55 = .ok (.aload_n 0, 1) := by decide +kernel
theorem dX8_years_56 : decode cX8_years 56 = .ok (.getfield 10, 3) := by decide +kernel
theorem dX8_years_59 : decode cX8_years 59 = .ok (.iload_n 1, 1) := by decide +kernel
theorem dX8_years_60 : decode cX8_years 60 = .ok (.iload 5, 2) := by decide +kernel
theorem dX8_years_62 : decode cX8_years 62 = .ok (.iadd, 1) := by decide +kernel
theorem dX8_years_63 : decode cX8_years 63 = .ok (.iload_n 3, 1) := by decide +kernel
theorem dX8_years_64 : decode cX8_years 64 = .ok (.iconst 1, 1) := by decide +kernel
theorem dX8_years_65 : decode cX8_years 65 = .ok (.invokevirtual 300, 3) := by decide +kernel
theorem dX8_years_68 : decode cX8_years 68 = .ok (.aload_n 0, 1) := by decide +kernel
theorem dX8_years_69 : decode cX8_years 69 = .ok (.getfield 67, 3) := by decide +kernel
theorem dX8_years_72 : decode cX8_years 72 = .ok (.getfield 304, 3) := by decide +kernel
theorem dX8_years_75 : decode cX8_years 75 = .ok (.ifCond .le 6, 3) := by decide +kernel
theorem dX8_years_78 : decode cX8_years 78 = .ok (.iinc 4 1, 3) := by decide +kernel
theorem dX8_years_81 : decode cX8_years 81 = .ok (.iinc 5 1, 3) := by decide +kernel
theorem dX8_years_84 : decode cX8_years 84 = .ok (.goto (-39), 3) := by decide +kernel
theorem dX8_years_87 : decode cX8_years 87 = .ok (.iload 4, 2) := by decide +kernel
theorem dX8_years_89 : decode cX8_years 89 = .ok (.ireturn, 1) := by decide +kernel
set_option maxRecDepth 20000 in
theorem ggX8_areGusts_X0_isTold : GoodIn wsX8_areGusts wsX0_isTold := goodIn_r _ [7, 8, 24, 25, 26, 27, 28, 29, 30, 31, 32, 33, 34, 35, 36, 37, 38, 39] (by decide +kernel) (by decide +kernel)
set_option maxRecDepth 20000 in
theorem gX8_areGusts_X0_isTold : GoodIn wsX8_areGusts (wsV RX8 130 RX0 yX0_isTold wsX0_isTold) := goodIn_app (goodIn_of _ (by decide +kernel)) ggX8_areGusts_X0_isTold
set_option maxRecDepth 20000 in
theorem ggX8_areGusts_X8_isWithin : GoodIn wsX8_areGusts wsX8_isWithin := goodIn_r _ [12] (by decide +kernel) (by decide +kernel)
set_option maxRecDepth 20000 in
theorem gX8_areGusts_X8_isWithin : GoodIn wsX8_areGusts (va_wsS RX8 112 yX8_isWithin wsX8_isWithin) := goodIn_app (goodIn_of _ (by decide +kernel)) ggX8_areGusts_X8_isWithin
theorem dX8_areGusts_0 : decode cX8_areGusts 0 = .ok (.aload_n 0, 1) := by decide +kernel
theorem dX8_areGusts_1 : decode cX8_areGusts 1 = .ok (.getfield 10, 3) := by decide +kernel
theorem dX8_areGusts_4 : decode cX8_areGusts 4 = .ok (.invokevirtual 130, 3) := by decide +kernel
theorem dX8_areGusts_7 : decode cX8_areGusts 7 = .ok (.ifCond .eq 27, 3) := by decide +kernel
theorem dX8_areGusts_10 : decode cX8_areGusts 10 = .ok (.iload_n 1, 1) := by decide +kernel
theorem dX8_areGusts_11 : decode cX8_areGusts 11 = .ok (.ldc_w 313, 3) := by decide +kernel
theorem dX8_areGusts_14 : decode cX8_areGusts 14 = .ok (.invokestatic 112, 3) := by decide +kernel
theorem dX8_areGusts_17 : decode cX8_areGusts 17 = .ok (.ifCond .eq 17, 3) := by decide +kernel
theorem dX8_areGusts_20 : decode cX8_areGusts 20 = .ok (.iload_n 2, 1) := by decide +kernel
theorem dX8_areGusts_21 : decode cX8_areGusts 21 = .ok (.sipush 2000, 3) := by decide +kernel
theorem dX8_areGusts_24 : decode cX8_areGusts 24 = .ok (.invokestatic 112, 3) := by decide +kernel
theorem dX8_areGusts_27 : decode cX8_areGusts 27 = .ok (.ifCond .eq 7, 3) := by decide +kernel
theorem dX8_areGusts_30 : decode cX8_areGusts 30 = .ok (.iconst 1, 1) := by decide +kernel
theorem dX8_areGusts_31 : decode cX8_areGusts 31 = .ok (.goto 4, 3) := by decide +kernel
theorem dX8_areGusts_34 : decode cX8_areGusts 34 = .ok (.iconst 0, 1) := by decide +kernel
theorem dX8_areGusts_35 : decode cX8_areGusts 35 = .ok (.ireturn, 1) := by decide +kernel
set_option maxRecDepth 20000 in
theorem ggX8_judge_X8_draftFrom : GoodIn wsX8_judge wsX8_draftFrom := goodIn_r _ [7, 8, 9, 10, 2, 11, 12, 13, 14, 15, 16, 17, 18, 19, 20, 21, 22, 23, 24, 25, 26, 27, 28, 29, 30, 31, 32, 33, 34, 35, 36, 37, 38, 39, 40, 41, 42, 43, 44, 45, 46, 47, 48, 49, 50, 51, 52, 53, 54, 55, 56, 57, 58, 59, 60, 61, 62, 63, 64, 65, 6, 66, 67, 68, 69, 70, 71, 72, 73, 74, 75, 76, 77, 78, 132, 133, 134, 135, 136, 137, 138, 139, 140, 141, 142, 143, 144, 145, 146, 147, 148, 149, 150, 151, 152, 153, 154, 155, 156, 157, 158, 159, 160, 161] (by decide +kernel) (by decide +kernel)
set_option maxRecDepth 20000 in
theorem gX8_judge_X8_draftFrom : GoodIn wsX8_judge (wsV RX8 314 RX8 yX8_draftFrom wsX8_draftFrom) := goodIn_app (goodIn_of _ (by decide +kernel)) ggX8_judge_X8_draftFrom
set_option maxRecDepth 20000 in
theorem ggX8_judge_X1_isKeptUp : GoodIn wsX8_judge wsX1_isKeptUp := goodIn_r _ [83, 84, 85, 86, 87, 82, 88, 89, 90, 91, 92, 93, 94, 95, 96, 97, 98, 99, 100, 101, 102, 103, 104, 105, 106, 107, 108, 109, 110, 111, 112, 113, 114, 115, 19, 116, 36, 117, 118, 119, 120, 21, 42, 121, 122, 123, 124, 125, 41, 126, 127, 128, 129, 130, 131, 146, 147, 148, 149, 150, 151, 152, 153, 154, 155, 156, 157, 158, 159, 160, 161, 162, 163, 164, 165, 166, 167, 168, 169] (by decide +kernel) (by decide +kernel)
set_option maxRecDepth 20000 in
theorem gX8_judge_X1_isKeptUp : GoodIn wsX8_judge (wsV RX8 151 RX1 yX1_isKeptUp wsX1_isKeptUp) := goodIn_app (goodIn_of _ (by decide +kernel)) ggX8_judge_X1_isKeptUp
theorem dX8_judge_0 : decode cX8_judge 0 = .ok (.aload_n 0, 1) := by decide +kernel
theorem dX8_judge_1 : decode cX8_judge 1 = .ok (.iload_n 1, 1) := by decide +kernel
theorem dX8_judge_2 : decode cX8_judge 2 = .ok (.iload_n 2, 1) := by decide +kernel
theorem dX8_judge_3 : decode cX8_judge 3 = .ok (.invokevirtual 314, 3) := by decide +kernel
theorem dX8_judge_6 : decode cX8_judge 6 = .ok (.istore_n 3, 1) := by decide +kernel
theorem dX8_judge_7 : decode cX8_judge 7 = .ok (.iload_n 3, 1) := by decide +kernel
theorem dX8_judge_8 : decode cX8_judge 8 = .ok (.ifCond .ge 5, 3) := by decide +kernel
theorem dX8_judge_11 : decode cX8_judge 11 = .ok (.iload_n 3, 1) := by decide +kernel
theorem dX8_judge_12 : decode cX8_judge 12 = .ok (.ireturn, 1) := by decide +kernel
theorem dX8_judge_13 : decode cX8_judge 13 = .ok (.aload_n 0, 1) := by decide +kernel
theorem dX8_judge_14 : decode cX8_judge 14 = .ok (.getfield 39, 3) := by decide +kernel
theorem dX8_judge_17 : decode cX8_judge 17 = .ok (.aload_n 0, 1) := by decide +kernel
theorem dX8_judge_18 : decode cX8_judge 18 = .ok (.getfield 16, 3) := by decide +kernel
theorem dX8_judge_21 : decode cX8_judge 21 = .ok (.invokevirtual 151, 3) := by decide +kernel
theorem dX8_judge_24 : decode cX8_judge 24 = .ok (.ifCond .eq 7, 3) := by decide +kernel
theorem dX8_judge_27 : decode cX8_judge 27 = .ok (.iconst 1, 1) := by decide +kernel
theorem dX8_judge_28 : decode cX8_judge 28 = .ok (.goto 4, 3) := by decide +kernel
theorem dX8_judge_31 : decode cX8_judge 31 = .ok (.iconst 0, 1) := by decide +kernel
theorem dX8_judge_32 : decode cX8_judge 32 = .ok (.ireturn, 1) := by decide +kernel
set_option maxRecDepth 20000 in
theorem ggX8_takes_X8_draftFrom : GoodIn wsX8_takes wsX8_draftFrom := goodIn_r _ [7, 8, 1, 9, 2, 10, 11, 12, 13, 14, 15, 16, 17, 18, 19, 20, 21, 22, 23, 24, 25, 26, 27, 28, 29, 30, 31, 32, 33, 34, 35, 36, 37, 38, 39, 40, 41, 42, 43, 44, 45, 46, 47, 48, 49, 50, 51, 52, 53, 54, 55, 56, 57, 58, 59, 60, 61, 62, 63, 64, 6, 65, 66, 67, 68, 69, 70, 71, 72, 73, 74, 75, 76, 77, 78, 79, 80, 81, 82, 83, 84, 85, 86, 87, 88, 89, 90, 91, 92, 93, 94, 95, 96, 97, 98, 99, 100, 101, 102, 103, 104, 105, 106, 107] (by decide +kernel) (by decide +kernel)
set_option maxRecDepth 20000 in
theorem gX8_takes_X8_draftFrom : GoodIn wsX8_takes (wsV RX8 314 RX8 yX8_draftFrom wsX8_draftFrom) := goodIn_app (goodIn_of _ (by decide +kernel)) ggX8_takes_X8_draftFrom
set_option maxRecDepth 20000 in
theorem ggX8_takes_X0_copyOf : GoodIn wsX8_takes wsX0_copyOf := goodIn_r _ [30, 20, 31, 32, 33, 34, 35, 36, 37, 38, 39, 40, 41, 42, 43, 44, 45, 92, 93, 94, 95, 96, 97, 98, 99, 100, 101, 102, 103, 104, 105, 106, 107] (by decide +kernel) (by decide +kernel)
set_option maxRecDepth 20000 in
theorem gX8_takes_X0_copyOf : GoodIn wsX8_takes (wsV RX8 94 RX0 yX0_copyOf wsX0_copyOf) := goodIn_app (goodIn_of _ (by decide +kernel)) ggX8_takes_X0_copyOf
theorem dX8_takes_0 : decode cX8_takes 0 = .ok (.aload_n 0, 1) := by decide +kernel
theorem dX8_takes_1 : decode cX8_takes 1 = .ok (.iload_n 1, 1) := by decide +kernel
theorem dX8_takes_2 : decode cX8_takes 2 = .ok (.iload_n 2, 1) := by decide +kernel
theorem dX8_takes_3 : decode cX8_takes 3 = .ok (.invokevirtual 314, 3) := by decide +kernel
theorem dX8_takes_6 : decode cX8_takes 6 = .ok (.istore_n 3, 1) := by decide +kernel
theorem dX8_takes_7 : decode cX8_takes 7 = .ok (.iload_n 3, 1) := by decide +kernel
theorem dX8_takes_8 : decode cX8_takes 8 = .ok (.ifCond .lt 14, 3) := by decide +kernel
theorem dX8_takes_11 : decode cX8_takes 11 = .ok (.aload_n 0, 1) := by decide +kernel
theorem dX8_takes_12 : decode cX8_takes 12 = .ok (.getfield 10, 3) := by decide +kernel
theorem dX8_takes_15 : decode cX8_takes 15 = .ok (.aload_n 0, 1) := by decide +kernel
theorem dX8_takes_16 : decode cX8_takes 16 = .ok (.getfield 16, 3) := by decide +kernel
theorem dX8_takes_19 : decode cX8_takes 19 = .ok (.invokevirtual 94, 3) := by decide +kernel
theorem dX8_takes_22 : decode cX8_takes 22 = .ok (.iload_n 3, 1) := by decide +kernel
theorem dX8_takes_23 : decode cX8_takes 23 = .ok (.ireturn, 1) := by decide +kernel
set_option maxRecDepth 20000 in
theorem ggX8_draftFrom_X4_isSlot : GoodIn wsX8_draftFrom wsX4_isSlot := goodIn_r _ [9] (by decide +kernel) (by decide +kernel)
set_option maxRecDepth 20000 in
theorem gX8_draftFrom_X4_isSlot : GoodIn wsX8_draftFrom (wsV RX8 317 RX4 yX4_isSlot wsX4_isSlot) := goodIn_app (goodIn_of _ (by decide +kernel)) ggX8_draftFrom_X4_isSlot
set_option maxRecDepth 20000 in
theorem ggX8_draftFrom_X0_hasRoof : GoodIn wsX8_draftFrom wsX0_hasRoof := goodIn_r _ [14, 15, 88, 89, 90, 91, 92, 93, 94, 95, 96, 97, 98, 99, 100, 101, 102, 103] (by decide +kernel) (by decide +kernel)
set_option maxRecDepth 20000 in
theorem gX8_draftFrom_X0_hasRoof : GoodIn wsX8_draftFrom (wsV RX8 106 RX0 yX0_hasRoof wsX0_hasRoof) := goodIn_app (goodIn_of _ (by decide +kernel)) ggX8_draftFrom_X0_hasRoof
set_option maxRecDepth 20000 in
theorem ggX8_draftFrom_X4_isFilled : GoodIn wsX8_draftFrom wsX4_isFilled := goodIn_r _ [19, 20, 21, 6, 7, 8, 9, 85, 86, 87] (by decide +kernel) (by decide +kernel)
set_option maxRecDepth 20000 in
theorem gX8_draftFrom_X4_isFilled : GoodIn wsX8_draftFrom (wsV RX8 320 RX4 yX4_isFilled wsX4_isFilled) := goodIn_app (goodIn_of _ (by decide +kernel)) ggX8_draftFrom_X4_isFilled
set_option maxRecDepth 20000 in
theorem ggX8_draftFrom_X0_copyOf : GoodIn wsX8_draftFrom wsX0_copyOf := goodIn_r _ [25, 15, 26, 27, 28, 29, 30, 31, 32, 33, 34, 35, 36, 37, 38, 39, 40, 88, 89, 90, 91, 92, 93, 94, 95, 96, 97, 98, 99, 100, 101, 102, 103] (by decide +kernel) (by decide +kernel)
set_option maxRecDepth 20000 in
theorem gX8_draftFrom_X0_copyOf : GoodIn wsX8_draftFrom (wsV RX8 94 RX0 yX0_copyOf wsX0_copyOf) := goodIn_app (goodIn_of _ (by decide +kernel)) ggX8_draftFrom_X0_copyOf
set_option maxRecDepth 20000 in
theorem ggX8_draftFrom_X0_resize : GoodIn wsX8_draftFrom wsX0_resize := goodIn_r _ [44, 36, 40, 45, 11, 12, 13, 14, 15, 88, 89, 90, 91, 92, 93, 94, 95, 96, 97, 98, 99, 100, 101, 102, 103] (by decide +kernel) (by decide +kernel)
set_option maxRecDepth 20000 in
theorem gX8_draftFrom_X0_resize : GoodIn wsX8_draftFrom (wsV RX8 158 RX0 yX0_resize wsX0_resize) := goodIn_app (goodIn_of _ (by decide +kernel)) ggX8_draftFrom_X0_resize
set_option maxRecDepth 20000 in
theorem ggX8_draftFrom_X4_numberAt : GoodIn wsX8_draftFrom wsX4_numberAt := goodIn_r _ [49, 50, 51, 52, 53, 54, 8, 55, 20, 56, 17, 18, 19, 21, 6, 7, 9, 85, 86, 87] (by decide +kernel) (by decide +kernel)
set_option maxRecDepth 20000 in
theorem gX8_draftFrom_X4_numberAt : GoodIn wsX8_draftFrom (wsV RX8 326 RX4 yX4_numberAt wsX4_numberAt) := goodIn_app (goodIn_of _ (by decide +kernel)) ggX8_draftFrom_X4_numberAt
set_option maxRecDepth 20000 in
theorem ggX8_draftFrom_X8_isThrowOf : GoodIn wsX8_draftFrom wsX8_isThrowOf := goodIn_r _ [61, 62, 2, 63, 10, 11, 12, 13, 14, 15, 74, 75, 76, 77, 78, 79, 80, 81, 82, 83, 84, 88, 89, 90, 91, 92, 93, 94, 95, 96, 97, 98, 99, 100, 101, 102, 103] (by decide +kernel) (by decide +kernel)
set_option maxRecDepth 20000 in
theorem gX8_draftFrom_X8_isThrowOf : GoodIn wsX8_draftFrom (wsV RX8 330 RX8 yX8_isThrowOf wsX8_isThrowOf) := goodIn_app (goodIn_of _ (by decide +kernel)) ggX8_draftFrom_X8_isThrowOf
set_option maxRecDepth 20000 in
theorem ggX8_draftFrom_X0_put : GoodIn wsX8_draftFrom wsX0_put := goodIn_r _ [67, 30, 35, 40, 68, 69, 70, 13, 71, 36, 45, 11, 12, 14, 15, 72, 60, 73, 88, 89, 90, 91, 92, 93, 94, 95, 96, 97, 98, 99, 100, 101, 102, 103] (by decide +kernel) (by decide +kernel)
set_option maxRecDepth 20000 in
theorem gX8_draftFrom_X0_put : GoodIn wsX8_draftFrom (wsV RX8 140 RX0 yX0_put wsX0_put) := goodIn_app (goodIn_of _ (by decide +kernel)) ggX8_draftFrom_X0_put
theorem dX8_draftFrom_0 : decode cX8_draftFrom 0 = .ok (.aload_n 0, 1) := by decide +kernel
theorem dX8_draftFrom_1 : decode cX8_draftFrom 1 = .ok (.getfield 74, 3) := by decide +kernel
theorem dX8_draftFrom_4 : decode cX8_draftFrom 4 = .ok (.iload_n 1, 1) := by decide +kernel
theorem dX8_draftFrom_5 : decode cX8_draftFrom 5 = .ok (.invokevirtual 317, 3) := by decide +kernel
theorem dX8_draftFrom_8 : decode cX8_draftFrom 8 = .ok (.ifCond .eq 14, 3) := by decide +kernel
theorem dX8_draftFrom_11 : decode cX8_draftFrom 11 = .ok (.aload_n 0, 1) := by decide +kernel
theorem dX8_draftFrom_12 : decode cX8_draftFrom 12 = .ok (.getfield 10, 3) := by decide +kernel
theorem dX8_draftFrom_15 : decode cX8_draftFrom 15 = .ok (.iload_n 2, 1) := by decide +kernel
theorem dX8_draftFrom_16 : decode cX8_draftFrom 16 = .ok (.invokevirtual 106, 3) := by decide +kernel
theorem dX8_draftFrom_19 : decode cX8_draftFrom 19 = .ok (.ifCond .ne 6, 3) := by decide +kernel
theorem dX8_draftFrom_22 : decode cX8_draftFrom 22 = .ok (.bipush (-2), 2) := by decide +kernel
theorem dX8_draftFrom_24 : decode cX8_draftFrom 24 = .ok (.ireturn, 1) := by decide +kernel
theorem dX8_draftFrom_25 : decode cX8_draftFrom 25 = .ok (.aload_n 0, 1) := by decide +kernel
theorem dX8_draftFrom_26 : decode cX8_draftFrom 26 = .ok (.getfield 74, 3) := by decide +kernel
theorem dX8_draftFrom_29 : decode cX8_draftFrom 29 = .ok (.iload_n 1, 1) := by decide +kernel
theorem dX8_draftFrom_30 : decode cX8_draftFrom 30 = .ok (.invokevirtual 320, 3) := by decide +kernel
theorem dX8_draftFrom_33 : decode cX8_draftFrom 33 = .ok (.ifCond .ne 6, 3) := by decide +kernel
theorem dX8_draftFrom_36 : decode cX8_draftFrom 36 = .ok (.bipush (-6), 2) := by decide +kernel
theorem dX8_draftFrom_38 : decode cX8_draftFrom 38 = .ok (.ireturn, 1) := by decide +kernel
theorem dX8_draftFrom_39 : decode cX8_draftFrom 39 = .ok (.aload_n 0, 1) := by decide +kernel
theorem dX8_draftFrom_40 : decode cX8_draftFrom 40 = .ok (.getfield 74, 3) := by decide +kernel
theorem dX8_draftFrom_43 : decode cX8_draftFrom 43 = .ok (.getfield 323, 3) := by decide +kernel
theorem dX8_draftFrom_46 : decode cX8_draftFrom 46 = .ok (.iload_n 1, 1) := by decide +kernel
theorem dX8_draftFrom_47 : decode cX8_draftFrom 47 = .ok (.iaload, 1) := by decide +kernel
theorem dX8_draftFrom_48 : decode cX8_draftFrom 48 = .ok (.istore_n 3, 1) := by decide +kernel
theorem dX8_draftFrom_49 : decode cX8_draftFrom 49 = .ok (.iload_n 3, 1) := by decide +kernel
theorem dX8_draftFrom_50 : decode cX8_draftFrom 50 = .ok (.iconst 1, 1) := by decide +kernel
theorem dX8_draftFrom_51 : decode cX8_draftFrom 51 = .ok (.if_icmp .lt 9, 3) := by decide +kernel
theorem dX8_draftFrom_54 : decode cX8_draftFrom 54 = .ok (.iload_n 3, 1) := by decide +kernel
theorem dX8_draftFrom_55 : decode cX8_draftFrom 55 = .ok (.bipush 8, 2) := by decide +kernel
theorem dX8_draftFrom_57 : decode cX8_draftFrom 57 = .ok (.if_icmp .le 6, 3) := by decide +kernel
theorem dX8_draftFrom_60 : decode cX8_draftFrom 60 = .ok (.bipush (-2), 2) := by decide +kernel
theorem dX8_draftFrom_62 : decode cX8_draftFrom 62 = .ok (.ireturn, 1) := by decide +kernel
theorem dX8_draftFrom_63 : decode cX8_draftFrom 63 = .ok (.aload_n 0, 1) := by decide +kernel
theorem dX8_draftFrom_64 : decode cX8_draftFrom 64 = .ok (.getfield 16, 3) := by decide +kernel
theorem dX8_draftFrom_67 : decode cX8_draftFrom 67 = .ok (.aload_n 0, 1) := by decide +kernel
theorem dX8_draftFrom_68 : decode cX8_draftFrom 68 = .ok (.getfield 10, 3) := by decide +kernel
theorem dX8_draftFrom_71 : decode cX8_draftFrom 71 = .ok (.invokevirtual 94, 3) := by decide +kernel
theorem dX8_draftFrom_74 : decode cX8_draftFrom 74 = .ok (.aload_n 0, 1) := by decide +kernel
theorem dX8_draftFrom_75 : decode cX8_draftFrom 75 = .ok (.getfield 16, 3) := by decide +kernel
theorem dX8_draftFrom_78 : decode cX8_draftFrom 78 = .ok (.iload_n 2, 1) := by decide +kernel
theorem dX8_draftFrom_79 : decode cX8_draftFrom 79 = .ok (.iload_n 3, 1) := by decide +kernel
theorem dX8_draftFrom_80 : decode cX8_draftFrom 80 = .ok (.invokevirtual 158, 3) := by decide +kernel
theorem dX8_draftFrom_83 : decode cX8_draftFrom 83 = .ok (.iconst 0, 1) := by decide +kernel
theorem dX8_draftFrom_84 : decode cX8_draftFrom 84 = .ok (.istore 4, 2) := by decide +kernel
theorem dX8_draftFrom_86 : decode cX8_draftFrom 86 = .ok (.iload 4, 2) := by decide +kernel
theorem dX8_draftFrom_88 : decode cX8_draftFrom 88 = .ok (.iload_n 3, 1) := by decide +kernel
theorem dX8_draftFrom_89 : decode cX8_draftFrom 89 = .ok (.if_icmp .ge 56, 3) := by decide +kernel
theorem dX8_draftFrom_92 : decode cX8_draftFrom 92 = .ok (.aload_n 0, 1) := by decide +kernel
theorem dX8_draftFrom_93 : decode cX8_draftFrom 93 = .ok (.getfield 74, 3) := by decide +kernel
theorem dX8_draftFrom_96 : decode cX8_draftFrom 96 = .ok (.iload_n 1, 1) := by decide +kernel
theorem dX8_draftFrom_97 : decode cX8_draftFrom 97 = .ok (.iload 4, 2) := by decide +kernel
theorem dX8_draftFrom_99 : decode cX8_draftFrom 99 = .ok (.invokevirtual 326, 3) := by decide +kernel
theorem dX8_draftFrom_102 : decode cX8_draftFrom 102 = .ok (.lstore 5, 2) := by decide +kernel
theorem dX8_draftFrom_104 : decode cX8_draftFrom 104 = .ok (.aload_n 0, 1) := by decide +kernel
theorem dX8_draftFrom_105 : decode cX8_draftFrom 105 = .ok (.iload_n 2, 1) := by decide +kernel
theorem dX8_draftFrom_106 : decode cX8_draftFrom 106 = .ok (.lload 5, 2) := by decide +kernel
theorem dX8_draftFrom_108 : decode cX8_draftFrom 108 = .ok (.invokevirtual 330, 3) := by decide +kernel
theorem dX8_draftFrom_111 : decode cX8_draftFrom 111 = .ok (.ifCond .ne 6, 3) := by decide +kernel
theorem dX8_draftFrom_114 : decode cX8_draftFrom 114 = .ok (.bipush (-2), 2) := by decide +kernel
theorem dX8_draftFrom_116 : decode cX8_draftFrom 116 = .ok (.ireturn, 1) := by decide +kernel
theorem dX8_draftFrom_117 : decode cX8_draftFrom 117 = .ok (.aload_n 0, 1) := by decide +kernel
theorem dX8_draftFrom_118 : decode cX8_draftFrom 118 = .ok (.getfield 16, 3) := by decide +kernel
theorem dX8_draftFrom_121 : decode cX8_draftFrom 121 = .ok (.iload_n 2, 1) := by decide +kernel
theorem dX8_draftFrom_122 : decode cX8_draftFrom 122 = .ok (.iload 4, 2) := by decide +kernel
theorem dX8_draftFrom_124 : decode cX8_draftFrom 124 = .ok (.lload 5, 2) := by decide +kernel
theorem dX8_draftFrom_126 : decode cX8_draftFrom 126 = .ok (.l2i, 1) := by decide +kernel
theorem dX8_draftFrom_127 : decode cX8_draftFrom 127 = .ok (.bipush 10, 2) := by decide +kernel
theorem dX8_draftFrom_129 : decode cX8_draftFrom 129 = .ok (.idiv, 1) := by decide +kernel
theorem dX8_draftFrom_130 : decode cX8_draftFrom 130 = .ok (.lload 5, 2) := by decide +kernel
theorem dX8_draftFrom_132 : decode cX8_draftFrom 132 = .ok (.l2i, 1) := by decide +kernel
theorem dX8_draftFrom_133 : decode cX8_draftFrom 133 = .ok (.bipush 10, 2) := by decide +kernel
theorem dX8_draftFrom_135 : decode cX8_draftFrom 135 = .ok (.irem, 1) := by decide +kernel
theorem dX8_draftFrom_136 : decode cX8_draftFrom 136 = .ok (.invokevirtual 140, 3) := by decide +kernel
theorem dX8_draftFrom_139 : decode cX8_draftFrom 139 = .ok (.iinc 4 1, 3) := by decide +kernel
theorem dX8_draftFrom_142 : decode cX8_draftFrom 142 = .ok (.goto (-56), 3) := by decide +kernel
theorem dX8_draftFrom_145 : decode cX8_draftFrom 145 = .ok (.iload_n 3, 1) := by decide +kernel
theorem dX8_draftFrom_146 : decode cX8_draftFrom 146 = .ok (.ireturn, 1) := by decide +kernel
set_option maxRecDepth 20000 in
theorem ggX8_isThrowOf_X0_hasRoof : GoodIn wsX8_isThrowOf wsX0_hasRoof := goodIn_r _ [8, 9, 21, 22, 23, 24, 25, 26, 27, 28, 29, 30, 31, 32, 33, 34, 35, 36] (by decide +kernel) (by decide +kernel)
set_option maxRecDepth 20000 in
theorem gX8_isThrowOf_X0_hasRoof : GoodIn wsX8_isThrowOf (wsV RX8 106 RX0 yX0_hasRoof wsX0_hasRoof) := goodIn_app (goodIn_of _ (by decide +kernel)) ggX8_isThrowOf_X0_hasRoof
theorem dX8_isThrowOf_0 : decode cX8_isThrowOf 0 = .ok (.lload_n 2, 1) := by decide +kernel
theorem dX8_isThrowOf_1 : decode cX8_isThrowOf 1 = .ok (.lconst 0, 1) := by decide +kernel
theorem dX8_isThrowOf_2 : decode cX8_isThrowOf 2 = .ok (.lcmp, 1) := by decide +kernel
theorem dX8_isThrowOf_3 : decode cX8_isThrowOf 3 = .ok (.ifCond .lt 11, 3) := by decide +kernel
theorem dX8_isThrowOf_6 : decode cX8_isThrowOf 6 = .ok (.lload_n 2, 1) := by decide +kernel
theorem dX8_isThrowOf_7 : decode cX8_isThrowOf 7 = .ok (.ldc2_w 334, 3) := by decide +kernel
theorem dX8_isThrowOf_10 : decode cX8_isThrowOf 10 = .ok (.lcmp, 1) := by decide +kernel
theorem dX8_isThrowOf_11 : decode cX8_isThrowOf 11 = .ok (.ifCond .le 5, 3) := by decide +kernel
theorem dX8_isThrowOf_14 : decode cX8_isThrowOf 14 = .ok (.iconst 0, 1) := by decide +kernel
theorem dX8_isThrowOf_15 : decode cX8_isThrowOf 15 = .ok (.ireturn, 1) := by decide +kernel
theorem dX8_isThrowOf_16 : decode cX8_isThrowOf 16 = .ok (.lload_n 2, 1) := by decide +kernel
theorem dX8_isThrowOf_17 : decode cX8_isThrowOf 17 = .ok (.l2i, 1) := by decide +kernel
theorem dX8_isThrowOf_18 : decode cX8_isThrowOf 18 = .ok (.bipush 10, 2) := by decide +kernel
theorem dX8_isThrowOf_20 : decode cX8_isThrowOf 20 = .ok (.irem, 1) := by decide +kernel
theorem dX8_isThrowOf_21 : decode cX8_isThrowOf 21 = .ok (.istore 4, 2) := by decide +kernel
theorem dX8_isThrowOf_23 : decode cX8_isThrowOf 23 = .ok (.aload_n 0, 1) := by decide +kernel
theorem dX8_isThrowOf_24 : decode cX8_isThrowOf 24 = .ok (.getfield 10, 3) := by decide +kernel
theorem dX8_isThrowOf_27 : decode cX8_isThrowOf 27 = .ok (.iload 4, 2) := by decide +kernel
theorem dX8_isThrowOf_29 : decode cX8_isThrowOf 29 = .ok (.invokevirtual 106, 3) := by decide +kernel
theorem dX8_isThrowOf_32 : decode cX8_isThrowOf 32 = .ok (.ifCond .eq 21, 3) := by decide +kernel
theorem dX8_isThrowOf_35 : decode cX8_isThrowOf 35 = .ok (.lload_n 2, 1) := by decide +kernel
theorem dX8_isThrowOf_36 : decode cX8_isThrowOf 36 = .ok (.ldc2_w 336, 3) := by decide +kernel
theorem dX8_isThrowOf_39 : decode cX8_isThrowOf 39 = .ok (.lcmp, 1) := by decide +kernel
theorem dX8_isThrowOf_40 : decode cX8_isThrowOf 40 = .ok (.ifCond .ge 9, 3) := by decide +kernel
theorem dX8_isThrowOf_43 : decode cX8_isThrowOf 43 = .ok (.iload 4, 2) := by decide +kernel
theorem dX8_isThrowOf_45 : decode cX8_isThrowOf 45 = .ok (.iload_n 1, 1) := by decide +kernel
theorem dX8_isThrowOf_46 : decode cX8_isThrowOf 46 = .ok (.if_icmp .ne 7, 3) := by decide +kernel
theorem dX8_isThrowOf_49 : decode cX8_isThrowOf 49 = .ok (.iconst 1, 1) := by decide +kernel
theorem dX8_isThrowOf_50 : decode cX8_isThrowOf 50 = .ok (.goto 4, 3) := by decide +kernel
theorem dX8_isThrowOf_53 : decode cX8_isThrowOf 53 = .ok (.iconst 0, 1) := by decide +kernel
theorem dX8_isThrowOf_54 : decode cX8_isThrowOf 54 = .ok (.ireturn, 1) := by decide +kernel
set_option maxRecDepth 20000 in
theorem ggX8_count_X0_pairs : GoodIn wsX8_count wsX0_pairs := goodIn_r _ [14, 15, 16, 17, 18, 19, 20, 21, 22, 23, 67, 68, 69, 70, 71, 72, 73, 74, 75, 76, 77, 78, 79, 80, 81, 82] (by decide +kernel) (by decide +kernel)
set_option maxRecDepth 20000 in
theorem gX8_count_X0_pairs : GoodIn wsX8_count (wsV RX8 341 RX0 yX0_pairs wsX0_pairs) := goodIn_app (goodIn_of _ (by decide +kernel)) ggX8_count_X0_pairs
set_option maxRecDepth 20000 in
theorem ggX8_count_X0_busyRoofs : GoodIn wsX8_count wsX0_busyRoofs := goodIn_r _ [27, 15, 28, 29, 30, 31, 13, 32, 33, 34, 35, 36, 37, 38, 39, 40, 41, 67, 68, 69, 70, 71, 72, 73, 74, 75, 76, 77, 78, 79, 80, 81, 82] (by decide +kernel) (by decide +kernel)
set_option maxRecDepth 20000 in
theorem gX8_count_X0_busyRoofs : GoodIn wsX8_count (wsV RX8 351 RX0 yX0_busyRoofs wsX0_busyRoofs) := goodIn_app (goodIn_of _ (by decide +kernel)) ggX8_count_X0_busyRoofs
set_option maxRecDepth 20000 in
theorem ggX8_count_X4_filled : GoodIn wsX8_count wsX4_filled := goodIn_r _ [46, 47, 48, 49, 45, 50, 51, 52, 53, 54, 55, 95, 96, 97] (by decide +kernel) (by decide +kernel)
set_option maxRecDepth 20000 in
theorem gX8_count_X4_filled : GoodIn wsX8_count (wsV RX8 354 RX4 yX4_filled wsX4_filled) := goodIn_app (goodIn_of _ (by decide +kernel)) ggX8_count_X4_filled
theorem dX8_count_0 : decode cX8_count 0 = .ok (.iload_n 1, 1) := by decide +kernel
theorem dX8_count_1 : decode cX8_count 1 = .ok (.tableswitch 123 0 8 #[51, 59, 67, 75, 83, 91, 99, 107, 115], 51) := by decide +kernel
theorem dX8_count_52 : decode cX8_count 52 = .ok (.aload_n 0, 1) := by decide +kernel
theorem dX8_count_53 : decode cX8_count 53 = .ok (.getfield 10, 3) := by decide +kernel
theorem dX8_count_56 : decode cX8_count 56 = .ok (.getfield 155, 3) := by decide +kernel
