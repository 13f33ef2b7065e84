theorem dX5_common_17 : decode cX5_common 17 = .ok (.lrem, 1) := by decide +kernel
theorem dX5_common_18 : decode cX5_common 18 = .ok (.lstore 8, 2) := by decide +kernel
theorem dX5_common_20 : decode cX5_common 20 = .ok (.lload 6, 2) := by decide +kernel
theorem dX5_common_22 : decode cX5_common 22 = .ok (.lstore 4, 2) := by decide +kernel
theorem dX5_common_24 : decode cX5_common 24 = .ok (.lload 8, 2) := by decide +kernel
theorem dX5_common_26 : decode cX5_common 26 = .ok (.lstore 6, 2) := by decide +kernel
theorem dX5_common_28 : decode cX5_common 28 = .ok (.goto (-22), 3) := by decide +kernel
theorem dX5_common_31 : decode cX5_common 31 = .ok (.lload 4, 2) := by decide +kernel
theorem dX5_common_33 : decode cX5_common 33 = .ok (.lreturn, 1) := by decide +kernel
set_option maxRecDepth 20000 in
theorem ggX5_findsClosest_X5_towards : GoodIn wsX5_findsClosest wsX5_towards := goodIn_r _ [13, 7, 5, 8, 6, 21, 22, 23, 24, 25, 26, 27, 28, 29, 30, 31, 32, 33, 34, 35, 36, 37, 38, 39, 40, 41] (by decide +kernel) (by decide +kernel)
set_option maxRecDepth 20000 in
theorem gX5_findsClosest_X5_towards : GoodIn wsX5_findsClosest (wsV RX5 77 RX5 yX5_towards wsX5_towards) := goodIn_app (goodIn_of _ (by decide +kernel)) ggX5_findsClosest_X5_towards
set_option maxRecDepth 20000 in
theorem ggX5_findsClosest_X5_squareAway : GoodIn wsX5_findsClosest wsX5_squareAway := goodIn_r _ [17, 7, 8, 21, 22, 23, 24, 25, 26, 27, 28, 29, 30, 31, 32, 33, 34, 35, 36, 37, 38, 39, 40, 41] (by decide +kernel) (by decide +kernel)
set_option maxRecDepth 20000 in
theorem gX5_findsClosest_X5_squareAway : GoodIn wsX5_findsClosest (wsV RX5 87 RX5 yX5_squareAway wsX5_squareAway) := goodIn_app (goodIn_of _ (by decide +kernel)) ggX5_findsClosest_X5_squareAway
set_option maxRecDepth 20000 in
theorem ggX5_findsClosest_X5_common : GoodIn wsX5_findsClosest wsX5_common := goodIn_r _ [20] (by decide +kernel) (by decide +kernel)
set_option maxRecDepth 20000 in
theorem gX5_findsClosest_X5_common : GoodIn wsX5_findsClosest (va_wsS RX5 96 yX5_common wsX5_common) := goodIn_app (goodIn_of _ (by decide +kernel)) ggX5_findsClosest_X5_common
theorem dX5_findsClosest_0 : decode cX5_findsClosest 0 = .ok (.aload_n 0, 1) := by decide +kernel
theorem dX5_findsClosest_1 : decode cX5_findsClosest 1 = .ok (.invokevirtual 77, 3) := by decide +kernel
theorem dX5_findsClosest_4 : decode cX5_findsClosest 4 = .ok (.lconst 0, 1) := by decide +kernel
theorem dX5_findsClosest_5 : decode cX5_findsClosest 5 = .ok (.lcmp, 1) := by decide +kernel
theorem dX5_findsClosest_6 : decode cX5_findsClosest 6 = .ok (.ifCond .lt 27, 3) := by decide +kernel
theorem dX5_findsClosest_9 : decode cX5_findsClosest 9 = .ok (.aload_n 0, 1) := by decide +kernel
theorem dX5_findsClosest_10 : decode cX5_findsClosest 10 = .ok (.lconst 0, 1) := by decide +kernel
theorem dX5_findsClosest_11 : decode cX5_findsClosest 11 = .ok (.putfield 81, 3) := by decide +kernel
theorem dX5_findsClosest_14 : decode cX5_findsClosest 14 = .ok (.aload_n 0, 1) := by decide +kernel
theorem dX5_findsClosest_15 : decode cX5_findsClosest 15 = .ok (.lconst 1, 1) := by decide +kernel
theorem dX5_findsClosest_16 : decode cX5_findsClosest 16 = .ok (.putfield 84, 3) := by decide +kernel
theorem dX5_findsClosest_19 : decode cX5_findsClosest 19 = .ok (.aload_n 0, 1) := by decide +kernel
theorem dX5_findsClosest_20 : decode cX5_findsClosest 20 = .ok (.aload_n 0, 1) := by decide +kernel
theorem dX5_findsClosest_21 : decode cX5_findsClosest 21 = .ok (.invokevirtual 87, 3) := by decide +kernel
theorem dX5_findsClosest_24 : decode cX5_findsClosest 24 = .ok (.putfield 90, 3) := by decide +kernel
theorem dX5_findsClosest_27 : decode cX5_findsClosest 27 = .ok (.aload_n 0, 1) := by decide +kernel
theorem dX5_findsClosest_28 : decode cX5_findsClosest 28 = .ok (.lconst 1, 1) := by decide +kernel
theorem dX5_findsClosest_29 : decode cX5_findsClosest 29 = .ok (.putfield 93, 3) := by decide +kernel
theorem dX5_findsClosest_32 : decode cX5_findsClosest 32 = .ok (.return_, 1) := by decide +kernel
theorem dX5_findsClosest_33 : decode cX5_findsClosest 33 = .ok (.aload_n 0, 1) := by decide +kernel
theorem dX5_findsClosest_34 : decode cX5_findsClosest 34 = .ok (.getfield 67, 3) := by decide +kernel
theorem dX5_findsClosest_37 : decode cX5_findsClosest 37 = .ok (.aload_n 0, 1) := by decide +kernel
theorem dX5_findsClosest_38 : decode cX5_findsClosest 38 = .ok (.getfield 67, 3) := by decide +kernel
theorem dX5_findsClosest_41 : decode cX5_findsClosest 41 = .ok (.lmul, 1) := by decide +kernel
theorem dX5_findsClosest_42 : decode cX5_findsClosest 42 = .ok (.aload_n 0, 1) := by decide +kernel
theorem dX5_findsClosest_43 : decode cX5_findsClosest 43 = .ok (.getfield 70, 3) := by decide +kernel
theorem dX5_findsClosest_46 : decode cX5_findsClosest 46 = .ok (.aload_n 0, 1) := by decide +kernel
theorem dX5_findsClosest_47 : decode cX5_findsClosest 47 = .ok (.getfield 70, 3) := by decide +kernel
theorem dX5_findsClosest_50 : decode cX5_findsClosest 50 = .ok (.lmul, 1) := by decide +kernel
theorem dX5_findsClosest_51 : decode cX5_findsClosest 51 = .ok (.ladd, 1) := by decide +kernel
theorem dX5_findsClosest_52 : decode cX5_findsClosest 52 = .ok (.lstore_n 1, 1) := by decide +kernel
theorem dX5_findsClosest_53 : decode cX5_findsClosest 53 = .ok (.aload_n 0, 1) := by decide +kernel
theorem dX5_findsClosest_54 : decode cX5_findsClosest 54 = .ok (.getfield 57, 3) := by decide +kernel
theorem dX5_findsClosest_57 : decode cX5_findsClosest 57 = .ok (.aload_n 0, 1) := by decide +kernel
theorem dX5_findsClosest_58 : decode cX5_findsClosest 58 = .ok (.getfield 70, 3) := by decide +kernel
theorem dX5_findsClosest_61 : decode cX5_findsClosest 61 = .ok (.lmul, 1) := by decide +kernel
theorem dX5_findsClosest_62 : decode cX5_findsClosest 62 = .ok (.aload_n 0, 1) := by decide +kernel
theorem dX5_findsClosest_63 : decode cX5_findsClosest 63 = .ok (.getfield 61, 3) := by decide +kernel
theorem dX5_findsClosest_66 : decode cX5_findsClosest 66 = .ok (.aload_n 0, 1) := by decide +kernel
theorem dX5_findsClosest_67 : decode cX5_findsClosest 67 = .ok (.getfield 67, 3) := by decide +kernel
theorem dX5_findsClosest_70 : decode cX5_findsClosest 70 = .ok (.lmul, 1) := by decide +kernel
theorem dX5_findsClosest_71 : decode cX5_findsClosest 71 = .ok (.lsub, 1) := by decide +kernel
theorem dX5_findsClosest_72 : decode cX5_findsClosest 72 = .ok (.lstore_n 3, 1) := by decide +kernel
theorem dX5_findsClosest_73 : decode cX5_findsClosest 73 = .ok (.lload_n 1, 1) := by decide +kernel
theorem dX5_findsClosest_74 : decode cX5_findsClosest 74 = .ok (.aload_n 0, 1) := by decide +kernel
theorem dX5_findsClosest_75 : decode cX5_findsClosest 75 = .ok (.invokevirtual 77, 3) := by decide +kernel
theorem dX5_findsClosest_78 : decode cX5_findsClosest 78 = .ok (.lneg, 1) := by decide +kernel
theorem dX5_findsClosest_79 : decode cX5_findsClosest 79 = .ok (.invokestatic 96, 3) := by decide +kernel
theorem dX5_findsClosest_82 : decode cX5_findsClosest 82 = .ok (.lstore 5, 2) := by decide +kernel
theorem dX5_findsClosest_84 : decode cX5_findsClosest 84 = .ok (.aload_n 0, 1) := by decide +kernel
theorem dX5_findsClosest_85 : decode cX5_findsClosest 85 = .ok (.aload_n 0, 1) := by decide +kernel
theorem dX5_findsClosest_86 : decode cX5_findsClosest 86 = .ok (.invokevirtual 77, 3) := by decide +kernel
theorem dX5_findsClosest_89 : decode cX5_findsClosest 89 = .ok (.lneg, 1) := by decide +kernel
theorem dX5_findsClosest_90 : decode cX5_findsClosest 90 = .ok (.lload 5, 2) := by decide +kernel
theorem dX5_findsClosest_92 : decode cX5_findsClosest 92 = .ok (.ldiv, 1) := by decide +kernel
theorem dX5_findsClosest_93 : decode cX5_findsClosest 93 = .ok (.putfield 81, 3) := by decide +kernel
theorem dX5_findsClosest_96 : decode cX5_findsClosest 96 = .ok (.aload_n 0, 1) := by decide +kernel
theorem dX5_findsClosest_97 : decode cX5_findsClosest 97 = .ok (.lload_n 1, 1) := by decide +kernel
theorem dX5_findsClosest_98 : decode cX5_findsClosest 98 = .ok (.lload 5, 2) := by decide +kernel
theorem dX5_findsClosest_100 : decode cX5_findsClosest 100 = .ok (.ldiv, 1) := by decide +kernel
theorem dX5_findsClosest_101 : decode cX5_findsClosest 101 = .ok (.putfield 84, 3) := by decide +kernel
theorem dX5_findsClosest_104 : decode cX5_findsClosest 104 = .ok (.lload_n 1, 1) := by decide +kernel
theorem dX5_findsClosest_105 : decode cX5_findsClosest 105 = .ok (.lload_n 3, 1) := by decide +kernel
theorem dX5_findsClosest_106 : decode cX5_findsClosest 106 = .ok (.lload_n 3, 1) := by decide +kernel
theorem dX5_findsClosest_107 : decode cX5_findsClosest 107 = .ok (.lmul, 1) := by decide +kernel
theorem dX5_findsClosest_108 : decode cX5_findsClosest 108 = .ok (.invokestatic 96, 3) := by decide +kernel
theorem dX5_findsClosest_111 : decode cX5_findsClosest 111 = .ok (.lstore 5, 2) := by decide +kernel
theorem dX5_findsClosest_113 : decode cX5_findsClosest 113 = .ok (.aload_n 0, 1) := by decide +kernel
theorem dX5_findsClosest_114 : decode cX5_findsClosest 114 = .ok (.lload_n 3, 1) := by decide +kernel
theorem dX5_findsClosest_115 : decode cX5_findsClosest 115 = .ok (.lload_n 3, 1) := by decide +kernel
theorem dX5_findsClosest_116 : decode cX5_findsClosest 116 = .ok (.lmul, 1) := by decide +kernel
theorem dX5_findsClosest_117 : decode cX5_findsClosest 117 = .ok (.lload 5, 2) := by decide +kernel
theorem dX5_findsClosest_119 : decode cX5_findsClosest 119 = .ok (.ldiv, 1) := by decide +kernel
theorem dX5_findsClosest_120 : decode cX5_findsClosest 120 = .ok (.putfield 90, 3) := by decide +kernel
theorem dX5_findsClosest_123 : decode cX5_findsClosest 123 = .ok (.aload_n 0, 1) := by decide +kernel
theorem dX5_findsClosest_124 : decode cX5_findsClosest 124 = .ok (.lload_n 1, 1) := by decide +kernel
theorem dX5_findsClosest_125 : decode cX5_findsClosest 125 = .ok (.lload 5, 2) := by decide +kernel
theorem dX5_findsClosest_127 : decode cX5_findsClosest 127 = .ok (.ldiv, 1) := by decide +kernel
theorem dX5_findsClosest_128 : decode cX5_findsClosest 128 = .ok (.putfield 93, 3) := by decide +kernel
theorem dX5_findsClosest_131 : decode cX5_findsClosest 131 = .ok (.return_, 1) := by decide +kernel
set_option maxRecDepth 20000 in
theorem ggX5_isRisk_X5_findsClosest : GoodIn wsX5_isRisk wsX5_findsClosest := goodIn_r _ [10, 4, 5, 2, 3, 11, 12, 13, 14, 15, 16, 17, 9, 18, 19, 20, 21, 22, 23, 24, 25, 26, 27, 28, 29, 30, 31, 32, 33, 34, 35, 36, 37, 38, 39, 40, 41, 42, 43, 44, 45, 46] (by decide +kernel) (by decide +kernel)
set_option maxRecDepth 20000 in
theorem gX5_isRisk_X5_findsClosest : GoodIn wsX5_isRisk (wsV RX5 100 RX5 yX5_findsClosest wsX5_findsClosest) := goodIn_app (goodIn_of _ (by decide +kernel)) ggX5_isRisk_X5_findsClosest
theorem dX5_isRisk_0 : decode cX5_isRisk 0 = .ok (.aload_n 0, 1) := by decide +kernel
theorem dX5_isRisk_1 : decode cX5_isRisk 1 = .ok (.invokevirtual 100, 3) := by decide +kernel
theorem dX5_isRisk_4 : decode cX5_isRisk 4 = .ok (.aload_n 0, 1) := by decide +kernel
theorem dX5_isRisk_5 : decode cX5_isRisk 5 = .ok (.getfield 7, 3) := by decide +kernel
theorem dX5_isRisk_8 : decode cX5_isRisk 8 = .ok (.iconst 1, 1) := by decide +kernel
theorem dX5_isRisk_9 : decode cX5_isRisk 9 = .ok (.iaload, 1) := by decide +kernel
theorem dX5_isRisk_10 : decode cX5_isRisk 10 = .ok (.i2l, 1) := by decide +kernel
theorem dX5_isRisk_11 : decode cX5_isRisk 11 = .ok (.lstore_n 1, 1) := by decide +kernel
theorem dX5_isRisk_12 : decode cX5_isRisk 12 = .ok (.aload_n 0, 1) := by decide +kernel
theorem dX5_isRisk_13 : decode cX5_isRisk 13 = .ok (.getfield 90, 3) := by decide +kernel
theorem dX5_isRisk_16 : decode cX5_isRisk 16 = .ok (.lload_n 1, 1) := by decide +kernel
theorem dX5_isRisk_17 : decode cX5_isRisk 17 = .ok (.lload_n 1, 1) := by decide +kernel
theorem dX5_isRisk_18 : decode cX5_isRisk 18 = .ok (.lmul, 1) := by decide +kernel
theorem dX5_isRisk_19 : decode cX5_isRisk 19 = .ok (.aload_n 0, 1) := by decide +kernel
theorem dX5_isRisk_20 : decode cX5_isRisk 20 = .ok (.getfield 93, 3) := by decide +kernel
theorem dX5_isRisk_23 : decode cX5_isRisk 23 = .ok (.lmul, 1) := by decide +kernel
theorem dX5_isRisk_24 : decode cX5_isRisk 24 = .ok (.lcmp, 1) := by decide +kernel
theorem dX5_isRisk_25 : decode cX5_isRisk 25 = .ok (.ifCond .ge 27, 3) := by decide +kernel
theorem dX5_isRisk_28 : decode cX5_isRisk 28 = .ok (.aload_n 0, 1) := by decide +kernel
theorem dX5_isRisk_29 : decode cX5_isRisk 29 = .ok (.getfield 81, 3) := by decide +kernel
theorem dX5_isRisk_32 : decode cX5_isRisk 32 = .ok (.aload_n 0, 1) := by decide +kernel
theorem dX5_isRisk_33 : decode cX5_isRisk 33 = .ok (.getfield 7, 3) := by decide +kernel
theorem dX5_isRisk_36 : decode cX5_isRisk 36 = .ok (.iconst 2, 1) := by decide +kernel
theorem dX5_isRisk_37 : decode cX5_isRisk 37 = .ok (.iaload, 1) := by decide +kernel
theorem dX5_isRisk_38 : decode cX5_isRisk 38 = .ok (.i2l, 1) := by decide +kernel
theorem dX5_isRisk_39 : decode cX5_isRisk 39 = .ok (.aload_n 0, 1) := by decide +kernel
theorem dX5_isRisk_40 : decode cX5_isRisk 40 = .ok (.getfield 84, 3) := by decide +kernel
theorem dX5_isRisk_43 : decode cX5_isRisk 43 = .ok (.lmul, 1) := by decide +kernel
theorem dX5_isRisk_44 : decode cX5_isRisk 44 = .ok (.lcmp, 1) := by decide +kernel
theorem dX5_isRisk_45 : decode cX5_isRisk 45 = .ok (.ifCond .gt 7, 3) := by decide +kernel
theorem dX5_isRisk_48 : decode cX5_isRisk 48 = .ok (.iconst 1, 1) := by decide +kernel
theorem dX5_isRisk_49 : decode cX5_isRisk 49 = .ok (.goto 4, 3) := by decide +kernel
theorem dX5_isRisk_52 : decode cX5_isRisk 52 = .ok (.iconst 0, 1) := by decide +kernel
theorem dX5_isRisk_53 : decode cX5_isRisk 53 = .ok (.ireturn, 1) := by decide +kernel
set_option maxRecDepth 20000 in
theorem ggX5_haveRisk_X5_laysAsTheyAre : GoodIn wsX5_haveRisk wsX5_laysAsTheyAre := goodIn_r _ [5, 6, 7, 8, 4, 9, 10, 11, 12, 13, 14, 15, 16, 17, 18, 19, 20, 21, 22, 23, 24, 48, 49, 50, 51, 52, 53, 54, 55, 56, 57, 58, 59, 60, 61, 62, 63, 64, 65, 66, 67, 68] (by decide +kernel) (by decide +kernel)
set_option maxRecDepth 20000 in
theorem gX5_haveRisk_X5_laysAsTheyAre : GoodIn wsX5_haveRisk (wsV RX5 103 RX5 yX5_laysAsTheyAre wsX5_laysAsTheyAre) := goodIn_app (goodIn_of _ (by decide +kernel)) ggX5_haveRisk_X5_laysAsTheyAre
set_option maxRecDepth 20000 in
theorem ggX5_haveRisk_X5_isRisk : GoodIn wsX5_haveRisk wsX5_isRisk := goodIn_r _ [28, 10, 29, 30, 31, 32, 33, 34, 35, 4, 36, 17, 18, 15, 16, 37, 38, 39, 40, 41, 42, 43, 44, 45, 46, 47, 48, 49, 50, 51, 52, 53, 54, 55, 56, 57, 58, 59, 60, 61, 62, 63, 64, 65, 66, 67, 68] (by decide +kernel) (by decide +kernel)
set_option maxRecDepth 20000 in
theorem gX5_haveRisk_X5_isRisk : GoodIn wsX5_haveRisk (wsV RX5 107 RX5 yX5_isRisk wsX5_isRisk) := goodIn_app (goodIn_of _ (by decide +kernel)) ggX5_haveRisk_X5_isRisk
theorem dX5_haveRisk_0 : decode cX5_haveRisk 0 = .ok (.aload_n 0, 1) := by decide +kernel
theorem dX5_haveRisk_1 : decode cX5_haveRisk 1 = .ok (.iload_n 1, 1) := by decide +kernel
theorem dX5_haveRisk_2 : decode cX5_haveRisk 2 = .ok (.iload_n 2, 1) := by decide +kernel
theorem dX5_haveRisk_3 : decode cX5_haveRisk 3 = .ok (.invokevirtual 103, 3) := by decide +kernel
theorem dX5_haveRisk_6 : decode cX5_haveRisk 6 = .ok (.aload_n 0, 1) := by decide +kernel
theorem dX5_haveRisk_7 : decode cX5_haveRisk 7 = .ok (.invokevirtual 107, 3) := by decide +kernel
theorem dX5_haveRisk_10 : decode cX5_haveRisk 10 = .ok (.ireturn, 1) := by decide +kernel
set_option maxRecDepth 20000 in
theorem ggX5_sectorOf_X5_laysAsTheyAre : GoodIn wsX5_sectorOf wsX5_laysAsTheyAre := goodIn_r _ [9, 10, 11, 12, 8, 13, 14, 15, 16, 17, 18, 1, 2, 19, 20, 21, 22, 23, 24, 25, 26, 31, 32, 33, 34, 35, 36, 37, 38, 39, 40, 41, 42, 43, 44, 45, 46, 47, 48, 49, 50, 51] (by decide +kernel) (by decide +kernel)
set_option maxRecDepth 20000 in
theorem gX5_sectorOf_X5_laysAsTheyAre : GoodIn wsX5_sectorOf (wsV RX5 103 RX5 yX5_laysAsTheyAre wsX5_laysAsTheyAre) := goodIn_app (goodIn_of _ (by decide +kernel)) ggX5_sectorOf_X5_laysAsTheyAre
set_option maxRecDepth 20000 in
theorem ggX5_sectorOf_X5_shipOf : GoodIn wsX5_sectorOf wsX5_shipOf := goodIn_r _ [13, 14, 31, 32, 33, 34, 35, 36, 37, 38, 39, 40, 41, 42, 43, 44, 45, 46, 47, 48, 49, 50, 51] (by decide +kernel) (by decide +kernel)
set_option maxRecDepth 20000 in
theorem gX5_sectorOf_X5_shipOf : GoodIn wsX5_sectorOf (wsV RX5 53 RX5 yX5_shipOf wsX5_shipOf) := goodIn_app (goodIn_of _ (by decide +kernel)) ggX5_sectorOf_X5_shipOf
set_option maxRecDepth 20000 in
theorem ggX5_sectorOf_X5_eastOf : GoodIn wsX5_sectorOf wsX5_eastOf := goodIn_r _ [23, 24, 25, 8, 26] (by decide +kernel) (by decide +kernel)
set_option maxRecDepth 20000 in
theorem gX5_sectorOf_X5_eastOf : GoodIn wsX5_sectorOf (va_wsS RX5 64 yX5_eastOf wsX5_eastOf) := goodIn_app (goodIn_of _ (by decide +kernel)) ggX5_sectorOf_X5_eastOf
set_option maxRecDepth 20000 in
theorem ggX5_sectorOf_X5_northOf : GoodIn wsX5_sectorOf wsX5_northOf := goodIn_r _ [26] (by decide +kernel) (by decide +kernel)
set_option maxRecDepth 20000 in
theorem gX5_sectorOf_X5_northOf : GoodIn wsX5_sectorOf (va_wsS RX5 50 yX5_northOf wsX5_northOf) := goodIn_app (goodIn_of _ (by decide +kernel)) ggX5_sectorOf_X5_northOf
set_option maxRecDepth 20000 in
theorem ggX5_sectorOf_X5_squareAway : GoodIn wsX5_sectorOf wsX5_squareAway := goodIn_r _ [30, 1, 2, 31, 32, 33, 34, 35, 36, 37, 38, 39, 40, 41, 42, 43, 44, 45, 46, 47, 48, 49, 50, 51] (by decide +kernel) (by decide +kernel)
set_option maxRecDepth 20000 in
theorem gX5_sectorOf_X5_squareAway : GoodIn wsX5_sectorOf (wsV RX5 87 RX5 yX5_squareAway wsX5_squareAway) := goodIn_app (goodIn_of _ (by decide +kernel)) ggX5_sectorOf_X5_squareAway
theorem dX5_sectorOf_0 : decode cX5_sectorOf 0 = .ok (.aload_n 0, 1) := by decide +kernel
theorem dX5_sectorOf_1 : decode cX5_sectorOf 1 = .ok (.iload_n 1, 1) := by decide +kernel
theorem dX5_sectorOf_2 : decode cX5_sectorOf 2 = .ok (.iload_n 2, 1) := by decide +kernel
theorem dX5_sectorOf_3 : decode cX5_sectorOf 3 = .ok (.invokevirtual 103, 3) := by decide +kernel
theorem dX5_sectorOf_6 : decode cX5_sectorOf 6 = .ok (.aload_n 0, 1) := by decide +kernel
theorem dX5_sectorOf_7 : decode cX5_sectorOf 7 = .ok (.iload_n 1, 1) := by decide +kernel
theorem dX5_sectorOf_8 : decode cX5_sectorOf 8 = .ok (.iconst 2, 1) := by decide +kernel
theorem dX5_sectorOf_9 : decode cX5_sectorOf 9 = .ok (.invokevirtual 53, 3) := by decide +kernel
theorem dX5_sectorOf_12 : decode cX5_sectorOf 12 = .ok (.invokestatic 64, 3) := by decide +kernel
theorem dX5_sectorOf_15 : decode cX5_sectorOf 15 = .ok (.i2l, 1) := by decide +kernel
theorem dX5_sectorOf_16 : decode cX5_sectorOf 16 = .ok (.lstore_n 3, 1) := by decide +kernel
theorem dX5_sectorOf_17 : decode cX5_sectorOf 17 = .ok (.aload_n 0, 1) := by decide +kernel
theorem dX5_sectorOf_18 : decode cX5_sectorOf 18 = .ok (.iload_n 1, 1) := by decide +kernel
theorem dX5_sectorOf_19 : decode cX5_sectorOf 19 = .ok (.iconst 2, 1) := by decide +kernel
theorem dX5_sectorOf_20 : decode cX5_sectorOf 20 = .ok (.invokevirtual 53, 3) := by decide +kernel
theorem dX5_sectorOf_23 : decode cX5_sectorOf 23 = .ok (.invokestatic 50, 3) := by decide +kernel
theorem dX5_sectorOf_26 : decode cX5_sectorOf 26 = .ok (.i2l, 1) := by decide +kernel
theorem dX5_sectorOf_27 : decode cX5_sectorOf 27 = .ok (.lstore 5, 2) := by decide +kernel
theorem dX5_sectorOf_29 : decode cX5_sectorOf 29 = .ok (.lload_n 3, 1) := by decide +kernel
theorem dX5_sectorOf_30 : decode cX5_sectorOf 30 = .ok (.aload_n 0, 1) := by decide +kernel
theorem dX5_sectorOf_31 : decode cX5_sectorOf 31 = .ok (.getfield 57, 3) := by decide +kernel
theorem dX5_sectorOf_34 : decode cX5_sectorOf 34 = .ok (.lmul, 1) := by decide +kernel
theorem dX5_sectorOf_35 : decode cX5_sectorOf 35 = .ok (.lload 5, 2) := by decide +kernel
theorem dX5_sectorOf_37 : decode cX5_sectorOf 37 = .ok (.aload_n 0, 1) := by decide +kernel
theorem dX5_sectorOf_38 : decode cX5_sectorOf 38 = .ok (.getfield 61, 3) := by decide +kernel
theorem dX5_sectorOf_41 : decode cX5_sectorOf 41 = .ok (.lmul, 1) := by decide +kernel
theorem dX5_sectorOf_42 : decode cX5_sectorOf 42 = .ok (.ladd, 1) := by decide +kernel
theorem dX5_sectorOf_43 : decode cX5_sectorOf 43 = .ok (.lstore 7, 2) := by decide +kernel
theorem dX5_sectorOf_45 : decode cX5_sectorOf 45 = .ok (.lload_n 3, 1) := by decide +kernel
theorem dX5_sectorOf_46 : decode cX5_sectorOf 46 = .ok (.aload_n 0, 1) := by decide +kernel
theorem dX5_sectorOf_47 : decode cX5_sectorOf 47 = .ok (.getfield 61, 3) := by decide +kernel
theorem dX5_sectorOf_50 : decode cX5_sectorOf 50 = .ok (.lmul, 1) := by decide +kernel
theorem dX5_sectorOf_51 : decode cX5_sectorOf 51 = .ok (.lload 5, 2) := by decide +kernel
theorem dX5_sectorOf_53 : decode cX5_sectorOf 53 = .ok (.aload_n 0, 1) := by decide +kernel
theorem dX5_sectorOf_54 : decode cX5_sectorOf 54 = .ok (.getfield 57, 3) := by decide +kernel
theorem dX5_sectorOf_57 : decode cX5_sectorOf 57 = .ok (.lmul, 1) := by decide +kernel
theorem dX5_sectorOf_58 : decode cX5_sectorOf 58 = .ok (.lsub, 1) := by decide +kernel
theorem dX5_sectorOf_59 : decode cX5_sectorOf 59 = .ok (.lstore 9, 2) := by decide +kernel
theorem dX5_sectorOf_61 : decode cX5_sectorOf 61 = .ok (.lload 9, 2) := by decide +kernel
theorem dX5_sectorOf_63 : decode cX5_sectorOf 63 = .ok (.lconst 0, 1) := by decide +kernel
theorem dX5_sectorOf_64 : decode cX5_sectorOf 64 = .ok (.lcmp, 1) := by decide +kernel
theorem dX5_sectorOf_65 : decode cX5_sectorOf 65 = .ok (.ifCond .ge 9, 3) := by decide +kernel
theorem dX5_sectorOf_68 : decode cX5_sectorOf 68 = .ok (.lload 9, 2) := by decide +kernel
theorem dX5_sectorOf_70 : decode cX5_sectorOf 70 = .ok (.lneg, 1) := by decide +kernel
theorem dX5_sectorOf_71 : decode cX5_sectorOf 71 = .ok (.goto 5, 3) := by decide +kernel
theorem dX5_sectorOf_74 : decode cX5_sectorOf 74 = .ok (.lload 9, 2) := by decide +kernel
theorem dX5_sectorOf_76 : decode cX5_sectorOf 76 = .ok (.lstore 11, 2) := by decide +kernel
theorem dX5_sectorOf_78 : decode cX5_sectorOf 78 = .ok (.aload_n 0, 1) := by decide +kernel
theorem dX5_sectorOf_79 : decode cX5_sectorOf 79 = .ok (.invokevirtual 87, 3) := by decide +kernel
theorem dX5_sectorOf_82 : decode cX5_sectorOf 82 = .ok (.lconst 0, 1) := by decide +kernel
theorem dX5_sectorOf_83 : decode cX5_sectorOf 83 = .ok (.lcmp, 1) := by decide +kernel
theorem dX5_sectorOf_84 : decode cX5_sectorOf 84 = .ok (.ifCond .eq 22, 3) := by decide +kernel
theorem dX5_sectorOf_87 : decode cX5_sectorOf 87 = .ok (.lload 7, 2) := by decide +kernel
theorem dX5_sectorOf_89 : decode cX5_sectorOf 89 = .ok (.lconst 0, 1) := by decide +kernel
theorem dX5_sectorOf_90 : decode cX5_sectorOf 90 = .ok (.lcmp, 1) := by decide +kernel
theorem dX5_sectorOf_91 : decode cX5_sectorOf 91 = .ok (.ifCond .le 17, 3) := by decide +kernel
theorem dX5_sectorOf_94 : decode cX5_sectorOf 94 = .ok (.ldc2_w 111, 3) := by decide +kernel
theorem dX5_sectorOf_97 : decode cX5_sectorOf 97 = .ok (.lload 11, 2) := by decide +kernel
theorem dX5_sectorOf_99 : decode cX5_sectorOf 99 = .ok (.lmul, 1) := by decide +kernel
theorem dX5_sectorOf_100 : decode cX5_sectorOf 100 = .ok (.lload 7, 2) := by decide +kernel
theorem dX5_sectorOf_102 : decode cX5_sectorOf 102 = .ok (.lcmp, 1) := by decide +kernel
theorem dX5_sectorOf_103 : decode cX5_sectorOf 103 = .ok (.ifCond .gt 5, 3) := by decide +kernel
theorem dX5_sectorOf_106 : decode cX5_sectorOf 106 = .ok (.iconst 0, 1) := by decide +kernel
theorem dX5_sectorOf_107 : decode cX5_sectorOf 107 = .ok (.ireturn, 1) := by decide +kernel
theorem dX5_sectorOf_108 : decode cX5_sectorOf 108 = .ok (.lload 7, 2) := by decide +kernel
theorem dX5_sectorOf_110 : decode cX5_sectorOf 110 = .ok (.lconst 0, 1) := by decide +kernel
theorem dX5_sectorOf_111 : decode cX5_sectorOf 111 = .ok (.lcmp, 1) := by decide +kernel
theorem dX5_sectorOf_112 : decode cX5_sectorOf 112 = .ok (.ifCond .ge 17, 3) := by decide +kernel
theorem dX5_sectorOf_115 : decode cX5_sectorOf 115 = .ok (.lload 11, 2) := by decide +kernel
theorem dX5_sectorOf_117 : decode cX5_sectorOf 117 = .ok (.ldc2_w 113, 3) := by decide +kernel
theorem dX5_sectorOf_120 : decode cX5_sectorOf 120 = .ok (.lload 7, 2) := by decide +kernel
theorem dX5_sectorOf_122 : decode cX5_sectorOf 122 = .ok (.lmul, 1) := by decide +kernel
theorem dX5_sectorOf_123 : decode cX5_sectorOf 123 = .ok (.lcmp, 1) := by decide +kernel
theorem dX5_sectorOf_124 : decode cX5_sectorOf 124 = .ok (.ifCond .gt 5, 3) := by decide +kernel
theorem dX5_sectorOf_127 : decode cX5_sectorOf 127 = .ok (.iconst 3, 1) := by decide +kernel
theorem dX5_sectorOf_128 : decode cX5_sectorOf 128 = .ok (.ireturn, 1) := by decide +kernel
theorem dX5_sectorOf_129 : decode cX5_sectorOf 129 = .ok (.lload 9, 2) := by decide +kernel
theorem dX5_sectorOf_131 : decode cX5_sectorOf 131 = .ok (.lconst 0, 1) := by decide +kernel
theorem dX5_sectorOf_132 : decode cX5_sectorOf 132 = .ok (.lcmp, 1) := by decide +kernel
theorem dX5_sectorOf_133 : decode cX5_sectorOf 133 = .ok (.ifCond .ge 7, 3) := by decide +kernel
theorem dX5_sectorOf_136 : decode cX5_sectorOf 136 = .ok (.iconst 1, 1) := by decide +kernel
theorem dX5_sectorOf_137 : decode cX5_sectorOf 137 = .ok (.goto 4, 3) := by decide +kernel
theorem dX5_sectorOf_140 : decode cX5_sectorOf 140 = .ok (.iconst 2, 1) := by decide +kernel
theorem dX5_sectorOf_141 : decode cX5_sectorOf 141 = .ok (.ireturn, 1) := by decide +kernel
set_option maxRecDepth 20000 in
theorem ggX5_tableOf_X5_haveRisk : GoodIn wsX5_tableOf wsX5_haveRisk := goodIn_r _ [5, 6, 7, 8, 4, 9, 10, 11, 12, 13, 14, 15, 16, 17, 18, 19, 20, 21, 22, 23, 24, 25, 26, 27, 28, 29, 30, 31, 32, 33, 34, 35, 36, 37, 38, 39, 40, 41, 42, 43, 44, 45, 46, 47, 48, 49, 50, 51, 58, 59, 60, 61, 62, 63, 64, 65, 66, 67, 68, 69, 70, 71, 72, 73, 74, 75, 76, 77, 78] (by decide +kernel) (by decide +kernel)
set_option maxRecDepth 20000 in
theorem gX5_tableOf_X5_haveRisk : GoodIn wsX5_tableOf (wsV RX5 115 RX5 yX5_haveRisk wsX5_haveRisk) := goodIn_app (goodIn_of _ (by decide +kernel)) ggX5_tableOf_X5_haveRisk
set_option maxRecDepth 20000 in
theorem ggX5_tableOf_X5_sectorOf : GoodIn wsX5_tableOf wsX5_sectorOf := goodIn_r _ [55, 19, 20, 56, 57, 6, 7, 8, 4, 9, 10, 11, 12, 13, 14, 15, 16, 17, 18, 21, 22, 23, 24, 25, 26, 27, 28, 45, 46, 47, 48, 58, 59, 60, 61, 62, 63, 64, 65, 66, 67, 68, 69, 70, 71, 72, 73, 74, 75, 76, 77, 78] (by decide +kernel) (by decide +kernel)
set_option maxRecDepth 20000 in
theorem gX5_tableOf_X5_sectorOf : GoodIn wsX5_tableOf (wsV RX5 119 RX5 yX5_sectorOf wsX5_sectorOf) := goodIn_app (goodIn_of _ (by decide +kernel)) ggX5_tableOf_X5_sectorOf
theorem dX5_tableOf_0 : decode cX5_tableOf 0 = .ok (.aload_n 0, 1) := by decide +kernel
theorem dX5_tableOf_1 : decode cX5_tableOf 1 = .ok (.iload_n 1, 1) := by decide +kernel
theorem dX5_tableOf_2 : decode cX5_tableOf 2 = .ok (.iload_n 2, 1) := by decide +kernel
theorem dX5_tableOf_3 : decode cX5_tableOf 3 = .ok (.invokevirtual 115, 3) := by decide +kernel
theorem dX5_tableOf_6 : decode cX5_tableOf 6 = .ok (.ifCond .ne 5, 3) := by decide +kernel
theorem dX5_tableOf_9 : decode cX5_tableOf 9 = .ok (.iconst 0, 1) := by decide +kernel
theorem dX5_tableOf_10 : decode cX5_tableOf 10 = .ok (.ireturn, 1) := by decide +kernel
theorem dX5_tableOf_11 : decode cX5_tableOf 11 = .ok (.aload_n 0, 1) := by decide +kernel
theorem dX5_tableOf_12 : decode cX5_tableOf 12 = .ok (.iload_n 1, 1) := by decide +kernel
theorem dX5_tableOf_13 : decode cX5_tableOf 13 = .ok (.iload_n 2, 1) := by decide +kernel
theorem dX5_tableOf_14 : decode cX5_tableOf 14 = .ok (.invokevirtual 119, 3) := by decide +kernel
theorem dX5_tableOf_17 : decode cX5_tableOf 17 = .ok (.istore_n 3, 1) := by decide +kernel
theorem dX5_tableOf_18 : decode cX5_tableOf 18 = .ok (.aload_n 0, 1) := by decide +kernel
theorem dX5_tableOf_19 : decode cX5_tableOf 19 = .ok (.iload_n 2, 1) := by decide +kernel
theorem dX5_tableOf_20 : decode cX5_tableOf 20 = .ok (.iload_n 1, 1) := by decide +kernel
theorem dX5_tableOf_21 : decode cX5_tableOf 21 = .ok (.invokevirtual 119, 3) := by decide +kernel
theorem dX5_tableOf_24 : decode cX5_tableOf 24 = .ok (.istore 4, 2) := by decide +kernel
theorem dX5_tableOf_26 : decode cX5_tableOf 26 = .ok (.iload 4, 2) := by decide +kernel
theorem dX5_tableOf_28 : decode cX5_tableOf 28 = .ok (.iconst 3, 1) := by decide +kernel
theorem dX5_tableOf_29 : decode cX5_tableOf 29 = .ok (.if_icmp .eq 8, 3) := by decide +kernel
theorem dX5_tableOf_32 : decode cX5_tableOf 32 = .ok (.iload_n 3, 1) := by decide +kernel
theorem dX5_tableOf_33 : decode cX5_tableOf 33 = .ok (.iconst 3, 1) := by decide +kernel
theorem dX5_tableOf_34 : decode cX5_tableOf 34 = .ok (.if_icmp .ne 15, 3) := by decide +kernel
theorem dX5_tableOf_37 : decode cX5_tableOf 37 = .ok (.iload 4, 2) := by decide +kernel
theorem dX5_tableOf_39 : decode cX5_tableOf 39 = .ok (.iconst 3, 1) := by decide +kernel
theorem dX5_tableOf_40 : decode cX5_tableOf 40 = .ok (.if_icmp .ne 7, 3) := by decide +kernel
theorem dX5_tableOf_43 : decode cX5_tableOf 43 = .ok (.iconst 1, 1) := by decide +kernel
theorem dX5_tableOf_44 : decode cX5_tableOf 44 = .ok (.goto 4, 3) := by decide +kernel
theorem dX5_tableOf_47 : decode cX5_tableOf 47 = .ok (.iconst 2, 1) := by decide +kernel
theorem dX5_tableOf_48 : decode cX5_tableOf 48 = .ok (.ireturn, 1) := by decide +kernel
theorem dX5_tableOf_49 : decode cX5_tableOf 49 = .ok (.iload_n 3, 1) := by decide +kernel
theorem dX5_tableOf_50 : decode cX5_tableOf 50 = .ok (.ifCond .eq 5, 3) := by decide +kernel
theorem dX5_tableOf_53 : decode cX5_tableOf 53 = .ok (.iload_n 3, 1) := by decide +kernel
theorem dX5_tableOf_54 : decode cX5_tableOf 54 = .ok (.ireturn, 1) := by decide +kernel
theorem dX5_tableOf_55 : decode cX5_tableOf 55 = .ok (.iload 4, 2) := by decide +kernel
theorem dX5_tableOf_57 : decode cX5_tableOf 57 = .ok (.iconst 1, 1) := by decide +kernel
theorem dX5_tableOf_58 : decode cX5_tableOf 58 = .ok (.if_icmp .ne 7, 3) := by decide +kernel
theorem dX5_tableOf_61 : decode cX5_tableOf 61 = .ok (.iconst 2, 1) := by decide +kernel
theorem dX5_tableOf_62 : decode cX5_tableOf 62 = .ok (.goto 4, 3) := by decide +kernel
theorem dX5_tableOf_65 : decode cX5_tableOf 65 = .ok (.iconst 1, 1) := by decide +kernel
theorem dX5_tableOf_66 : decode cX5_tableOf 66 = .ok (.ireturn, 1) := by decide +kernel
set_option maxRecDepth 20000 in
theorem ggX5_putOther_X5_isPlace : GoodIn wsX5_putOther wsX5_isPlace := goodIn_r _ [5, 6, 7, 4, 8] (by decide +kernel) (by decide +kernel)
set_option maxRecDepth 20000 in
theorem gX5_putOther_X5_isPlace : GoodIn wsX5_putOther (va_wsS RX5 122 yX5_isPlace wsX5_isPlace) := goodIn_app (goodIn_of _ (by decide +kernel)) ggX5_putOther_X5_isPlace
set_option maxRecDepth 20000 in
theorem ggX5_putOther_X5_isCourse : GoodIn wsX5_putOther wsX5_isCourse := goodIn_r _ [11, 6, 7, 4, 8] (by decide +kernel) (by decide +kernel)
set_option maxRecDepth 20000 in
theorem gX5_putOther_X5_isCourse : GoodIn wsX5_putOther (va_wsS RX5 125 yX5_isCourse wsX5_isCourse) := goodIn_app (goodIn_of _ (by decide +kernel)) ggX5_putOther_X5_isCourse
set_option maxRecDepth 20000 in
theorem ggX5_putOther_X5_puts : GoodIn wsX5_putOther wsX5_puts := goodIn_r _ [15, 16, 17, 18, 4, 19, 1, 20, 21, 22, 23, 24, 25, 26, 27, 28, 29, 30, 31, 32, 33, 34, 35, 36, 37, 38, 39, 40] (by decide +kernel) (by decide +kernel)
set_option maxRecDepth 20000 in
theorem gX5_putOther_X5_puts : GoodIn wsX5_putOther (wsV RX5 128 RX5 yX5_puts wsX5_puts) := goodIn_app (goodIn_of _ (by decide +kernel)) ggX5_putOther_X5_puts
theorem dX5_putOther_0 : decode cX5_putOther 0 = .ok (.iload_n 1, 1) := by decide +kernel
theorem dX5_putOther_1 : decode cX5_putOther 1 = .ok (.iload_n 2, 1) := by decide +kernel
theorem dX5_putOther_2 : decode cX5_putOther 2 = .ok (.invokestatic 122, 3) := by decide +kernel
theorem dX5_putOther_5 : decode cX5_putOther 5 = .ok (.ifCond .eq 12, 3) := by decide +kernel
theorem dX5_putOther_8 : decode cX5_putOther 8 = .ok (.iload_n 3, 1) := by decide +kernel
theorem dX5_putOther_9 : decode cX5_putOther 9 = .ok (.iload 4, 2) := by decide +kernel
theorem dX5_putOther_11 : decode cX5_putOther 11 = .ok (.invokestatic 125, 3) := by decide +kernel
theorem dX5_putOther_14 : decode cX5_putOther 14 = .ok (.ifCond .ne 7, 3) := by decide +kernel
theorem dX5_putOther_17 : decode cX5_putOther 17 = .ok (.sipush (-10002), 3) := by decide +kernel
theorem dX5_putOther_20 : decode cX5_putOther 20 = .ok (.ireturn, 1) := by decide +kernel
theorem dX5_putOther_21 : decode cX5_putOther 21 = .ok (.aload_n 0, 1) := by decide +kernel
theorem dX5_putOther_22 : decode cX5_putOther 22 = .ok (.getfield 7, 3) := by decide +kernel
theorem dX5_putOther_25 : decode cX5_putOther 25 = .ok (.iconst 0, 1) := by decide +kernel
theorem dX5_putOther_26 : decode cX5_putOther 26 = .ok (.iaload, 1) := by decide +kernel
theorem dX5_putOther_27 : decode cX5_putOther 27 = .ok (.bipush 7, 2) := by decide +kernel
theorem dX5_putOther_29 : decode cX5_putOther 29 = .ok (.if_icmp .ne 7, 3) := by decide +kernel
theorem dX5_putOther_32 : decode cX5_putOther 32 = .ok (.sipush (-10004), 3) := by decide +kernel
theorem dX5_putOther_35 : decode cX5_putOther 35 = .ok (.ireturn, 1) := by decide +kernel
theorem dX5_putOther_36 : decode cX5_putOther 36 = .ok (.aload_n 0, 1) := by decide +kernel
theorem dX5_putOther_37 : decode cX5_putOther 37 = .ok (.getfield 7, 3) := by decide +kernel
theorem dX5_putOther_40 : decode cX5_putOther 40 = .ok (.iconst 0, 1) := by decide +kernel
theorem dX5_putOther_41 : decode cX5_putOther 41 = .ok (.iaload, 1) := by decide +kernel
theorem dX5_putOther_42 : decode cX5_putOther 42 = .ok (.istore 5, 2) := by decide +kernel
theorem dX5_putOther_44 : decode cX5_putOther 44 = .ok (.aload_n 0, 1) := by decide +kernel
theorem dX5_putOther_45 : decode cX5_putOther 45 = .ok (.getfield 7, 3) := by decide +kernel
theorem dX5_putOther_48 : decode cX5_putOther 48 = .ok (.iconst 0, 1) := by decide +kernel
theorem dX5_putOther_49 : decode cX5_putOther 49 = .ok (.dup2, 1) := by decide +kernel
theorem dX5_putOther_50 : decode cX5_putOther 50 = .ok (.iaload, 1) := by decide +kernel
theorem dX5_putOther_51 : decode cX5_putOther 51 = .ok (.iconst 1, 1) := by decide +kernel
theorem dX5_putOther_52 : decode cX5_putOther 52 = .ok (.iadd, 1) := by decide +kernel
theorem dX5_putOther_53 : decode cX5_putOther 53 = .ok (.iastore, 1) := by decide +kernel
theorem dX5_putOther_54 : decode cX5_putOther 54 = .ok (.aload_n 0, 1) := by decide +kernel
theorem dX5_putOther_55 : decode cX5_putOther 55 = .ok (.iload 5, 2) := by decide +kernel
theorem dX5_putOther_57 : decode cX5_putOther 57 = .ok (.iload_n 1, 1) := by decide +kernel
theorem dX5_putOther_58 : decode cX5_putOther 58 = .ok (.iload_n 2, 1) := by decide +kernel
theorem dX5_putOther_59 : decode cX5_putOther 59 = .ok (.iload_n 3, 1) := by decide +kernel
theorem dX5_putOther_60 : decode cX5_putOther 60 = .ok (.iload 4, 2) := by decide +kernel
theorem dX5_putOther_62 : decode cX5_putOther 62 = .ok (.invokevirtual 128, 3) := by decide +kernel
theorem dX5_putOther_65 : decode cX5_putOther 65 = .ok (.iload 5, 2) := by decide +kernel
theorem dX5_putOther_67 : decode cX5_putOther 67 = .ok (.ireturn, 1) := by decide +kernel
set_option maxRecDepth 20000 in
theorem ggX5_puts_X5_tells : GoodIn wsX5_puts wsX5_tells := goodIn_r _ [5, 6, 7, 8, 9, 10, 11, 12, 13, 14, 15, 16, 17, 18, 19, 20, 21, 22, 23, 24, 25, 26, 27] (by decide +kernel) (by decide +kernel)
set_option maxRecDepth 20000 in
theorem gX5_puts_X5_tells : GoodIn wsX5_puts (wsV RX5 132 RX5 yX5_tells wsX5_tells) := goodIn_app (goodIn_of _ (by decide +kernel)) ggX5_puts_X5_tells
theorem dX5_puts_0 : decode cX5_puts 0 = .ok (.aload_n 0, 1) := by decide +kernel
theorem dX5_puts_1 : decode cX5_puts 1 = .ok (.iload_n 1, 1) := by decide +kernel
theorem dX5_puts_2 : decode cX5_puts 2 = .ok (.iconst 0, 1) := by decide +kernel
theorem dX5_puts_3 : decode cX5_puts 3 = .ok (.iload_n 2, 1) := by decide +kernel
theorem dX5_puts_4 : decode cX5_puts 4 = .ok (.invokevirtual 132, 3) := by decide +kernel
theorem dX5_puts_7 : decode cX5_puts 7 = .ok (.aload_n 0, 1) := by decide +kernel
theorem dX5_puts_8 : decode cX5_puts 8 = .ok (.iload_n 1, 1) := by decide +kernel
theorem dX5_puts_9 : decode cX5_puts 9 = .ok (.iconst 1, 1) := by decide +kernel
theorem dX5_puts_10 : decode cX5_puts 10 = .ok (.iload_n 3, 1) := by decide +kernel
theorem dX5_puts_11 : decode cX5_puts 11 = .ok (.invokevirtual 132, 3) := by decide +kernel
theorem dX5_puts_14 : decode cX5_puts 14 = .ok (.aload_n 0, 1) := by decide +kernel
theorem dX5_puts_15 : decode cX5_puts 15 = .ok (.iload_n 1, 1) := by decide +kernel
theorem dX5_puts_16 : decode cX5_puts 16 = .ok (.iconst 2, 1) := by decide +kernel
theorem dX5_puts_17 : decode cX5_puts 17 = .ok (.iload 4, 2) := by decide +kernel
theorem dX5_puts_19 : decode cX5_puts 19 = .ok (.invokevirtual 132, 3) := by decide +kernel
theorem dX5_puts_22 : decode cX5_puts 22 = .ok (.aload_n 0, 1) := by decide +kernel
theorem dX5_puts_23 : decode cX5_puts 23 = .ok (.iload_n 1, 1) := by decide +kernel
theorem dX5_puts_24 : decode cX5_puts 24 = .ok (.iconst 3, 1) := by decide +kernel
theorem dX5_puts_25 : decode cX5_puts 25 = .ok (.iload 5, 2) := by decide +kernel
theorem dX5_puts_27 : decode cX5_puts 27 = .ok (.invokevirtual 132, 3) := by decide +kernel
theorem dX5_puts_30 : decode cX5_puts 30 = .ok (.aload_n 0, 1) := by decide +kernel
theorem dX5_puts_31 : decode cX5_puts 31 = .ok (.iload_n 1, 1) := by decide +kernel
theorem dX5_puts_32 : decode cX5_puts 32 = .ok (.iconst 4, 1) := by decide +kernel
theorem dX5_puts_33 : decode cX5_puts 33 = .ok (.iconst 0, 1) := by decide +kernel
theorem dX5_puts_34 : decode cX5_puts 34 = .ok (.invokevirtual 132, 3) := by decide +kernel
theorem dX5_puts_37 : decode cX5_puts 37 = .ok (.return_, 1) := by decide +kernel
set_option maxRecDepth 20000 in
theorem ggX5_putOwn_X5_isPlace : GoodIn wsX5_putOwn wsX5_isPlace := goodIn_r _ [5, 6, 7, 4, 8] (by decide +kernel) (by decide +kernel)
set_option maxRecDepth 20000 in
theorem gX5_putOwn_X5_isPlace : GoodIn wsX5_putOwn (va_wsS RX5 122 yX5_isPlace wsX5_isPlace) := goodIn_app (goodIn_of _ (by decide +kernel)) ggX5_putOwn_X5_isPlace
set_option maxRecDepth 20000 in
theorem ggX5_putOwn_X5_isCourse : GoodIn wsX5_putOwn wsX5_isCourse := goodIn_r _ [11, 6, 7, 4, 8] (by decide +kernel) (by decide +kernel)
set_option maxRecDepth 20000 in
theorem gX5_putOwn_X5_isCourse : GoodIn wsX5_putOwn (va_wsS RX5 125 yX5_isCourse wsX5_isCourse) := goodIn_app (goodIn_of _ (by decide +kernel)) ggX5_putOwn_X5_isCourse
set_option maxRecDepth 20000 in
theorem ggX5_putOwn_X5_puts : GoodIn wsX5_putOwn wsX5_puts := goodIn_r _ [15, 16, 17, 18, 4, 19, 1, 20, 21, 22, 23, 24, 25, 26, 27, 28, 29, 30, 31, 32, 33, 34, 35, 36, 37, 38, 39, 40] (by decide +kernel) (by decide +kernel)
set_option maxRecDepth 20000 in
theorem gX5_putOwn_X5_puts : GoodIn wsX5_putOwn (wsV RX5 128 RX5 yX5_puts wsX5_puts) := goodIn_app (goodIn_of _ (by decide +kernel)) ggX5_putOwn_X5_puts
set_option maxRecDepth 20000 in
theorem ggX5_putOwn_X5_tells : GoodIn wsX5_putOwn wsX5_tells := goodIn_r _ [19, 1, 20, 21, 22, 23, 24, 25, 26, 27, 28, 29, 30, 31, 32, 33, 34, 35, 36, 37, 38, 39, 40] (by decide +kernel) (by decide +kernel)
set_option maxRecDepth 20000 in
theorem gX5_putOwn_X5_tells : GoodIn wsX5_putOwn (wsV RX5 132 RX5 yX5_tells wsX5_tells) := goodIn_app (goodIn_of _ (by decide +kernel)) ggX5_putOwn_X5_tells
theorem dX5_putOwn_0 : decode cX5_putOwn 0 = .ok (.iload_n 1, 1) := by decide +kernel
theorem dX5_putOwn_1 : decode cX5_putOwn 1 = .ok (.iload_n 2, 1) := by decide +kernel
theorem dX5_putOwn_2 : decode cX5_putOwn 2 = .ok (.invokestatic 122, 3) := by decide +kernel
theorem dX5_putOwn_5 : decode cX5_putOwn 5 = .ok (.ifCond .eq 12, 3) := by decide +kernel
theorem dX5_putOwn_8 : decode cX5_putOwn 8 = .ok (.iload_n 3, 1) := by decide +kernel
theorem dX5_putOwn_9 : decode cX5_putOwn 9 = .ok (.iload 4, 2) := by decide +kernel
theorem dX5_putOwn_11 : decode cX5_putOwn 11 = .ok (.invokestatic 125, 3) := by decide +kernel
theorem dX5_putOwn_14 : decode cX5_putOwn 14 = .ok (.ifCond .ne 7, 3) := by decide +kernel
theorem dX5_putOwn_17 : decode cX5_putOwn 17 = .ok (.sipush (-10002), 3) := by decide +kernel
theorem dX5_putOwn_20 : decode cX5_putOwn 20 = .ok (.ireturn, 1) := by decide +kernel
theorem dX5_putOwn_21 : decode cX5_putOwn 21 = .ok (.aload_n 0, 1) := by decide +kernel
theorem dX5_putOwn_22 : decode cX5_putOwn 22 = .ok (.iconst 0, 1) := by decide +kernel
theorem dX5_putOwn_23 : decode cX5_putOwn 23 = .ok (.iload_n 1, 1) := by decide +kernel
theorem dX5_putOwn_24 : decode cX5_putOwn 24 = .ok (.iload_n 2, 1) := by decide +kernel
theorem dX5_putOwn_25 : decode cX5_putOwn 25 = .ok (.iload_n 3, 1) := by decide +kernel
theorem dX5_putOwn_26 : decode cX5_putOwn 26 = .ok (.iload 4, 2) := by decide +kernel
theorem dX5_putOwn_28 : decode cX5_putOwn 28 = .ok (.invokevirtual 128, 3) := by decide +kernel
theorem dX5_putOwn_31 : decode cX5_putOwn 31 = .ok (.iconst 1, 1) := by decide +kernel
theorem dX5_putOwn_32 : decode cX5_putOwn 32 = .ok (.istore 5, 2) := by decide +kernel
theorem dX5_putOwn_34 : decode cX5_putOwn 34 = .ok (.iload 5, 2) := by decide +kernel
theorem dX5_putOwn_36 : decode cX5_putOwn 36 = .ok (.aload_n 0, 1) := by decide +kernel
theorem dX5_putOwn_37 : decode cX5_putOwn 37 = .ok (.getfield 7, 3) := by decide +kernel
theorem dX5_putOwn_40 : decode cX5_putOwn 40 = .ok (.iconst 0, 1) := by decide +kernel
theorem dX5_putOwn_41 : decode cX5_putOwn 41 = .ok (.iaload, 1) := by decide +kernel
theorem dX5_putOwn_42 : decode cX5_putOwn 42 = .ok (.if_icmp .ge 17, 3) := by decide +kernel
theorem dX5_putOwn_45 : decode cX5_putOwn 45 = .ok (.aload_n 0, 1) := by decide +kernel
theorem dX5_putOwn_46 : decode cX5_putOwn 46 = .ok (.iload 5, 2) := by decide +kernel
theorem dX5_putOwn_48 : decode cX5_putOwn 48 = .ok (.iconst 4, 1) := by decide +kernel
theorem dX5_putOwn_49 : decode cX5_putOwn 49 = .ok (.iconst 0, 1) := by decide +kernel
theorem dX5_putOwn_50 : decode cX5_putOwn 50 = .ok (.invokevirtual 132, 3) := by decide +kernel
theorem dX5_putOwn_53 : decode cX5_putOwn 53 = .ok (.iinc 5 1, 3) := by decide +kernel
theorem dX5_putOwn_56 : decode cX5_putOwn 56 = .ok (.goto (-22), 3) := by decide +kernel
theorem dX5_putOwn_59 : decode cX5_putOwn 59 = .ok (.aload_n 0, 1) := by decide +kernel
theorem dX5_putOwn_60 : decode cX5_putOwn 60 = .ok (.getfield 7, 3) := by decide +kernel
theorem dX5_putOwn_63 : decode cX5_putOwn 63 = .ok (.iconst 3, 1) := by decide +kernel
theorem dX5_putOwn_64 : decode cX5_putOwn 64 = .ok (.iconst 0, 1) := by decide +kernel
theorem dX5_putOwn_65 : decode cX5_putOwn 65 = .ok (.iastore, 1) := by decide +kernel
theorem dX5_putOwn_66 : decode cX5_putOwn 66 = .ok (.aload_n 0, 1) := by decide +kernel
theorem dX5_putOwn_67 : decode cX5_putOwn 67 = .ok (.getfield 7, 3) := by decide +kernel
theorem dX5_putOwn_70 : decode cX5_putOwn 70 = .ok (.iconst 0, 1) := by decide +kernel
theorem dX5_putOwn_71 : decode cX5_putOwn 71 = .ok (.iaload, 1) := by decide +kernel
theorem dX5_putOwn_72 : decode cX5_putOwn 72 = .ok (.iconst 1, 1) := by decide +kernel
theorem dX5_putOwn_73 : decode cX5_putOwn 73 = .ok (.isub, 1) := by decide +kernel
theorem dX5_putOwn_74 : decode cX5_putOwn 74 = .ok (.ireturn, 1) := by decide +kernel
set_option maxRecDepth 20000 in
theorem ggX5_putAway_X5_isOther : GoodIn wsX5_putAway wsX5_isOther := goodIn_r _ [6, 7, 8, 9, 5, 10, 1, 11, 12, 13, 14, 15, 16, 17, 18, 19, 20, 21, 22, 23, 24, 25, 26, 27, 28, 29, 30, 31, 32, 33, 34] (by decide +kernel) (by decide +kernel)
set_option maxRecDepth 20000 in
theorem gX5_putAway_X5_isOther : GoodIn wsX5_putAway (wsV RX5 136 RX5 yX5_isOther wsX5_isOther) := goodIn_app (goodIn_of _ (by decide +kernel)) ggX5_putAway_X5_isOther
theorem dX5_putAway_0 : decode cX5_putAway 0 = .ok (.aload_n 0, 1) := by decide +kernel
theorem dX5_putAway_1 : decode cX5_putAway 1 = .ok (.iload_n 1, 1) := by decide +kernel
theorem dX5_putAway_2 : decode cX5_putAway 2 = .ok (.invokevirtual 136, 3) := by decide +kernel
theorem dX5_putAway_5 : decode cX5_putAway 5 = .ok (.ifCond .ne 7, 3) := by decide +kernel
theorem dX5_putAway_8 : decode cX5_putAway 8 = .ok (.sipush (-10002), 3) := by decide +kernel
theorem dX5_putAway_11 : decode cX5_putAway 11 = .ok (.ireturn, 1) := by decide +kernel
theorem dX5_putAway_12 : decode cX5_putAway 12 = .ok (.aload_n 0, 1) := by decide +kernel
theorem dX5_putAway_13 : decode cX5_putAway 13 = .ok (.getfield 7, 3) := by decide +kernel
theorem dX5_putAway_16 : decode cX5_putAway 16 = .ok (.iconst 0, 1) := by decide +kernel
theorem dX5_putAway_17 : decode cX5_putAway 17 = .ok (.dup2, 1) := by decide +kernel
theorem dX5_putAway_18 : decode cX5_putAway 18 = .ok (.iaload, 1) := by decide +kernel
theorem dX5_putAway_19 : decode cX5_putAway 19 = .ok (.iconst 1, 1) := by decide +kernel
theorem dX5_putAway_20 : decode cX5_putAway 20 = .ok (.isub, 1) := by decide +kernel
theorem dX5_putAway_21 : decode cX5_putAway 21 = .ok (.iastore, 1) := by decide +kernel
theorem dX5_putAway_22 : decode cX5_putAway 22 = .ok (.iconst 4, 1) := by decide +kernel
theorem dX5_putAway_23 : decode cX5_putAway 23 = .ok (.iconst 5, 1) := by decide +kernel
theorem dX5_putAway_24 : decode cX5_putAway 24 = .ok (.iload_n 1, 1) := by decide +kernel
theorem dX5_putAway_25 : decode cX5_putAway 25 = .ok (.imul, 1) := by decide +kernel
theorem dX5_putAway_26 : decode cX5_putAway 26 = .ok (.iadd, 1) := by decide +kernel
theorem dX5_putAway_27 : decode cX5_putAway 27 = .ok (.istore_n 2, 1) := by decide +kernel
theorem dX5_putAway_28 : decode cX5_putAway 28 = .ok (.iload_n 2, 1) := by decide +kernel
theorem dX5_putAway_29 : decode cX5_putAway 29 = .ok (.bipush 39, 2) := by decide +kernel
theorem dX5_putAway_31 : decode cX5_putAway 31 = .ok (.if_icmp .ge 35, 3) := by decide +kernel
theorem dX5_putAway_34 : decode cX5_putAway 34 = .ok (.aload_n 0, 1) := by decide +kernel
theorem dX5_putAway_35 : decode cX5_putAway 35 = .ok (.getfield 7, 3) := by decide +kernel
theorem dX5_putAway_38 : decode cX5_putAway 38 = .ok (.iload_n 2, 1) := by decide +kernel
theorem dX5_putAway_39 : decode cX5_putAway 39 = .ok (.iload_n 2, 1) := by decide +kernel
theorem dX5_putAway_40 : decode cX5_putAway 40 = .ok (.iconst 5, 1) := by decide +kernel
theorem dX5_putAway_41 : decode cX5_putAway 41 = .ok (.iadd, 1) := by decide +kernel
theorem dX5_putAway_42 : decode cX5_putAway 42 = .ok (.bipush 39, 2) := by decide +kernel
theorem dX5_putAway_44 : decode cX5_putAway 44 = .ok (.if_icmp .ge 14, 3) := by decide +kernel
theorem dX5_putAway_47 : decode cX5_putAway 47 = .ok (.aload_n 0, 1) := by decide +kernel
theorem dX5_putAway_48 : decode cX5_putAway 48 = .ok (.getfield 7, 3) := by decide +kernel
theorem dX5_putAway_51 : decode cX5_putAway 51 = .ok (.iload_n 2, 1) := by decide +kernel
theorem dX5_putAway_52 : decode cX5_putAway 52 = .ok (.iconst 5, 1) := by decide +kernel
theorem dX5_putAway_53 : decode cX5_putAway 53 = .ok (.iadd, 1) := by decide +kernel
theorem dX5_putAway_54 : decode cX5_putAway 54 = .ok (.iaload, 1) := by decide +kernel
theorem dX5_putAway_55 : decode cX5_putAway 55 = .ok (.goto 4, 3) := by decide +kernel
theorem dX5_putAway_58 : decode cX5_putAway 58 = .ok (.iconst 0, 1) := by decide +kernel
theorem dX5_putAway_59 : decode cX5_putAway 59 = .ok (.iastore, 1) := by decide +kernel
theorem dX5_putAway_60 : decode cX5_putAway 60 = .ok (.iinc 2 1, 3) := by decide +kernel
theorem dX5_putAway_63 : decode cX5_putAway 63 = .ok (.goto (-35), 3) := by decide +kernel
theorem dX5_putAway_66 : decode cX5_putAway 66 = .ok (.aload_n 0, 1) := by decide +kernel
theorem dX5_putAway_67 : decode cX5_putAway 67 = .ok (.getfield 7, 3) := by decide +kernel
theorem dX5_putAway_70 : decode cX5_putAway 70 = .ok (.iconst 0, 1) := by decide +kernel
theorem dX5_putAway_71 : decode cX5_putAway 71 = .ok (.iaload, 1) := by decide +kernel
theorem dX5_putAway_72 : decode cX5_putAway 72 = .ok (.iconst 1, 1) := by decide +kernel
theorem dX5_putAway_73 : decode cX5_putAway 73 = .ok (.isub, 1) := by decide +kernel
theorem dX5_putAway_74 : decode cX5_putAway 74 = .ok (.ireturn, 1) := by decide +kernel
set_option maxRecDepth 20000 in
theorem ggX5_putCourse_X5_isShip : GoodIn wsX5_putCourse wsX5_isShip := goodIn_r _ [5, 6, 7, 8, 4, 9, 21, 22, 23, 24, 25, 26, 27, 28, 29, 30, 31, 32, 33, 34, 35, 36, 37, 38, 39, 40, 41] (by decide +kernel) (by decide +kernel)
set_option maxRecDepth 20000 in
theorem gX5_putCourse_X5_isShip : GoodIn wsX5_putCourse (wsV RX5 46 RX5 yX5_isShip wsX5_isShip) := goodIn_app (goodIn_of _ (by decide +kernel)) ggX5_putCourse_X5_isShip
set_option maxRecDepth 20000 in
theorem ggX5_putCourse_X5_isCourse : GoodIn wsX5_putCourse wsX5_isCourse := goodIn_r _ [12, 7, 8, 4, 9] (by decide +kernel) (by decide +kernel)
set_option maxRecDepth 20000 in
theorem gX5_putCourse_X5_isCourse : GoodIn wsX5_putCourse (va_wsS RX5 125 yX5_isCourse wsX5_isCourse) := goodIn_app (goodIn_of _ (by decide +kernel)) ggX5_putCourse_X5_isCourse
set_option maxRecDepth 20000 in
theorem ggX5_putCourse_X5_shipOf : GoodIn wsX5_putCourse wsX5_shipOf := goodIn_r _ [16, 6, 21, 22, 23, 24, 25, 26, 27, 28, 29, 30, 31, 32, 33, 34, 35, 36, 37, 38, 39, 40, 41] (by decide +kernel) (by decide +kernel)
set_option maxRecDepth 20000 in
theorem gX5_putCourse_X5_shipOf : GoodIn wsX5_putCourse (wsV RX5 53 RX5 yX5_shipOf wsX5_shipOf) := goodIn_app (goodIn_of _ (by decide +kernel)) ggX5_putCourse_X5_shipOf
set_option maxRecDepth 20000 in
theorem ggX5_putCourse_X5_tells : GoodIn wsX5_putCourse wsX5_tells := goodIn_r _ [20, 6, 21, 22, 23, 24, 25, 26, 27, 28, 29, 30, 31, 32, 33, 34, 35, 36, 37, 38, 39, 40, 41] (by decide +kernel) (by decide +kernel)
set_option maxRecDepth 20000 in
theorem gX5_putCourse_X5_tells : GoodIn wsX5_putCourse (wsV RX5 132 RX5 yX5_tells wsX5_tells) := goodIn_app (goodIn_of _ (by decide +kernel)) ggX5_putCourse_X5_tells
theorem dX5_putCourse_0 : decode cX5_putCourse 0 = .ok (.aload_n 0, 1) := by decide +kernel
theorem dX5_putCourse_1 : decode cX5_putCourse 1 = .ok (.iload_n 1, 1) := by decide +kernel
theorem dX5_putCourse_2 : decode cX5_putCourse 2 = .ok (.invokevirtual 46, 3) := by decide +kernel
theorem dX5_putCourse_5 : decode cX5_putCourse 5 = .ok (.ifCond .eq 11, 3) := by decide +kernel
theorem dX5_putCourse_8 : decode cX5_putCourse 8 = .ok (.iload_n 2, 1) := by decide +kernel
theorem dX5_putCourse_9 : decode cX5_putCourse 9 = .ok (.iload_n 3, 1) := by decide +kernel
theorem dX5_putCourse_10 : decode cX5_putCourse 10 = .ok (.invokestatic 125, 3) := by decide +kernel
theorem dX5_putCourse_13 : decode cX5_putCourse 13 = .ok (.ifCond .ne 7, 3) := by decide +kernel
theorem dX5_putCourse_16 : decode cX5_putCourse 16 = .ok (.sipush (-10002), 3) := by decide +kernel
theorem dX5_putCourse_19 : decode cX5_putCourse 19 = .ok (.ireturn, 1) := by decide +kernel
theorem dX5_putCourse_20 : decode cX5_putCourse 20 = .ok (.bipush 16, 2) := by decide +kernel
theorem dX5_putCourse_22 : decode cX5_putCourse 22 = .ok (.aload_n 0, 1) := by decide +kernel
theorem dX5_putCourse_23 : decode cX5_putCourse 23 = .ok (.iload_n 1, 1) := by decide +kernel
theorem dX5_putCourse_24 : decode cX5_putCourse 24 = .ok (.iconst 3, 1) := by decide +kernel
theorem dX5_putCourse_25 : decode cX5_putCourse 25 = .ok (.invokevirtual 53, 3) := by decide +kernel
theorem dX5_putCourse_28 : decode cX5_putCourse 28 = .ok (.imul, 1) := by decide +kernel
theorem dX5_putCourse_29 : decode cX5_putCourse 29 = .ok (.aload_n 0, 1) := by decide +kernel
theorem dX5_putCourse_30 : decode cX5_putCourse 30 = .ok (.iload_n 1, 1) := by decide +kernel
theorem dX5_putCourse_31 : decode cX5_putCourse 31 = .ok (.iconst 2, 1) := by decide +kernel
theorem dX5_putCourse_32 : decode cX5_putCourse 32 = .ok (.invokevirtual 53, 3) := by decide +kernel
theorem dX5_putCourse_35 : decode cX5_putCourse 35 = .ok (.iadd, 1) := by decide +kernel
theorem dX5_putCourse_36 : decode cX5_putCourse 36 = .ok (.istore 4, 2) := by decide +kernel
theorem dX5_putCourse_38 : decode cX5_putCourse 38 = .ok (.aload_n 0, 1) := by decide +kernel
theorem dX5_putCourse_39 : decode cX5_putCourse 39 = .ok (.iload_n 1, 1) := by decide +kernel
theorem dX5_putCourse_40 : decode cX5_putCourse 40 = .ok (.iconst 2, 1) := by decide +kernel
theorem dX5_putCourse_41 : decode cX5_putCourse 41 = .ok (.iload_n 2, 1) := by decide +kernel
theorem dX5_putCourse_42 : decode cX5_putCourse 42 = .ok (.invokevirtual 132, 3) := by decide +kernel
theorem dX5_putCourse_45 : decode cX5_putCourse 45 = .ok (.aload_n 0, 1) := by decide +kernel
theorem dX5_putCourse_46 : decode cX5_putCourse 46 = .ok (.iload_n 1, 1) := by decide +kernel
theorem dX5_putCourse_47 : decode cX5_putCourse 47 = .ok (.iconst 3, 1) := by decide +kernel
theorem dX5_putCourse_48 : decode cX5_putCourse 48 = .ok (.iload_n 3, 1) := by decide +kernel
theorem dX5_putCourse_49 : decode cX5_putCourse 49 = .ok (.invokevirtual 132, 3) := by decide +kernel
theorem dX5_putCourse_52 : decode cX5_putCourse 52 = .ok (.iload 4, 2) := by decide +kernel
theorem dX5_putCourse_54 : decode cX5_putCourse 54 = .ok (.ireturn, 1) := by decide +kernel
set_option maxRecDepth 20000 in
theorem ggX5_putSetting_X5_in : GoodIn wsX5_putSetting wsX5_in := goodIn_r _ [5] (by decide +kernel) (by decide +kernel)
set_option maxRecDepth 20000 in
theorem gX5_putSetting_X5_in : GoodIn wsX5_putSetting (va_wsS RX5 42 yX5_in wsX5_in) := goodIn_app (goodIn_of _ (by decide +kernel)) ggX5_putSetting_X5_in
theorem dX5_putSetting_0 : decode cX5_putSetting 0 = .ok (.iload_n 1, 1) := by decide +kernel
theorem dX5_putSetting_1 : decode cX5_putSetting 1 = .ok (.iconst 0, 1) := by decide +kernel
theorem dX5_putSetting_2 : decode cX5_putSetting 2 = .ok (.iconst 1, 1) := by decide +kernel
theorem dX5_putSetting_3 : decode cX5_putSetting 3 = .ok (.invokestatic 42, 3) := by decide +kernel
theorem dX5_putSetting_6 : decode cX5_putSetting 6 = .ok (.ifCond .eq 23, 3) := by decide +kernel
theorem dX5_putSetting_9 : decode cX5_putSetting 9 = .ok (.iload_n 2, 1) := by decide +kernel
theorem dX5_putSetting_10 : decode cX5_putSetting 10 = .ok (.iconst 1, 1) := by decide +kernel
theorem dX5_putSetting_11 : decode cX5_putSetting 11 = .ok (.iload_n 1, 1) := by decide +kernel
theorem dX5_putSetting_12 : decode cX5_putSetting 12 = .ok (.ifCond .ne 9, 3) := by decide +kernel
theorem dX5_putSetting_15 : decode cX5_putSetting 15 = .ok (.sipush 999, 3) := by decide +kernel
theorem dX5_putSetting_18 : decode cX5_putSetting 18 = .ok (.goto 5, 3) := by decide +kernel
theorem dX5_putSetting_21 : decode cX5_putSetting 21 = .ok (.bipush 99, 2) := by decide +kernel
theorem dX5_putSetting_23 : decode cX5_putSetting 23 = .ok (.invokestatic 42, 3) := by decide +kernel
theorem dX5_putSetting_26 : decode cX5_putSetting 26 = .ok (.ifCond .ne 7, 3) := by decide +kernel
theorem dX5_putSetting_29 : decode cX5_putSetting 29 = .ok (.sipush (-10002), 3) := by decide +kernel
theorem dX5_putSetting_32 : decode cX5_putSetting 32 = .ok (.ireturn, 1) := by decide +kernel
theorem dX5_putSetting_33 : decode cX5_putSetting 33 = .ok (.aload_n 0, 1) := by decide +kernel
theorem dX5_putSetting_34 : decode cX5_putSetting 34 = .ok (.getfield 7, 3) := by decide +kernel
theorem dX5_putSetting_37 : decode cX5_putSetting 37 = .ok (.iconst 1, 1) := by decide +kernel
theorem dX5_putSetting_38 : decode cX5_putSetting 38 = .ok (.iload_n 1, 1) := by decide +kernel
theorem dX5_putSetting_39 : decode cX5_putSetting 39 = .ok (.iadd, 1) := by decide +kernel
theorem dX5_putSetting_40 : decode cX5_putSetting 40 = .ok (.iaload, 1) := by decide +kernel
theorem dX5_putSetting_41 : decode cX5_putSetting 41 = .ok (.istore_n 3, 1) := by decide +kernel
theorem dX5_putSetting_42 : decode cX5_putSetting 42 = .ok (.aload_n 0, 1) := by decide +kernel
theorem dX5_putSetting_43 : decode cX5_putSetting 43 = .ok (.getfield 7, 3) := by decide +kernel
theorem dX5_putSetting_46 : decode cX5_putSetting 46 = .ok (.iconst 1, 1) := by decide +kernel
theorem dX5_putSetting_47 : decode cX5_putSetting 47 = .ok (.iload_n 1, 1) := by decide +kernel
theorem dX5_putSetting_48 : decode cX5_putSetting 48 = .ok (.iadd, 1) := by decide +kernel
theorem dX5_putSetting_49 : decode cX5_putSetting 49 = .ok (.iload_n 2, 1) := by decide +kernel
theorem dX5_putSetting_50 : decode cX5_putSetting 50 = .ok (.iastore, 1) := by decide +kernel
theorem dX5_putSetting_51 : decode cX5_putSetting 51 = .ok (.iload_n 3, 1) := by decide +kernel
theorem dX5_putSetting_52 : decode cX5_putSetting 52 = .ok (.ireturn, 1) := by decide +kernel
set_option maxRecDepth 20000 in
theorem ggX5_isPastAndClear_X5_laysAsTheyAre : GoodIn wsX5_isPastAndClear wsX5_laysAsTheyAre := goodIn_r _ [6, 7, 8, 9, 5, 10, 1, 11, 12, 13, 14, 15, 16, 17, 18, 19, 20, 21, 22, 23, 24, 33, 34, 35, 36, 37, 38, 39, 40, 41, 42, 43, 44, 45, 46, 47, 48, 49, 50, 51, 52, 53] (by decide +kernel) (by decide +kernel)
set_option maxRecDepth 20000 in
theorem gX5_isPastAndClear_X5_laysAsTheyAre : GoodIn wsX5_isPastAndClear (wsV RX5 103 RX5 yX5_laysAsTheyAre wsX5_laysAsTheyAre) := goodIn_app (goodIn_of _ (by decide +kernel)) ggX5_isPastAndClear_X5_laysAsTheyAre
set_option maxRecDepth 20000 in
theorem ggX5_isPastAndClear_X5_towards : GoodIn wsX5_isPastAndClear wsX5_towards := goodIn_r _ [28, 15, 17, 16, 18, 33, 34, 35, 36, 37, 38, 39, 40, 41, 42, 43, 44, 45, 46, 47, 48, 49, 50, 51, 52, 53] (by decide +kernel) (by decide +kernel)
set_option maxRecDepth 20000 in
theorem gX5_isPastAndClear_X5_towards : GoodIn wsX5_isPastAndClear (wsV RX5 77 RX5 yX5_towards wsX5_towards) := goodIn_app (goodIn_of _ (by decide +kernel)) ggX5_isPastAndClear_X5_towards
set_option maxRecDepth 20000 in
theorem ggX5_isPastAndClear_X5_squareAway : GoodIn wsX5_isPastAndClear wsX5_squareAway := goodIn_r _ [32, 15, 16, 33, 34, 35, 36, 37, 38, 39, 40, 41, 42, 43, 44, 45, 46, 47, 48, 49, 50, 51, 52, 53] (by decide +kernel) (by decide +kernel)
set_option maxRecDepth 20000 in
theorem gX5_isPastAndClear_X5_squareAway : GoodIn wsX5_isPastAndClear (wsV RX5 87 RX5 yX5_squareAway wsX5_squareAway) := goodIn_app (goodIn_of _ (by decide +kernel)) ggX5_isPastAndClear_X5_squareAway
theorem dX5_isPastAndClear_0 : decode cX5_isPastAndClear 0 = .ok (.aload_n 0, 1) := by decide +kernel
theorem dX5_isPastAndClear_1 : decode cX5_isPastAndClear 1 = .ok (.iconst 0, 1) := by decide +kernel
theorem dX5_isPastAndClear_2 : decode cX5_isPastAndClear 2 = .ok (.iload_n 1, 1) := by decide +kernel
theorem dX5_isPastAndClear_3 : decode cX5_isPastAndClear 3 = .ok (.invokevirtual 103, 3) := by decide +kernel
theorem dX5_isPastAndClear_6 : decode cX5_isPastAndClear 6 = .ok (.aload_n 0, 1) := by decide +kernel
theorem dX5_isPastAndClear_7 : decode cX5_isPastAndClear 7 = .ok (.getfield 7, 3) := by decide +kernel
theorem dX5_isPastAndClear_10 : decode cX5_isPastAndClear 10 = .ok (.iconst 1, 1) := by decide +kernel
theorem dX5_isPastAndClear_11 : decode cX5_isPastAndClear 11 = .ok (.iaload, 1) := by decide +kernel
theorem dX5_isPastAndClear_12 : decode cX5_isPastAndClear 12 = .ok (.i2l, 1) := by decide +kernel
theorem dX5_isPastAndClear_13 : decode cX5_isPastAndClear 13 = .ok (.lstore_n 2, 1) := by decide +kernel
theorem dX5_isPastAndClear_14 : decode cX5_isPastAndClear 14 = .ok (.aload_n 0, 1) := by decide +kernel
theorem dX5_isPastAndClear_15 : decode cX5_isPastAndClear 15 = .ok (.invokevirtual 77, 3) := by decide +kernel
theorem dX5_isPastAndClear_18 : decode cX5_isPastAndClear 18 = .ok (.lconst 0, 1) := by decide +kernel
theorem dX5_isPastAndClear_19 : decode cX5_isPastAndClear 19 = .ok (.lcmp, 1) := by decide +kernel
theorem dX5_isPastAndClear_20 : decode cX5_isPastAndClear 20 = .ok (.ifCond .lt 18, 3) := by decide +kernel
theorem dX5_isPastAndClear_23 : decode cX5_isPastAndClear 23 = .ok (.aload_n 0, 1) := by decide +kernel
theorem dX5_isPastAndClear_24 : decode cX5_isPastAndClear 24 = .ok (.invokevirtual 87, 3) := by decide +kernel
theorem dX5_isPastAndClear_27 : decode cX5_isPastAndClear 27 = .ok (.lload_n 2, 1) := by decide +kernel
theorem dX5_isPastAndClear_28 : decode cX5_isPastAndClear 28 = .ok (.lload_n 2, 1) := by decide +kernel
theorem dX5_isPastAndClear_29 : decode cX5_isPastAndClear 29 = .ok (.lmul, 1) := by decide +kernel
theorem dX5_isPastAndClear_30 : decode cX5_isPastAndClear 30 = .ok (.lcmp, 1) := by decide +kernel
theorem dX5_isPastAndClear_31 : decode cX5_isPastAndClear 31 = .ok (.ifCond .lt 7, 3) := by decide +kernel
theorem dX5_isPastAndClear_34 : decode cX5_isPastAndClear 34 = .ok (.iconst 1, 1) := by decide +kernel
theorem dX5_isPastAndClear_35 : decode cX5_isPastAndClear 35 = .ok (.goto 4, 3) := by decide +kernel
theorem dX5_isPastAndClear_38 : decode cX5_isPastAndClear 38 = .ok (.iconst 0, 1) := by decide +kernel
theorem dX5_isPastAndClear_39 : decode cX5_isPastAndClear 39 = .ok (.ireturn, 1) := by decide +kernel
set_option maxRecDepth 20000 in
theorem ggX5_look_X5_shipOf : GoodIn wsX5_look wsX5_shipOf := goodIn_r _ [6, 1, 70, 71, 72, 73, 74, 75, 76, 77, 78, 79, 80, 81, 82, 83, 84, 85, 86, 87, 88, 89, 90] (by decide +kernel) (by decide +kernel)
set_option maxRecDepth 20000 in
theorem gX5_look_X5_shipOf : GoodIn wsX5_look (wsV RX5 53 RX5 yX5_shipOf wsX5_shipOf) := goodIn_app (goodIn_of _ (by decide +kernel)) ggX5_look_X5_shipOf
set_option maxRecDepth 20000 in
theorem ggX5_look_X5_tableOf : GoodIn wsX5_look wsX5_tableOf := goodIn_r _ [10, 11, 12, 13, 5, 14, 15, 16, 17, 18, 2, 3, 4, 6, 1, 19, 20, 21, 22, 23, 24, 25, 26, 27, 28, 29, 30, 31, 32, 33, 34, 35, 36, 37, 38, 39, 40, 41, 42, 43, 44, 45, 46, 47, 48, 49, 50, 51, 52, 53, 54, 55, 56, 57, 58, 59, 60, 61, 70, 71, 72, 73, 74, 75, 76, 77, 78, 79, 80, 81, 82, 83, 84, 85, 86, 87, 88, 89, 90] (by decide +kernel) (by decide +kernel)
set_option maxRecDepth 20000 in
theorem gX5_look_X5_tableOf : GoodIn wsX5_look (wsV RX5 139 RX5 yX5_tableOf wsX5_tableOf) := goodIn_app (goodIn_of _ (by decide +kernel)) ggX5_look_X5_tableOf
set_option maxRecDepth 20000 in
theorem ggX5_look_X5_isPastAndClear : GoodIn wsX5_look wsX5_isPastAndClear := goodIn_r _ [65, 1, 15, 16, 17, 5, 18, 2, 3, 4, 6, 19, 20, 21, 22, 23, 24, 25, 26, 27, 28, 29, 30, 31, 32, 45, 46, 47, 48, 49, 50, 51, 52, 70, 71, 72, 73, 74, 75, 76, 77, 78, 79, 80, 81, 82, 83, 84, 85, 86, 87, 88, 89, 90] (by decide +kernel) (by decide +kernel)
set_option maxRecDepth 20000 in
theorem gX5_look_X5_isPastAndClear : GoodIn wsX5_look (wsV RX5 142 RX5 yX5_isPastAndClear wsX5_isPastAndClear) := goodIn_app (goodIn_of _ (by decide +kernel)) ggX5_look_X5_isPastAndClear
set_option maxRecDepth 20000 in
theorem ggX5_look_X5_tells : GoodIn wsX5_look wsX5_tells := goodIn_r _ [69, 1, 70, 71, 72, 73, 74, 75, 76, 77, 78, 79, 80, 81, 82, 83, 84, 85, 86, 87, 88, 89, 90] (by decide +kernel) (by decide +kernel)
set_option maxRecDepth 20000 in
theorem gX5_look_X5_tells : GoodIn wsX5_look (wsV RX5 132 RX5 yX5_tells wsX5_tells) := goodIn_app (goodIn_of _ (by decide +kernel)) ggX5_look_X5_tells
theorem dX5_look_0 : decode cX5_look 0 = .ok (.iconst 0, 1) := by decide +kernel
theorem dX5_look_1 : decode cX5_look 1 = .ok (.istore_n 1, 1) := by decide +kernel
theorem dX5_look_2 : decode cX5_look 2 = .ok (.iconst 1, 1) := by decide +kernel
theorem dX5_look_3 : decode cX5_look 3 = .ok (.istore_n 2, 1) := by decide +kernel
theorem dX5_look_4 : decode cX5_look 4 = .ok (.iload_n 2, 1) := by decide +kernel
theorem dX5_look_5 : decode cX5_look 5 = .ok (.aload_n 0, 1) := by decide +kernel
theorem dX5_look_6 : decode cX5_look 6 = .ok (.getfield 7, 3) := by decide +kernel
theorem dX5_look_9 : decode cX5_look 9 = .ok (.iconst 0, 1) := by decide +kernel
theorem dX5_look_10 : decode cX5_look 10 = .ok (.iaload, 1) := by decide +kernel
theorem dX5_look_11 : decode cX5_look 11 = .ok (.if_icmp .ge 68, 3) := by decide +kernel
theorem dX5_look_14 : decode cX5_look 14 = .ok (.aload_n 0, 1) := by decide +kernel
theorem dX5_look_15 : decode cX5_look 15 = .ok (.iload_n 2, 1) := by decide +kernel
theorem dX5_look_16 : decode cX5_look 16 = .ok (.iconst 4, 1) := by decide +kernel
theorem dX5_look_17 : decode cX5_look 17 = .ok (.invokevirtual 53, 3) := by decide +kernel
theorem dX5_look_20 : decode cX5_look 20 = .ok (.istore_n 3, 1) := by decide +kernel
theorem dX5_look_21 : decode cX5_look 21 = .ok (.iload_n 3, 1) := by decide +kernel
theorem dX5_look_22 : decode cX5_look 22 = .ok (.ifCond .ne 12, 3) := by decide +kernel
theorem dX5_look_25 : decode cX5_look 25 = .ok (.aload_n 0, 1) := by decide +kernel
theorem dX5_look_26 : decode cX5_look 26 = .ok (.iconst 0, 1) := by decide +kernel
theorem dX5_look_27 : decode cX5_look 27 = .ok (.iload_n 2, 1) := by decide +kernel
theorem dX5_look_28 : decode cX5_look 28 = .ok (.invokevirtual 139, 3) := by decide +kernel
theorem dX5_look_31 : decode cX5_look 31 = .ok (.goto 16, 3) := by decide +kernel
theorem dX5_look_34 : decode cX5_look 34 = .ok (.aload_n 0, 1) := by decide +kernel
theorem dX5_look_35 : decode cX5_look 35 = .ok (.iload_n 2, 1) := by decide +kernel
theorem dX5_look_36 : decode cX5_look 36 = .ok (.invokevirtual 142, 3) := by decide +kernel
theorem dX5_look_39 : decode cX5_look 39 = .ok (.ifCond .eq 7, 3) := by decide +kernel
theorem dX5_look_42 : decode cX5_look 42 = .ok (.iconst 0, 1) := by decide +kernel
theorem dX5_look_43 : decode cX5_look 43 = .ok (.goto 4, 3) := by decide +kernel
theorem dX5_look_46 : decode cX5_look 46 = .ok (.iload_n 3, 1) := by decide +kernel
theorem dX5_look_47 : decode cX5_look 47 = .ok (.istore 4, 2) := by decide +kernel
theorem dX5_look_49 : decode cX5_look 49 = .ok (.aload_n 0, 1) := by decide +kernel
theorem dX5_look_50 : decode cX5_look 50 = .ok (.iload_n 2, 1) := by decide +kernel
theorem dX5_look_51 : decode cX5_look 51 = .ok (.iconst 4, 1) := by decide +kernel
theorem dX5_look_52 : decode cX5_look 52 = .ok (.iload 4, 2) := by decide +kernel
theorem dX5_look_54 : decode cX5_look 54 = .ok (.invokevirtual 132, 3) := by decide +kernel
theorem dX5_look_57 : decode cX5_look 57 = .ok (.iload_n 1, 1) := by decide +kernel
theorem dX5_look_58 : decode cX5_look 58 = .ok (.iload 4, 2) := by decide +kernel
theorem dX5_look_60 : decode cX5_look 60 = .ok (.iconst 1, 1) := by decide +kernel
theorem dX5_look_61 : decode cX5_look 61 = .ok (.if_icmp .ne 9, 3) := by decide +kernel
theorem dX5_look_64 : decode cX5_look 64 = .ok (.iconst 1, 1) := by decide +kernel
theorem dX5_look_65 : decode cX5_look 65 = .ok (.iload_n 2, 1) := by decide +kernel
theorem dX5_look_66 : decode cX5_look 66 = .ok (.ishl, 1) := by decide +kernel
theorem dX5_look_67 : decode cX5_look 67 = .ok (.goto 4, 3) := by decide +kernel
theorem dX5_look_70 : decode cX5_look 70 = .ok (.iconst 0, 1) := by decide +kernel
theorem dX5_look_71 : decode cX5_look 71 = .ok (.ior, 1) := by decide +kernel
theorem dX5_look_72 : decode cX5_look 72 = .ok (.istore_n 1, 1) := by decide +kernel
theorem dX5_look_73 : decode cX5_look 73 = .ok (.iinc 2 1, 3) := by decide +kernel
theorem dX5_look_76 : decode cX5_look 76 = .ok (.goto (-72), 3) := by decide +kernel
theorem dX5_look_79 : decode cX5_look 79 = .ok (.iload_n 1, 1) := by decide +kernel
theorem dX5_look_80 : decode cX5_look 80 = .ok (.ireturn, 1) := by decide +kernel
set_option maxRecDepth 20000 in
theorem ggX5_eastSpeed_X5_shipOf : GoodIn wsX5_eastSpeed wsX5_shipOf := goodIn_r _ [5, 6, 13, 14, 15, 16, 17, 18, 19, 20, 21, 22, 23, 24, 25, 26, 27, 28, 29, 30, 31, 32, 33] (by decide +kernel) (by decide +kernel)
set_option maxRecDepth 20000 in
theorem gX5_eastSpeed_X5_shipOf : GoodIn wsX5_eastSpeed (wsV RX5 53 RX5 yX5_shipOf wsX5_shipOf) := goodIn_app (goodIn_of _ (by decide +kernel)) ggX5_eastSpeed_X5_shipOf
set_option maxRecDepth 20000 in
theorem ggX5_eastSpeed_X5_eastOf : GoodIn wsX5_eastSpeed wsX5_eastOf := goodIn_r _ [9, 10, 11, 4, 12] (by decide +kernel) (by decide +kernel)
set_option maxRecDepth 20000 in
theorem gX5_eastSpeed_X5_eastOf : GoodIn wsX5_eastSpeed (va_wsS RX5 64 yX5_eastOf wsX5_eastOf) := goodIn_app (goodIn_of _ (by decide +kernel)) ggX5_eastSpeed_X5_eastOf
theorem dX5_eastSpeed_0 : decode cX5_eastSpeed 0 = .ok (.aload_n 0, 1) := by decide +kernel
theorem dX5_eastSpeed_1 : decode cX5_eastSpeed 1 = .ok (.iload_n 1, 1) := by decide +kernel
theorem dX5_eastSpeed_2 : decode cX5_eastSpeed 2 = .ok (.iconst 3, 1) := by decide +kernel
theorem dX5_eastSpeed_3 : decode cX5_eastSpeed 3 = .ok (.invokevirtual 53, 3) := by decide +kernel
theorem dX5_eastSpeed_6 : decode cX5_eastSpeed 6 = .ok (.aload_n 0, 1) := by decide +kernel
theorem dX5_eastSpeed_7 : decode cX5_eastSpeed 7 = .ok (.iload_n 1, 1) := by decide +kernel
theorem dX5_eastSpeed_8 : decode cX5_eastSpeed 8 = .ok (.iconst 2, 1) := by decide +kernel
theorem dX5_eastSpeed_9 : decode cX5_eastSpeed 9 = .ok (.invokevirtual 53, 3) := by decide +kernel
theorem dX5_eastSpeed_12 : decode cX5_eastSpeed 12 = .ok (.invokestatic 64, 3) := by decide +kernel
theorem dX5_eastSpeed_15 : decode cX5_eastSpeed 15 = .ok (.imul, 1) := by decide +kernel
theorem dX5_eastSpeed_16 : decode cX5_eastSpeed 16 = .ok (.ireturn, 1) := by decide +kernel
set_option maxRecDepth 20000 in
theorem ggX5_northSpeed_X5_shipOf : GoodIn wsX5_northSpeed wsX5_shipOf := goodIn_r _ [5, 6, 10, 11, 12, 13, 14, 15, 16, 17, 18, 19, 20, 21, 22, 23, 24, 25, 26, 27, 28, 29, 30] (by decide +kernel) (by decide +kernel)
set_option maxRecDepth 20000 in
theorem gX5_northSpeed_X5_shipOf : GoodIn wsX5_northSpeed (wsV RX5 53 RX5 yX5_shipOf wsX5_shipOf) := goodIn_app (goodIn_of _ (by decide +kernel)) ggX5_northSpeed_X5_shipOf
set_option maxRecDepth 20000 in
theorem ggX5_northSpeed_X5_northOf : GoodIn wsX5_northSpeed wsX5_northOf := goodIn_r _ [9] (by decide +kernel) (by decide +kernel)
set_option maxRecDepth 20000 in
theorem gX5_northSpeed_X5_northOf : GoodIn wsX5_northSpeed (va_wsS RX5 50 yX5_northOf wsX5_northOf) := goodIn_app (goodIn_of _ (by decide +kernel)) ggX5_northSpeed_X5_northOf
theorem dX5_northSpeed_0 : decode cX5_northSpeed 0 = .ok (.aload_n 0, 1) := by decide +kernel
theorem dX5_northSpeed_1 : decode cX5_northSpeed 1 = .ok (.iload_n 1, 1) := by decide +kernel
theorem dX5_northSpeed_2 : decode cX5_northSpeed 2 = .ok (.iconst 3, 1) := by decide +kernel
theorem dX5_northSpeed_3 : decode cX5_northSpeed 3 = .ok (.invokevirtual 53, 3) := by decide +kernel
theorem dX5_northSpeed_6 : decode cX5_northSpeed 6 = .ok (.aload_n 0, 1) := by decide +kernel
theorem dX5_northSpeed_7 : decode cX5_northSpeed 7 = .ok (.iload_n 1, 1) := by decide +kernel
theorem dX5_northSpeed_8 : decode cX5_northSpeed 8 = .ok (.iconst 2, 1) := by decide +kernel
