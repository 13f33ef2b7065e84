theorem dX5_worst_72 : decode cX5_worst 72 = .ok (.iload_n 1, 1) := by decide +kernel
theorem dX5_worst_73 : decode cX5_worst 73 = .ok (.sipush (-10001), 3) := by decide +kernel
theorem dX5_worst_76 : decode cX5_worst 76 = .ok (.if_icmp .eq 24, 3) := by decide +kernel
theorem dX5_worst_79 : decode cX5_worst 79 = .ok (.lload 11, 2) := by decide +kernel
theorem dX5_worst_81 : decode cX5_worst 81 = .ok (.lconst 0, 1) := by decide +kernel
theorem dX5_worst_82 : decode cX5_worst 82 = .ok (.lcmp, 1) := by decide +kernel
theorem dX5_worst_83 : decode cX5_worst 83 = .ok (.ifCond .lt 17, 3) := by decide +kernel
theorem dX5_worst_86 : decode cX5_worst 86 = .ok (.lload 11, 2) := by decide +kernel
theorem dX5_worst_88 : decode cX5_worst 88 = .ok (.lconst 0, 1) := by decide +kernel
theorem dX5_worst_89 : decode cX5_worst 89 = .ok (.lcmp, 1) := by decide +kernel
theorem dX5_worst_90 : decode cX5_worst 90 = .ok (.ifCond .ne 36, 3) := by decide +kernel
theorem dX5_worst_93 : decode cX5_worst 93 = .ok (.lload 13, 2) := by decide +kernel
theorem dX5_worst_95 : decode cX5_worst 95 = .ok (.lconst 0, 1) := by decide +kernel
theorem dX5_worst_96 : decode cX5_worst 96 = .ok (.lcmp, 1) := by decide +kernel
theorem dX5_worst_97 : decode cX5_worst 97 = .ok (.ifCond .ge 29, 3) := by decide +kernel
theorem dX5_worst_100 : decode cX5_worst 100 = .ok (.iload 10, 2) := by decide +kernel
theorem dX5_worst_102 : decode cX5_worst 102 = .ok (.istore_n 1, 1) := by decide +kernel
theorem dX5_worst_103 : decode cX5_worst 103 = .ok (.aload_n 0, 1) := by decide +kernel
theorem dX5_worst_104 : decode cX5_worst 104 = .ok (.getfield 81, 3) := by decide +kernel
theorem dX5_worst_107 : decode cX5_worst 107 = .ok (.lstore_n 2, 1) := by decide +kernel
theorem dX5_worst_108 : decode cX5_worst 108 = .ok (.aload_n 0, 1) := by decide +kernel
theorem dX5_worst_109 : decode cX5_worst 109 = .ok (.getfield 84, 3) := by decide +kernel
theorem dX5_worst_112 : decode cX5_worst 112 = .ok (.lstore 4, 2) := by decide +kernel
theorem dX5_worst_114 : decode cX5_worst 114 = .ok (.aload_n 0, 1) := by decide +kernel
theorem dX5_worst_115 : decode cX5_worst 115 = .ok (.getfield 90, 3) := by decide +kernel
theorem dX5_worst_118 : decode cX5_worst 118 = .ok (.lstore 6, 2) := by decide +kernel
theorem dX5_worst_120 : decode cX5_worst 120 = .ok (.aload_n 0, 1) := by decide +kernel
theorem dX5_worst_121 : decode cX5_worst 121 = .ok (.getfield 93, 3) := by decide +kernel
theorem dX5_worst_124 : decode cX5_worst 124 = .ok (.lstore 8, 2) := by decide +kernel
theorem dX5_worst_126 : decode cX5_worst 126 = .ok (.iinc 10 1, 3) := by decide +kernel
theorem dX5_worst_129 : decode cX5_worst 129 = .ok (.goto (-111), 3) := by decide +kernel
theorem dX5_worst_132 : decode cX5_worst 132 = .ok (.iload_n 1, 1) := by decide +kernel
theorem dX5_worst_133 : decode cX5_worst 133 = .ok (.ireturn, 1) := by decide +kernel
set_option maxRecDepth 20000 in
theorem ggX5_clear_X5_isShip : GoodIn wsX5_clear wsX5_isShip := goodIn_r _ [5, 6, 7, 8, 4, 9, 63, 64, 65, 66, 67, 68, 69, 70, 71, 72, 73, 74, 75, 76, 77, 78, 79, 80, 81, 82, 83] (by decide +kernel) (by decide +kernel)
set_option maxRecDepth 20000 in
theorem gX5_clear_X5_isShip : GoodIn wsX5_clear (wsV RX5 46 RX5 yX5_isShip wsX5_isShip) := goodIn_app (goodIn_of _ (by decide +kernel)) ggX5_clear_X5_isShip
set_option maxRecDepth 20000 in
theorem ggX5_clear_X5_isCourse : GoodIn wsX5_clear wsX5_isCourse := goodIn_r _ [12, 7, 8, 4, 9] (by decide +kernel) (by decide +kernel)
set_option maxRecDepth 20000 in
theorem gX5_clear_X5_isCourse : GoodIn wsX5_clear (va_wsS RX5 125 yX5_isCourse wsX5_isCourse) := goodIn_app (goodIn_of _ (by decide +kernel)) ggX5_clear_X5_isCourse
set_option maxRecDepth 20000 in
theorem ggX5_clear_X5_isClear : GoodIn wsX5_clear wsX5_isClear := goodIn_r _ [16, 6, 17, 18, 19, 4, 20, 21, 22, 23, 24, 25, 26, 27, 28, 29, 30, 31, 32, 33, 34, 35, 36, 37, 38, 39, 40, 41, 42, 43, 44, 45, 46, 47, 48, 49, 50, 51, 52, 53, 54, 55, 56, 57, 63, 64, 65, 66, 67, 68, 69, 70, 71, 72, 73, 74, 75, 76, 77, 78, 79, 80, 81, 82, 83] (by decide +kernel) (by decide +kernel)
set_option maxRecDepth 20000 in
theorem gX5_clear_X5_isClear : GoodIn wsX5_clear (wsV RX5 158 RX5 yX5_isClear wsX5_isClear) := goodIn_app (goodIn_of _ (by decide +kernel)) ggX5_clear_X5_isClear
set_option maxRecDepth 20000 in
theorem ggX5_clear_X5_refuses : GoodIn wsX5_clear wsX5_refuses := goodIn_r _ [61, 62, 63, 64, 65, 66, 67, 68, 69, 70, 71, 72, 73, 74, 75, 76, 77, 78, 79, 80, 81, 82, 83] (by decide +kernel) (by decide +kernel)
set_option maxRecDepth 20000 in
theorem gX5_clear_X5_refuses : GoodIn wsX5_clear (wsV RX5 35 RX5 yX5_refuses wsX5_refuses) := goodIn_app (goodIn_of _ (by decide +kernel)) ggX5_clear_X5_refuses
theorem dX5_clear_0 : decode cX5_clear 0 = .ok (.aload_n 0, 1) := by decide +kernel
theorem dX5_clear_1 : decode cX5_clear 1 = .ok (.iload_n 1, 1) := by decide +kernel
theorem dX5_clear_2 : decode cX5_clear 2 = .ok (.invokevirtual 46, 3) := by decide +kernel
theorem dX5_clear_5 : decode cX5_clear 5 = .ok (.ifCond .eq 29, 3) := by decide +kernel
theorem dX5_clear_8 : decode cX5_clear 8 = .ok (.iload_n 2, 1) := by decide +kernel
theorem dX5_clear_9 : decode cX5_clear 9 = .ok (.iload_n 3, 1) := by decide +kernel
theorem dX5_clear_10 : decode cX5_clear 10 = .ok (.invokestatic 125, 3) := by decide +kernel
theorem dX5_clear_13 : decode cX5_clear 13 = .ok (.ifCond .eq 21, 3) := by decide +kernel
theorem dX5_clear_16 : decode cX5_clear 16 = .ok (.aload_n 0, 1) := by decide +kernel
theorem dX5_clear_17 : decode cX5_clear 17 = .ok (.iload_n 1, 1) := by decide +kernel
theorem dX5_clear_18 : decode cX5_clear 18 = .ok (.iload_n 2, 1) := by decide +kernel
theorem dX5_clear_19 : decode cX5_clear 19 = .ok (.iload_n 3, 1) := by decide +kernel
theorem dX5_clear_20 : decode cX5_clear 20 = .ok (.invokevirtual 158, 3) := by decide +kernel
theorem dX5_clear_23 : decode cX5_clear 23 = .ok (.ifCond .eq 7, 3) := by decide +kernel
theorem dX5_clear_26 : decode cX5_clear 26 = .ok (.iconst 1, 1) := by decide +kernel
theorem dX5_clear_27 : decode cX5_clear 27 = .ok (.goto 14, 3) := by decide +kernel
theorem dX5_clear_30 : decode cX5_clear 30 = .ok (.iconst 0, 1) := by decide +kernel
theorem dX5_clear_31 : decode cX5_clear 31 = .ok (.goto 10, 3) := by decide +kernel
theorem dX5_clear_34 : decode cX5_clear 34 = .ok (.aload_n 0, 1) := by decide +kernel
theorem dX5_clear_35 : decode cX5_clear 35 = .ok (.sipush (-10002), 3) := by decide +kernel
theorem dX5_clear_38 : decode cX5_clear 38 = .ok (.invokevirtual 35, 3) := by decide +kernel
theorem dX5_clear_41 : decode cX5_clear 41 = .ok (.ireturn, 1) := by decide +kernel
set_option maxRecDepth 20000 in
theorem ggX5_blockedBy_X5_shipOf : GoodIn wsX5_blockedBy wsX5_shipOf := goodIn_r _ [5, 6, 44, 45, 46, 47, 48, 49, 50, 51, 52, 53, 54, 55, 56, 57, 58, 59, 60, 61, 62, 63, 64] (by decide +kernel) (by decide +kernel)
set_option maxRecDepth 20000 in
theorem gX5_blockedBy_X5_shipOf : GoodIn wsX5_blockedBy (wsV RX5 53 RX5 yX5_shipOf wsX5_shipOf) := goodIn_app (goodIn_of _ (by decide +kernel)) ggX5_blockedBy_X5_shipOf
set_option maxRecDepth 20000 in
theorem ggX5_blockedBy_X5_lays : GoodIn wsX5_blockedBy wsX5_lays := goodIn_r _ [10, 11, 12, 13, 14, 1, 2, 3, 4, 5, 6, 15, 16, 17, 18, 19, 20, 44, 45, 46, 47, 48, 49, 50, 51, 52, 53, 54, 55, 56, 57, 58, 59, 60, 61, 62, 63, 64] (by decide +kernel) (by decide +kernel)
set_option maxRecDepth 20000 in
theorem gX5_blockedBy_X5_lays : GoodIn wsX5_blockedBy (wsV RX5 73 RX5 yX5_lays wsX5_lays) := goodIn_app (goodIn_of _ (by decide +kernel)) ggX5_blockedBy_X5_lays
set_option maxRecDepth 20000 in
theorem ggX5_blockedBy_X5_isRisk : GoodIn wsX5_blockedBy wsX5_isRisk := goodIn_r _ [24, 6, 25, 26, 27, 28, 29, 30, 31, 4, 32, 13, 14, 11, 12, 33, 34, 35, 36, 37, 38, 39, 40, 41, 42, 43, 44, 45, 46, 47, 48, 49, 50, 51, 52, 53, 54, 55, 56, 57, 58, 59, 60, 61, 62, 63, 64] (by decide +kernel) (by decide +kernel)
set_option maxRecDepth 20000 in
theorem gX5_blockedBy_X5_isRisk : GoodIn wsX5_blockedBy (wsV RX5 107 RX5 yX5_isRisk wsX5_isRisk) := goodIn_app (goodIn_of _ (by decide +kernel)) ggX5_blockedBy_X5_isRisk
theorem dX5_blockedBy_0 : decode cX5_blockedBy 0 = .ok (.iconst 0, 1) := by decide +kernel
theorem dX5_blockedBy_1 : decode cX5_blockedBy 1 = .ok (.istore_n 2, 1) := by decide +kernel
theorem dX5_blockedBy_2 : decode cX5_blockedBy 2 = .ok (.iconst 0, 1) := by decide +kernel
theorem dX5_blockedBy_3 : decode cX5_blockedBy 3 = .ok (.istore_n 3, 1) := by decide +kernel
theorem dX5_blockedBy_4 : decode cX5_blockedBy 4 = .ok (.iload_n 3, 1) := by decide +kernel
theorem dX5_blockedBy_5 : decode cX5_blockedBy 5 = .ok (.bipush 16, 2) := by decide +kernel
theorem dX5_blockedBy_7 : decode cX5_blockedBy 7 = .ok (.if_icmp .ge 39, 3) := by decide +kernel
theorem dX5_blockedBy_10 : decode cX5_blockedBy 10 = .ok (.aload_n 0, 1) := by decide +kernel
theorem dX5_blockedBy_11 : decode cX5_blockedBy 11 = .ok (.iconst 0, 1) := by decide +kernel
theorem dX5_blockedBy_12 : decode cX5_blockedBy 12 = .ok (.iload_n 1, 1) := by decide +kernel
theorem dX5_blockedBy_13 : decode cX5_blockedBy 13 = .ok (.iload_n 3, 1) := by decide +kernel
theorem dX5_blockedBy_14 : decode cX5_blockedBy 14 = .ok (.aload_n 0, 1) := by decide +kernel
theorem dX5_blockedBy_15 : decode cX5_blockedBy 15 = .ok (.iconst 0, 1) := by decide +kernel
theorem dX5_blockedBy_16 : decode cX5_blockedBy 16 = .ok (.iconst 3, 1) := by decide +kernel
theorem dX5_blockedBy_17 : decode cX5_blockedBy 17 = .ok (.invokevirtual 53, 3) := by decide +kernel
theorem dX5_blockedBy_20 : decode cX5_blockedBy 20 = .ok (.invokevirtual 73, 3) := by decide +kernel
theorem dX5_blockedBy_23 : decode cX5_blockedBy 23 = .ok (.iload_n 2, 1) := by decide +kernel
theorem dX5_blockedBy_24 : decode cX5_blockedBy 24 = .ok (.aload_n 0, 1) := by decide +kernel
theorem dX5_blockedBy_25 : decode cX5_blockedBy 25 = .ok (.invokevirtual 107, 3) := by decide +kernel
theorem dX5_blockedBy_28 : decode cX5_blockedBy 28 = .ok (.ifCond .eq 9, 3) := by decide +kernel
theorem dX5_blockedBy_31 : decode cX5_blockedBy 31 = .ok (.iconst 1, 1) := by decide +kernel
theorem dX5_blockedBy_32 : decode cX5_blockedBy 32 = .ok (.iload_n 3, 1) := by decide +kernel
theorem dX5_blockedBy_33 : decode cX5_blockedBy 33 = .ok (.ishl, 1) := by decide +kernel
theorem dX5_blockedBy_34 : decode cX5_blockedBy 34 = .ok (.goto 4, 3) := by decide +kernel
theorem dX5_blockedBy_37 : decode cX5_blockedBy 37 = .ok (.iconst 0, 1) := by decide +kernel
theorem dX5_blockedBy_38 : decode cX5_blockedBy 38 = .ok (.ior, 1) := by decide +kernel
theorem dX5_blockedBy_39 : decode cX5_blockedBy 39 = .ok (.istore_n 2, 1) := by decide +kernel
theorem dX5_blockedBy_40 : decode cX5_blockedBy 40 = .ok (.iinc 3 1, 3) := by decide +kernel
theorem dX5_blockedBy_43 : decode cX5_blockedBy 43 = .ok (.goto (-39), 3) := by decide +kernel
theorem dX5_blockedBy_46 : decode cX5_blockedBy 46 = .ok (.iload_n 2, 1) := by decide +kernel
theorem dX5_blockedBy_47 : decode cX5_blockedBy 47 = .ok (.ireturn, 1) := by decide +kernel
set_option maxRecDepth 20000 in
theorem ggX5_blocked_X5_isOther : GoodIn wsX5_blocked wsX5_isOther := goodIn_r _ [5, 6, 7, 8, 4, 9, 10, 11, 12, 13, 64, 65, 66, 67, 68, 69, 70, 71, 72, 73, 74, 75, 76, 77, 78, 79, 80, 81, 82, 83, 84] (by decide +kernel) (by decide +kernel)
set_option maxRecDepth 20000 in
theorem gX5_blocked_X5_isOther : GoodIn wsX5_blocked (wsV RX5 136 RX5 yX5_isOther wsX5_isOther) := goodIn_app (goodIn_of _ (by decide +kernel)) ggX5_blocked_X5_isOther
set_option maxRecDepth 20000 in
theorem ggX5_blocked_X5_blockedBy : GoodIn wsX5_blocked wsX5_blockedBy := goodIn_r _ [17, 18, 19, 20, 4, 21, 10, 22, 23, 24, 25, 26, 27, 28, 29, 30, 31, 32, 33, 34, 35, 36, 37, 38, 39, 40, 41, 42, 43, 44, 45, 46, 47, 48, 49, 50, 51, 52, 53, 54, 55, 56, 57, 58, 64, 65, 66, 67, 68, 69, 70, 71, 72, 73, 74, 75, 76, 77, 78, 79, 80, 81, 82, 83, 84] (by decide +kernel) (by decide +kernel)
set_option maxRecDepth 20000 in
theorem gX5_blocked_X5_blockedBy : GoodIn wsX5_blocked (wsV RX5 203 RX5 yX5_blockedBy wsX5_blockedBy) := goodIn_app (goodIn_of _ (by decide +kernel)) ggX5_blocked_X5_blockedBy
set_option maxRecDepth 20000 in
theorem ggX5_blocked_X5_refuses : GoodIn wsX5_blocked wsX5_refuses := goodIn_r _ [62, 63, 64, 65, 66, 67, 68, 69, 70, 71, 72, 73, 74, 75, 76, 77, 78, 79, 80, 81, 82, 83, 84] (by decide +kernel) (by decide +kernel)
set_option maxRecDepth 20000 in
theorem gX5_blocked_X5_refuses : GoodIn wsX5_blocked (wsV RX5 35 RX5 yX5_refuses wsX5_refuses) := goodIn_app (goodIn_of _ (by decide +kernel)) ggX5_blocked_X5_refuses
theorem dX5_blocked_0 : decode cX5_blocked 0 = .ok (.aload_n 0, 1) := by decide +kernel
theorem dX5_blocked_1 : decode cX5_blocked 1 = .ok (.iload_n 1, 1) := by decide +kernel
theorem dX5_blocked_2 : decode cX5_blocked 2 = .ok (.invokevirtual 136, 3) := by decide +kernel
theorem dX5_blocked_5 : decode cX5_blocked 5 = .ok (.ifCond .eq 11, 3) := by decide +kernel
theorem dX5_blocked_8 : decode cX5_blocked 8 = .ok (.aload_n 0, 1) := by decide +kernel
theorem dX5_blocked_9 : decode cX5_blocked 9 = .ok (.iload_n 1, 1) := by decide +kernel
theorem dX5_blocked_10 : decode cX5_blocked 10 = .ok (.invokevirtual 203, 3) := by decide +kernel
theorem dX5_blocked_13 : decode cX5_blocked 13 = .ok (.goto 10, 3) := by decide +kernel
theorem dX5_blocked_16 : decode cX5_blocked 16 = .ok (.aload_n 0, 1) := by decide +kernel
theorem dX5_blocked_17 : decode cX5_blocked 17 = .ok (.sipush (-10002), 3) := by decide +kernel
theorem dX5_blocked_20 : decode cX5_blocked 20 = .ok (.invokevirtual 35, 3) := by decide +kernel
theorem dX5_blocked_23 : decode cX5_blocked 23 = .ok (.ireturn, 1) := by decide +kernel
set_option maxRecDepth 20000 in
theorem ggX5_advice_X5_isShip : GoodIn wsX5_advice wsX5_isShip := goodIn_r _ [5, 6, 7, 8, 4, 9, 86, 87, 88, 89, 90, 91, 92, 93, 94, 95, 96, 97, 98, 99, 100, 101, 102, 103, 104, 105, 106] (by decide +kernel) (by decide +kernel)
set_option maxRecDepth 20000 in
theorem gX5_advice_X5_isShip : GoodIn wsX5_advice (wsV RX5 46 RX5 yX5_isShip wsX5_isShip) := goodIn_app (goodIn_of _ (by decide +kernel)) ggX5_advice_X5_isShip
set_option maxRecDepth 20000 in
theorem ggX5_advice_X5_adviceFor : GoodIn wsX5_advice wsX5_adviceFor := goodIn_r _ [13, 14, 15, 16, 4, 17, 6, 18, 19, 20, 21, 22, 23, 24, 25, 26, 27, 28, 29, 30, 31, 32, 33, 34, 35, 36, 37, 38, 39, 40, 41, 42, 43, 44, 45, 46, 47, 48, 49, 50, 51, 52, 53, 54, 55, 56, 57, 58, 59, 60, 61, 62, 63, 64, 65, 66, 67, 68, 69, 70, 71, 72, 73, 74, 75, 76, 77, 78, 79, 80, 86, 87, 88, 89, 90, 91, 92, 93, 94, 95, 96, 97, 98, 99, 100, 101, 102, 103, 104, 105, 106] (by decide +kernel) (by decide +kernel)
set_option maxRecDepth 20000 in
theorem gX5_advice_X5_adviceFor : GoodIn wsX5_advice (wsV RX5 161 RX5 yX5_adviceFor wsX5_adviceFor) := goodIn_app (goodIn_of _ (by decide +kernel)) ggX5_advice_X5_adviceFor
set_option maxRecDepth 20000 in
theorem ggX5_advice_X5_refuses : GoodIn wsX5_advice wsX5_refuses := goodIn_r _ [84, 85, 86, 87, 88, 89, 90, 91, 92, 93, 94, 95, 96, 97, 98, 99, 100, 101, 102, 103, 104, 105, 106] (by decide +kernel) (by decide +kernel)
set_option maxRecDepth 20000 in
theorem gX5_advice_X5_refuses : GoodIn wsX5_advice (wsV RX5 35 RX5 yX5_refuses wsX5_refuses) := goodIn_app (goodIn_of _ (by decide +kernel)) ggX5_advice_X5_refuses
theorem dX5_advice_0 : decode cX5_advice 0 = .ok (.aload_n 0, 1) := by decide +kernel
theorem dX5_advice_1 : decode cX5_advice 1 = .ok (.iload_n 1, 1) := by decide +kernel
theorem dX5_advice_2 : decode cX5_advice 2 = .ok (.invokevirtual 46, 3) := by decide +kernel
theorem dX5_advice_5 : decode cX5_advice 5 = .ok (.ifCond .eq 11, 3) := by decide +kernel
theorem dX5_advice_8 : decode cX5_advice 8 = .ok (.aload_n 0, 1) := by decide +kernel
theorem dX5_advice_9 : decode cX5_advice 9 = .ok (.iload_n 1, 1) := by decide +kernel
theorem dX5_advice_10 : decode cX5_advice 10 = .ok (.invokevirtual 161, 3) := by decide +kernel
theorem dX5_advice_13 : decode cX5_advice 13 = .ok (.goto 10, 3) := by decide +kernel
theorem dX5_advice_16 : decode cX5_advice 16 = .ok (.aload_n 0, 1) := by decide +kernel
theorem dX5_advice_17 : decode cX5_advice 17 = .ok (.sipush (-10002), 3) := by decide +kernel
theorem dX5_advice_20 : decode cX5_advice 20 = .ok (.invokevirtual 35, 3) := by decide +kernel
theorem dX5_advice_23 : decode cX5_advice 23 = .ok (.ireturn, 1) := by decide +kernel
theorem dX5_countOf_0 : decode cX5_countOf 0 = .ok (.iload_n 1, 1) := by decide +kernel
theorem dX5_countOf_1 : decode cX5_countOf 1 = .ok (.ifCond .ne 14, 3) := by decide +kernel
theorem dX5_countOf_4 : decode cX5_countOf 4 = .ok (.aload_n 0, 1) := by decide +kernel
theorem dX5_countOf_5 : decode cX5_countOf 5 = .ok (.getfield 7, 3) := by decide +kernel
theorem dX5_countOf_8 : decode cX5_countOf 8 = .ok (.iconst 0, 1) := by decide +kernel
theorem dX5_countOf_9 : decode cX5_countOf 9 = .ok (.iaload, 1) := by decide +kernel
theorem dX5_countOf_10 : decode cX5_countOf 10 = .ok (.iconst 1, 1) := by decide +kernel
theorem dX5_countOf_11 : decode cX5_countOf 11 = .ok (.isub, 1) := by decide +kernel
theorem dX5_countOf_12 : decode cX5_countOf 12 = .ok (.goto 9, 3) := by decide +kernel
theorem dX5_countOf_15 : decode cX5_countOf 15 = .ok (.aload_n 0, 1) := by decide +kernel
theorem dX5_countOf_16 : decode cX5_countOf 16 = .ok (.getfield 7, 3) := by decide +kernel
theorem dX5_countOf_19 : decode cX5_countOf 19 = .ok (.iload_n 1, 1) := by decide +kernel
theorem dX5_countOf_20 : decode cX5_countOf 20 = .ok (.iaload, 1) := by decide +kernel
theorem dX5_countOf_21 : decode cX5_countOf 21 = .ok (.ireturn, 1) := by decide +kernel
set_option maxRecDepth 20000 in
theorem ggX5_count_X5_in : GoodIn wsX5_count wsX5_in := goodIn_r _ [4] (by decide +kernel) (by decide +kernel)
set_option maxRecDepth 20000 in
theorem gX5_count_X5_in : GoodIn wsX5_count (va_wsS RX5 42 yX5_in wsX5_in) := goodIn_app (goodIn_of _ (by decide +kernel)) ggX5_count_X5_in
set_option maxRecDepth 20000 in
theorem ggX5_count_X5_countOf : GoodIn wsX5_count wsX5_countOf := goodIn_r _ [8, 9, 15, 16, 17, 18, 19, 20, 21, 22, 23, 24, 25, 26, 27, 28, 29, 30, 31, 32, 33, 34, 35] (by decide +kernel) (by decide +kernel)
set_option maxRecDepth 20000 in
theorem gX5_count_X5_countOf : GoodIn wsX5_count (wsV RX5 206 RX5 yX5_countOf wsX5_countOf) := goodIn_app (goodIn_of _ (by decide +kernel)) ggX5_count_X5_countOf
set_option maxRecDepth 20000 in
theorem ggX5_count_X5_refuses : GoodIn wsX5_count wsX5_refuses := goodIn_r _ [13, 14, 15, 16, 17, 18, 19, 20, 21, 22, 23, 24, 25, 26, 27, 28, 29, 30, 31, 32, 33, 34, 35] (by decide +kernel) (by decide +kernel)
set_option maxRecDepth 20000 in
theorem gX5_count_X5_refuses : GoodIn wsX5_count (wsV RX5 35 RX5 yX5_refuses wsX5_refuses) := goodIn_app (goodIn_of _ (by decide +kernel)) ggX5_count_X5_refuses
theorem dX5_count_0 : decode cX5_count 0 = .ok (.iload_n 1, 1) := by decide +kernel
theorem dX5_count_1 : decode cX5_count 1 = .ok (.iconst 0, 1) := by decide +kernel
theorem dX5_count_2 : decode cX5_count 2 = .ok (.iconst 3, 1) := by decide +kernel
theorem dX5_count_3 : decode cX5_count 3 = .ok (.invokestatic 42, 3) := by decide +kernel
theorem dX5_count_6 : decode cX5_count 6 = .ok (.ifCond .eq 11, 3) := by decide +kernel
theorem dX5_count_9 : decode cX5_count 9 = .ok (.aload_n 0, 1) := by decide +kernel
theorem dX5_count_10 : decode cX5_count 10 = .ok (.iload_n 1, 1) := by decide +kernel
theorem dX5_count_11 : decode cX5_count 11 = .ok (.invokevirtual 206, 3) := by decide +kernel
theorem dX5_count_14 : decode cX5_count 14 = .ok (.goto 10, 3) := by decide +kernel
theorem dX5_count_17 : decode cX5_count 17 = .ok (.aload_n 0, 1) := by decide +kernel
theorem dX5_count_18 : decode cX5_count 18 = .ok (.sipush (-10002), 3) := by decide +kernel
theorem dX5_count_21 : decode cX5_count 21 = .ok (.invokevirtual 35, 3) := by decide +kernel
theorem dX5_count_24 : decode cX5_count 24 = .ok (.ireturn, 1) := by decide +kernel
set_option maxRecDepth 20000 in
theorem ggX5_type_X5_in : GoodIn wsX5_type wsX5_in := goodIn_r _ [6] (by decide +kernel) (by decide +kernel)
set_option maxRecDepth 20000 in
theorem gX5_type_X5_in : GoodIn wsX5_type (va_wsS RX5 42 yX5_in wsX5_in) := goodIn_app (goodIn_of _ (by decide +kernel)) ggX5_type_X5_in
set_option maxRecDepth 20000 in
theorem ggX5_type_X5_refuses : GoodIn wsX5_type wsX5_refuses := goodIn_r _ [10, 11, 12, 13, 14, 15, 16, 17, 18, 19, 20, 21, 22, 23, 24, 25, 26, 27, 28, 29, 30, 31, 32] (by decide +kernel) (by decide +kernel)
set_option maxRecDepth 20000 in
theorem gX5_type_X5_refuses : GoodIn wsX5_type (wsV RX5 35 RX5 yX5_refuses wsX5_refuses) := goodIn_app (goodIn_of _ (by decide +kernel)) ggX5_type_X5_refuses
theorem dX5_type_0 : decode cX5_type 0 = .ok (.iload_n 1, 1) := by decide +kernel
theorem dX5_type_1 : decode cX5_type 1 = .ok (.iconst 0, 1) := by decide +kernel
theorem dX5_type_2 : decode cX5_type 2 = .ok (.bipush 127, 2) := by decide +kernel
theorem dX5_type_4 : decode cX5_type 4 = .ok (.invokestatic 42, 3) := by decide +kernel
theorem dX5_type_7 : decode cX5_type 7 = .ok (.ifCond .ne 11, 3) := by decide +kernel
theorem dX5_type_10 : decode cX5_type 10 = .ok (.aload_n 0, 1) := by decide +kernel
theorem dX5_type_11 : decode cX5_type 11 = .ok (.sipush (-10002), 3) := by decide +kernel
theorem dX5_type_14 : decode cX5_type 14 = .ok (.invokevirtual 35, 3) := by decide +kernel
theorem dX5_type_17 : decode cX5_type 17 = .ok (.ireturn, 1) := by decide +kernel
theorem dX5_type_18 : decode cX5_type 18 = .ok (.aload_n 0, 1) := by decide +kernel
theorem dX5_type_19 : decode cX5_type 19 = .ok (.getfield 209, 3) := by decide +kernel
theorem dX5_type_22 : decode cX5_type 22 = .ok (.sipush 150, 3) := by decide +kernel
theorem dX5_type_25 : decode cX5_type 25 = .ok (.if_icmp .ne 11, 3) := by decide +kernel
theorem dX5_type_28 : decode cX5_type 28 = .ok (.aload_n 0, 1) := by decide +kernel
theorem dX5_type_29 : decode cX5_type 29 = .ok (.sipush (-10004), 3) := by decide +kernel
theorem dX5_type_32 : decode cX5_type 32 = .ok (.invokevirtual 35, 3) := by decide +kernel
theorem dX5_type_35 : decode cX5_type 35 = .ok (.ireturn, 1) := by decide +kernel
theorem dX5_type_36 : decode cX5_type 36 = .ok (.aload_n 0, 1) := by decide +kernel
theorem dX5_type_37 : decode cX5_type 37 = .ok (.getfield 22, 3) := by decide +kernel
theorem dX5_type_40 : decode cX5_type 40 = .ok (.aload_n 0, 1) := by decide +kernel
theorem dX5_type_41 : decode cX5_type 41 = .ok (.getfield 209, 3) := by decide +kernel
theorem dX5_type_44 : decode cX5_type 44 = .ok (.iload_n 1, 1) := by decide +kernel
theorem dX5_type_45 : decode cX5_type 45 = .ok (.iastore, 1) := by decide +kernel
theorem dX5_type_46 : decode cX5_type 46 = .ok (.aload_n 0, 1) := by decide +kernel
theorem dX5_type_47 : decode cX5_type 47 = .ok (.dup, 1) := by decide +kernel
theorem dX5_type_48 : decode cX5_type 48 = .ok (.getfield 209, 3) := by decide +kernel
theorem dX5_type_51 : decode cX5_type 51 = .ok (.iconst 1, 1) := by decide +kernel
theorem dX5_type_52 : decode cX5_type 52 = .ok (.iadd, 1) := by decide +kernel
theorem dX5_type_53 : decode cX5_type 53 = .ok (.putfield 209, 3) := by decide +kernel
theorem dX5_type_56 : decode cX5_type 56 = .ok (.aload_n 0, 1) := by decide +kernel
theorem dX5_type_57 : decode cX5_type 57 = .ok (.getfield 209, 3) := by decide +kernel
theorem dX5_type_60 : decode cX5_type 60 = .ok (.ireturn, 1) := by decide +kernel
theorem dX5_wipes_0 : decode cX5_wipes 0 = .ok (.aload_n 0, 1) := by decide +kernel
theorem dX5_wipes_1 : decode cX5_wipes 1 = .ok (.getfield 209, 3) := by decide +kernel
theorem dX5_wipes_4 : decode cX5_wipes 4 = .ok (.istore_n 1, 1) := by decide +kernel
theorem dX5_wipes_5 : decode cX5_wipes 5 = .ok (.aload_n 0, 1) := by decide +kernel
theorem dX5_wipes_6 : decode cX5_wipes 6 = .ok (.iconst 0, 1) := by decide +kernel
theorem dX5_wipes_7 : decode cX5_wipes 7 = .ok (.putfield 209, 3) := by decide +kernel
theorem dX5_wipes_10 : decode cX5_wipes 10 = .ok (.iload_n 1, 1) := by decide +kernel
theorem dX5_wipes_11 : decode cX5_wipes 11 = .ok (.ireturn, 1) := by decide +kernel
set_option maxRecDepth 20000 in
theorem ggX5_isAt_X5_in : GoodIn wsX5_isAt wsX5_in := goodIn_r _ [7] (by decide +kernel) (by decide +kernel)
set_option maxRecDepth 20000 in
theorem gX5_isAt_X5_in : GoodIn wsX5_isAt (va_wsS RX5 42 yX5_in wsX5_in) := goodIn_app (goodIn_of _ (by decide +kernel)) ggX5_isAt_X5_in
theorem dX5_isAt_0 : decode cX5_isAt 0 = .ok (.aload_n 0, 1) := by decide +kernel
theorem dX5_isAt_1 : decode cX5_isAt 1 = .ok (.getfield 212, 3) := by decide +kernel
theorem dX5_isAt_4 : decode cX5_isAt 4 = .ok (.aload_n 0, 1) := by decide +kernel
theorem dX5_isAt_5 : decode cX5_isAt 5 = .ok (.getfield 209, 3) := by decide +kernel
theorem dX5_isAt_8 : decode cX5_isAt 8 = .ok (.if_icmp .ge 24, 3) := by decide +kernel
theorem dX5_isAt_11 : decode cX5_isAt 11 = .ok (.aload_n 0, 1) := by decide +kernel
theorem dX5_isAt_12 : decode cX5_isAt 12 = .ok (.getfield 22, 3) := by decide +kernel
theorem dX5_isAt_15 : decode cX5_isAt 15 = .ok (.aload_n 0, 1) := by decide +kernel
theorem dX5_isAt_16 : decode cX5_isAt 16 = .ok (.getfield 212, 3) := by decide +kernel
theorem dX5_isAt_19 : decode cX5_isAt 19 = .ok (.iaload, 1) := by decide +kernel
theorem dX5_isAt_20 : decode cX5_isAt 20 = .ok (.iload_n 1, 1) := by decide +kernel
theorem dX5_isAt_21 : decode cX5_isAt 21 = .ok (.iload_n 2, 1) := by decide +kernel
theorem dX5_isAt_22 : decode cX5_isAt 22 = .ok (.invokestatic 42, 3) := by decide +kernel
theorem dX5_isAt_25 : decode cX5_isAt 25 = .ok (.ifCond .eq 7, 3) := by decide +kernel
theorem dX5_isAt_28 : decode cX5_isAt 28 = .ok (.iconst 1, 1) := by decide +kernel
theorem dX5_isAt_29 : decode cX5_isAt 29 = .ok (.goto 4, 3) := by decide +kernel
theorem dX5_isAt_32 : decode cX5_isAt 32 = .ok (.iconst 0, 1) := by decide +kernel
theorem dX5_isAt_33 : decode cX5_isAt 33 = .ok (.ireturn, 1) := by decide +kernel
set_option maxRecDepth 20000 in
theorem ggX5_blanks_X5_isAt : GoodIn wsX5_blanks wsX5_isAt := goodIn_r _ [6, 1, 7, 8, 9, 10, 5, 11, 12, 13, 14, 15, 16, 17, 18, 19, 20, 21, 22, 23, 24, 25, 26, 27, 28, 29, 30, 31, 32] (by decide +kernel) (by decide +kernel)
set_option maxRecDepth 20000 in
theorem gX5_blanks_X5_isAt : GoodIn wsX5_blanks (wsV RX5 215 RX5 yX5_isAt wsX5_isAt) := goodIn_app (goodIn_of _ (by decide +kernel)) ggX5_blanks_X5_isAt
theorem dX5_blanks_0 : decode cX5_blanks 0 = .ok (.aload_n 0, 1) := by decide +kernel
theorem dX5_blanks_1 : decode cX5_blanks 1 = .ok (.bipush 32, 2) := by decide +kernel
theorem dX5_blanks_3 : decode cX5_blanks 3 = .ok (.bipush 32, 2) := by decide +kernel
theorem dX5_blanks_5 : decode cX5_blanks 5 = .ok (.invokevirtual 215, 3) := by decide +kernel
theorem dX5_blanks_8 : decode cX5_blanks 8 = .ok (.ifCond .eq 16, 3) := by decide +kernel
theorem dX5_blanks_11 : decode cX5_blanks 11 = .ok (.aload_n 0, 1) := by decide +kernel
theorem dX5_blanks_12 : decode cX5_blanks 12 = .ok (.dup, 1) := by decide +kernel
theorem dX5_blanks_13 : decode cX5_blanks 13 = .ok (.getfield 212, 3) := by decide +kernel
theorem dX5_blanks_16 : decode cX5_blanks 16 = .ok (.iconst 1, 1) := by decide +kernel
theorem dX5_blanks_17 : decode cX5_blanks 17 = .ok (.iadd, 1) := by decide +kernel
theorem dX5_blanks_18 : decode cX5_blanks 18 = .ok (.putfield 212, 3) := by decide +kernel
theorem dX5_blanks_21 : decode cX5_blanks 21 = .ok (.goto (-21), 3) := by decide +kernel
theorem dX5_blanks_24 : decode cX5_blanks 24 = .ok (.return_, 1) := by decide +kernel
theorem dX5_fails_0 : decode cX5_fails 0 = .ok (.aload_n 0, 1) := by decide +kernel
theorem dX5_fails_1 : decode cX5_fails 1 = .ok (.aload_n 0, 1) := by decide +kernel
theorem dX5_fails_2 : decode cX5_fails 2 = .ok (.getfield 212, 3) := by decide +kernel
theorem dX5_fails_5 : decode cX5_fails 5 = .ok (.putfield 218, 3) := by decide +kernel
theorem dX5_fails_8 : decode cX5_fails 8 = .ok (.iconst 0, 1) := by decide +kernel
theorem dX5_fails_9 : decode cX5_fails 9 = .ok (.ireturn, 1) := by decide +kernel
theorem dX5_manyOf_0 : decode cX5_manyOf 0 = .ok (.iload_n 0, 1) := by decide +kernel
theorem dX5_manyOf_1 : decode cX5_manyOf 1 = .ok (.tableswitch 103 97 116 #[95, 101, 103, 103, 103, 103, 103, 103, 103, 103, 103, 103, 103, 99, 95, 103, 103, 103, 97, 97], 95) := by decide +kernel
theorem dX5_manyOf_96 : decode cX5_manyOf 96 = .ok (.iconst 4, 1) := by decide +kernel
theorem dX5_manyOf_97 : decode cX5_manyOf 97 = .ok (.ireturn, 1) := by decide +kernel
theorem dX5_manyOf_98 : decode cX5_manyOf 98 = .ok (.iconst 2, 1) := by decide +kernel
theorem dX5_manyOf_99 : decode cX5_manyOf 99 = .ok (.ireturn, 1) := by decide +kernel
theorem dX5_manyOf_100 : decode cX5_manyOf 100 = .ok (.iconst 1, 1) := by decide +kernel
theorem dX5_manyOf_101 : decode cX5_manyOf 101 = .ok (.ireturn, 1) := by decide +kernel
theorem dX5_manyOf_102 : decode cX5_manyOf 102 = .ok (.iconst 0, 1) := by decide +kernel
theorem dX5_manyOf_103 : decode cX5_manyOf 103 = .ok (.ireturn, 1) := by decide +kernel
theorem dX5_manyOf_104 : decode cX5_manyOf 104 = .ok (.sipush (-10001), 3) := by decide +kernel
theorem dX5_manyOf_107 : decode cX5_manyOf 107 = .ok (.ireturn, 1) := by decide +kernel
set_option maxRecDepth 20000 in
theorem ggX5_takesNumber_X5_blanks : GoodIn wsX5_takesNumber wsX5_blanks := goodIn_r _ [8, 1, 9, 10, 11, 7, 12, 13, 2, 14, 15, 16, 22, 23, 24, 25, 26, 27, 28, 29, 30, 31, 32, 33, 34, 35, 36, 37, 38, 39, 40, 41, 42] (by decide +kernel) (by decide +kernel)
set_option maxRecDepth 20000 in
theorem gX5_takesNumber_X5_blanks : GoodIn wsX5_takesNumber (wsV RX5 221 RX5 yX5_blanks wsX5_blanks) := goodIn_app (goodIn_of _ (by decide +kernel)) ggX5_takesNumber_X5_blanks
set_option maxRecDepth 20000 in
theorem ggX5_takesNumber_X5_isAt : GoodIn wsX5_takesNumber wsX5_isAt := goodIn_r _ [12, 1, 13, 2, 14, 15, 7, 16, 22, 23, 24, 25, 26, 27, 28, 29, 30, 31, 32, 33, 34, 35, 36, 37, 38, 39, 40, 41, 42] (by decide +kernel) (by decide +kernel)
set_option maxRecDepth 20000 in
theorem gX5_takesNumber_X5_isAt : GoodIn wsX5_takesNumber (wsV RX5 215 RX5 yX5_isAt wsX5_isAt) := goodIn_app (goodIn_of _ (by decide +kernel)) ggX5_takesNumber_X5_isAt
set_option maxRecDepth 20000 in
theorem ggX5_takesNumber_X5_fails : GoodIn wsX5_takesNumber wsX5_fails := goodIn_r _ [20, 1, 21, 22, 23, 24, 25, 26, 27, 28, 29, 30, 31, 32, 33, 34, 35, 36, 37, 38, 39, 40, 41, 42] (by decide +kernel) (by decide +kernel)
set_option maxRecDepth 20000 in
theorem gX5_takesNumber_X5_fails : GoodIn wsX5_takesNumber (wsV RX5 224 RX5 yX5_fails wsX5_fails) := goodIn_app (goodIn_of _ (by decide +kernel)) ggX5_takesNumber_X5_fails
theorem dX5_takesNumber_0 : decode cX5_takesNumber 0 = .ok (.aload_n 0, 1) := by decide +kernel
theorem dX5_takesNumber_1 : decode cX5_takesNumber 1 = .ok (.invokevirtual 221, 3) := by decide +kernel
theorem dX5_takesNumber_4 : decode cX5_takesNumber 4 = .ok (.iload_n 2, 1) := by decide +kernel
theorem dX5_takesNumber_5 : decode cX5_takesNumber 5 = .ok (.ifCond .eq 18, 3) := by decide +kernel
theorem dX5_takesNumber_8 : decode cX5_takesNumber 8 = .ok (.aload_n 0, 1) := by decide +kernel
theorem dX5_takesNumber_9 : decode cX5_takesNumber 9 = .ok (.bipush 45, 2) := by decide +kernel
theorem dX5_takesNumber_11 : decode cX5_takesNumber 11 = .ok (.bipush 45, 2) := by decide +kernel
theorem dX5_takesNumber_13 : decode cX5_takesNumber 13 = .ok (.invokevirtual 215, 3) := by decide +kernel
theorem dX5_takesNumber_16 : decode cX5_takesNumber 16 = .ok (.ifCond .eq 7, 3) := by decide +kernel
theorem dX5_takesNumber_19 : decode cX5_takesNumber 19 = .ok (.iconst 1, 1) := by decide +kernel
theorem dX5_takesNumber_20 : decode cX5_takesNumber 20 = .ok (.goto 4, 3) := by decide +kernel
theorem dX5_takesNumber_23 : decode cX5_takesNumber 23 = .ok (.iconst 0, 1) := by decide +kernel
theorem dX5_takesNumber_24 : decode cX5_takesNumber 24 = .ok (.istore_n 3, 1) := by decide +kernel
theorem dX5_takesNumber_25 : decode cX5_takesNumber 25 = .ok (.aload_n 0, 1) := by decide +kernel
theorem dX5_takesNumber_26 : decode cX5_takesNumber 26 = .ok (.dup, 1) := by decide +kernel
theorem dX5_takesNumber_27 : decode cX5_takesNumber 27 = .ok (.getfield 212, 3) := by decide +kernel
theorem dX5_takesNumber_30 : decode cX5_takesNumber 30 = .ok (.iload_n 3, 1) := by decide +kernel
theorem dX5_takesNumber_31 : decode cX5_takesNumber 31 = .ok (.ifCond .eq 7, 3) := by decide +kernel
theorem dX5_takesNumber_34 : decode cX5_takesNumber 34 = .ok (.iconst 1, 1) := by decide +kernel
theorem dX5_takesNumber_35 : decode cX5_takesNumber 35 = .ok (.goto 4, 3) := by decide +kernel
theorem dX5_takesNumber_38 : decode cX5_takesNumber 38 = .ok (.iconst 0, 1) := by decide +kernel
theorem dX5_takesNumber_39 : decode cX5_takesNumber 39 = .ok (.iadd, 1) := by decide +kernel
theorem dX5_takesNumber_40 : decode cX5_takesNumber 40 = .ok (.putfield 212, 3) := by decide +kernel
theorem dX5_takesNumber_43 : decode cX5_takesNumber 43 = .ok (.aload_n 0, 1) := by decide +kernel
theorem dX5_takesNumber_44 : decode cX5_takesNumber 44 = .ok (.getfield 212, 3) := by decide +kernel
theorem dX5_takesNumber_47 : decode cX5_takesNumber 47 = .ok (.istore 4, 2) := by decide +kernel
theorem dX5_takesNumber_49 : decode cX5_takesNumber 49 = .ok (.iconst 0, 1) := by decide +kernel
theorem dX5_takesNumber_50 : decode cX5_takesNumber 50 = .ok (.istore 5, 2) := by decide +kernel
theorem dX5_takesNumber_52 : decode cX5_takesNumber 52 = .ok (.aload_n 0, 1) := by decide +kernel
theorem dX5_takesNumber_53 : decode cX5_takesNumber 53 = .ok (.bipush 48, 2) := by decide +kernel
theorem dX5_takesNumber_55 : decode cX5_takesNumber 55 = .ok (.bipush 57, 2) := by decide +kernel
theorem dX5_takesNumber_57 : decode cX5_takesNumber 57 = .ok (.invokevirtual 215, 3) := by decide +kernel
theorem dX5_takesNumber_60 : decode cX5_takesNumber 60 = .ok (.ifCond .eq 52, 3) := by decide +kernel
theorem dX5_takesNumber_63 : decode cX5_takesNumber 63 = .ok (.aload_n 0, 1) := by decide +kernel
theorem dX5_takesNumber_64 : decode cX5_takesNumber 64 = .ok (.getfield 212, 3) := by decide +kernel
theorem dX5_takesNumber_67 : decode cX5_takesNumber 67 = .ok (.iload 4, 2) := by decide +kernel
theorem dX5_takesNumber_69 : decode cX5_takesNumber 69 = .ok (.iconst 4, 1) := by decide +kernel
theorem dX5_takesNumber_70 : decode cX5_takesNumber 70 = .ok (.iadd, 1) := by decide +kernel
theorem dX5_takesNumber_71 : decode cX5_takesNumber 71 = .ok (.if_icmp .ne 8, 3) := by decide +kernel
theorem dX5_takesNumber_74 : decode cX5_takesNumber 74 = .ok (.aload_n 0, 1) := by decide +kernel
theorem dX5_takesNumber_75 : decode cX5_takesNumber 75 = .ok (.invokevirtual 224, 3) := by decide +kernel
theorem dX5_takesNumber_78 : decode cX5_takesNumber 78 = .ok (.ireturn, 1) := by decide +kernel
theorem dX5_takesNumber_79 : decode cX5_takesNumber 79 = .ok (.bipush 10, 2) := by decide +kernel
theorem dX5_takesNumber_81 : decode cX5_takesNumber 81 = .ok (.iload 5, 2) := by decide +kernel
theorem dX5_takesNumber_83 : decode cX5_takesNumber 83 = .ok (.imul, 1) := by decide +kernel
theorem dX5_takesNumber_84 : decode cX5_takesNumber 84 = .ok (.aload_n 0, 1) := by decide +kernel
theorem dX5_takesNumber_85 : decode cX5_takesNumber 85 = .ok (.getfield 22, 3) := by decide +kernel
theorem dX5_takesNumber_88 : decode cX5_takesNumber 88 = .ok (.aload_n 0, 1) := by decide +kernel
theorem dX5_takesNumber_89 : decode cX5_takesNumber 89 = .ok (.getfield 212, 3) := by decide +kernel
theorem dX5_takesNumber_92 : decode cX5_takesNumber 92 = .ok (.iaload, 1) := by decide +kernel
theorem dX5_takesNumber_93 : decode cX5_takesNumber 93 = .ok (.iadd, 1) := by decide +kernel
theorem dX5_takesNumber_94 : decode cX5_takesNumber 94 = .ok (.bipush 48, 2) := by decide +kernel
theorem dX5_takesNumber_96 : decode cX5_takesNumber 96 = .ok (.isub, 1) := by decide +kernel
theorem dX5_takesNumber_97 : decode cX5_takesNumber 97 = .ok (.istore 5, 2) := by decide +kernel
theorem dX5_takesNumber_99 : decode cX5_takesNumber 99 = .ok (.aload_n 0, 1) := by decide +kernel
theorem dX5_takesNumber_100 : decode cX5_takesNumber 100 = .ok (.dup, 1) := by decide +kernel
theorem dX5_takesNumber_101 : decode cX5_takesNumber 101 = .ok (.getfield 212, 3) := by decide +kernel
theorem dX5_takesNumber_104 : decode cX5_takesNumber 104 = .ok (.iconst 1, 1) := by decide +kernel
theorem dX5_takesNumber_105 : decode cX5_takesNumber 105 = .ok (.iadd, 1) := by decide +kernel
theorem dX5_takesNumber_106 : decode cX5_takesNumber 106 = .ok (.putfield 212, 3) := by decide +kernel
theorem dX5_takesNumber_109 : decode cX5_takesNumber 109 = .ok (.goto (-57), 3) := by decide +kernel
theorem dX5_takesNumber_112 : decode cX5_takesNumber 112 = .ok (.aload_n 0, 1) := by decide +kernel
theorem dX5_takesNumber_113 : decode cX5_takesNumber 113 = .ok (.getfield 28, 3) := by decide +kernel
theorem dX5_takesNumber_116 : decode cX5_takesNumber 116 = .ok (.iload_n 1, 1) := by decide +kernel
theorem dX5_takesNumber_117 : decode cX5_takesNumber 117 = .ok (.iload_n 3, 1) := by decide +kernel
theorem dX5_takesNumber_118 : decode cX5_takesNumber 118 = .ok (.ifCond .eq 9, 3) := by decide +kernel
theorem dX5_takesNumber_121 : decode cX5_takesNumber 121 = .ok (.iload 5, 2) := by decide +kernel
theorem dX5_takesNumber_123 : decode cX5_takesNumber 123 = .ok (.ineg, 1) := by decide +kernel
theorem dX5_takesNumber_124 : decode cX5_takesNumber 124 = .ok (.goto 5, 3) := by decide +kernel
theorem dX5_takesNumber_127 : decode cX5_takesNumber 127 = .ok (.iload 5, 2) := by decide +kernel
theorem dX5_takesNumber_129 : decode cX5_takesNumber 129 = .ok (.iastore, 1) := by decide +kernel
theorem dX5_takesNumber_130 : decode cX5_takesNumber 130 = .ok (.aload_n 0, 1) := by decide +kernel
theorem dX5_takesNumber_131 : decode cX5_takesNumber 131 = .ok (.getfield 212, 3) := by decide +kernel
theorem dX5_takesNumber_134 : decode cX5_takesNumber 134 = .ok (.iload 4, 2) := by decide +kernel
theorem dX5_takesNumber_136 : decode cX5_takesNumber 136 = .ok (.if_icmp .gt 10, 3) := by decide +kernel
theorem dX5_takesNumber_139 : decode cX5_takesNumber 139 = .ok (.aload_n 0, 1) := by decide +kernel
theorem dX5_takesNumber_140 : decode cX5_takesNumber 140 = .ok (.invokevirtual 224, 3) := by decide +kernel
theorem dX5_takesNumber_143 : decode cX5_takesNumber 143 = .ok (.ifCond .eq 7, 3) := by decide +kernel
theorem dX5_takesNumber_146 : decode cX5_takesNumber 146 = .ok (.iconst 1, 1) := by decide +kernel
theorem dX5_takesNumber_147 : decode cX5_takesNumber 147 = .ok (.goto 4, 3) := by decide +kernel
theorem dX5_takesNumber_150 : decode cX5_takesNumber 150 = .ok (.iconst 0, 1) := by decide +kernel
theorem dX5_takesNumber_151 : decode cX5_takesNumber 151 = .ok (.ireturn, 1) := by decide +kernel
set_option maxRecDepth 20000 in
theorem ggX5_takesOrder_X5_manyOf : GoodIn wsX5_takesOrder wsX5_manyOf := goodIn_r _ [8] (by decide +kernel) (by decide +kernel)
set_option maxRecDepth 20000 in
theorem gX5_takesOrder_X5_manyOf : GoodIn wsX5_takesOrder (va_wsS RX5 227 yX5_manyOf wsX5_manyOf) := goodIn_app (goodIn_of _ (by decide +kernel)) ggX5_takesOrder_X5_manyOf
set_option maxRecDepth 20000 in
theorem ggX5_takesOrder_X5_fails : GoodIn wsX5_takesOrder wsX5_fails := goodIn_r _ [12, 2, 13, 31, 32, 33, 34, 35, 36, 37, 38, 39, 40, 41, 42, 43, 44, 45, 46, 47, 48, 49, 50, 51] (by decide +kernel) (by decide +kernel)
set_option maxRecDepth 20000 in
theorem gX5_takesOrder_X5_fails : GoodIn wsX5_takesOrder (wsV RX5 224 RX5 yX5_fails wsX5_fails) := goodIn_app (goodIn_of _ (by decide +kernel)) ggX5_takesOrder_X5_fails
set_option maxRecDepth 20000 in
theorem ggX5_takesOrder_X5_takesNumber : GoodIn wsX5_takesOrder wsX5_takesNumber := goodIn_r _ [17, 2, 1, 18, 19, 20, 21, 7, 22, 23, 24, 25, 26, 27, 28, 29, 30, 9, 10, 11, 12, 13, 31, 32, 33, 34, 35, 36, 37, 38, 39, 40, 41, 42, 43, 44, 45, 46, 47, 48, 49, 50, 51] (by decide +kernel) (by decide +kernel)
set_option maxRecDepth 20000 in
theorem gX5_takesOrder_X5_takesNumber : GoodIn wsX5_takesOrder (wsV RX5 233 RX5 yX5_takesNumber wsX5_takesNumber) := goodIn_app (goodIn_of _ (by decide +kernel)) ggX5_takesOrder_X5_takesNumber
set_option maxRecDepth 20000 in
theorem ggX5_takesOrder_X5_blanks : GoodIn wsX5_takesOrder wsX5_blanks := goodIn_r _ [22, 2, 23, 24, 25, 7, 26, 27, 1, 28, 29, 30, 31, 32, 33, 34, 35, 36, 37, 38, 39, 40, 41, 42, 43, 44, 45, 46, 47, 48, 49, 50, 51] (by decide +kernel) (by decide +kernel)
set_option maxRecDepth 20000 in
theorem gX5_takesOrder_X5_blanks : GoodIn wsX5_takesOrder (wsV RX5 221 RX5 yX5_blanks wsX5_blanks) := goodIn_app (goodIn_of _ (by decide +kernel)) ggX5_takesOrder_X5_blanks
set_option maxRecDepth 20000 in
theorem ggX5_takesOrder_X5_isAt : GoodIn wsX5_takesOrder wsX5_isAt := goodIn_r _ [26, 2, 27, 1, 28, 29, 7, 30, 31, 32, 33, 34, 35, 36, 37, 38, 39, 40, 41, 42, 43, 44, 45, 46, 47, 48, 49, 50, 51] (by decide +kernel) (by decide +kernel)
set_option maxRecDepth 20000 in
theorem gX5_takesOrder_X5_isAt : GoodIn wsX5_takesOrder (wsV RX5 215 RX5 yX5_isAt wsX5_isAt) := goodIn_app (goodIn_of _ (by decide +kernel)) ggX5_takesOrder_X5_isAt
theorem dX5_takesOrder_0 : decode cX5_takesOrder 0 = .ok (.aload_n 0, 1) := by decide +kernel
theorem dX5_takesOrder_1 : decode cX5_takesOrder 1 = .ok (.getfield 22, 3) := by decide +kernel
theorem dX5_takesOrder_4 : decode cX5_takesOrder 4 = .ok (.aload_n 0, 1) := by decide +kernel
theorem dX5_takesOrder_5 : decode cX5_takesOrder 5 = .ok (.getfield 212, 3) := by decide +kernel
theorem dX5_takesOrder_8 : decode cX5_takesOrder 8 = .ok (.iaload, 1) := by decide +kernel
theorem dX5_takesOrder_9 : decode cX5_takesOrder 9 = .ok (.istore_n 1, 1) := by decide +kernel
theorem dX5_takesOrder_10 : decode cX5_takesOrder 10 = .ok (.iload_n 1, 1) := by decide +kernel
theorem dX5_takesOrder_11 : decode cX5_takesOrder 11 = .ok (.invokestatic 227, 3) := by decide +kernel
theorem dX5_takesOrder_14 : decode cX5_takesOrder 14 = .ok (.istore_n 2, 1) := by decide +kernel
theorem dX5_takesOrder_15 : decode cX5_takesOrder 15 = .ok (.iload_n 2, 1) := by decide +kernel
theorem dX5_takesOrder_16 : decode cX5_takesOrder 16 = .ok (.sipush (-10001), 3) := by decide +kernel
theorem dX5_takesOrder_19 : decode cX5_takesOrder 19 = .ok (.if_icmp .ne 8, 3) := by decide +kernel
theorem dX5_takesOrder_22 : decode cX5_takesOrder 22 = .ok (.aload_n 0, 1) := by decide +kernel
theorem dX5_takesOrder_23 : decode cX5_takesOrder 23 = .ok (.invokevirtual 224, 3) := by decide +kernel
theorem dX5_takesOrder_26 : decode cX5_takesOrder 26 = .ok (.ireturn, 1) := by decide +kernel
theorem dX5_takesOrder_27 : decode cX5_takesOrder 27 = .ok (.aload_n 0, 1) := by decide +kernel
theorem dX5_takesOrder_28 : decode cX5_takesOrder 28 = .ok (.getfield 25, 3) := by decide +kernel
theorem dX5_takesOrder_31 : decode cX5_takesOrder 31 = .ok (.aload_n 0, 1) := by decide +kernel
theorem dX5_takesOrder_32 : decode cX5_takesOrder 32 = .ok (.getfield 230, 3) := by decide +kernel
theorem dX5_takesOrder_35 : decode cX5_takesOrder 35 = .ok (.iload_n 1, 1) := by decide +kernel
theorem dX5_takesOrder_36 : decode cX5_takesOrder 36 = .ok (.iastore, 1) := by decide +kernel
theorem dX5_takesOrder_37 : decode cX5_takesOrder 37 = .ok (.aload_n 0, 1) := by decide +kernel
theorem dX5_takesOrder_38 : decode cX5_takesOrder 38 = .ok (.dup, 1) := by decide +kernel
theorem dX5_takesOrder_39 : decode cX5_takesOrder 39 = .ok (.getfield 212, 3) := by decide +kernel
theorem dX5_takesOrder_42 : decode cX5_takesOrder 42 = .ok (.iconst 1, 1) := by decide +kernel
theorem dX5_takesOrder_43 : decode cX5_takesOrder 43 = .ok (.iadd, 1) := by decide +kernel
theorem dX5_takesOrder_44 : decode cX5_takesOrder 44 = .ok (.putfield 212, 3) := by decide +kernel
theorem dX5_takesOrder_47 : decode cX5_takesOrder 47 = .ok (.iconst 0, 1) := by decide +kernel
theorem dX5_takesOrder_48 : decode cX5_takesOrder 48 = .ok (.istore_n 3, 1) := by decide +kernel
theorem dX5_takesOrder_49 : decode cX5_takesOrder 49 = .ok (.iload_n 3, 1) := by decide +kernel
theorem dX5_takesOrder_50 : decode cX5_takesOrder 50 = .ok (.iload_n 2, 1) := by decide +kernel
theorem dX5_takesOrder_51 : decode cX5_takesOrder 51 = .ok (.if_icmp .ge 41, 3) := by decide +kernel
theorem dX5_takesOrder_54 : decode cX5_takesOrder 54 = .ok (.aload_n 0, 1) := by decide +kernel
theorem dX5_takesOrder_55 : decode cX5_takesOrder 55 = .ok (.iconst 4, 1) := by decide +kernel
theorem dX5_takesOrder_56 : decode cX5_takesOrder 56 = .ok (.aload_n 0, 1) := by decide +kernel
theorem dX5_takesOrder_57 : decode cX5_takesOrder 57 = .ok (.getfield 230, 3) := by decide +kernel
theorem dX5_takesOrder_60 : decode cX5_takesOrder 60 = .ok (.imul, 1) := by decide +kernel
theorem dX5_takesOrder_61 : decode cX5_takesOrder 61 = .ok (.iload_n 3, 1) := by decide +kernel
theorem dX5_takesOrder_62 : decode cX5_takesOrder 62 = .ok (.iadd, 1) := by decide +kernel
theorem dX5_takesOrder_63 : decode cX5_takesOrder 63 = .ok (.iload_n 2, 1) := by decide +kernel
theorem dX5_takesOrder_64 : decode cX5_takesOrder 64 = .ok (.iconst 4, 1) := by decide +kernel
theorem dX5_takesOrder_65 : decode cX5_takesOrder 65 = .ok (.if_icmp .ne 12, 3) := by decide +kernel
theorem dX5_takesOrder_68 : decode cX5_takesOrder 68 = .ok (.iload_n 3, 1) := by decide +kernel
theorem dX5_takesOrder_69 : decode cX5_takesOrder 69 = .ok (.iconst 2, 1) := by decide +kernel
theorem dX5_takesOrder_70 : decode cX5_takesOrder 70 = .ok (.if_icmp .ge 7, 3) := by decide +kernel
theorem dX5_takesOrder_73 : decode cX5_takesOrder 73 = .ok (.iconst 1, 1) := by decide +kernel
theorem dX5_takesOrder_74 : decode cX5_takesOrder 74 = .ok (.goto 4, 3) := by decide +kernel
theorem dX5_takesOrder_77 : decode cX5_takesOrder 77 = .ok (.iconst 0, 1) := by decide +kernel
theorem dX5_takesOrder_78 : decode cX5_takesOrder 78 = .ok (.invokevirtual 233, 3) := by decide +kernel
theorem dX5_takesOrder_81 : decode cX5_takesOrder 81 = .ok (.ifCond .ne 5, 3) := by decide +kernel
theorem dX5_takesOrder_84 : decode cX5_takesOrder 84 = .ok (.iconst 0, 1) := by decide +kernel
theorem dX5_takesOrder_85 : decode cX5_takesOrder 85 = .ok (.ireturn, 1) := by decide +kernel
theorem dX5_takesOrder_86 : decode cX5_takesOrder 86 = .ok (.iinc 3 1, 3) := by decide +kernel
theorem dX5_takesOrder_89 : decode cX5_takesOrder 89 = .ok (.goto (-40), 3) := by decide +kernel
theorem dX5_takesOrder_92 : decode cX5_takesOrder 92 = .ok (.aload_n 0, 1) := by decide +kernel
theorem dX5_takesOrder_93 : decode cX5_takesOrder 93 = .ok (.invokevirtual 221, 3) := by decide +kernel
theorem dX5_takesOrder_96 : decode cX5_takesOrder 96 = .ok (.aload_n 0, 1) := by decide +kernel
theorem dX5_takesOrder_97 : decode cX5_takesOrder 97 = .ok (.bipush 59, 2) := by decide +kernel
theorem dX5_takesOrder_99 : decode cX5_takesOrder 99 = .ok (.bipush 59, 2) := by decide +kernel
theorem dX5_takesOrder_101 : decode cX5_takesOrder 101 = .ok (.invokevirtual 215, 3) := by decide +kernel
theorem dX5_takesOrder_104 : decode cX5_takesOrder 104 = .ok (.ifCond .ne 8, 3) := by decide +kernel
theorem dX5_takesOrder_107 : decode cX5_takesOrder 107 = .ok (.aload_n 0, 1) := by decide +kernel
theorem dX5_takesOrder_108 : decode cX5_takesOrder 108 = .ok (.invokevirtual 224, 3) := by decide +kernel
theorem dX5_takesOrder_111 : decode cX5_takesOrder 111 = .ok (.ireturn, 1) := by decide +kernel
theorem dX5_takesOrder_112 : decode cX5_takesOrder 112 = .ok (.aload_n 0, 1) := by decide +kernel
theorem dX5_takesOrder_113 : decode cX5_takesOrder 113 = .ok (.dup, 1) := by decide +kernel
theorem dX5_takesOrder_114 : decode cX5_takesOrder 114 = .ok (.getfield 212, 3) := by decide +kernel
theorem dX5_takesOrder_117 : decode cX5_takesOrder 117 = .ok (.iconst 1, 1) := by decide +kernel
theorem dX5_takesOrder_118 : decode cX5_takesOrder 118 = .ok (.iadd, 1) := by decide +kernel
theorem dX5_takesOrder_119 : decode cX5_takesOrder 119 = .ok (.putfield 212, 3) := by decide +kernel
theorem dX5_takesOrder_122 : decode cX5_takesOrder 122 = .ok (.aload_n 0, 1) := by decide +kernel
theorem dX5_takesOrder_123 : decode cX5_takesOrder 123 = .ok (.dup, 1) := by decide +kernel
theorem dX5_takesOrder_124 : decode cX5_takesOrder 124 = .ok (.getfield 230, 3) := by decide +kernel
theorem dX5_takesOrder_127 : decode cX5_takesOrder 127 = .ok (.iconst 1, 1) := by decide +kernel
theorem dX5_takesOrder_128 : decode cX5_takesOrder 128 = .ok (.iadd, 1) := by decide +kernel
theorem dX5_takesOrder_129 : decode cX5_takesOrder 129 = .ok (.putfield 230, 3) := by decide +kernel
theorem dX5_takesOrder_132 : decode cX5_takesOrder 132 = .ok (.iconst 1, 1) := by decide +kernel
theorem dX5_takesOrder_133 : decode cX5_takesOrder 133 = .ok (.ireturn, 1) := by decide +kernel
set_option maxRecDepth 20000 in
theorem ggX5_isRead_X5_blanks : GoodIn wsX5_isRead wsX5_blanks := goodIn_r _ [8, 1, 9, 10, 11, 7, 12, 3, 13, 14, 15, 16, 35, 36, 37, 38, 39, 40, 41, 42, 43, 44, 45, 46, 47, 48, 49, 50, 51, 52, 53, 54, 55] (by decide +kernel) (by decide +kernel)
set_option maxRecDepth 20000 in
theorem gX5_isRead_X5_blanks : GoodIn wsX5_isRead (wsV RX5 221 RX5 yX5_blanks wsX5_blanks) := goodIn_app (goodIn_of _ (by decide +kernel)) ggX5_isRead_X5_blanks
set_option maxRecDepth 20000 in
theorem ggX5_isRead_X5_takesOrder : GoodIn wsX5_isRead wsX5_takesOrder := goodIn_r _ [20, 13, 1, 21, 2, 22, 23, 7, 24, 25, 26, 27, 28, 29, 30, 31, 32, 33, 34, 4, 5, 6, 8, 9, 10, 11, 12, 3, 14, 15, 16, 35, 36, 37, 38, 39, 40, 41, 42, 43, 44, 45, 46, 47, 48, 49, 50, 51, 52, 53, 54, 55] (by decide +kernel) (by decide +kernel)
set_option maxRecDepth 20000 in
theorem gX5_isRead_X5_takesOrder : GoodIn wsX5_isRead (wsV RX5 237 RX5 yX5_takesOrder wsX5_takesOrder) := goodIn_app (goodIn_of _ (by decide +kernel)) ggX5_isRead_X5_takesOrder
set_option maxRecDepth 20000 in
theorem ggX5_isRead_X5_fails : GoodIn wsX5_isRead wsX5_fails := goodIn_r _ [28, 1, 29, 35, 36, 37, 38, 39, 40, 41, 42, 43, 44, 45, 46, 47, 48, 49, 50, 51, 52, 53, 54, 55] (by decide +kernel) (by decide +kernel)
set_option maxRecDepth 20000 in
theorem gX5_isRead_X5_fails : GoodIn wsX5_isRead (wsV RX5 224 RX5 yX5_fails wsX5_fails) := goodIn_app (goodIn_of _ (by decide +kernel)) ggX5_isRead_X5_fails
theorem dX5_isRead_0 : decode cX5_isRead 0 = .ok (.aload_n 0, 1) := by decide +kernel
theorem dX5_isRead_1 : decode cX5_isRead 1 = .ok (.iconst 0, 1) := by decide +kernel
theorem dX5_isRead_2 : decode cX5_isRead 2 = .ok (.putfield 212, 3) := by decide +kernel
theorem dX5_isRead_5 : decode cX5_isRead 5 = .ok (.aload_n 0, 1) := by decide +kernel
theorem dX5_isRead_6 : decode cX5_isRead 6 = .ok (.iconst 0, 1) := by decide +kernel
theorem dX5_isRead_7 : decode cX5_isRead 7 = .ok (.putfield 230, 3) := by decide +kernel
theorem dX5_isRead_10 : decode cX5_isRead 10 = .ok (.aload_n 0, 1) := by decide +kernel
theorem dX5_isRead_11 : decode cX5_isRead 11 = .ok (.invokevirtual 221, 3) := by decide +kernel
theorem dX5_isRead_14 : decode cX5_isRead 14 = .ok (.aload_n 0, 1) := by decide +kernel
theorem dX5_isRead_15 : decode cX5_isRead 15 = .ok (.getfield 212, 3) := by decide +kernel
theorem dX5_isRead_18 : decode cX5_isRead 18 = .ok (.aload_n 0, 1) := by decide +kernel
theorem dX5_isRead_19 : decode cX5_isRead 19 = .ok (.getfield 209, 3) := by decide +kernel
theorem dX5_isRead_22 : decode cX5_isRead 22 = .ok (.if_icmp .ge 19, 3) := by decide +kernel
theorem dX5_isRead_25 : decode cX5_isRead 25 = .ok (.aload_n 0, 1) := by decide +kernel
theorem dX5_isRead_26 : decode cX5_isRead 26 = .ok (.invokevirtual 237, 3) := by decide +kernel
theorem dX5_isRead_29 : decode cX5_isRead 29 = .ok (.ifCond .ne 5, 3) := by decide +kernel
theorem dX5_isRead_32 : decode cX5_isRead 32 = .ok (.iconst 0, 1) := by decide +kernel
theorem dX5_isRead_33 : decode cX5_isRead 33 = .ok (.ireturn, 1) := by decide +kernel
theorem dX5_isRead_34 : decode cX5_isRead 34 = .ok (.aload_n 0, 1) := by decide +kernel
theorem dX5_isRead_35 : decode cX5_isRead 35 = .ok (.invokevirtual 221, 3) := by decide +kernel
theorem dX5_isRead_38 : decode cX5_isRead 38 = .ok (.goto (-24), 3) := by decide +kernel
theorem dX5_isRead_41 : decode cX5_isRead 41 = .ok (.aload_n 0, 1) := by decide +kernel
theorem dX5_isRead_42 : decode cX5_isRead 42 = .ok (.getfield 230, 3) := by decide +kernel
theorem dX5_isRead_45 : decode cX5_isRead 45 = .ok (.ifCond .gt 10, 3) := by decide +kernel
theorem dX5_isRead_48 : decode cX5_isRead 48 = .ok (.aload_n 0, 1) := by decide +kernel
theorem dX5_isRead_49 : decode cX5_isRead 49 = .ok (.invokevirtual 224, 3) := by decide +kernel
theorem dX5_isRead_52 : decode cX5_isRead 52 = .ok (.ifCond .eq 7, 3) := by decide +kernel
theorem dX5_isRead_55 : decode cX5_isRead 55 = .ok (.iconst 1, 1) := by decide +kernel
theorem dX5_isRead_56 : decode cX5_isRead 56 = .ok (.goto 4, 3) := by decide +kernel
theorem dX5_isRead_59 : decode cX5_isRead 59 = .ok (.iconst 0, 1) := by decide +kernel
theorem dX5_isRead_60 : decode cX5_isRead 60 = .ok (.ireturn, 1) := by decide +kernel
set_option maxRecDepth 20000 in
theorem ggX5_doneOne_X5_putOther : GoodIn wsX5_doneOne wsX5_putOther := goodIn_r _ [7, 8, 9, 10, 6, 11, 12, 13, 14, 15, 16, 17, 18, 19, 20, 21, 22, 23, 24, 25, 137, 138, 139, 140, 141, 142, 143, 144, 145, 146, 147, 148, 149, 150, 151, 152, 153, 154, 155, 156, 157] (by decide +kernel) (by decide +kernel)
set_option maxRecDepth 20000 in
theorem gX5_doneOne_X5_putOther : GoodIn wsX5_doneOne (wsV RX5 167 RX5 yX5_putOther wsX5_putOther) := goodIn_app (goodIn_of _ (by decide +kernel)) ggX5_doneOne_X5_putOther
set_option maxRecDepth 20000 in
theorem ggX5_doneOne_X5_putOwn : GoodIn wsX5_doneOne wsX5_putOwn := goodIn_r _ [29, 8, 9, 10, 6, 11, 12, 13, 14, 15, 16, 17, 18, 19, 20, 21, 22, 23, 24, 25, 137, 138, 139, 140, 141, 142, 143, 144, 145, 146, 147, 148, 149, 150, 151, 152, 153, 154, 155, 156, 157] (by decide +kernel) (by decide +kernel)
set_option maxRecDepth 20000 in
theorem gX5_doneOne_X5_putOwn : GoodIn wsX5_doneOne (wsV RX5 174 RX5 yX5_putOwn wsX5_putOwn) := goodIn_app (goodIn_of _ (by decide +kernel)) ggX5_doneOne_X5_putOwn
set_option maxRecDepth 20000 in
theorem ggX5_doneOne_X5_putCourse : GoodIn wsX5_doneOne wsX5_putCourse := goodIn_r _ [33, 34, 35, 36, 6, 37, 8, 12, 13, 14, 15, 16, 17, 38, 39, 40, 41, 22, 23, 24, 25, 137, 138, 139, 140, 141, 142, 143, 144, 145, 146, 147, 148, 149, 150, 151, 152, 153, 154, 155, 156, 157] (by decide +kernel) (by decide +kernel)
set_option maxRecDepth 20000 in
theorem gX5_doneOne_X5_putCourse : GoodIn wsX5_doneOne (wsV RX5 180 RX5 yX5_putCourse wsX5_putCourse) := goodIn_app (goodIn_of _ (by decide +kernel)) ggX5_doneOne_X5_putCourse
set_option maxRecDepth 20000 in
theorem ggX5_doneOne_X5_putSteps : GoodIn wsX5_doneOne wsX5_putSteps := goodIn_r _ [45, 8, 12, 13, 6, 14, 38, 39, 40, 41, 46, 47, 48, 49, 50, 51, 52, 53, 54, 55, 56, 57, 58, 59, 9, 10, 11, 22, 23, 24, 25, 60, 61, 62, 63, 64, 65, 66, 67, 68, 69, 70, 71, 72, 73, 74, 75, 76, 77, 78, 79, 80, 81, 82, 83, 84, 85, 86, 87, 88, 89, 90, 91, 92, 93, 94, 95, 96, 97, 98, 99, 100, 101, 102, 103, 104, 105, 106, 107, 108, 109, 110, 111, 112, 113, 114, 115, 116, 137, 138, 139, 140, 141, 142, 143, 144, 145, 146, 147, 148, 149, 150, 151, 152, 153, 154, 155, 156, 157] (by decide +kernel) (by decide +kernel)
set_option maxRecDepth 20000 in
theorem gX5_doneOne_X5_putSteps : GoodIn wsX5_doneOne (wsV RX5 187 RX5 yX5_putSteps wsX5_putSteps) := goodIn_app (goodIn_of _ (by decide +kernel)) ggX5_doneOne_X5_putSteps
set_option maxRecDepth 20000 in
theorem ggX5_doneOne_X5_putObeyed : GoodIn wsX5_doneOne wsX5_putObeyed := goodIn_r _ [120, 121, 122, 123, 6, 124, 38, 39, 40, 41, 8, 125, 126, 127, 128, 64, 65, 66, 67, 68, 69, 70, 71, 72, 73, 74, 75, 76, 77, 78, 79, 80, 81, 82, 83, 50, 51, 52, 53, 54, 55, 84, 85, 86, 87, 88, 89, 90, 91, 92, 93, 94, 95, 96, 97, 98, 99, 100, 101, 102, 103, 104, 105, 106, 107, 108, 109, 110, 111, 112, 129, 130, 131, 132, 22, 23, 24, 25, 137, 138, 139, 140, 141, 142, 143, 144, 145, 146, 147, 148, 149, 150, 151, 152, 153, 154, 155, 156, 157] (by decide +kernel) (by decide +kernel)
set_option maxRecDepth 20000 in
theorem gX5_doneOne_X5_putObeyed : GoodIn wsX5_doneOne (wsV RX5 190 RX5 yX5_putObeyed wsX5_putObeyed) := goodIn_app (goodIn_of _ (by decide +kernel)) ggX5_doneOne_X5_putObeyed
set_option maxRecDepth 20000 in
theorem ggX5_doneOne_X5_putSetting : GoodIn wsX5_doneOne wsX5_putSetting := goodIn_r _ [136, 8, 12, 13, 6, 14, 137, 138, 139, 140, 141, 142, 143, 144, 145, 146, 147, 148, 149, 150, 151, 152, 153, 154, 155, 156, 157] (by decide +kernel) (by decide +kernel)
set_option maxRecDepth 20000 in
theorem gX5_doneOne_X5_putSetting : GoodIn wsX5_doneOne (wsV RX5 184 RX5 yX5_putSetting wsX5_putSetting) := goodIn_app (goodIn_of _ (by decide +kernel)) ggX5_doneOne_X5_putSetting
theorem dX5_doneOne_0 : decode cX5_doneOne 0 = .ok (.aload_n 0, 1) := by decide +kernel
theorem dX5_doneOne_1 : decode cX5_doneOne 1 = .ok (.getfield 28, 3) := by decide +kernel
theorem dX5_doneOne_4 : decode cX5_doneOne 4 = .ok (.iconst 4, 1) := by decide +kernel
theorem dX5_doneOne_5 : decode cX5_doneOne 5 = .ok (.iload_n 1, 1) := by decide +kernel
theorem dX5_doneOne_6 : decode cX5_doneOne 6 = .ok (.imul, 1) := by decide +kernel
theorem dX5_doneOne_7 : decode cX5_doneOne 7 = .ok (.iaload, 1) := by decide +kernel
theorem dX5_doneOne_8 : decode cX5_doneOne 8 = .ok (.istore_n 2, 1) := by decide +kernel
theorem dX5_doneOne_9 : decode cX5_doneOne 9 = .ok (.aload_n 0, 1) := by decide +kernel
theorem dX5_doneOne_10 : decode cX5_doneOne 10 = .ok (.getfield 28, 3) := by decide +kernel
theorem dX5_doneOne_13 : decode cX5_doneOne 13 = .ok (.iconst 4, 1) := by decide +kernel
theorem dX5_doneOne_14 : decode cX5_doneOne 14 = .ok (.iload_n 1, 1) := by decide +kernel
theorem dX5_doneOne_15 : decode cX5_doneOne 15 = .ok (.imul, 1) := by decide +kernel
theorem dX5_doneOne_16 : decode cX5_doneOne 16 = .ok (.iconst 1, 1) := by decide +kernel
theorem dX5_doneOne_17 : decode cX5_doneOne 17 = .ok (.iadd, 1) := by decide +kernel
theorem dX5_doneOne_18 : decode cX5_doneOne 18 = .ok (.iaload, 1) := by decide +kernel
theorem dX5_doneOne_19 : decode cX5_doneOne 19 = .ok (.istore_n 3, 1) := by decide +kernel
theorem dX5_doneOne_20 : decode cX5_doneOne 20 = .ok (.aload_n 0, 1) := by decide +kernel
theorem dX5_doneOne_21 : decode cX5_doneOne 21 = .ok (.getfield 28, 3) := by decide +kernel
theorem dX5_doneOne_24 : decode cX5_doneOne 24 = .ok (.iconst 4, 1) := by decide +kernel
theorem dX5_doneOne_25 : decode cX5_doneOne 25 = .ok (.iload_n 1, 1) := by decide +kernel
theorem dX5_doneOne_26 : decode cX5_doneOne 26 = .ok (.imul, 1) := by decide +kernel
theorem dX5_doneOne_27 : decode cX5_doneOne 27 = .ok (.iconst 2, 1) := by decide +kernel
theorem dX5_doneOne_28 : decode cX5_doneOne 28 = .ok (.iadd, 1) := by decide +kernel
theorem dX5_doneOne_29 : decode cX5_doneOne 29 = .ok (.iaload, 1) := by decide +kernel
theorem dX5_doneOne_30 : decode cX5_doneOne 30 = .ok (.istore 4, 2) := by decide +kernel
theorem dX5_doneOne_32 : decode cX5_doneOne 32 = .ok (.aload_n 0, 1) := by decide +kernel
theorem dX5_doneOne_33 : decode cX5_doneOne 33 = .ok (.getfield 28, 3) := by decide +kernel
theorem dX5_doneOne_36 : decode cX5_doneOne 36 = .ok (.iconst 4, 1) := by decide +kernel
theorem dX5_doneOne_37 : decode cX5_doneOne 37 = .ok (.iload_n 1, 1) := by decide +kernel
theorem dX5_doneOne_38 : decode cX5_doneOne 38 = .ok (.imul, 1) := by decide +kernel
theorem dX5_doneOne_39 : decode cX5_doneOne 39 = .ok (.iconst 3, 1) := by decide +kernel
theorem dX5_doneOne_40 : decode cX5_doneOne 40 = .ok (.iadd, 1) := by decide +kernel
theorem dX5_doneOne_41 : decode cX5_doneOne 41 = .ok (.iaload, 1) := by decide +kernel
theorem dX5_doneOne_42 : decode cX5_doneOne 42 = .ok (.istore 5, 2) := by decide +kernel
theorem dX5_doneOne_44 : decode cX5_doneOne 44 = .ok (.aload_n 0, 1) := by decide +kernel
theorem dX5_doneOne_45 : decode cX5_doneOne 45 = .ok (.getfield 25, 3) := by decide +kernel
theorem dX5_doneOne_48 : decode cX5_doneOne 48 = .ok (.iload_n 1, 1) := by decide +kernel
theorem dX5_doneOne_49 : decode cX5_doneOne 49 = .ok (.iaload, 1) := by decide +kernel
theorem dX5_doneOne_50 : decode cX5_doneOne 50 = .ok (.lookupswitch 91 #[(97, 50), (98, 86), (110, 80), (111, 61), (116, 72)], 50) := by decide +kernel
theorem dX5_doneOne_100 : decode cX5_doneOne 100 = .ok (.aload_n 0, 1) := by decide +kernel
theorem dX5_doneOne_101 : decode cX5_doneOne 101 = .ok (.iload_n 2, 1) := by decide +kernel
theorem dX5_doneOne_102 : decode cX5_doneOne 102 = .ok (.iload_n 3, 1) := by decide +kernel
theorem dX5_doneOne_103 : decode cX5_doneOne 103 = .ok (.iload 4, 2) := by decide +kernel
theorem dX5_doneOne_105 : decode cX5_doneOne 105 = .ok (.iload 5, 2) := by decide +kernel
theorem dX5_doneOne_107 : decode cX5_doneOne 107 = .ok (.invokevirtual 167, 3) := by decide +kernel
theorem dX5_doneOne_110 : decode cX5_doneOne 110 = .ok (.ireturn, 1) := by decide +kernel
theorem dX5_doneOne_111 : decode cX5_doneOne 111 = .ok (.aload_n 0, 1) := by decide +kernel
theorem dX5_doneOne_112 : decode cX5_doneOne 112 = .ok (.iload_n 2, 1) := by decide +kernel
theorem dX5_doneOne_113 : decode cX5_doneOne 113 = .ok (.iload_n 3, 1) := by decide +kernel
theorem dX5_doneOne_114 : decode cX5_doneOne 114 = .ok (.iload 4, 2) := by decide +kernel
theorem dX5_doneOne_116 : decode cX5_doneOne 116 = .ok (.iload 5, 2) := by decide +kernel
theorem dX5_doneOne_118 : decode cX5_doneOne 118 = .ok (.invokevirtual 174, 3) := by decide +kernel
theorem dX5_doneOne_121 : decode cX5_doneOne 121 = .ok (.ireturn, 1) := by decide +kernel
theorem dX5_doneOne_122 : decode cX5_doneOne 122 = .ok (.aload_n 0, 1) := by decide +kernel
theorem dX5_doneOne_123 : decode cX5_doneOne 123 = .ok (.iconst 0, 1) := by decide +kernel
theorem dX5_doneOne_124 : decode cX5_doneOne 124 = .ok (.iload_n 2, 1) := by decide +kernel
theorem dX5_doneOne_125 : decode cX5_doneOne 125 = .ok (.iload_n 3, 1) := by decide +kernel
theorem dX5_doneOne_126 : decode cX5_doneOne 126 = .ok (.invokevirtual 180, 3) := by decide +kernel
theorem dX5_doneOne_129 : decode cX5_doneOne 129 = .ok (.ireturn, 1) := by decide +kernel
theorem dX5_doneOne_130 : decode cX5_doneOne 130 = .ok (.aload_n 0, 1) := by decide +kernel
theorem dX5_doneOne_131 : decode cX5_doneOne 131 = .ok (.iload_n 2, 1) := by decide +kernel
theorem dX5_doneOne_132 : decode cX5_doneOne 132 = .ok (.invokevirtual 187, 3) := by decide +kernel
theorem dX5_doneOne_135 : decode cX5_doneOne 135 = .ok (.ireturn, 1) := by decide +kernel
theorem dX5_doneOne_136 : decode cX5_doneOne 136 = .ok (.aload_n 0, 1) := by decide +kernel
theorem dX5_doneOne_137 : decode cX5_doneOne 137 = .ok (.invokevirtual 190, 3) := by decide +kernel
theorem dX5_doneOne_140 : decode cX5_doneOne 140 = .ok (.ireturn, 1) := by decide +kernel
theorem dX5_doneOne_141 : decode cX5_doneOne 141 = .ok (.aload_n 0, 1) := by decide +kernel
theorem dX5_doneOne_142 : decode cX5_doneOne 142 = .ok (.iload_n 2, 1) := by decide +kernel
theorem dX5_doneOne_143 : decode cX5_doneOne 143 = .ok (.iload_n 3, 1) := by decide +kernel
theorem dX5_doneOne_144 : decode cX5_doneOne 144 = .ok (.invokevirtual 184, 3) := by decide +kernel
theorem dX5_doneOne_147 : decode cX5_doneOne 147 = .ok (.ireturn, 1) := by decide +kernel
set_option maxRecDepth 20000 in
theorem ggX5_does_X5_isRead : GoodIn wsX5_does wsX5_isRead := goodIn_r _ [9, 10, 2, 11, 12, 13, 14, 8, 15, 16, 17, 18, 19, 20, 21, 22, 23, 24, 25, 26, 27, 28, 29, 30, 31, 32, 33, 34, 35, 1, 36, 37, 38, 39, 40, 184, 185, 186, 187, 188, 189, 190, 191, 192, 193, 194, 195, 196, 197, 198, 199, 200, 201, 202, 203, 204] (by decide +kernel) (by decide +kernel)
set_option maxRecDepth 20000 in
theorem gX5_does_X5_isRead : GoodIn wsX5_does (wsV RX5 240 RX5 yX5_isRead wsX5_isRead) := goodIn_app (goodIn_of _ (by decide +kernel)) ggX5_does_X5_isRead
set_option maxRecDepth 20000 in
theorem ggX5_does_X5_laysAside : GoodIn wsX5_does wsX5_laysAside := goodIn_r _ [44, 4, 3, 184, 185, 186, 187, 188, 189, 190, 191, 192, 193, 194, 195, 196, 197, 198, 199, 200, 201, 202, 203, 204] (by decide +kernel) (by decide +kernel)
set_option maxRecDepth 20000 in
theorem gX5_does_X5_laysAside : GoodIn wsX5_does (wsV RX5 164 RX5 yX5_laysAside wsX5_laysAside) := goodIn_app (goodIn_of _ (by decide +kernel)) ggX5_does_X5_laysAside
set_option maxRecDepth 20000 in
theorem ggX5_does_X5_doneOne : GoodIn wsX5_does wsX5_doneOne := goodIn_r _ [48, 40, 28, 49, 50, 51, 8, 52, 3, 53, 54, 55, 21, 22, 23, 56, 57, 58, 59, 60, 61, 62, 63, 64, 65, 66, 67, 68, 69, 70, 71, 72, 73, 74, 75, 76, 77, 78, 79, 80, 81, 82, 83, 84, 85, 86, 87, 88, 89, 90, 91, 92, 93, 94, 95, 96, 97, 98, 99, 100, 101, 102, 103, 104, 105, 106, 107, 108, 109, 110, 111, 112, 113, 114, 115, 116, 117, 118, 119, 120, 121, 122, 123, 124, 125, 126, 127, 128, 129, 130, 131, 132, 133, 134, 135, 136, 137, 138, 139, 140, 141, 142, 143, 144, 145, 146, 147, 148, 149, 150, 151, 152, 153, 154, 155, 156, 157, 158, 159, 160, 161, 162, 163, 164, 165, 166, 167, 168, 169, 170, 171, 172, 173, 174, 175, 176, 177, 184, 185, 186, 187, 188, 189, 190, 191, 192, 193, 194, 195, 196, 197, 198, 199, 200, 201, 202, 203, 204] (by decide +kernel) (by decide +kernel)
set_option maxRecDepth 20000 in
theorem gX5_does_X5_doneOne : GoodIn wsX5_does (wsV RX5 243 RX5 yX5_doneOne wsX5_doneOne) := goodIn_app (goodIn_of _ (by decide +kernel)) ggX5_does_X5_doneOne
set_option maxRecDepth 20000 in
theorem ggX5_does_X5_remembers : GoodIn wsX5_does wsX5_remembers := goodIn_r _ [181, 182, 183, 4, 184, 185, 186, 187, 188, 189, 190, 191, 192, 193, 194, 195, 196, 197, 198, 199, 200, 201, 202, 203, 204] (by decide +kernel) (by decide +kernel)
set_option maxRecDepth 20000 in
theorem gX5_does_X5_remembers : GoodIn wsX5_does (wsV RX5 39 RX5 yX5_remembers wsX5_remembers) := goodIn_app (goodIn_of _ (by decide +kernel)) ggX5_does_X5_remembers
theorem dX5_does_0 : decode cX5_does 0 = .ok (.aload_n 0, 1) := by decide +kernel
theorem dX5_does_1 : decode cX5_does 1 = .ok (.invokevirtual 240, 3) := by decide +kernel
theorem dX5_does_4 : decode cX5_does 4 = .ok (.ifCond .ne 11, 3) := by decide +kernel
theorem dX5_does_7 : decode cX5_does 7 = .ok (.bipush (-10), 2) := by decide +kernel
theorem dX5_does_9 : decode cX5_does 9 = .ok (.aload_n 0, 1) := by decide +kernel
theorem dX5_does_10 : decode cX5_does 10 = .ok (.getfield 218, 3) := by decide +kernel
theorem dX5_does_13 : decode cX5_does 13 = .ok (.isub, 1) := by decide +kernel
theorem dX5_does_14 : decode cX5_does 14 = .ok (.ireturn, 1) := by decide +kernel
theorem dX5_does_15 : decode cX5_does 15 = .ok (.aload_n 0, 1) := by decide +kernel
theorem dX5_does_16 : decode cX5_does 16 = .ok (.invokevirtual 164, 3) := by decide +kernel
theorem dX5_does_19 : decode cX5_does 19 = .ok (.iconst 0, 1) := by decide +kernel
theorem dX5_does_20 : decode cX5_does 20 = .ok (.istore_n 1, 1) := by decide +kernel
theorem dX5_does_21 : decode cX5_does 21 = .ok (.iload_n 1, 1) := by decide +kernel
theorem dX5_does_22 : decode cX5_does 22 = .ok (.aload_n 0, 1) := by decide +kernel
theorem dX5_does_23 : decode cX5_does 23 = .ok (.getfield 230, 3) := by decide +kernel
theorem dX5_does_26 : decode cX5_does 26 = .ok (.if_icmp .ge 52, 3) := by decide +kernel
theorem dX5_does_29 : decode cX5_does 29 = .ok (.aload_n 0, 1) := by decide +kernel
theorem dX5_does_30 : decode cX5_does 30 = .ok (.iload_n 1, 1) := by decide +kernel
theorem dX5_does_31 : decode cX5_does 31 = .ok (.invokevirtual 243, 3) := by decide +kernel
theorem dX5_does_34 : decode cX5_does 34 = .ok (.sipush (-10002), 3) := by decide +kernel
theorem dX5_does_37 : decode cX5_does 37 = .ok (.if_icmp .gt 35, 3) := by decide +kernel
theorem dX5_does_40 : decode cX5_does 40 = .ok (.iconst 0, 1) := by decide +kernel
theorem dX5_does_41 : decode cX5_does 41 = .ok (.istore_n 2, 1) := by decide +kernel
theorem dX5_does_42 : decode cX5_does 42 = .ok (.iload_n 2, 1) := by decide +kernel
theorem dX5_does_43 : decode cX5_does 43 = .ok (.bipush 39, 2) := by decide +kernel
theorem dX5_does_45 : decode cX5_does 45 = .ok (.if_icmp .ge 21, 3) := by decide +kernel
theorem dX5_does_48 : decode cX5_does 48 = .ok (.aload_n 0, 1) := by decide +kernel
theorem dX5_does_49 : decode cX5_does 49 = .ok (.getfield 7, 3) := by decide +kernel
theorem dX5_does_52 : decode cX5_does 52 = .ok (.iload_n 2, 1) := by decide +kernel
theorem dX5_does_53 : decode cX5_does 53 = .ok (.aload_n 0, 1) := by decide +kernel
theorem dX5_does_54 : decode cX5_does 54 = .ok (.getfield 13, 3) := by decide +kernel
theorem dX5_does_57 : decode cX5_does 57 = .ok (.iload_n 2, 1) := by decide +kernel
theorem dX5_does_58 : decode cX5_does 58 = .ok (.iaload, 1) := by decide +kernel
theorem dX5_does_59 : decode cX5_does 59 = .ok (.iastore, 1) := by decide +kernel
theorem dX5_does_60 : decode cX5_does 60 = .ok (.iinc 2 1, 3) := by decide +kernel
theorem dX5_does_63 : decode cX5_does 63 = .ok (.goto (-21), 3) := by decide +kernel
theorem dX5_does_66 : decode cX5_does 66 = .ok (.sipush (-1000), 3) := by decide +kernel
theorem dX5_does_69 : decode cX5_does 69 = .ok (.iload_n 1, 1) := by decide +kernel
theorem dX5_does_70 : decode cX5_does 70 = .ok (.isub, 1) := by decide +kernel
theorem dX5_does_71 : decode cX5_does 71 = .ok (.ireturn, 1) := by decide +kernel
theorem dX5_does_72 : decode cX5_does 72 = .ok (.iinc 1 1, 3) := by decide +kernel
theorem dX5_does_75 : decode cX5_does 75 = .ok (.goto (-54), 3) := by decide +kernel
theorem dX5_does_78 : decode cX5_does 78 = .ok (.aload_n 0, 1) := by decide +kernel
theorem dX5_does_79 : decode cX5_does 79 = .ok (.invokevirtual 39, 3) := by decide +kernel
theorem dX5_does_82 : decode cX5_does 82 = .ok (.aload_n 0, 1) := by decide +kernel
theorem dX5_does_83 : decode cX5_does 83 = .ok (.getfield 230, 3) := by decide +kernel
theorem dX5_does_86 : decode cX5_does 86 = .ok (.ireturn, 1) := by decide +kernel
theorem dX5_toldOf_0 : decode cX5_toldOf 0 = .ok (.iload_n 1, 1) := by decide +kernel
theorem dX5_toldOf_1 : decode cX5_toldOf 1 = .ok (.iconst 3, 1) := by decide +kernel
theorem dX5_toldOf_2 : decode cX5_toldOf 2 = .ok (.if_icmp .ge 12, 3) := by decide +kernel
theorem dX5_toldOf_5 : decode cX5_toldOf 5 = .ok (.aload_n 0, 1) := by decide +kernel
theorem dX5_toldOf_6 : decode cX5_toldOf 6 = .ok (.getfield 19, 3) := by decide +kernel
theorem dX5_toldOf_9 : decode cX5_toldOf 9 = .ok (.iload_n 1, 1) := by decide +kernel
theorem dX5_toldOf_10 : decode cX5_toldOf 10 = .ok (.iaload, 1) := by decide +kernel
theorem dX5_toldOf_11 : decode cX5_toldOf 11 = .ok (.goto 19, 3) := by decide +kernel
theorem dX5_toldOf_14 : decode cX5_toldOf 14 = .ok (.iload_n 1, 1) := by decide +kernel
theorem dX5_toldOf_15 : decode cX5_toldOf 15 = .ok (.iconst 3, 1) := by decide +kernel
theorem dX5_toldOf_16 : decode cX5_toldOf 16 = .ok (.if_icmp .ne 10, 3) := by decide +kernel
theorem dX5_toldOf_19 : decode cX5_toldOf 19 = .ok (.aload_n 0, 1) := by decide +kernel
theorem dX5_toldOf_20 : decode cX5_toldOf 20 = .ok (.getfield 209, 3) := by decide +kernel
theorem dX5_toldOf_23 : decode cX5_toldOf 23 = .ok (.goto 7, 3) := by decide +kernel
theorem dX5_toldOf_26 : decode cX5_toldOf 26 = .ok (.aload_n 0, 1) := by decide +kernel
theorem dX5_toldOf_27 : decode cX5_toldOf 27 = .ok (.getfield 31, 3) := by decide +kernel
theorem dX5_toldOf_30 : decode cX5_toldOf 30 = .ok (.ireturn, 1) := by decide +kernel
set_option maxRecDepth 20000 in
theorem ggX5_told_X5_in : GoodIn wsX5_told wsX5_in := goodIn_r _ [4] (by decide +kernel) (by decide +kernel)
set_option maxRecDepth 20000 in
theorem gX5_told_X5_in : GoodIn wsX5_told (va_wsS RX5 42 yX5_in wsX5_in) := goodIn_app (goodIn_of _ (by decide +kernel)) ggX5_told_X5_in
set_option maxRecDepth 20000 in
theorem ggX5_told_X5_toldOf : GoodIn wsX5_told wsX5_toldOf := goodIn_r _ [8, 9, 10, 11, 16, 17, 18, 19, 20, 21, 22, 23, 24, 25, 26, 27, 28, 29, 30, 31, 32, 33, 34, 35, 36] (by decide +kernel) (by decide +kernel)
set_option maxRecDepth 20000 in
theorem gX5_told_X5_toldOf : GoodIn wsX5_told (wsV RX5 246 RX5 yX5_toldOf wsX5_toldOf) := goodIn_app (goodIn_of _ (by decide +kernel)) ggX5_told_X5_toldOf
set_option maxRecDepth 20000 in
theorem ggX5_told_X5_refuses : GoodIn wsX5_told wsX5_refuses := goodIn_r _ [15, 9, 16, 17, 18, 19, 20, 21, 22, 23, 24, 25, 26, 27, 28, 29, 30, 31, 32, 33, 34, 35, 36] (by decide +kernel) (by decide +kernel)
set_option maxRecDepth 20000 in
theorem gX5_told_X5_refuses : GoodIn wsX5_told (wsV RX5 35 RX5 yX5_refuses wsX5_refuses) := goodIn_app (goodIn_of _ (by decide +kernel)) ggX5_told_X5_refuses
theorem dX5_told_0 : decode cX5_told 0 = .ok (.iload_n 1, 1) := by decide +kernel
theorem dX5_told_1 : decode cX5_told 1 = .ok (.iconst 0, 1) := by decide +kernel
theorem dX5_told_2 : decode cX5_told 2 = .ok (.iconst 4, 1) := by decide +kernel
theorem dX5_told_3 : decode cX5_told 3 = .ok (.invokestatic 42, 3) := by decide +kernel
theorem dX5_told_6 : decode cX5_told 6 = .ok (.ifCond .eq 11, 3) := by decide +kernel
theorem dX5_told_9 : decode cX5_told 9 = .ok (.aload_n 0, 1) := by decide +kernel
theorem dX5_told_10 : decode cX5_told 10 = .ok (.iload_n 1, 1) := by decide +kernel
theorem dX5_told_11 : decode cX5_told 11 = .ok (.invokevirtual 246, 3) := by decide +kernel
theorem dX5_told_14 : decode cX5_told 14 = .ok (.goto 10, 3) := by decide +kernel
theorem dX5_told_17 : decode cX5_told 17 = .ok (.aload_n 0, 1) := by decide +kernel
