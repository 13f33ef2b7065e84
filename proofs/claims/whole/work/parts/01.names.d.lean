theorem dX1_worstOther_54 : decode cX1_worstOther 54 = .ok (.getfield 18, 3) := by decide +kernel
theorem dX1_worstOther_57 : decode cX1_worstOther 57 = .ok (.invokevirtual 123, 3) := by decide +kernel
theorem dX1_worstOther_60 : decode cX1_worstOther 60 = .ok (.iinc 2 1, 3) := by decide +kernel
theorem dX1_worstOther_63 : decode cX1_worstOther 63 = .ok (.goto (-57), 3) := by decide +kernel
theorem dX1_worstOther_66 : decode cX1_worstOther 66 = .ok (.iload_n 1, 1) := by decide +kernel
theorem dX1_worstOther_67 : decode cX1_worstOther 67 = .ok (.ireturn, 1) := by decide +kernel
set_option maxRecDepth 20000 in
theorem ggX1_isClear_X1_wouldRisk : GoodIn wsX1_isClear wsX1_wouldRisk := goodIn_r _ [6, 7, 1, 8, 9, 10, 5, 11, 12, 13, 14, 15, 16, 17, 18, 19, 20, 21, 22, 23, 24, 25, 26, 27, 28, 29, 30, 31, 32, 33] (by decide +kernel) (by decide +kernel)
set_option maxRecDepth 20000 in
theorem gX1_isClear_X1_wouldRisk : GoodIn wsX1_isClear (wsV RX1 127 RX1 yX1_wouldRisk wsX1_wouldRisk) := goodIn_app (goodIn_of _ (by decide +kernel)) ggX1_isClear_X1_wouldRisk
theorem dX1_isClear_0 : decode cX1_isClear 0 = .ok (.iconst 0, 1) := by decide +kernel
theorem dX1_isClear_1 : decode cX1_isClear 1 = .ok (.istore 4, 2) := by decide +kernel
theorem dX1_isClear_3 : decode cX1_isClear 3 = .ok (.iload 4, 2) := by decide +kernel
theorem dX1_isClear_5 : decode cX1_isClear 5 = .ok (.aload_n 0, 1) := by decide +kernel
theorem dX1_isClear_6 : decode cX1_isClear 6 = .ok (.getfield 11, 3) := by decide +kernel
theorem dX1_isClear_9 : decode cX1_isClear 9 = .ok (.bipush 35, 2) := by decide +kernel
theorem dX1_isClear_11 : decode cX1_isClear 11 = .ok (.iaload, 1) := by decide +kernel
theorem dX1_isClear_12 : decode cX1_isClear 12 = .ok (.if_icmp .gt 29, 3) := by decide +kernel
theorem dX1_isClear_15 : decode cX1_isClear 15 = .ok (.iload 4, 2) := by decide +kernel
theorem dX1_isClear_17 : decode cX1_isClear 17 = .ok (.iload_n 1, 1) := by decide +kernel
theorem dX1_isClear_18 : decode cX1_isClear 18 = .ok (.if_icmp .eq 17, 3) := by decide +kernel
theorem dX1_isClear_21 : decode cX1_isClear 21 = .ok (.aload_n 0, 1) := by decide +kernel
theorem dX1_isClear_22 : decode cX1_isClear 22 = .ok (.iload_n 1, 1) := by decide +kernel
theorem dX1_isClear_23 : decode cX1_isClear 23 = .ok (.iload_n 2, 1) := by decide +kernel
theorem dX1_isClear_24 : decode cX1_isClear 24 = .ok (.iload_n 3, 1) := by decide +kernel
theorem dX1_isClear_25 : decode cX1_isClear 25 = .ok (.iload 4, 2) := by decide +kernel
theorem dX1_isClear_27 : decode cX1_isClear 27 = .ok (.invokevirtual 127, 3) := by decide +kernel
theorem dX1_isClear_30 : decode cX1_isClear 30 = .ok (.ifCond .eq 5, 3) := by decide +kernel
theorem dX1_isClear_33 : decode cX1_isClear 33 = .ok (.iconst 0, 1) := by decide +kernel
theorem dX1_isClear_34 : decode cX1_isClear 34 = .ok (.ireturn, 1) := by decide +kernel
theorem dX1_isClear_35 : decode cX1_isClear 35 = .ok (.iinc 4 1, 3) := by decide +kernel
theorem dX1_isClear_38 : decode cX1_isClear 38 = .ok (.goto (-35), 3) := by decide +kernel
theorem dX1_isClear_41 : decode cX1_isClear 41 = .ok (.iconst 1, 1) := by decide +kernel
theorem dX1_isClear_42 : decode cX1_isClear 42 = .ok (.ireturn, 1) := by decide +kernel
set_option maxRecDepth 20000 in
theorem ggX1_blockedBy_X1_wouldRisk : GoodIn wsX1_blockedBy wsX1_wouldRisk := goodIn_r _ [6, 7, 1, 8, 9, 10, 5, 11, 12, 13, 14, 15, 16, 17, 18, 19, 20, 21, 22, 23, 24, 25, 26, 27, 28, 29, 30, 31, 32, 33] (by decide +kernel) (by decide +kernel)
set_option maxRecDepth 20000 in
theorem gX1_blockedBy_X1_wouldRisk : GoodIn wsX1_blockedBy (wsV RX1 127 RX1 yX1_wouldRisk wsX1_wouldRisk) := goodIn_app (goodIn_of _ (by decide +kernel)) ggX1_blockedBy_X1_wouldRisk
theorem dX1_blockedBy_0 : decode cX1_blockedBy 0 = .ok (.iconst 0, 1) := by decide +kernel
theorem dX1_blockedBy_1 : decode cX1_blockedBy 1 = .ok (.istore_n 2, 1) := by decide +kernel
theorem dX1_blockedBy_2 : decode cX1_blockedBy 2 = .ok (.iconst 0, 1) := by decide +kernel
theorem dX1_blockedBy_3 : decode cX1_blockedBy 3 = .ok (.istore_n 3, 1) := by decide +kernel
theorem dX1_blockedBy_4 : decode cX1_blockedBy 4 = .ok (.iload_n 3, 1) := by decide +kernel
theorem dX1_blockedBy_5 : decode cX1_blockedBy 5 = .ok (.bipush 16, 2) := by decide +kernel
theorem dX1_blockedBy_7 : decode cX1_blockedBy 7 = .ok (.if_icmp .ge 31, 3) := by decide +kernel
theorem dX1_blockedBy_10 : decode cX1_blockedBy 10 = .ok (.aload_n 0, 1) := by decide +kernel
theorem dX1_blockedBy_11 : decode cX1_blockedBy 11 = .ok (.iconst 0, 1) := by decide +kernel
theorem dX1_blockedBy_12 : decode cX1_blockedBy 12 = .ok (.iload_n 3, 1) := by decide +kernel
theorem dX1_blockedBy_13 : decode cX1_blockedBy 13 = .ok (.aload_n 0, 1) := by decide +kernel
theorem dX1_blockedBy_14 : decode cX1_blockedBy 14 = .ok (.getfield 11, 3) := by decide +kernel
theorem dX1_blockedBy_17 : decode cX1_blockedBy 17 = .ok (.iconst 3, 1) := by decide +kernel
theorem dX1_blockedBy_18 : decode cX1_blockedBy 18 = .ok (.iaload, 1) := by decide +kernel
theorem dX1_blockedBy_19 : decode cX1_blockedBy 19 = .ok (.iload_n 1, 1) := by decide +kernel
theorem dX1_blockedBy_20 : decode cX1_blockedBy 20 = .ok (.invokevirtual 127, 3) := by decide +kernel
theorem dX1_blockedBy_23 : decode cX1_blockedBy 23 = .ok (.ifCond .eq 9, 3) := by decide +kernel
theorem dX1_blockedBy_26 : decode cX1_blockedBy 26 = .ok (.iload_n 2, 1) := by decide +kernel
theorem dX1_blockedBy_27 : decode cX1_blockedBy 27 = .ok (.iconst 1, 1) := by decide +kernel
theorem dX1_blockedBy_28 : decode cX1_blockedBy 28 = .ok (.iload_n 3, 1) := by decide +kernel
theorem dX1_blockedBy_29 : decode cX1_blockedBy 29 = .ok (.ishl, 1) := by decide +kernel
theorem dX1_blockedBy_30 : decode cX1_blockedBy 30 = .ok (.ior, 1) := by decide +kernel
theorem dX1_blockedBy_31 : decode cX1_blockedBy 31 = .ok (.istore_n 2, 1) := by decide +kernel
theorem dX1_blockedBy_32 : decode cX1_blockedBy 32 = .ok (.iinc 3 1, 3) := by decide +kernel
theorem dX1_blockedBy_35 : decode cX1_blockedBy 35 = .ok (.goto (-31), 3) := by decide +kernel
theorem dX1_blockedBy_38 : decode cX1_blockedBy 38 = .ok (.iload_n 2, 1) := by decide +kernel
theorem dX1_blockedBy_39 : decode cX1_blockedBy 39 = .ok (.ireturn, 1) := by decide +kernel
set_option maxRecDepth 20000 in
theorem ggX1_adviceFor_X1_mustGiveWay : GoodIn wsX1_adviceFor wsX1_mustGiveWay := goodIn_r _ [6, 1, 7, 8, 9, 5, 10, 11, 12, 13, 14, 15, 16, 17, 18, 19, 20, 21, 22, 23, 24, 25, 26, 27, 28, 29, 30, 31, 32, 33, 34, 35, 36, 37, 38, 39, 40, 41, 42, 43, 44, 45, 46, 59, 60, 61, 62, 63, 64, 65] (by decide +kernel) (by decide +kernel)
set_option maxRecDepth 20000 in
theorem gX1_adviceFor_X1_mustGiveWay : GoodIn wsX1_adviceFor (wsV RX1 131 RX1 yX1_mustGiveWay wsX1_mustGiveWay) := goodIn_app (goodIn_of _ (by decide +kernel)) ggX1_adviceFor_X1_mustGiveWay
set_option maxRecDepth 20000 in
theorem ggX1_adviceFor_X1_turnFor : GoodIn wsX1_adviceFor wsX1_turnFor := goodIn_r _ [50, 1, 51, 52, 53, 5, 54, 55, 56, 57, 58, 19, 20, 21, 22, 23, 24, 25, 26, 27, 28, 29, 30, 31, 32, 33, 34, 35, 36, 37, 38, 59, 60, 61, 62, 63, 64, 65] (by decide +kernel) (by decide +kernel)
set_option maxRecDepth 20000 in
theorem gX1_adviceFor_X1_turnFor : GoodIn wsX1_adviceFor (wsV RX1 134 RX1 yX1_turnFor wsX1_turnFor) := goodIn_app (goodIn_of _ (by decide +kernel)) ggX1_adviceFor_X1_turnFor
theorem dX1_adviceFor_0 : decode cX1_adviceFor 0 = .ok (.aload_n 0, 1) := by decide +kernel
theorem dX1_adviceFor_1 : decode cX1_adviceFor 1 = .ok (.iload_n 1, 1) := by decide +kernel
theorem dX1_adviceFor_2 : decode cX1_adviceFor 2 = .ok (.invokevirtual 131, 3) := by decide +kernel
theorem dX1_adviceFor_5 : decode cX1_adviceFor 5 = .ok (.ifCond .eq 11, 3) := by decide +kernel
theorem dX1_adviceFor_8 : decode cX1_adviceFor 8 = .ok (.aload_n 0, 1) := by decide +kernel
theorem dX1_adviceFor_9 : decode cX1_adviceFor 9 = .ok (.iload_n 1, 1) := by decide +kernel
theorem dX1_adviceFor_10 : decode cX1_adviceFor 10 = .ok (.invokevirtual 134, 3) := by decide +kernel
theorem dX1_adviceFor_13 : decode cX1_adviceFor 13 = .ok (.goto 13, 3) := by decide +kernel
theorem dX1_adviceFor_16 : decode cX1_adviceFor 16 = .ok (.aload_n 0, 1) := by decide +kernel
theorem dX1_adviceFor_17 : decode cX1_adviceFor 17 = .ok (.getfield 11, 3) := by decide +kernel
theorem dX1_adviceFor_20 : decode cX1_adviceFor 20 = .ok (.iconst 5, 1) := by decide +kernel
theorem dX1_adviceFor_21 : decode cX1_adviceFor 21 = .ok (.iload_n 1, 1) := by decide +kernel
theorem dX1_adviceFor_22 : decode cX1_adviceFor 22 = .ok (.imul, 1) := by decide +kernel
theorem dX1_adviceFor_23 : decode cX1_adviceFor 23 = .ok (.iconst 2, 1) := by decide +kernel
theorem dX1_adviceFor_24 : decode cX1_adviceFor 24 = .ok (.iadd, 1) := by decide +kernel
theorem dX1_adviceFor_25 : decode cX1_adviceFor 25 = .ok (.iaload, 1) := by decide +kernel
theorem dX1_adviceFor_26 : decode cX1_adviceFor 26 = .ok (.ireturn, 1) := by decide +kernel
set_option maxRecDepth 20000 in
theorem ggX1_mustGiveWay_X1_givenWay : GoodIn wsX1_mustGiveWay wsX1_givenWay := goodIn_r _ [6, 1, 43, 44, 45] (by decide +kernel) (by decide +kernel)
set_option maxRecDepth 20000 in
theorem gX1_mustGiveWay_X1_givenWay : GoodIn wsX1_mustGiveWay (wsV RX1 71 RX1 yX1_givenWay wsX1_givenWay) := goodIn_app (goodIn_of _ (by decide +kernel)) ggX1_mustGiveWay_X1_givenWay
set_option maxRecDepth 20000 in
theorem ggX1_mustGiveWay_X1_tableOf : GoodIn wsX1_mustGiveWay wsX1_tableOf := goodIn_r _ [10, 11, 12, 13, 5, 14, 1, 15, 16, 17, 18, 19, 20, 21, 22, 23, 24, 25, 26, 27, 28, 29, 30, 31, 32, 33, 34, 35, 36, 37, 38, 39, 40, 41, 42, 43, 44, 45, 46, 47, 48, 49] (by decide +kernel) (by decide +kernel)
set_option maxRecDepth 20000 in
theorem gX1_mustGiveWay_X1_tableOf : GoodIn wsX1_mustGiveWay (wsV RX1 75 RX1 yX1_tableOf wsX1_tableOf) := goodIn_app (goodIn_of _ (by decide +kernel)) ggX1_mustGiveWay_X1_tableOf
theorem dX1_mustGiveWay_0 : decode cX1_mustGiveWay 0 = .ok (.iload_n 1, 1) := by decide +kernel
theorem dX1_mustGiveWay_1 : decode cX1_mustGiveWay 1 = .ok (.ifCond .ne 16, 3) := by decide +kernel
theorem dX1_mustGiveWay_4 : decode cX1_mustGiveWay 4 = .ok (.aload_n 0, 1) := by decide +kernel
theorem dX1_mustGiveWay_5 : decode cX1_mustGiveWay 5 = .ok (.invokevirtual 71, 3) := by decide +kernel
theorem dX1_mustGiveWay_8 : decode cX1_mustGiveWay 8 = .ok (.ifCond .eq 7, 3) := by decide +kernel
theorem dX1_mustGiveWay_11 : decode cX1_mustGiveWay 11 = .ok (.iconst 1, 1) := by decide +kernel
theorem dX1_mustGiveWay_12 : decode cX1_mustGiveWay 12 = .ok (.goto 4, 3) := by decide +kernel
theorem dX1_mustGiveWay_15 : decode cX1_mustGiveWay 15 = .ok (.iconst 0, 1) := by decide +kernel
theorem dX1_mustGiveWay_16 : decode cX1_mustGiveWay 16 = .ok (.ireturn, 1) := by decide +kernel
theorem dX1_mustGiveWay_17 : decode cX1_mustGiveWay 17 = .ok (.iconst 0, 1) := by decide +kernel
theorem dX1_mustGiveWay_18 : decode cX1_mustGiveWay 18 = .ok (.istore_n 2, 1) := by decide +kernel
theorem dX1_mustGiveWay_19 : decode cX1_mustGiveWay 19 = .ok (.iload_n 2, 1) := by decide +kernel
theorem dX1_mustGiveWay_20 : decode cX1_mustGiveWay 20 = .ok (.aload_n 0, 1) := by decide +kernel
theorem dX1_mustGiveWay_21 : decode cX1_mustGiveWay 21 = .ok (.getfield 11, 3) := by decide +kernel
theorem dX1_mustGiveWay_24 : decode cX1_mustGiveWay 24 = .ok (.bipush 35, 2) := by decide +kernel
theorem dX1_mustGiveWay_26 : decode cX1_mustGiveWay 26 = .ok (.iaload, 1) := by decide +kernel
theorem dX1_mustGiveWay_27 : decode cX1_mustGiveWay 27 = .ok (.if_icmp .gt 26, 3) := by decide +kernel
theorem dX1_mustGiveWay_30 : decode cX1_mustGiveWay 30 = .ok (.iload_n 2, 1) := by decide +kernel
theorem dX1_mustGiveWay_31 : decode cX1_mustGiveWay 31 = .ok (.iload_n 1, 1) := by decide +kernel
theorem dX1_mustGiveWay_32 : decode cX1_mustGiveWay 32 = .ok (.if_icmp .eq 15, 3) := by decide +kernel
theorem dX1_mustGiveWay_35 : decode cX1_mustGiveWay 35 = .ok (.aload_n 0, 1) := by decide +kernel
theorem dX1_mustGiveWay_36 : decode cX1_mustGiveWay 36 = .ok (.iload_n 1, 1) := by decide +kernel
theorem dX1_mustGiveWay_37 : decode cX1_mustGiveWay 37 = .ok (.iload_n 2, 1) := by decide +kernel
theorem dX1_mustGiveWay_38 : decode cX1_mustGiveWay 38 = .ok (.invokevirtual 75, 3) := by decide +kernel
theorem dX1_mustGiveWay_41 : decode cX1_mustGiveWay 41 = .ok (.iconst 1, 1) := by decide +kernel
theorem dX1_mustGiveWay_42 : decode cX1_mustGiveWay 42 = .ok (.if_icmp .ne 5, 3) := by decide +kernel
theorem dX1_mustGiveWay_45 : decode cX1_mustGiveWay 45 = .ok (.iconst 1, 1) := by decide +kernel
theorem dX1_mustGiveWay_46 : decode cX1_mustGiveWay 46 = .ok (.ireturn, 1) := by decide +kernel
theorem dX1_mustGiveWay_47 : decode cX1_mustGiveWay 47 = .ok (.iinc 2 1, 3) := by decide +kernel
theorem dX1_mustGiveWay_50 : decode cX1_mustGiveWay 50 = .ok (.goto (-31), 3) := by decide +kernel
theorem dX1_mustGiveWay_53 : decode cX1_mustGiveWay 53 = .ok (.iconst 0, 1) := by decide +kernel
theorem dX1_mustGiveWay_54 : decode cX1_mustGiveWay 54 = .ok (.ireturn, 1) := by decide +kernel
set_option maxRecDepth 20000 in
theorem ggX1_turnFor_X1_isClear : GoodIn wsX1_turnFor wsX1_isClear := goodIn_r _ [6, 1, 7, 8, 9, 5, 10, 11, 12, 13, 14, 15, 16, 17, 18, 19, 20, 21, 22, 23, 24, 25, 26, 27, 28, 29, 30, 31, 32, 33, 34, 35, 36, 37] (by decide +kernel) (by decide +kernel)
set_option maxRecDepth 20000 in
theorem gX1_turnFor_X1_isClear : GoodIn wsX1_turnFor (wsV RX1 137 RX1 yX1_isClear wsX1_isClear) := goodIn_app (goodIn_of _ (by decide +kernel)) ggX1_turnFor_X1_isClear
theorem dX1_turnFor_0 : decode cX1_turnFor 0 = .ok (.aload_n 0, 1) := by decide +kernel
theorem dX1_turnFor_1 : decode cX1_turnFor 1 = .ok (.getfield 11, 3) := by decide +kernel
theorem dX1_turnFor_4 : decode cX1_turnFor 4 = .ok (.iconst 5, 1) := by decide +kernel
theorem dX1_turnFor_5 : decode cX1_turnFor 5 = .ok (.iload_n 1, 1) := by decide +kernel
theorem dX1_turnFor_6 : decode cX1_turnFor 6 = .ok (.imul, 1) := by decide +kernel
theorem dX1_turnFor_7 : decode cX1_turnFor 7 = .ok (.iconst 2, 1) := by decide +kernel
theorem dX1_turnFor_8 : decode cX1_turnFor 8 = .ok (.iadd, 1) := by decide +kernel
theorem dX1_turnFor_9 : decode cX1_turnFor 9 = .ok (.iaload, 1) := by decide +kernel
theorem dX1_turnFor_10 : decode cX1_turnFor 10 = .ok (.istore_n 2, 1) := by decide +kernel
theorem dX1_turnFor_11 : decode cX1_turnFor 11 = .ok (.aload_n 0, 1) := by decide +kernel
theorem dX1_turnFor_12 : decode cX1_turnFor 12 = .ok (.getfield 11, 3) := by decide +kernel
theorem dX1_turnFor_15 : decode cX1_turnFor 15 = .ok (.iconst 5, 1) := by decide +kernel
theorem dX1_turnFor_16 : decode cX1_turnFor 16 = .ok (.iload_n 1, 1) := by decide +kernel
theorem dX1_turnFor_17 : decode cX1_turnFor 17 = .ok (.imul, 1) := by decide +kernel
theorem dX1_turnFor_18 : decode cX1_turnFor 18 = .ok (.iconst 3, 1) := by decide +kernel
theorem dX1_turnFor_19 : decode cX1_turnFor 19 = .ok (.iadd, 1) := by decide +kernel
theorem dX1_turnFor_20 : decode cX1_turnFor 20 = .ok (.iaload, 1) := by decide +kernel
theorem dX1_turnFor_21 : decode cX1_turnFor 21 = .ok (.istore_n 3, 1) := by decide +kernel
theorem dX1_turnFor_22 : decode cX1_turnFor 22 = .ok (.iconst 1, 1) := by decide +kernel
theorem dX1_turnFor_23 : decode cX1_turnFor 23 = .ok (.istore 4, 2) := by decide +kernel
theorem dX1_turnFor_25 : decode cX1_turnFor 25 = .ok (.iload 4, 2) := by decide +kernel
theorem dX1_turnFor_27 : decode cX1_turnFor 27 = .ok (.bipush 8, 2) := by decide +kernel
theorem dX1_turnFor_29 : decode cX1_turnFor 29 = .ok (.if_icmp .gt 32, 3) := by decide +kernel
theorem dX1_turnFor_32 : decode cX1_turnFor 32 = .ok (.iload_n 2, 1) := by decide +kernel
theorem dX1_turnFor_33 : decode cX1_turnFor 33 = .ok (.iload 4, 2) := by decide +kernel
theorem dX1_turnFor_35 : decode cX1_turnFor 35 = .ok (.iadd, 1) := by decide +kernel
theorem dX1_turnFor_36 : decode cX1_turnFor 36 = .ok (.bipush 15, 2) := by decide +kernel
theorem dX1_turnFor_38 : decode cX1_turnFor 38 = .ok (.iand, 1) := by decide +kernel
theorem dX1_turnFor_39 : decode cX1_turnFor 39 = .ok (.istore 5, 2) := by decide +kernel
theorem dX1_turnFor_41 : decode cX1_turnFor 41 = .ok (.aload_n 0, 1) := by decide +kernel
theorem dX1_turnFor_42 : decode cX1_turnFor 42 = .ok (.iload_n 1, 1) := by decide +kernel
theorem dX1_turnFor_43 : decode cX1_turnFor 43 = .ok (.iload 5, 2) := by decide +kernel
theorem dX1_turnFor_45 : decode cX1_turnFor 45 = .ok (.iload_n 3, 1) := by decide +kernel
theorem dX1_turnFor_46 : decode cX1_turnFor 46 = .ok (.invokevirtual 137, 3) := by decide +kernel
theorem dX1_turnFor_49 : decode cX1_turnFor 49 = .ok (.ifCond .eq 6, 3) := by decide +kernel
theorem dX1_turnFor_52 : decode cX1_turnFor 52 = .ok (.iload 5, 2) := by decide +kernel
theorem dX1_turnFor_54 : decode cX1_turnFor 54 = .ok (.ireturn, 1) := by decide +kernel
theorem dX1_turnFor_55 : decode cX1_turnFor 55 = .ok (.iinc 4 1, 3) := by decide +kernel
theorem dX1_turnFor_58 : decode cX1_turnFor 58 = .ok (.goto (-33), 3) := by decide +kernel
theorem dX1_turnFor_61 : decode cX1_turnFor 61 = .ok (.iconst 1, 1) := by decide +kernel
theorem dX1_turnFor_62 : decode cX1_turnFor 62 = .ok (.istore 4, 2) := by decide +kernel
theorem dX1_turnFor_64 : decode cX1_turnFor 64 = .ok (.iload 4, 2) := by decide +kernel
theorem dX1_turnFor_66 : decode cX1_turnFor 66 = .ok (.bipush 7, 2) := by decide +kernel
theorem dX1_turnFor_68 : decode cX1_turnFor 68 = .ok (.if_icmp .gt 32, 3) := by decide +kernel
theorem dX1_turnFor_71 : decode cX1_turnFor 71 = .ok (.iload_n 2, 1) := by decide +kernel
theorem dX1_turnFor_72 : decode cX1_turnFor 72 = .ok (.iload 4, 2) := by decide +kernel
theorem dX1_turnFor_74 : decode cX1_turnFor 74 = .ok (.isub, 1) := by decide +kernel
theorem dX1_turnFor_75 : decode cX1_turnFor 75 = .ok (.bipush 15, 2) := by decide +kernel
theorem dX1_turnFor_77 : decode cX1_turnFor 77 = .ok (.iand, 1) := by decide +kernel
theorem dX1_turnFor_78 : decode cX1_turnFor 78 = .ok (.istore 5, 2) := by decide +kernel
theorem dX1_turnFor_80 : decode cX1_turnFor 80 = .ok (.aload_n 0, 1) := by decide +kernel
theorem dX1_turnFor_81 : decode cX1_turnFor 81 = .ok (.iload_n 1, 1) := by decide +kernel
theorem dX1_turnFor_82 : decode cX1_turnFor 82 = .ok (.iload 5, 2) := by decide +kernel
theorem dX1_turnFor_84 : decode cX1_turnFor 84 = .ok (.iload_n 3, 1) := by decide +kernel
theorem dX1_turnFor_85 : decode cX1_turnFor 85 = .ok (.invokevirtual 137, 3) := by decide +kernel
theorem dX1_turnFor_88 : decode cX1_turnFor 88 = .ok (.ifCond .eq 6, 3) := by decide +kernel
theorem dX1_turnFor_91 : decode cX1_turnFor 91 = .ok (.iload 5, 2) := by decide +kernel
theorem dX1_turnFor_93 : decode cX1_turnFor 93 = .ok (.ireturn, 1) := by decide +kernel
theorem dX1_turnFor_94 : decode cX1_turnFor 94 = .ok (.iinc 4 1, 3) := by decide +kernel
theorem dX1_turnFor_97 : decode cX1_turnFor 97 = .ok (.goto (-33), 3) := by decide +kernel
theorem dX1_turnFor_100 : decode cX1_turnFor 100 = .ok (.aload_n 0, 1) := by decide +kernel
theorem dX1_turnFor_101 : decode cX1_turnFor 101 = .ok (.iload_n 1, 1) := by decide +kernel
theorem dX1_turnFor_102 : decode cX1_turnFor 102 = .ok (.iload_n 2, 1) := by decide +kernel
theorem dX1_turnFor_103 : decode cX1_turnFor 103 = .ok (.iconst 0, 1) := by decide +kernel
theorem dX1_turnFor_104 : decode cX1_turnFor 104 = .ok (.invokevirtual 137, 3) := by decide +kernel
theorem dX1_turnFor_107 : decode cX1_turnFor 107 = .ok (.ifCond .eq 8, 3) := by decide +kernel
theorem dX1_turnFor_110 : decode cX1_turnFor 110 = .ok (.bipush 16, 2) := by decide +kernel
theorem dX1_turnFor_112 : decode cX1_turnFor 112 = .ok (.goto 5, 3) := by decide +kernel
theorem dX1_turnFor_115 : decode cX1_turnFor 115 = .ok (.bipush 17, 2) := by decide +kernel
theorem dX1_turnFor_117 : decode cX1_turnFor 117 = .ok (.ireturn, 1) := by decide +kernel
set_option maxRecDepth 20000 in
theorem ggX1_foldShip_X1_partOf : GoodIn wsX1_foldShip wsX1_partOf := goodIn_r _ [6, 7, 8, 9, 10, 5, 11, 12, 13, 14, 15, 16, 17, 76, 77, 78] (by decide +kernel) (by decide +kernel)
set_option maxRecDepth 20000 in
theorem gX1_foldShip_X1_partOf : GoodIn wsX1_foldShip (wsV RX1 143 RX1 yX1_partOf wsX1_partOf) := goodIn_app (goodIn_of _ (by decide +kernel)) ggX1_foldShip_X1_partOf
set_option maxRecDepth 20000 in
theorem ggX1_foldShip_X1_adviceFor : GoodIn wsX1_foldShip wsX1_adviceFor := goodIn_r _ [21, 7, 22, 23, 24, 5, 25, 26, 27, 28, 29, 30, 31, 32, 33, 34, 35, 36, 37, 38, 39, 40, 41, 42, 12, 17, 43, 44, 45, 46, 47, 48, 49, 50, 51, 52, 53, 54, 55, 56, 57, 58, 59, 60, 61, 62, 63, 64, 65, 66, 67, 68, 69, 70, 71, 72, 73, 74, 75, 76, 77, 78, 79, 80, 81, 82] (by decide +kernel) (by decide +kernel)
set_option maxRecDepth 20000 in
theorem gX1_foldShip_X1_adviceFor : GoodIn wsX1_foldShip (wsV RX1 146 RX1 yX1_adviceFor wsX1_adviceFor) := goodIn_app (goodIn_of _ (by decide +kernel)) ggX1_foldShip_X1_adviceFor
theorem dX1_foldShip_0 : decode cX1_foldShip 0 = .ok (.iconst 0, 1) := by decide +kernel
theorem dX1_foldShip_1 : decode cX1_foldShip 1 = .ok (.istore 4, 2) := by decide +kernel
theorem dX1_foldShip_3 : decode cX1_foldShip 3 = .ok (.iload 4, 2) := by decide +kernel
theorem dX1_foldShip_5 : decode cX1_foldShip 5 = .ok (.iconst 3, 1) := by decide +kernel
theorem dX1_foldShip_6 : decode cX1_foldShip 6 = .ok (.if_icmp .gt 24, 3) := by decide +kernel
theorem dX1_foldShip_9 : decode cX1_foldShip 9 = .ok (.ldc2_w 141, 3) := by decide +kernel
theorem dX1_foldShip_12 : decode cX1_foldShip 12 = .ok (.lload_n 1, 1) := by decide +kernel
theorem dX1_foldShip_13 : decode cX1_foldShip 13 = .ok (.lmul, 1) := by decide +kernel
theorem dX1_foldShip_14 : decode cX1_foldShip 14 = .ok (.aload_n 0, 1) := by decide +kernel
theorem dX1_foldShip_15 : decode cX1_foldShip 15 = .ok (.iload_n 3, 1) := by decide +kernel
theorem dX1_foldShip_16 : decode cX1_foldShip 16 = .ok (.iload 4, 2) := by decide +kernel
theorem dX1_foldShip_18 : decode cX1_foldShip 18 = .ok (.invokevirtual 143, 3) := by decide +kernel
theorem dX1_foldShip_21 : decode cX1_foldShip 21 = .ok (.i2l, 1) := by decide +kernel
theorem dX1_foldShip_22 : decode cX1_foldShip 22 = .ok (.ladd, 1) := by decide +kernel
theorem dX1_foldShip_23 : decode cX1_foldShip 23 = .ok (.lstore_n 1, 1) := by decide +kernel
theorem dX1_foldShip_24 : decode cX1_foldShip 24 = .ok (.iinc 4 1, 3) := by decide +kernel
theorem dX1_foldShip_27 : decode cX1_foldShip 27 = .ok (.goto (-24), 3) := by decide +kernel
theorem dX1_foldShip_30 : decode cX1_foldShip 30 = .ok (.ldc2_w 141, 3) := by decide +kernel
theorem dX1_foldShip_33 : decode cX1_foldShip 33 = .ok (.lload_n 1, 1) := by decide +kernel
theorem dX1_foldShip_34 : decode cX1_foldShip 34 = .ok (.lmul, 1) := by decide +kernel
theorem dX1_foldShip_35 : decode cX1_foldShip 35 = .ok (.aload_n 0, 1) := by decide +kernel
theorem dX1_foldShip_36 : decode cX1_foldShip 36 = .ok (.iload_n 3, 1) := by decide +kernel
theorem dX1_foldShip_37 : decode cX1_foldShip 37 = .ok (.invokevirtual 146, 3) := by decide +kernel
theorem dX1_foldShip_40 : decode cX1_foldShip 40 = .ok (.i2l, 1) := by decide +kernel
theorem dX1_foldShip_41 : decode cX1_foldShip 41 = .ok (.ladd, 1) := by decide +kernel
theorem dX1_foldShip_42 : decode cX1_foldShip 42 = .ok (.lreturn, 1) := by decide +kernel
set_option maxRecDepth 20000 in
theorem ggX1_foldOther_X1_dutyTo : GoodIn wsX1_foldOther wsX1_dutyTo := goodIn_r _ [6, 7, 58, 59, 60] (by decide +kernel) (by decide +kernel)
set_option maxRecDepth 20000 in
theorem gX1_foldOther_X1_dutyTo : GoodIn wsX1_foldOther (wsV RX1 149 RX1 yX1_dutyTo wsX1_dutyTo) := goodIn_app (goodIn_of _ (by decide +kernel)) ggX1_foldOther_X1_dutyTo
set_option maxRecDepth 20000 in
theorem ggX1_foldOther_X1_approachOf : GoodIn wsX1_foldOther wsX1_approachOf := goodIn_r _ [11, 7, 12, 13, 14, 15, 5, 16, 17, 18, 19, 20, 21, 22, 58, 59, 60, 61, 62, 63, 64] (by decide +kernel) (by decide +kernel)
set_option maxRecDepth 20000 in
theorem gX1_foldOther_X1_approachOf : GoodIn wsX1_foldOther (wsV RX1 79 RX1 yX1_approachOf wsX1_approachOf) := goodIn_app (goodIn_of _ (by decide +kernel)) ggX1_foldOther_X1_approachOf
set_option maxRecDepth 20000 in
theorem ggX1_foldOther_X0_part : GoodIn wsX1_foldOther wsX0_part := goodIn_r _ [27, 28, 29, 30, 31, 32, 33, 26, 34, 35, 36, 37, 61, 62, 63, 64] (by decide +kernel) (by decide +kernel)
set_option maxRecDepth 20000 in
theorem gX1_foldOther_X0_part : GoodIn wsX1_foldOther (wsV RX1 152 RX0 yX0_part wsX0_part) := goodIn_app (goodIn_of _ (by decide +kernel)) ggX1_foldOther_X0_part
set_option maxRecDepth 20000 in
theorem ggX1_foldOther_X1_sectorOf : GoodIn wsX1_foldOther wsX1_sectorOf := goodIn_r _ [41, 17, 7, 18, 42, 43, 44, 45, 58, 59, 60] (by decide +kernel) (by decide +kernel)
set_option maxRecDepth 20000 in
theorem gX1_foldOther_X1_sectorOf : GoodIn wsX1_foldOther (wsV RX1 116 RX1 yX1_sectorOf wsX1_sectorOf) := goodIn_app (goodIn_of _ (by decide +kernel)) ggX1_foldOther_X1_sectorOf
set_option maxRecDepth 20000 in
theorem ggX1_foldOther_X1_blockedBy : GoodIn wsX1_foldOther wsX1_blockedBy := goodIn_r _ [49, 7, 50, 51, 52, 5, 53, 12, 13, 14, 15, 16, 17, 18, 19, 20, 21, 22, 54, 55, 56, 26, 57, 30, 31, 28, 29, 58, 59, 60, 61, 62, 63, 64] (by decide +kernel) (by decide +kernel)
set_option maxRecDepth 20000 in
theorem gX1_foldOther_X1_blockedBy : GoodIn wsX1_foldOther (wsV RX1 156 RX1 yX1_blockedBy wsX1_blockedBy) := goodIn_app (goodIn_of _ (by decide +kernel)) ggX1_foldOther_X1_blockedBy
theorem dX1_foldOther_0 : decode cX1_foldOther 0 = .ok (.ldc2_w 141, 3) := by decide +kernel
theorem dX1_foldOther_3 : decode cX1_foldOther 3 = .ok (.lload_n 1, 1) := by decide +kernel
theorem dX1_foldOther_4 : decode cX1_foldOther 4 = .ok (.lmul, 1) := by decide +kernel
theorem dX1_foldOther_5 : decode cX1_foldOther 5 = .ok (.aload_n 0, 1) := by decide +kernel
theorem dX1_foldOther_6 : decode cX1_foldOther 6 = .ok (.iload_n 3, 1) := by decide +kernel
theorem dX1_foldOther_7 : decode cX1_foldOther 7 = .ok (.invokevirtual 149, 3) := by decide +kernel
theorem dX1_foldOther_10 : decode cX1_foldOther 10 = .ok (.i2l, 1) := by decide +kernel
theorem dX1_foldOther_11 : decode cX1_foldOther 11 = .ok (.ladd, 1) := by decide +kernel
theorem dX1_foldOther_12 : decode cX1_foldOther 12 = .ok (.lstore_n 1, 1) := by decide +kernel
theorem dX1_foldOther_13 : decode cX1_foldOther 13 = .ok (.aload_n 0, 1) := by decide +kernel
theorem dX1_foldOther_14 : decode cX1_foldOther 14 = .ok (.iconst 0, 1) := by decide +kernel
theorem dX1_foldOther_15 : decode cX1_foldOther 15 = .ok (.iload_n 3, 1) := by decide +kernel
theorem dX1_foldOther_16 : decode cX1_foldOther 16 = .ok (.invokevirtual 79, 3) := by decide +kernel
theorem dX1_foldOther_19 : decode cX1_foldOther 19 = .ok (.astore 4, 2) := by decide +kernel
theorem dX1_foldOther_21 : decode cX1_foldOther 21 = .ok (.iconst 0, 1) := by decide +kernel
theorem dX1_foldOther_22 : decode cX1_foldOther 22 = .ok (.istore 5, 2) := by decide +kernel
theorem dX1_foldOther_24 : decode cX1_foldOther 24 = .ok (.iload 5, 2) := by decide +kernel
theorem dX1_foldOther_26 : decode cX1_foldOther 26 = .ok (.iconst 3, 1) := by decide +kernel
theorem dX1_foldOther_27 : decode cX1_foldOther 27 = .ok (.if_icmp .gt 23, 3) := by decide +kernel
theorem dX1_foldOther_30 : decode cX1_foldOther 30 = .ok (.ldc2_w 141, 3) := by decide +kernel
theorem dX1_foldOther_33 : decode cX1_foldOther 33 = .ok (.lload_n 1, 1) := by decide +kernel
theorem dX1_foldOther_34 : decode cX1_foldOther 34 = .ok (.lmul, 1) := by decide +kernel
theorem dX1_foldOther_35 : decode cX1_foldOther 35 = .ok (.aload 4, 2) := by decide +kernel
theorem dX1_foldOther_37 : decode cX1_foldOther 37 = .ok (.iload 5, 2) := by decide +kernel
theorem dX1_foldOther_39 : decode cX1_foldOther 39 = .ok (.invokevirtual 152, 3) := by decide +kernel
theorem dX1_foldOther_42 : decode cX1_foldOther 42 = .ok (.ladd, 1) := by decide +kernel
theorem dX1_foldOther_43 : decode cX1_foldOther 43 = .ok (.lstore_n 1, 1) := by decide +kernel
theorem dX1_foldOther_44 : decode cX1_foldOther 44 = .ok (.iinc 5 1, 3) := by decide +kernel
theorem dX1_foldOther_47 : decode cX1_foldOther 47 = .ok (.goto (-23), 3) := by decide +kernel
theorem dX1_foldOther_50 : decode cX1_foldOther 50 = .ok (.ldc2_w 141, 3) := by decide +kernel
theorem dX1_foldOther_53 : decode cX1_foldOther 53 = .ok (.lload_n 1, 1) := by decide +kernel
theorem dX1_foldOther_54 : decode cX1_foldOther 54 = .ok (.lmul, 1) := by decide +kernel
theorem dX1_foldOther_55 : decode cX1_foldOther 55 = .ok (.aload_n 0, 1) := by decide +kernel
theorem dX1_foldOther_56 : decode cX1_foldOther 56 = .ok (.iconst 0, 1) := by decide +kernel
theorem dX1_foldOther_57 : decode cX1_foldOther 57 = .ok (.iload_n 3, 1) := by decide +kernel
theorem dX1_foldOther_58 : decode cX1_foldOther 58 = .ok (.invokevirtual 116, 3) := by decide +kernel
theorem dX1_foldOther_61 : decode cX1_foldOther 61 = .ok (.i2l, 1) := by decide +kernel
theorem dX1_foldOther_62 : decode cX1_foldOther 62 = .ok (.ladd, 1) := by decide +kernel
theorem dX1_foldOther_63 : decode cX1_foldOther 63 = .ok (.lstore_n 1, 1) := by decide +kernel
theorem dX1_foldOther_64 : decode cX1_foldOther 64 = .ok (.ldc2_w 141, 3) := by decide +kernel
theorem dX1_foldOther_67 : decode cX1_foldOther 67 = .ok (.lload_n 1, 1) := by decide +kernel
theorem dX1_foldOther_68 : decode cX1_foldOther 68 = .ok (.lmul, 1) := by decide +kernel
theorem dX1_foldOther_69 : decode cX1_foldOther 69 = .ok (.aload_n 0, 1) := by decide +kernel
theorem dX1_foldOther_70 : decode cX1_foldOther 70 = .ok (.iload_n 3, 1) := by decide +kernel
theorem dX1_foldOther_71 : decode cX1_foldOther 71 = .ok (.iconst 0, 1) := by decide +kernel
theorem dX1_foldOther_72 : decode cX1_foldOther 72 = .ok (.invokevirtual 116, 3) := by decide +kernel
theorem dX1_foldOther_75 : decode cX1_foldOther 75 = .ok (.i2l, 1) := by decide +kernel
theorem dX1_foldOther_76 : decode cX1_foldOther 76 = .ok (.ladd, 1) := by decide +kernel
theorem dX1_foldOther_77 : decode cX1_foldOther 77 = .ok (.lstore_n 1, 1) := by decide +kernel
theorem dX1_foldOther_78 : decode cX1_foldOther 78 = .ok (.ldc2_w 141, 3) := by decide +kernel
theorem dX1_foldOther_81 : decode cX1_foldOther 81 = .ok (.lload_n 1, 1) := by decide +kernel
theorem dX1_foldOther_82 : decode cX1_foldOther 82 = .ok (.lmul, 1) := by decide +kernel
theorem dX1_foldOther_83 : decode cX1_foldOther 83 = .ok (.aload_n 0, 1) := by decide +kernel
theorem dX1_foldOther_84 : decode cX1_foldOther 84 = .ok (.iload_n 3, 1) := by decide +kernel
theorem dX1_foldOther_85 : decode cX1_foldOther 85 = .ok (.invokevirtual 156, 3) := by decide +kernel
theorem dX1_foldOther_88 : decode cX1_foldOther 88 = .ok (.i2l, 1) := by decide +kernel
theorem dX1_foldOther_89 : decode cX1_foldOther 89 = .ok (.ladd, 1) := by decide +kernel
theorem dX1_foldOther_90 : decode cX1_foldOther 90 = .ok (.lreturn, 1) := by decide +kernel
theorem dX1_isPlace_0 : decode cX1_isPlace 0 = .ok (.iload_n 0, 1) := by decide +kernel
theorem dX1_isPlace_1 : decode cX1_isPlace 1 = .ok (.sipush (-9999), 3) := by decide +kernel
theorem dX1_isPlace_4 : decode cX1_isPlace 4 = .ok (.if_icmp .lt 14, 3) := by decide +kernel
theorem dX1_isPlace_7 : decode cX1_isPlace 7 = .ok (.iload_n 0, 1) := by decide +kernel
theorem dX1_isPlace_8 : decode cX1_isPlace 8 = .ok (.sipush 9999, 3) := by decide +kernel
theorem dX1_isPlace_11 : decode cX1_isPlace 11 = .ok (.if_icmp .gt 7, 3) := by decide +kernel
theorem dX1_isPlace_14 : decode cX1_isPlace 14 = .ok (.iconst 1, 1) := by decide +kernel
theorem dX1_isPlace_15 : decode cX1_isPlace 15 = .ok (.goto 4, 3) := by decide +kernel
theorem dX1_isPlace_18 : decode cX1_isPlace 18 = .ok (.iconst 0, 1) := by decide +kernel
theorem dX1_isPlace_19 : decode cX1_isPlace 19 = .ok (.ireturn, 1) := by decide +kernel
theorem dX2_init_0 : decode cX2_init 0 = .ok (.aload_n 0, 1) := by decide +kernel
theorem dX2_init_1 : decode cX2_init 1 = .ok (.invokespecial 1, 3) := by decide +kernel
theorem dX2_init_4 : decode cX2_init 4 = .ok (.aload_n 0, 1) := by decide +kernel
theorem dX2_init_5 : decode cX2_init 5 = .ok (.sipush 234, 3) := by decide +kernel
theorem dX2_init_8 : decode cX2_init 8 = .ok (.newarray .int, 2) := by decide +kernel
theorem dX2_init_10 : decode cX2_init 10 = .ok (.putfield 11, 3) := by decide +kernel
theorem dX2_init_13 : decode cX2_init 13 = .ok (.return_, 1) := by decide +kernel
theorem dX2_mark_0 : decode cX2_mark 0 = .ok (.aload_n 1, 1) := by decide +kernel
theorem dX2_mark_1 : decode cX2_mark 1 = .ok (.iconst 0, 1) := by decide +kernel
theorem dX2_mark_2 : decode cX2_mark 2 = .ok (.aload_n 0, 1) := by decide +kernel
theorem dX2_mark_3 : decode cX2_mark 3 = .ok (.getfield 11, 3) := by decide +kernel
theorem dX2_mark_6 : decode cX2_mark 6 = .ok (.aload_n 0, 1) := by decide +kernel
theorem dX2_mark_7 : decode cX2_mark 7 = .ok (.getfield 15, 3) := by decide +kernel
theorem dX2_mark_10 : decode cX2_mark 10 = .ok (.bipush 39, 2) := by decide +kernel
theorem dX2_mark_12 : decode cX2_mark 12 = .ok (.imul, 1) := by decide +kernel
theorem dX2_mark_13 : decode cX2_mark 13 = .ok (.bipush 39, 2) := by decide +kernel
theorem dX2_mark_15 : decode cX2_mark 15 = .ok (.invokestatic 19, 3) := by decide +kernel
theorem dX2_mark_18 : decode cX2_mark 18 = .ok (.return_, 1) := by decide +kernel
theorem dX2_restore_0 : decode cX2_restore 0 = .ok (.aload_n 0, 1) := by decide +kernel
theorem dX2_restore_1 : decode cX2_restore 1 = .ok (.getfield 11, 3) := by decide +kernel
theorem dX2_restore_4 : decode cX2_restore 4 = .ok (.aload_n 0, 1) := by decide +kernel
theorem dX2_restore_5 : decode cX2_restore 5 = .ok (.getfield 15, 3) := by decide +kernel
theorem dX2_restore_8 : decode cX2_restore 8 = .ok (.bipush 39, 2) := by decide +kernel
theorem dX2_restore_10 : decode cX2_restore 10 = .ok (.imul, 1) := by decide +kernel
theorem dX2_restore_11 : decode cX2_restore 11 = .ok (.aload_n 1, 1) := by decide +kernel
theorem dX2_restore_12 : decode cX2_restore 12 = .ok (.iconst 0, 1) := by decide +kernel
theorem dX2_restore_13 : decode cX2_restore 13 = .ok (.bipush 39, 2) := by decide +kernel
theorem dX2_restore_15 : decode cX2_restore 15 = .ok (.invokestatic 19, 3) := by decide +kernel
theorem dX2_restore_18 : decode cX2_restore 18 = .ok (.return_, 1) := by decide +kernel
theorem dX2_keep_0 : decode cX2_keep 0 = .ok (.aload_n 0, 1) := by decide +kernel
theorem dX2_keep_1 : decode cX2_keep 1 = .ok (.getfield 15, 3) := by decide +kernel
theorem dX2_keep_4 : decode cX2_keep 4 = .ok (.iconst 5, 1) := by decide +kernel
theorem dX2_keep_5 : decode cX2_keep 5 = .ok (.if_icmp .ge 16, 3) := by decide +kernel
theorem dX2_keep_8 : decode cX2_keep 8 = .ok (.aload_n 0, 1) := by decide +kernel
theorem dX2_keep_9 : decode cX2_keep 9 = .ok (.dup, 1) := by decide +kernel
theorem dX2_keep_10 : decode cX2_keep 10 = .ok (.getfield 15, 3) := by decide +kernel
theorem dX2_keep_13 : decode cX2_keep 13 = .ok (.iconst 1, 1) := by decide +kernel
theorem dX2_keep_14 : decode cX2_keep 14 = .ok (.iadd, 1) := by decide +kernel
theorem dX2_keep_15 : decode cX2_keep 15 = .ok (.putfield 15, 3) := by decide +kernel
theorem dX2_keep_18 : decode cX2_keep 18 = .ok (.goto 20, 3) := by decide +kernel
theorem dX2_keep_21 : decode cX2_keep 21 = .ok (.aload_n 0, 1) := by decide +kernel
theorem dX2_keep_22 : decode cX2_keep 22 = .ok (.getfield 11, 3) := by decide +kernel
theorem dX2_keep_25 : decode cX2_keep 25 = .ok (.bipush 39, 2) := by decide +kernel
theorem dX2_keep_27 : decode cX2_keep 27 = .ok (.aload_n 0, 1) := by decide +kernel
theorem dX2_keep_28 : decode cX2_keep 28 = .ok (.getfield 11, 3) := by decide +kernel
theorem dX2_keep_31 : decode cX2_keep 31 = .ok (.iconst 0, 1) := by decide +kernel
theorem dX2_keep_32 : decode cX2_keep 32 = .ok (.sipush 195, 3) := by decide +kernel
theorem dX2_keep_35 : decode cX2_keep 35 = .ok (.invokestatic 19, 3) := by decide +kernel
theorem dX2_keep_38 : decode cX2_keep 38 = .ok (.return_, 1) := by decide +kernel
set_option maxRecDepth 20000 in
theorem ggX2_takeBack_X2_restore : GoodIn wsX2_takeBack wsX2_restore := goodIn_r _ [6, 7, 1, 8, 9, 10, 11, 12, 13] (by decide +kernel) (by decide +kernel)
set_option maxRecDepth 20000 in
theorem gX2_takeBack_X2_restore : GoodIn wsX2_takeBack (wsV RX2 25 RX2 yX2_restore wsX2_restore) := goodIn_app (goodIn_of _ (by decide +kernel)) ggX2_takeBack_X2_restore
theorem dX2_takeBack_0 : decode cX2_takeBack 0 = .ok (.aload_n 0, 1) := by decide +kernel
theorem dX2_takeBack_1 : decode cX2_takeBack 1 = .ok (.getfield 15, 3) := by decide +kernel
theorem dX2_takeBack_4 : decode cX2_takeBack 4 = .ok (.ifCond .ne 4, 3) := by decide +kernel
theorem dX2_takeBack_7 : decode cX2_takeBack 7 = .ok (.return_, 1) := by decide +kernel
theorem dX2_takeBack_8 : decode cX2_takeBack 8 = .ok (.aload_n 0, 1) := by decide +kernel
theorem dX2_takeBack_9 : decode cX2_takeBack 9 = .ok (.dup, 1) := by decide +kernel
theorem dX2_takeBack_10 : decode cX2_takeBack 10 = .ok (.getfield 15, 3) := by decide +kernel
theorem dX2_takeBack_13 : decode cX2_takeBack 13 = .ok (.iconst 1, 1) := by decide +kernel
theorem dX2_takeBack_14 : decode cX2_takeBack 14 = .ok (.isub, 1) := by decide +kernel
theorem dX2_takeBack_15 : decode cX2_takeBack 15 = .ok (.putfield 15, 3) := by decide +kernel
theorem dX2_takeBack_18 : decode cX2_takeBack 18 = .ok (.aload_n 0, 1) := by decide +kernel
theorem dX2_takeBack_19 : decode cX2_takeBack 19 = .ok (.aload_n 1, 1) := by decide +kernel
theorem dX2_takeBack_20 : decode cX2_takeBack 20 = .ok (.invokevirtual 25, 3) := by decide +kernel
theorem dX2_takeBack_23 : decode cX2_takeBack 23 = .ok (.return_, 1) := by decide +kernel
theorem dX3_init_0 : decode cX3_init 0 = .ok (.aload_n 0, 1) := by decide +kernel
theorem dX3_init_1 : decode cX3_init 1 = .ok (.invokespecial 5, 3) := by decide +kernel
theorem dX3_init_4 : decode cX3_init 4 = .ok (.aload_n 0, 1) := by decide +kernel
theorem dX3_init_5 : decode cX3_init 5 = .ok (.sipush 150, 3) := by decide +kernel
theorem dX3_init_8 : decode cX3_init 8 = .ok (.newarray .byte, 2) := by decide +kernel
theorem dX3_init_10 : decode cX3_init 10 = .ok (.putfield 11, 3) := by decide +kernel
theorem dX3_init_13 : decode cX3_init 13 = .ok (.aload_n 0, 1) := by decide +kernel
theorem dX3_init_14 : decode cX3_init 14 = .ok (.iconst 4, 1) := by decide +kernel
theorem dX3_init_15 : decode cX3_init 15 = .ok (.newarray .int, 2) := by decide +kernel
theorem dX3_init_17 : decode cX3_init 17 = .ok (.putfield 15, 3) := by decide +kernel
theorem dX3_init_20 : decode cX3_init 20 = .ok (.return_, 1) := by decide +kernel
theorem dX3_append_0 : decode cX3_append 0 = .ok (.iload_n 1, 1) := by decide +kernel
theorem dX3_append_1 : decode cX3_append 1 = .ok (.ifCond .lt 9, 3) := by decide +kernel
theorem dX3_append_4 : decode cX3_append 4 = .ok (.iload_n 1, 1) := by decide +kernel
theorem dX3_append_5 : decode cX3_append 5 = .ok (.bipush 127, 2) := by decide +kernel
theorem dX3_append_7 : decode cX3_append 7 = .ok (.if_icmp .le 7, 3) := by decide +kernel
theorem dX3_append_10 : decode cX3_append 10 = .ok (.sipush (-10002), 3) := by decide +kernel
theorem dX3_append_13 : decode cX3_append 13 = .ok (.ireturn, 1) := by decide +kernel
theorem dX3_append_14 : decode cX3_append 14 = .ok (.aload_n 0, 1) := by decide +kernel
theorem dX3_append_15 : decode cX3_append 15 = .ok (.getfield 19, 3) := by decide +kernel
theorem dX3_append_18 : decode cX3_append 18 = .ok (.sipush 150, 3) := by decide +kernel
theorem dX3_append_21 : decode cX3_append 21 = .ok (.if_icmp .lt 7, 3) := by decide +kernel
theorem dX3_append_24 : decode cX3_append 24 = .ok (.sipush (-10004), 3) := by decide +kernel
theorem dX3_append_27 : decode cX3_append 27 = .ok (.ireturn, 1) := by decide +kernel
theorem dX3_append_28 : decode cX3_append 28 = .ok (.aload_n 0, 1) := by decide +kernel
theorem dX3_append_29 : decode cX3_append 29 = .ok (.getfield 11, 3) := by decide +kernel
theorem dX3_append_32 : decode cX3_append 32 = .ok (.aload_n 0, 1) := by decide +kernel
theorem dX3_append_33 : decode cX3_append 33 = .ok (.getfield 19, 3) := by decide +kernel
theorem dX3_append_36 : decode cX3_append 36 = .ok (.iload_n 1, 1) := by decide +kernel
theorem dX3_append_37 : decode cX3_append 37 = .ok (.i2b, 1) := by decide +kernel
theorem dX3_append_38 : decode cX3_append 38 = .ok (.bastore, 1) := by decide +kernel
theorem dX3_append_39 : decode cX3_append 39 = .ok (.aload_n 0, 1) := by decide +kernel
theorem dX3_append_40 : decode cX3_append 40 = .ok (.dup, 1) := by decide +kernel
theorem dX3_append_41 : decode cX3_append 41 = .ok (.getfield 19, 3) := by decide +kernel
theorem dX3_append_44 : decode cX3_append 44 = .ok (.iconst 1, 1) := by decide +kernel
theorem dX3_append_45 : decode cX3_append 45 = .ok (.iadd, 1) := by decide +kernel
theorem dX3_append_46 : decode cX3_append 46 = .ok (.putfield 19, 3) := by decide +kernel
theorem dX3_append_49 : decode cX3_append 49 = .ok (.aload_n 0, 1) := by decide +kernel
theorem dX3_append_50 : decode cX3_append 50 = .ok (.getfield 19, 3) := by decide +kernel
theorem dX3_append_53 : decode cX3_append 53 = .ok (.ireturn, 1) := by decide +kernel
theorem dX3_empty_0 : decode cX3_empty 0 = .ok (.aload_n 0, 1) := by decide +kernel
theorem dX3_empty_1 : decode cX3_empty 1 = .ok (.getfield 19, 3) := by decide +kernel
theorem dX3_empty_4 : decode cX3_empty 4 = .ok (.istore_n 1, 1) := by decide +kernel
theorem dX3_empty_5 : decode cX3_empty 5 = .ok (.aload_n 0, 1) := by decide +kernel
theorem dX3_empty_6 : decode cX3_empty 6 = .ok (.iconst 0, 1) := by decide +kernel
theorem dX3_empty_7 : decode cX3_empty 7 = .ok (.putfield 19, 3) := by decide +kernel
theorem dX3_empty_10 : decode cX3_empty 10 = .ok (.iload_n 1, 1) := by decide +kernel
theorem dX3_empty_11 : decode cX3_empty 11 = .ok (.ireturn, 1) := by decide +kernel
set_option maxRecDepth 20000 in
theorem ggX3_faultPlace_X3_rewind : GoodIn wsX3_faultPlace wsX3_rewind := goodIn_r _ [7, 2, 8, 9, 10, 6, 11, 1, 12, 13, 14, 15, 16, 37, 38, 39, 40, 41] (by decide +kernel) (by decide +kernel)
set_option maxRecDepth 20000 in
theorem gX3_faultPlace_X3_rewind : GoodIn wsX3_faultPlace (wsV RX3 23 RX3 yX3_rewind wsX3_rewind) := goodIn_app (goodIn_of _ (by decide +kernel)) ggX3_faultPlace_X3_rewind
set_option maxRecDepth 20000 in
theorem ggX3_faultPlace_X3_hasMore : GoodIn wsX3_faultPlace wsX3_hasMore := goodIn_r _ [20, 2, 1, 37, 38, 39, 40, 41] (by decide +kernel) (by decide +kernel)
set_option maxRecDepth 20000 in
theorem gX3_faultPlace_X3_hasMore : GoodIn wsX3_faultPlace (wsV RX3 26 RX3 yX3_hasMore wsX3_hasMore) := goodIn_app (goodIn_of _ (by decide +kernel)) ggX3_faultPlace_X3_hasMore
set_option maxRecDepth 20000 in
theorem ggX3_faultPlace_X3_readOrder : GoodIn wsX3_faultPlace wsX3_readOrder := goodIn_r _ [24, 25, 2, 12, 13, 14, 6, 15, 1, 16, 26, 27, 28, 8, 9, 10, 11, 29, 30, 31, 32, 33, 34, 35, 36, 37, 38, 39, 40, 41] (by decide +kernel) (by decide +kernel)
set_option maxRecDepth 20000 in
theorem gX3_faultPlace_X3_readOrder : GoodIn wsX3_faultPlace (wsV RX3 30 RX3 yX3_readOrder wsX3_readOrder) := goodIn_app (goodIn_of _ (by decide +kernel)) ggX3_faultPlace_X3_readOrder
theorem dX3_faultPlace_0 : decode cX3_faultPlace 0 = .ok (.aload_n 0, 1) := by decide +kernel
theorem dX3_faultPlace_1 : decode cX3_faultPlace 1 = .ok (.invokevirtual 23, 3) := by decide +kernel
theorem dX3_faultPlace_4 : decode cX3_faultPlace 4 = .ok (.aload_n 0, 1) := by decide +kernel
theorem dX3_faultPlace_5 : decode cX3_faultPlace 5 = .ok (.invokevirtual 26, 3) := by decide +kernel
theorem dX3_faultPlace_8 : decode cX3_faultPlace 8 = .ok (.ifCond .ne 8, 3) := by decide +kernel
theorem dX3_faultPlace_11 : decode cX3_faultPlace 11 = .ok (.aload_n 0, 1) := by decide +kernel
theorem dX3_faultPlace_12 : decode cX3_faultPlace 12 = .ok (.getfield 19, 3) := by decide +kernel
theorem dX3_faultPlace_15 : decode cX3_faultPlace 15 = .ok (.ireturn, 1) := by decide +kernel
theorem dX3_faultPlace_16 : decode cX3_faultPlace 16 = .ok (.iconst 0, 1) := by decide +kernel
theorem dX3_faultPlace_17 : decode cX3_faultPlace 17 = .ok (.istore_n 1, 1) := by decide +kernel
theorem dX3_faultPlace_18 : decode cX3_faultPlace 18 = .ok (.iload_n 1, 1) := by decide +kernel
theorem dX3_faultPlace_19 : decode cX3_faultPlace 19 = .ok (.bipush 75, 2) := by decide +kernel
theorem dX3_faultPlace_21 : decode cX3_faultPlace 21 = .ok (.if_icmp .ge 28, 3) := by decide +kernel
theorem dX3_faultPlace_24 : decode cX3_faultPlace 24 = .ok (.aload_n 0, 1) := by decide +kernel
theorem dX3_faultPlace_25 : decode cX3_faultPlace 25 = .ok (.invokevirtual 26, 3) := by decide +kernel
theorem dX3_faultPlace_28 : decode cX3_faultPlace 28 = .ok (.ifCond .eq 21, 3) := by decide +kernel
theorem dX3_faultPlace_31 : decode cX3_faultPlace 31 = .ok (.aload_n 0, 1) := by decide +kernel
theorem dX3_faultPlace_32 : decode cX3_faultPlace 32 = .ok (.invokevirtual 30, 3) := by decide +kernel
theorem dX3_faultPlace_35 : decode cX3_faultPlace 35 = .ok (.ifCond .ne 8, 3) := by decide +kernel
theorem dX3_faultPlace_38 : decode cX3_faultPlace 38 = .ok (.aload_n 0, 1) := by decide +kernel
theorem dX3_faultPlace_39 : decode cX3_faultPlace 39 = .ok (.getfield 33, 3) := by decide +kernel
theorem dX3_faultPlace_42 : decode cX3_faultPlace 42 = .ok (.ireturn, 1) := by decide +kernel
theorem dX3_faultPlace_43 : decode cX3_faultPlace 43 = .ok (.iinc 1 1, 3) := by decide +kernel
theorem dX3_faultPlace_46 : decode cX3_faultPlace 46 = .ok (.goto (-28), 3) := by decide +kernel
theorem dX3_faultPlace_49 : decode cX3_faultPlace 49 = .ok (.iconst (-1), 1) := by decide +kernel
theorem dX3_faultPlace_50 : decode cX3_faultPlace 50 = .ok (.ireturn, 1) := by decide +kernel
set_option maxRecDepth 20000 in
theorem ggX3_rewind_X3_skipBlanks : GoodIn wsX3_rewind wsX3_skipBlanks := goodIn_r _ [6, 1, 7, 8, 9, 10, 5, 11, 12, 13, 14, 15, 16, 17] (by decide +kernel) (by decide +kernel)
set_option maxRecDepth 20000 in
theorem gX3_rewind_X3_skipBlanks : GoodIn wsX3_rewind (wsV RX3 36 RX3 yX3_skipBlanks wsX3_skipBlanks) := goodIn_app (goodIn_of _ (by decide +kernel)) ggX3_rewind_X3_skipBlanks
theorem dX3_rewind_0 : decode cX3_rewind 0 = .ok (.aload_n 0, 1) := by decide +kernel
theorem dX3_rewind_1 : decode cX3_rewind 1 = .ok (.iconst 0, 1) := by decide +kernel
theorem dX3_rewind_2 : decode cX3_rewind 2 = .ok (.putfield 33, 3) := by decide +kernel
theorem dX3_rewind_5 : decode cX3_rewind 5 = .ok (.aload_n 0, 1) := by decide +kernel
theorem dX3_rewind_6 : decode cX3_rewind 6 = .ok (.invokevirtual 36, 3) := by decide +kernel
theorem dX3_rewind_9 : decode cX3_rewind 9 = .ok (.return_, 1) := by decide +kernel
theorem dX3_hasMore_0 : decode cX3_hasMore 0 = .ok (.aload_n 0, 1) := by decide +kernel
theorem dX3_hasMore_1 : decode cX3_hasMore 1 = .ok (.getfield 33, 3) := by decide +kernel
theorem dX3_hasMore_4 : decode cX3_hasMore 4 = .ok (.aload_n 0, 1) := by decide +kernel
theorem dX3_hasMore_5 : decode cX3_hasMore 5 = .ok (.getfield 19, 3) := by decide +kernel
theorem dX3_hasMore_8 : decode cX3_hasMore 8 = .ok (.if_icmp .ge 7, 3) := by decide +kernel
theorem dX3_hasMore_11 : decode cX3_hasMore 11 = .ok (.iconst 1, 1) := by decide +kernel
theorem dX3_hasMore_12 : decode cX3_hasMore 12 = .ok (.goto 4, 3) := by decide +kernel
theorem dX3_hasMore_15 : decode cX3_hasMore 15 = .ok (.iconst 0, 1) := by decide +kernel
theorem dX3_hasMore_16 : decode cX3_hasMore 16 = .ok (.ireturn, 1) := by decide +kernel
set_option maxRecDepth 20000 in
theorem ggX3_readOrder_X3_next : GoodIn wsX3_readOrder wsX3_next := goodIn_r _ [7, 2, 8, 9, 25, 26, 27, 28, 29] (by decide +kernel) (by decide +kernel)
set_option maxRecDepth 20000 in
theorem gX3_readOrder_X3_next : GoodIn wsX3_readOrder (wsV RX3 39 RX3 yX3_next wsX3_next) := goodIn_app (goodIn_of _ (by decide +kernel)) ggX3_readOrder_X3_next
set_option maxRecDepth 20000 in
theorem ggX3_readOrder_X3_numbersOf : GoodIn wsX3_readOrder wsX3_numbersOf := goodIn_r _ [12] (by decide +kernel) (by decide +kernel)
set_option maxRecDepth 20000 in
theorem gX3_readOrder_X3_numbersOf : GoodIn wsX3_readOrder (va_wsS RX3 46 yX3_numbersOf wsX3_numbersOf) := goodIn_app (goodIn_of _ (by decide +kernel)) ggX3_readOrder_X3_numbersOf
set_option maxRecDepth 20000 in
theorem ggX3_readOrder_X3_skipBlanks : GoodIn wsX3_readOrder wsX3_skipBlanks := goodIn_r _ [16, 2, 8, 3, 4, 5, 6, 7, 9, 25, 26, 27, 28, 29] (by decide +kernel) (by decide +kernel)
set_option maxRecDepth 20000 in
theorem gX3_readOrder_X3_skipBlanks : GoodIn wsX3_readOrder (wsV RX3 36 RX3 yX3_skipBlanks wsX3_skipBlanks) := goodIn_app (goodIn_of _ (by decide +kernel)) ggX3_readOrder_X3_skipBlanks
set_option maxRecDepth 20000 in
theorem ggX3_readOrder_X3_readNumber : GoodIn wsX3_readOrder wsX3_readNumber := goodIn_r _ [20, 2, 21, 3, 4, 5, 6, 7, 8, 9, 22, 23, 24, 25, 26, 27, 28, 29] (by decide +kernel) (by decide +kernel)
set_option maxRecDepth 20000 in
theorem gX3_readOrder_X3_readNumber : GoodIn wsX3_readOrder (wsV RX3 50 RX3 yX3_readNumber wsX3_readNumber) := goodIn_app (goodIn_of _ (by decide +kernel)) ggX3_readOrder_X3_readNumber
theorem dX3_readOrder_0 : decode cX3_readOrder 0 = .ok (.aload_n 0, 1) := by decide +kernel
theorem dX3_readOrder_1 : decode cX3_readOrder 1 = .ok (.aload_n 0, 1) := by decide +kernel
theorem dX3_readOrder_2 : decode cX3_readOrder 2 = .ok (.invokevirtual 39, 3) := by decide +kernel
theorem dX3_readOrder_5 : decode cX3_readOrder 5 = .ok (.putfield 43, 3) := by decide +kernel
theorem dX3_readOrder_8 : decode cX3_readOrder 8 = .ok (.aload_n 0, 1) := by decide +kernel
theorem dX3_readOrder_9 : decode cX3_readOrder 9 = .ok (.getfield 43, 3) := by decide +kernel
theorem dX3_readOrder_12 : decode cX3_readOrder 12 = .ok (.invokestatic 46, 3) := by decide +kernel
theorem dX3_readOrder_15 : decode cX3_readOrder 15 = .ok (.istore_n 1, 1) := by decide +kernel
theorem dX3_readOrder_16 : decode cX3_readOrder 16 = .ok (.iload_n 1, 1) := by decide +kernel
theorem dX3_readOrder_17 : decode cX3_readOrder 17 = .ok (.ifCond .ge 5, 3) := by decide +kernel
theorem dX3_readOrder_20 : decode cX3_readOrder 20 = .ok (.iconst 0, 1) := by decide +kernel
theorem dX3_readOrder_21 : decode cX3_readOrder 21 = .ok (.ireturn, 1) := by decide +kernel
theorem dX3_readOrder_22 : decode cX3_readOrder 22 = .ok (.aload_n 0, 1) := by decide +kernel
theorem dX3_readOrder_23 : decode cX3_readOrder 23 = .ok (.dup, 1) := by decide +kernel
theorem dX3_readOrder_24 : decode cX3_readOrder 24 = .ok (.getfield 33, 3) := by decide +kernel
theorem dX3_readOrder_27 : decode cX3_readOrder 27 = .ok (.iconst 1, 1) := by decide +kernel
theorem dX3_readOrder_28 : decode cX3_readOrder 28 = .ok (.iadd, 1) := by decide +kernel
theorem dX3_readOrder_29 : decode cX3_readOrder 29 = .ok (.putfield 33, 3) := by decide +kernel
theorem dX3_readOrder_32 : decode cX3_readOrder 32 = .ok (.aload_n 0, 1) := by decide +kernel
theorem dX3_readOrder_33 : decode cX3_readOrder 33 = .ok (.getfield 43, 3) := by decide +kernel
theorem dX3_readOrder_36 : decode cX3_readOrder 36 = .ok (.bipush 97, 2) := by decide +kernel
theorem dX3_readOrder_38 : decode cX3_readOrder 38 = .ok (.if_icmp .eq 12, 3) := by decide +kernel
theorem dX3_readOrder_41 : decode cX3_readOrder 41 = .ok (.aload_n 0, 1) := by decide +kernel
theorem dX3_readOrder_42 : decode cX3_readOrder 42 = .ok (.getfield 43, 3) := by decide +kernel
theorem dX3_readOrder_45 : decode cX3_readOrder 45 = .ok (.bipush 111, 2) := by decide +kernel
theorem dX3_readOrder_47 : decode cX3_readOrder 47 = .ok (.if_icmp .ne 7, 3) := by decide +kernel
theorem dX3_readOrder_50 : decode cX3_readOrder 50 = .ok (.iconst 1, 1) := by decide +kernel
theorem dX3_readOrder_51 : decode cX3_readOrder 51 = .ok (.goto 4, 3) := by decide +kernel
theorem dX3_readOrder_54 : decode cX3_readOrder 54 = .ok (.iconst 0, 1) := by decide +kernel
theorem dX3_readOrder_55 : decode cX3_readOrder 55 = .ok (.istore_n 2, 1) := by decide +kernel
theorem dX3_readOrder_56 : decode cX3_readOrder 56 = .ok (.iconst 0, 1) := by decide +kernel
theorem dX3_readOrder_57 : decode cX3_readOrder 57 = .ok (.istore_n 3, 1) := by decide +kernel
theorem dX3_readOrder_58 : decode cX3_readOrder 58 = .ok (.iload_n 3, 1) := by decide +kernel
theorem dX3_readOrder_59 : decode cX3_readOrder 59 = .ok (.iload_n 1, 1) := by decide +kernel
theorem dX3_readOrder_60 : decode cX3_readOrder 60 = .ok (.if_icmp .ge 37, 3) := by decide +kernel
theorem dX3_readOrder_63 : decode cX3_readOrder 63 = .ok (.aload_n 0, 1) := by decide +kernel
theorem dX3_readOrder_64 : decode cX3_readOrder 64 = .ok (.invokevirtual 36, 3) := by decide +kernel
theorem dX3_readOrder_67 : decode cX3_readOrder 67 = .ok (.aload_n 0, 1) := by decide +kernel
theorem dX3_readOrder_68 : decode cX3_readOrder 68 = .ok (.iload_n 3, 1) := by decide +kernel
theorem dX3_readOrder_69 : decode cX3_readOrder 69 = .ok (.iload_n 2, 1) := by decide +kernel
theorem dX3_readOrder_70 : decode cX3_readOrder 70 = .ok (.ifCond .eq 12, 3) := by decide +kernel
theorem dX3_readOrder_73 : decode cX3_readOrder 73 = .ok (.iload_n 3, 1) := by decide +kernel
theorem dX3_readOrder_74 : decode cX3_readOrder 74 = .ok (.iconst 2, 1) := by decide +kernel
theorem dX3_readOrder_75 : decode cX3_readOrder 75 = .ok (.if_icmp .ge 7, 3) := by decide +kernel
theorem dX3_readOrder_78 : decode cX3_readOrder 78 = .ok (.iconst 1, 1) := by decide +kernel
theorem dX3_readOrder_79 : decode cX3_readOrder 79 = .ok (.goto 4, 3) := by decide +kernel
theorem dX3_readOrder_82 : decode cX3_readOrder 82 = .ok (.iconst 0, 1) := by decide +kernel
theorem dX3_readOrder_83 : decode cX3_readOrder 83 = .ok (.invokevirtual 50, 3) := by decide +kernel
theorem dX3_readOrder_86 : decode cX3_readOrder 86 = .ok (.ifCond .ne 5, 3) := by decide +kernel
theorem dX3_readOrder_89 : decode cX3_readOrder 89 = .ok (.iconst 0, 1) := by decide +kernel
theorem dX3_readOrder_90 : decode cX3_readOrder 90 = .ok (.ireturn, 1) := by decide +kernel
theorem dX3_readOrder_91 : decode cX3_readOrder 91 = .ok (.iinc 3 1, 3) := by decide +kernel
theorem dX3_readOrder_94 : decode cX3_readOrder 94 = .ok (.goto (-36), 3) := by decide +kernel
theorem dX3_readOrder_97 : decode cX3_readOrder 97 = .ok (.aload_n 0, 1) := by decide +kernel
theorem dX3_readOrder_98 : decode cX3_readOrder 98 = .ok (.invokevirtual 36, 3) := by decide +kernel
theorem dX3_readOrder_101 : decode cX3_readOrder 101 = .ok (.aload_n 0, 1) := by decide +kernel
theorem dX3_readOrder_102 : decode cX3_readOrder 102 = .ok (.invokevirtual 39, 3) := by decide +kernel
theorem dX3_readOrder_105 : decode cX3_readOrder 105 = .ok (.bipush 59, 2) := by decide +kernel
theorem dX3_readOrder_107 : decode cX3_readOrder 107 = .ok (.if_icmp .eq 5, 3) := by decide +kernel
theorem dX3_readOrder_110 : decode cX3_readOrder 110 = .ok (.iconst 0, 1) := by decide +kernel
theorem dX3_readOrder_111 : decode cX3_readOrder 111 = .ok (.ireturn, 1) := by decide +kernel
theorem dX3_readOrder_112 : decode cX3_readOrder 112 = .ok (.aload_n 0, 1) := by decide +kernel
theorem dX3_readOrder_113 : decode cX3_readOrder 113 = .ok (.dup, 1) := by decide +kernel
theorem dX3_readOrder_114 : decode cX3_readOrder 114 = .ok (.getfield 33, 3) := by decide +kernel
theorem dX3_readOrder_117 : decode cX3_readOrder 117 = .ok (.iconst 1, 1) := by decide +kernel
theorem dX3_readOrder_118 : decode cX3_readOrder 118 = .ok (.iadd, 1) := by decide +kernel
theorem dX3_readOrder_119 : decode cX3_readOrder 119 = .ok (.putfield 33, 3) := by decide +kernel
theorem dX3_readOrder_122 : decode cX3_readOrder 122 = .ok (.aload_n 0, 1) := by decide +kernel
theorem dX3_readOrder_123 : decode cX3_readOrder 123 = .ok (.invokevirtual 36, 3) := by decide +kernel
theorem dX3_readOrder_126 : decode cX3_readOrder 126 = .ok (.iconst 1, 1) := by decide +kernel
theorem dX3_readOrder_127 : decode cX3_readOrder 127 = .ok (.ireturn, 1) := by decide +kernel
set_option maxRecDepth 20000 in
theorem ggX3_readNumber_X3_next : GoodIn wsX3_readNumber wsX3_next := goodIn_r _ [7, 1, 8, 9, 13, 14, 15, 16, 17] (by decide +kernel) (by decide +kernel)
set_option maxRecDepth 20000 in
theorem gX3_readNumber_X3_next : GoodIn wsX3_readNumber (wsV RX3 39 RX3 yX3_next wsX3_next) := goodIn_app (goodIn_of _ (by decide +kernel)) ggX3_readNumber_X3_next
set_option maxRecDepth 20000 in
theorem ggX3_readNumber_X3_isFigure : GoodIn wsX3_readNumber wsX3_isFigure := goodIn_r _ [12] (by decide +kernel) (by decide +kernel)
set_option maxRecDepth 20000 in
theorem gX3_readNumber_X3_isFigure : GoodIn wsX3_readNumber (va_wsS RX3 54 yX3_isFigure wsX3_isFigure) := goodIn_app (goodIn_of _ (by decide +kernel)) ggX3_readNumber_X3_isFigure
theorem dX3_readNumber_0 : decode cX3_readNumber 0 = .ok (.iload_n 2, 1) := by decide +kernel
theorem dX3_readNumber_1 : decode cX3_readNumber 1 = .ok (.ifCond .eq 16, 3) := by decide +kernel
theorem dX3_readNumber_4 : decode cX3_readNumber 4 = .ok (.aload_n 0, 1) := by decide +kernel
theorem dX3_readNumber_5 : decode cX3_readNumber 5 = .ok (.invokevirtual 39, 3) := by decide +kernel
theorem dX3_readNumber_8 : decode cX3_readNumber 8 = .ok (.bipush 45, 2) := by decide +kernel
theorem dX3_readNumber_10 : decode cX3_readNumber 10 = .ok (.if_icmp .ne 7, 3) := by decide +kernel
theorem dX3_readNumber_13 : decode cX3_readNumber 13 = .ok (.iconst 1, 1) := by decide +kernel
theorem dX3_readNumber_14 : decode cX3_readNumber 14 = .ok (.goto 4, 3) := by decide +kernel
theorem dX3_readNumber_17 : decode cX3_readNumber 17 = .ok (.iconst 0, 1) := by decide +kernel
theorem dX3_readNumber_18 : decode cX3_readNumber 18 = .ok (.istore_n 3, 1) := by decide +kernel
theorem dX3_readNumber_19 : decode cX3_readNumber 19 = .ok (.iload_n 3, 1) := by decide +kernel
theorem dX3_readNumber_20 : decode cX3_readNumber 20 = .ok (.ifCond .eq 13, 3) := by decide +kernel
theorem dX3_readNumber_23 : decode cX3_readNumber 23 = .ok (.aload_n 0, 1) := by decide +kernel
theorem dX3_readNumber_24 : decode cX3_readNumber 24 = .ok (.dup, 1) := by decide +kernel
theorem dX3_readNumber_25 : decode cX3_readNumber 25 = .ok (.getfield 33, 3) := by decide +kernel
theorem dX3_readNumber_28 : decode cX3_readNumber 28 = .ok (.iconst 1, 1) := by decide +kernel
theorem dX3_readNumber_29 : decode cX3_readNumber 29 = .ok (.iadd, 1) := by decide +kernel
theorem dX3_readNumber_30 : decode cX3_readNumber 30 = .ok (.putfield 33, 3) := by decide +kernel
theorem dX3_readNumber_33 : decode cX3_readNumber 33 = .ok (.aload_n 0, 1) := by decide +kernel
theorem dX3_readNumber_34 : decode cX3_readNumber 34 = .ok (.invokevirtual 39, 3) := by decide +kernel
theorem dX3_readNumber_37 : decode cX3_readNumber 37 = .ok (.invokestatic 54, 3) := by decide +kernel
theorem dX3_readNumber_40 : decode cX3_readNumber 40 = .ok (.ifCond .ne 5, 3) := by decide +kernel
theorem dX3_readNumber_43 : decode cX3_readNumber 43 = .ok (.iconst 0, 1) := by decide +kernel
theorem dX3_readNumber_44 : decode cX3_readNumber 44 = .ok (.ireturn, 1) := by decide +kernel
theorem dX3_readNumber_45 : decode cX3_readNumber 45 = .ok (.iconst 0, 1) := by decide +kernel
theorem dX3_readNumber_46 : decode cX3_readNumber 46 = .ok (.istore 4, 2) := by decide +kernel
theorem dX3_readNumber_48 : decode cX3_readNumber 48 = .ok (.iconst 0, 1) := by decide +kernel
theorem dX3_readNumber_49 : decode cX3_readNumber 49 = .ok (.istore 5, 2) := by decide +kernel
theorem dX3_readNumber_51 : decode cX3_readNumber 51 = .ok (.iload 5, 2) := by decide +kernel
theorem dX3_readNumber_53 : decode cX3_readNumber 53 = .ok (.iconst 4, 1) := by decide +kernel
theorem dX3_readNumber_54 : decode cX3_readNumber 54 = .ok (.if_icmp .ge 44, 3) := by decide +kernel
theorem dX3_readNumber_57 : decode cX3_readNumber 57 = .ok (.aload_n 0, 1) := by decide +kernel
theorem dX3_readNumber_58 : decode cX3_readNumber 58 = .ok (.invokevirtual 39, 3) := by decide +kernel
theorem dX3_readNumber_61 : decode cX3_readNumber 61 = .ok (.invokestatic 54, 3) := by decide +kernel
theorem dX3_readNumber_64 : decode cX3_readNumber 64 = .ok (.ifCond .eq 34, 3) := by decide +kernel
theorem dX3_readNumber_67 : decode cX3_readNumber 67 = .ok (.bipush 10, 2) := by decide +kernel
theorem dX3_readNumber_69 : decode cX3_readNumber 69 = .ok (.iload 4, 2) := by decide +kernel
theorem dX3_readNumber_71 : decode cX3_readNumber 71 = .ok (.imul, 1) := by decide +kernel
theorem dX3_readNumber_72 : decode cX3_readNumber 72 = .ok (.aload_n 0, 1) := by decide +kernel
theorem dX3_readNumber_73 : decode cX3_readNumber 73 = .ok (.invokevirtual 39, 3) := by decide +kernel
theorem dX3_readNumber_76 : decode cX3_readNumber 76 = .ok (.iadd, 1) := by decide +kernel
theorem dX3_readNumber_77 : decode cX3_readNumber 77 = .ok (.bipush 48, 2) := by decide +kernel
theorem dX3_readNumber_79 : decode cX3_readNumber 79 = .ok (.isub, 1) := by decide +kernel
theorem dX3_readNumber_80 : decode cX3_readNumber 80 = .ok (.istore 4, 2) := by decide +kernel
theorem dX3_readNumber_82 : decode cX3_readNumber 82 = .ok (.aload_n 0, 1) := by decide +kernel
theorem dX3_readNumber_83 : decode cX3_readNumber 83 = .ok (.dup, 1) := by decide +kernel
theorem dX3_readNumber_84 : decode cX3_readNumber 84 = .ok (.getfield 33, 3) := by decide +kernel
theorem dX3_readNumber_87 : decode cX3_readNumber 87 = .ok (.iconst 1, 1) := by decide +kernel
theorem dX3_readNumber_88 : decode cX3_readNumber 88 = .ok (.iadd, 1) := by decide +kernel
theorem dX3_readNumber_89 : decode cX3_readNumber 89 = .ok (.putfield 33, 3) := by decide +kernel
theorem dX3_readNumber_92 : decode cX3_readNumber 92 = .ok (.iinc 5 1, 3) := by decide +kernel
theorem dX3_readNumber_95 : decode cX3_readNumber 95 = .ok (.goto (-44), 3) := by decide +kernel
theorem dX3_readNumber_98 : decode cX3_readNumber 98 = .ok (.aload_n 0, 1) := by decide +kernel
theorem dX3_readNumber_99 : decode cX3_readNumber 99 = .ok (.getfield 15, 3) := by decide +kernel
theorem dX3_readNumber_102 : decode cX3_readNumber 102 = .ok (.iload_n 1, 1) := by decide +kernel
theorem dX3_readNumber_103 : decode cX3_readNumber 103 = .ok (.iload_n 3, 1) := by decide +kernel
theorem dX3_readNumber_104 : decode cX3_readNumber 104 = .ok (.ifCond .eq 9, 3) := by decide +kernel
theorem dX3_readNumber_107 : decode cX3_readNumber 107 = .ok (.iload 4, 2) := by decide +kernel
theorem dX3_readNumber_109 : decode cX3_readNumber 109 = .ok (.ineg, 1) := by decide +kernel
theorem dX3_readNumber_110 : decode cX3_readNumber 110 = .ok (.goto 5, 3) := by decide +kernel
theorem dX3_readNumber_113 : decode cX3_readNumber 113 = .ok (.iload 4, 2) := by decide +kernel
theorem dX3_readNumber_115 : decode cX3_readNumber 115 = .ok (.iastore, 1) := by decide +kernel
theorem dX3_readNumber_116 : decode cX3_readNumber 116 = .ok (.aload_n 0, 1) := by decide +kernel
theorem dX3_readNumber_117 : decode cX3_readNumber 117 = .ok (.invokevirtual 39, 3) := by decide +kernel
theorem dX3_readNumber_120 : decode cX3_readNumber 120 = .ok (.invokestatic 54, 3) := by decide +kernel
theorem dX3_readNumber_123 : decode cX3_readNumber 123 = .ok (.ifCond .ne 7, 3) := by decide +kernel
theorem dX3_readNumber_126 : decode cX3_readNumber 126 = .ok (.iconst 1, 1) := by decide +kernel
theorem dX3_readNumber_127 : decode cX3_readNumber 127 = .ok (.goto 4, 3) := by decide +kernel
theorem dX3_readNumber_130 : decode cX3_readNumber 130 = .ok (.iconst 0, 1) := by decide +kernel
theorem dX3_readNumber_131 : decode cX3_readNumber 131 = .ok (.ireturn, 1) := by decide +kernel
set_option maxRecDepth 20000 in
theorem ggX3_skipBlanks_X3_next : GoodIn wsX3_skipBlanks wsX3_next := goodIn_r _ [7, 1, 2, 8, 9, 10, 11, 12, 13] (by decide +kernel) (by decide +kernel)
set_option maxRecDepth 20000 in
theorem gX3_skipBlanks_X3_next : GoodIn wsX3_skipBlanks (wsV RX3 39 RX3 yX3_next wsX3_next) := goodIn_app (goodIn_of _ (by decide +kernel)) ggX3_skipBlanks_X3_next
theorem dX3_skipBlanks_0 : decode cX3_skipBlanks 0 = .ok (.aload_n 0, 1) := by decide +kernel
theorem dX3_skipBlanks_1 : decode cX3_skipBlanks 1 = .ok (.getfield 33, 3) := by decide +kernel
theorem dX3_skipBlanks_4 : decode cX3_skipBlanks 4 = .ok (.aload_n 0, 1) := by decide +kernel
theorem dX3_skipBlanks_5 : decode cX3_skipBlanks 5 = .ok (.getfield 19, 3) := by decide +kernel
theorem dX3_skipBlanks_8 : decode cX3_skipBlanks 8 = .ok (.if_icmp .ge 25, 3) := by decide +kernel
theorem dX3_skipBlanks_11 : decode cX3_skipBlanks 11 = .ok (.aload_n 0, 1) := by decide +kernel
theorem dX3_skipBlanks_12 : decode cX3_skipBlanks 12 = .ok (.invokevirtual 39, 3) := by decide +kernel
theorem dX3_skipBlanks_15 : decode cX3_skipBlanks 15 = .ok (.bipush 32, 2) := by decide +kernel
theorem dX3_skipBlanks_17 : decode cX3_skipBlanks 17 = .ok (.if_icmp .ne 16, 3) := by decide +kernel
theorem dX3_skipBlanks_20 : decode cX3_skipBlanks 20 = .ok (.aload_n 0, 1) := by decide +kernel
theorem dX3_skipBlanks_21 : decode cX3_skipBlanks 21 = .ok (.dup, 1) := by decide +kernel
theorem dX3_skipBlanks_22 : decode cX3_skipBlanks 22 = .ok (.getfield 33, 3) := by decide +kernel
theorem dX3_skipBlanks_25 : decode cX3_skipBlanks 25 = .ok (.iconst 1, 1) := by decide +kernel
theorem dX3_skipBlanks_26 : decode cX3_skipBlanks 26 = .ok (.iadd, 1) := by decide +kernel
theorem dX3_skipBlanks_27 : decode cX3_skipBlanks 27 = .ok (.putfield 33, 3) := by decide +kernel
theorem dX3_skipBlanks_30 : decode cX3_skipBlanks 30 = .ok (.goto (-30), 3) := by decide +kernel
theorem dX3_skipBlanks_33 : decode cX3_skipBlanks 33 = .ok (.return_, 1) := by decide +kernel
theorem dX3_next_0 : decode cX3_next 0 = .ok (.aload_n 0, 1) := by decide +kernel
theorem dX3_next_1 : decode cX3_next 1 = .ok (.getfield 33, 3) := by decide +kernel
theorem dX3_next_4 : decode cX3_next 4 = .ok (.ifCond .lt 36, 3) := by decide +kernel
theorem dX3_next_7 : decode cX3_next 7 = .ok (.aload_n 0, 1) := by decide +kernel
theorem dX3_next_8 : decode cX3_next 8 = .ok (.getfield 33, 3) := by decide +kernel
theorem dX3_next_11 : decode cX3_next 11 = .ok (.aload_n 0, 1) := by decide +kernel
theorem dX3_next_12 : decode cX3_next 12 = .ok (.getfield 19, 3) := by decide +kernel
theorem dX3_next_15 : decode cX3_next 15 = .ok (.if_icmp .ge 25, 3) := by decide +kernel
theorem dX3_next_18 : decode cX3_next 18 = .ok (.aload_n 0, 1) := by decide +kernel
theorem dX3_next_19 : decode cX3_next 19 = .ok (.getfield 33, 3) := by decide +kernel
theorem dX3_next_22 : decode cX3_next 22 = .ok (.sipush 150, 3) := by decide +kernel
theorem dX3_next_25 : decode cX3_next 25 = .ok (.if_icmp .ge 15, 3) := by decide +kernel
theorem dX3_next_28 : decode cX3_next 28 = .ok (.aload_n 0, 1) := by decide +kernel
theorem dX3_next_29 : decode cX3_next 29 = .ok (.getfield 11, 3) := by decide +kernel
theorem dX3_next_32 : decode cX3_next 32 = .ok (.aload_n 0, 1) := by decide +kernel
theorem dX3_next_33 : decode cX3_next 33 = .ok (.getfield 33, 3) := by decide +kernel
theorem dX3_next_36 : decode cX3_next 36 = .ok (.baload, 1) := by decide +kernel
theorem dX3_next_37 : decode cX3_next 37 = .ok (.goto 4, 3) := by decide +kernel
