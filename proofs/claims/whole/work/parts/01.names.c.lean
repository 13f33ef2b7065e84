theorem dX1_goOn_57 : decode cX1_goOn 57 = .ok (.iadd, 1) := by decide +kernel
theorem dX1_goOn_58 : decode cX1_goOn 58 = .ok (.iastore, 1) := by decide +kernel
theorem dX1_goOn_59 : decode cX1_goOn 59 = .ok (.aload_n 0, 1) := by decide +kernel
theorem dX1_goOn_60 : decode cX1_goOn 60 = .ok (.invokevirtual 71, 3) := by decide +kernel
theorem dX1_goOn_63 : decode cX1_goOn 63 = .ok (.ireturn, 1) := by decide +kernel
set_option maxRecDepth 20000 in
theorem ggX1_staysInside_X1_eastward : GoodIn wsX1_staysInside wsX1_eastward := goodIn_r _ [6, 1, 7, 16, 17, 18] (by decide +kernel) (by decide +kernel)
set_option maxRecDepth 20000 in
theorem gX1_staysInside_X1_eastward : GoodIn wsX1_staysInside (wsV RX1 29 RX1 yX1_eastward wsX1_eastward) := goodIn_app (goodIn_of _ (by decide +kernel)) ggX1_staysInside_X1_eastward
set_option maxRecDepth 20000 in
theorem ggX1_staysInside_X1_isPlace : GoodIn wsX1_staysInside wsX1_isPlace := goodIn_r _ [10] (by decide +kernel) (by decide +kernel)
set_option maxRecDepth 20000 in
theorem gX1_staysInside_X1_isPlace : GoodIn wsX1_staysInside (va_wsS RX1 42 yX1_isPlace wsX1_isPlace) := goodIn_app (goodIn_of _ (by decide +kernel)) ggX1_staysInside_X1_isPlace
set_option maxRecDepth 20000 in
theorem ggX1_staysInside_X1_northward : GoodIn wsX1_staysInside wsX1_northward := goodIn_r _ [14, 1, 15, 16, 17, 18] (by decide +kernel) (by decide +kernel)
set_option maxRecDepth 20000 in
theorem gX1_staysInside_X1_northward : GoodIn wsX1_staysInside (wsV RX1 33 RX1 yX1_northward wsX1_northward) := goodIn_app (goodIn_of _ (by decide +kernel)) ggX1_staysInside_X1_northward
theorem dX1_staysInside_0 : decode cX1_staysInside 0 = .ok (.iconst 0, 1) := by decide +kernel
theorem dX1_staysInside_1 : decode cX1_staysInside 1 = .ok (.istore_n 2, 1) := by decide +kernel
theorem dX1_staysInside_2 : decode cX1_staysInside 2 = .ok (.iload_n 2, 1) := by decide +kernel
theorem dX1_staysInside_3 : decode cX1_staysInside 3 = .ok (.aload_n 0, 1) := by decide +kernel
theorem dX1_staysInside_4 : decode cX1_staysInside 4 = .ok (.getfield 11, 3) := by decide +kernel
theorem dX1_staysInside_7 : decode cX1_staysInside 7 = .ok (.bipush 35, 2) := by decide +kernel
theorem dX1_staysInside_9 : decode cX1_staysInside 9 = .ok (.iaload, 1) := by decide +kernel
theorem dX1_staysInside_10 : decode cX1_staysInside 10 = .ok (.if_icmp .gt 61, 3) := by decide +kernel
theorem dX1_staysInside_13 : decode cX1_staysInside 13 = .ok (.aload_n 0, 1) := by decide +kernel
theorem dX1_staysInside_14 : decode cX1_staysInside 14 = .ok (.getfield 11, 3) := by decide +kernel
theorem dX1_staysInside_17 : decode cX1_staysInside 17 = .ok (.iconst 5, 1) := by decide +kernel
theorem dX1_staysInside_18 : decode cX1_staysInside 18 = .ok (.iload_n 2, 1) := by decide +kernel
theorem dX1_staysInside_19 : decode cX1_staysInside 19 = .ok (.imul, 1) := by decide +kernel
theorem dX1_staysInside_20 : decode cX1_staysInside 20 = .ok (.iconst 0, 1) := by decide +kernel
theorem dX1_staysInside_21 : decode cX1_staysInside 21 = .ok (.iadd, 1) := by decide +kernel
theorem dX1_staysInside_22 : decode cX1_staysInside 22 = .ok (.iaload, 1) := by decide +kernel
theorem dX1_staysInside_23 : decode cX1_staysInside 23 = .ok (.iload_n 1, 1) := by decide +kernel
theorem dX1_staysInside_24 : decode cX1_staysInside 24 = .ok (.aload_n 0, 1) := by decide +kernel
theorem dX1_staysInside_25 : decode cX1_staysInside 25 = .ok (.iload_n 2, 1) := by decide +kernel
theorem dX1_staysInside_26 : decode cX1_staysInside 26 = .ok (.invokevirtual 29, 3) := by decide +kernel
theorem dX1_staysInside_29 : decode cX1_staysInside 29 = .ok (.imul, 1) := by decide +kernel
theorem dX1_staysInside_30 : decode cX1_staysInside 30 = .ok (.iadd, 1) := by decide +kernel
theorem dX1_staysInside_31 : decode cX1_staysInside 31 = .ok (.invokestatic 42, 3) := by decide +kernel
theorem dX1_staysInside_34 : decode cX1_staysInside 34 = .ok (.ifCond .ne 5, 3) := by decide +kernel
theorem dX1_staysInside_37 : decode cX1_staysInside 37 = .ok (.iconst 0, 1) := by decide +kernel
theorem dX1_staysInside_38 : decode cX1_staysInside 38 = .ok (.ireturn, 1) := by decide +kernel
theorem dX1_staysInside_39 : decode cX1_staysInside 39 = .ok (.aload_n 0, 1) := by decide +kernel
theorem dX1_staysInside_40 : decode cX1_staysInside 40 = .ok (.getfield 11, 3) := by decide +kernel
theorem dX1_staysInside_43 : decode cX1_staysInside 43 = .ok (.iconst 5, 1) := by decide +kernel
theorem dX1_staysInside_44 : decode cX1_staysInside 44 = .ok (.iload_n 2, 1) := by decide +kernel
theorem dX1_staysInside_45 : decode cX1_staysInside 45 = .ok (.imul, 1) := by decide +kernel
theorem dX1_staysInside_46 : decode cX1_staysInside 46 = .ok (.iconst 1, 1) := by decide +kernel
theorem dX1_staysInside_47 : decode cX1_staysInside 47 = .ok (.iadd, 1) := by decide +kernel
theorem dX1_staysInside_48 : decode cX1_staysInside 48 = .ok (.iaload, 1) := by decide +kernel
theorem dX1_staysInside_49 : decode cX1_staysInside 49 = .ok (.iload_n 1, 1) := by decide +kernel
theorem dX1_staysInside_50 : decode cX1_staysInside 50 = .ok (.aload_n 0, 1) := by decide +kernel
theorem dX1_staysInside_51 : decode cX1_staysInside 51 = .ok (.iload_n 2, 1) := by decide +kernel
theorem dX1_staysInside_52 : decode cX1_staysInside 52 = .ok (.invokevirtual 33, 3) := by decide +kernel
theorem dX1_staysInside_55 : decode cX1_staysInside 55 = .ok (.imul, 1) := by decide +kernel
theorem dX1_staysInside_56 : decode cX1_staysInside 56 = .ok (.iadd, 1) := by decide +kernel
theorem dX1_staysInside_57 : decode cX1_staysInside 57 = .ok (.invokestatic 42, 3) := by decide +kernel
theorem dX1_staysInside_60 : decode cX1_staysInside 60 = .ok (.ifCond .ne 5, 3) := by decide +kernel
theorem dX1_staysInside_63 : decode cX1_staysInside 63 = .ok (.iconst 0, 1) := by decide +kernel
theorem dX1_staysInside_64 : decode cX1_staysInside 64 = .ok (.ireturn, 1) := by decide +kernel
theorem dX1_staysInside_65 : decode cX1_staysInside 65 = .ok (.iinc 2 1, 3) := by decide +kernel
theorem dX1_staysInside_68 : decode cX1_staysInside 68 = .ok (.goto (-66), 3) := by decide +kernel
theorem dX1_staysInside_71 : decode cX1_staysInside 71 = .ok (.iconst 1, 1) := by decide +kernel
theorem dX1_staysInside_72 : decode cX1_staysInside 72 = .ok (.ireturn, 1) := by decide +kernel
set_option maxRecDepth 20000 in
theorem ggX1_moveAll_X1_eastward : GoodIn wsX1_moveAll wsX1_eastward := goodIn_r _ [6, 1, 7, 13, 14, 15] (by decide +kernel) (by decide +kernel)
set_option maxRecDepth 20000 in
theorem gX1_moveAll_X1_eastward : GoodIn wsX1_moveAll (wsV RX1 29 RX1 yX1_eastward wsX1_eastward) := goodIn_app (goodIn_of _ (by decide +kernel)) ggX1_moveAll_X1_eastward
set_option maxRecDepth 20000 in
theorem ggX1_moveAll_X1_northward : GoodIn wsX1_moveAll wsX1_northward := goodIn_r _ [11, 1, 12, 13, 14, 15] (by decide +kernel) (by decide +kernel)
set_option maxRecDepth 20000 in
theorem gX1_moveAll_X1_northward : GoodIn wsX1_moveAll (wsV RX1 33 RX1 yX1_northward wsX1_northward) := goodIn_app (goodIn_of _ (by decide +kernel)) ggX1_moveAll_X1_northward
theorem dX1_moveAll_0 : decode cX1_moveAll 0 = .ok (.iconst 0, 1) := by decide +kernel
theorem dX1_moveAll_1 : decode cX1_moveAll 1 = .ok (.istore_n 1, 1) := by decide +kernel
theorem dX1_moveAll_2 : decode cX1_moveAll 2 = .ok (.iload_n 1, 1) := by decide +kernel
theorem dX1_moveAll_3 : decode cX1_moveAll 3 = .ok (.aload_n 0, 1) := by decide +kernel
theorem dX1_moveAll_4 : decode cX1_moveAll 4 = .ok (.getfield 11, 3) := by decide +kernel
theorem dX1_moveAll_7 : decode cX1_moveAll 7 = .ok (.bipush 35, 2) := by decide +kernel
theorem dX1_moveAll_9 : decode cX1_moveAll 9 = .ok (.iaload, 1) := by decide +kernel
theorem dX1_moveAll_10 : decode cX1_moveAll 10 = .ok (.if_icmp .gt 45, 3) := by decide +kernel
theorem dX1_moveAll_13 : decode cX1_moveAll 13 = .ok (.aload_n 0, 1) := by decide +kernel
theorem dX1_moveAll_14 : decode cX1_moveAll 14 = .ok (.getfield 11, 3) := by decide +kernel
theorem dX1_moveAll_17 : decode cX1_moveAll 17 = .ok (.iconst 5, 1) := by decide +kernel
theorem dX1_moveAll_18 : decode cX1_moveAll 18 = .ok (.iload_n 1, 1) := by decide +kernel
theorem dX1_moveAll_19 : decode cX1_moveAll 19 = .ok (.imul, 1) := by decide +kernel
theorem dX1_moveAll_20 : decode cX1_moveAll 20 = .ok (.iconst 0, 1) := by decide +kernel
theorem dX1_moveAll_21 : decode cX1_moveAll 21 = .ok (.iadd, 1) := by decide +kernel
theorem dX1_moveAll_22 : decode cX1_moveAll 22 = .ok (.dup2, 1) := by decide +kernel
theorem dX1_moveAll_23 : decode cX1_moveAll 23 = .ok (.iaload, 1) := by decide +kernel
theorem dX1_moveAll_24 : decode cX1_moveAll 24 = .ok (.aload_n 0, 1) := by decide +kernel
theorem dX1_moveAll_25 : decode cX1_moveAll 25 = .ok (.iload_n 1, 1) := by decide +kernel
theorem dX1_moveAll_26 : decode cX1_moveAll 26 = .ok (.invokevirtual 29, 3) := by decide +kernel
theorem dX1_moveAll_29 : decode cX1_moveAll 29 = .ok (.iadd, 1) := by decide +kernel
theorem dX1_moveAll_30 : decode cX1_moveAll 30 = .ok (.iastore, 1) := by decide +kernel
theorem dX1_moveAll_31 : decode cX1_moveAll 31 = .ok (.aload_n 0, 1) := by decide +kernel
theorem dX1_moveAll_32 : decode cX1_moveAll 32 = .ok (.getfield 11, 3) := by decide +kernel
theorem dX1_moveAll_35 : decode cX1_moveAll 35 = .ok (.iconst 5, 1) := by decide +kernel
theorem dX1_moveAll_36 : decode cX1_moveAll 36 = .ok (.iload_n 1, 1) := by decide +kernel
theorem dX1_moveAll_37 : decode cX1_moveAll 37 = .ok (.imul, 1) := by decide +kernel
theorem dX1_moveAll_38 : decode cX1_moveAll 38 = .ok (.iconst 1, 1) := by decide +kernel
theorem dX1_moveAll_39 : decode cX1_moveAll 39 = .ok (.iadd, 1) := by decide +kernel
theorem dX1_moveAll_40 : decode cX1_moveAll 40 = .ok (.dup2, 1) := by decide +kernel
theorem dX1_moveAll_41 : decode cX1_moveAll 41 = .ok (.iaload, 1) := by decide +kernel
theorem dX1_moveAll_42 : decode cX1_moveAll 42 = .ok (.aload_n 0, 1) := by decide +kernel
theorem dX1_moveAll_43 : decode cX1_moveAll 43 = .ok (.iload_n 1, 1) := by decide +kernel
theorem dX1_moveAll_44 : decode cX1_moveAll 44 = .ok (.invokevirtual 33, 3) := by decide +kernel
theorem dX1_moveAll_47 : decode cX1_moveAll 47 = .ok (.iadd, 1) := by decide +kernel
theorem dX1_moveAll_48 : decode cX1_moveAll 48 = .ok (.iastore, 1) := by decide +kernel
theorem dX1_moveAll_49 : decode cX1_moveAll 49 = .ok (.iinc 1 1, 3) := by decide +kernel
theorem dX1_moveAll_52 : decode cX1_moveAll 52 = .ok (.goto (-50), 3) := by decide +kernel
theorem dX1_moveAll_55 : decode cX1_moveAll 55 = .ok (.return_, 1) := by decide +kernel
set_option maxRecDepth 20000 in
theorem ggX1_look_X1_tableOf : GoodIn wsX1_look wsX1_tableOf := goodIn_r _ [6, 7, 8, 9, 5, 10, 1, 11, 12, 13, 14, 15, 16, 17, 18, 19, 20, 21, 22, 23, 24, 25, 26, 27, 28, 29, 30, 31, 32, 33, 34, 35, 36, 37, 38, 47, 48, 49, 50, 51, 52, 53] (by decide +kernel) (by decide +kernel)
set_option maxRecDepth 20000 in
theorem gX1_look_X1_tableOf : GoodIn wsX1_look (wsV RX1 75 RX1 yX1_tableOf wsX1_tableOf) := goodIn_app (goodIn_of _ (by decide +kernel)) ggX1_look_X1_tableOf
set_option maxRecDepth 20000 in
theorem ggX1_look_X1_approachOf : GoodIn wsX1_look wsX1_approachOf := goodIn_r _ [42, 1, 11, 12, 13, 14, 5, 15, 16, 17, 18, 19, 20, 21, 47, 48, 49, 50, 51, 52, 53] (by decide +kernel) (by decide +kernel)
set_option maxRecDepth 20000 in
theorem gX1_look_X1_approachOf : GoodIn wsX1_look (wsV RX1 79 RX1 yX1_approachOf wsX1_approachOf) := goodIn_app (goodIn_of _ (by decide +kernel)) ggX1_look_X1_approachOf
set_option maxRecDepth 20000 in
theorem ggX1_look_X0_isPastAndClear : GoodIn wsX1_look wsX0_isPastAndClear := goodIn_r _ [46, 29, 27, 50, 51, 52, 53] (by decide +kernel) (by decide +kernel)
set_option maxRecDepth 20000 in
theorem gX1_look_X0_isPastAndClear : GoodIn wsX1_look (wsV RX1 83 RX0 yX0_isPastAndClear wsX0_isPastAndClear) := goodIn_app (goodIn_of _ (by decide +kernel)) ggX1_look_X0_isPastAndClear
theorem dX1_look_0 : decode cX1_look 0 = .ok (.iconst 1, 1) := by decide +kernel
theorem dX1_look_1 : decode cX1_look 1 = .ok (.istore_n 1, 1) := by decide +kernel
theorem dX1_look_2 : decode cX1_look 2 = .ok (.iload_n 1, 1) := by decide +kernel
theorem dX1_look_3 : decode cX1_look 3 = .ok (.aload_n 0, 1) := by decide +kernel
theorem dX1_look_4 : decode cX1_look 4 = .ok (.getfield 11, 3) := by decide +kernel
theorem dX1_look_7 : decode cX1_look 7 = .ok (.bipush 35, 2) := by decide +kernel
theorem dX1_look_9 : decode cX1_look 9 = .ok (.iaload, 1) := by decide +kernel
theorem dX1_look_10 : decode cX1_look 10 = .ok (.if_icmp .gt 72, 3) := by decide +kernel
theorem dX1_look_13 : decode cX1_look 13 = .ok (.aload_n 0, 1) := by decide +kernel
theorem dX1_look_14 : decode cX1_look 14 = .ok (.getfield 11, 3) := by decide +kernel
theorem dX1_look_17 : decode cX1_look 17 = .ok (.iconst 5, 1) := by decide +kernel
theorem dX1_look_18 : decode cX1_look 18 = .ok (.iload_n 1, 1) := by decide +kernel
theorem dX1_look_19 : decode cX1_look 19 = .ok (.imul, 1) := by decide +kernel
theorem dX1_look_20 : decode cX1_look 20 = .ok (.iconst 4, 1) := by decide +kernel
theorem dX1_look_21 : decode cX1_look 21 = .ok (.iadd, 1) := by decide +kernel
theorem dX1_look_22 : decode cX1_look 22 = .ok (.iaload, 1) := by decide +kernel
theorem dX1_look_23 : decode cX1_look 23 = .ok (.ifCond .ne 22, 3) := by decide +kernel
theorem dX1_look_26 : decode cX1_look 26 = .ok (.aload_n 0, 1) := by decide +kernel
theorem dX1_look_27 : decode cX1_look 27 = .ok (.getfield 11, 3) := by decide +kernel
theorem dX1_look_30 : decode cX1_look 30 = .ok (.iconst 5, 1) := by decide +kernel
theorem dX1_look_31 : decode cX1_look 31 = .ok (.iload_n 1, 1) := by decide +kernel
theorem dX1_look_32 : decode cX1_look 32 = .ok (.imul, 1) := by decide +kernel
theorem dX1_look_33 : decode cX1_look 33 = .ok (.iconst 4, 1) := by decide +kernel
theorem dX1_look_34 : decode cX1_look 34 = .ok (.iadd, 1) := by decide +kernel
theorem dX1_look_35 : decode cX1_look 35 = .ok (.aload_n 0, 1) := by decide +kernel
theorem dX1_look_36 : decode cX1_look 36 = .ok (.iconst 0, 1) := by decide +kernel
theorem dX1_look_37 : decode cX1_look 37 = .ok (.iload_n 1, 1) := by decide +kernel
theorem dX1_look_38 : decode cX1_look 38 = .ok (.invokevirtual 75, 3) := by decide +kernel
theorem dX1_look_41 : decode cX1_look 41 = .ok (.iastore, 1) := by decide +kernel
theorem dX1_look_42 : decode cX1_look 42 = .ok (.goto 34, 3) := by decide +kernel
theorem dX1_look_45 : decode cX1_look 45 = .ok (.aload_n 0, 1) := by decide +kernel
theorem dX1_look_46 : decode cX1_look 46 = .ok (.iconst 0, 1) := by decide +kernel
theorem dX1_look_47 : decode cX1_look 47 = .ok (.iload_n 1, 1) := by decide +kernel
theorem dX1_look_48 : decode cX1_look 48 = .ok (.invokevirtual 79, 3) := by decide +kernel
theorem dX1_look_51 : decode cX1_look 51 = .ok (.aload_n 0, 1) := by decide +kernel
theorem dX1_look_52 : decode cX1_look 52 = .ok (.getfield 11, 3) := by decide +kernel
theorem dX1_look_55 : decode cX1_look 55 = .ok (.bipush 36, 2) := by decide +kernel
theorem dX1_look_57 : decode cX1_look 57 = .ok (.iaload, 1) := by decide +kernel
theorem dX1_look_58 : decode cX1_look 58 = .ok (.i2l, 1) := by decide +kernel
theorem dX1_look_59 : decode cX1_look 59 = .ok (.invokevirtual 83, 3) := by decide +kernel
theorem dX1_look_62 : decode cX1_look 62 = .ok (.ifCond .eq 14, 3) := by decide +kernel
theorem dX1_look_65 : decode cX1_look 65 = .ok (.aload_n 0, 1) := by decide +kernel
theorem dX1_look_66 : decode cX1_look 66 = .ok (.getfield 11, 3) := by decide +kernel
theorem dX1_look_69 : decode cX1_look 69 = .ok (.iconst 5, 1) := by decide +kernel
theorem dX1_look_70 : decode cX1_look 70 = .ok (.iload_n 1, 1) := by decide +kernel
theorem dX1_look_71 : decode cX1_look 71 = .ok (.imul, 1) := by decide +kernel
theorem dX1_look_72 : decode cX1_look 72 = .ok (.iconst 4, 1) := by decide +kernel
theorem dX1_look_73 : decode cX1_look 73 = .ok (.iadd, 1) := by decide +kernel
theorem dX1_look_74 : decode cX1_look 74 = .ok (.iconst 0, 1) := by decide +kernel
theorem dX1_look_75 : decode cX1_look 75 = .ok (.iastore, 1) := by decide +kernel
theorem dX1_look_76 : decode cX1_look 76 = .ok (.iinc 1 1, 3) := by decide +kernel
theorem dX1_look_79 : decode cX1_look 79 = .ok (.goto (-77), 3) := by decide +kernel
theorem dX1_look_82 : decode cX1_look 82 = .ok (.return_, 1) := by decide +kernel
theorem dX1_givenWay_0 : decode cX1_givenWay 0 = .ok (.iconst 0, 1) := by decide +kernel
theorem dX1_givenWay_1 : decode cX1_givenWay 1 = .ok (.istore_n 1, 1) := by decide +kernel
theorem dX1_givenWay_2 : decode cX1_givenWay 2 = .ok (.iconst 1, 1) := by decide +kernel
theorem dX1_givenWay_3 : decode cX1_givenWay 3 = .ok (.istore_n 2, 1) := by decide +kernel
theorem dX1_givenWay_4 : decode cX1_givenWay 4 = .ok (.iload_n 2, 1) := by decide +kernel
theorem dX1_givenWay_5 : decode cX1_givenWay 5 = .ok (.aload_n 0, 1) := by decide +kernel
theorem dX1_givenWay_6 : decode cX1_givenWay 6 = .ok (.getfield 11, 3) := by decide +kernel
theorem dX1_givenWay_9 : decode cX1_givenWay 9 = .ok (.bipush 35, 2) := by decide +kernel
theorem dX1_givenWay_11 : decode cX1_givenWay 11 = .ok (.iaload, 1) := by decide +kernel
theorem dX1_givenWay_12 : decode cX1_givenWay 12 = .ok (.if_icmp .gt 29, 3) := by decide +kernel
theorem dX1_givenWay_15 : decode cX1_givenWay 15 = .ok (.aload_n 0, 1) := by decide +kernel
theorem dX1_givenWay_16 : decode cX1_givenWay 16 = .ok (.getfield 11, 3) := by decide +kernel
theorem dX1_givenWay_19 : decode cX1_givenWay 19 = .ok (.iconst 5, 1) := by decide +kernel
theorem dX1_givenWay_20 : decode cX1_givenWay 20 = .ok (.iload_n 2, 1) := by decide +kernel
theorem dX1_givenWay_21 : decode cX1_givenWay 21 = .ok (.imul, 1) := by decide +kernel
theorem dX1_givenWay_22 : decode cX1_givenWay 22 = .ok (.iconst 4, 1) := by decide +kernel
theorem dX1_givenWay_23 : decode cX1_givenWay 23 = .ok (.iadd, 1) := by decide +kernel
theorem dX1_givenWay_24 : decode cX1_givenWay 24 = .ok (.iaload, 1) := by decide +kernel
theorem dX1_givenWay_25 : decode cX1_givenWay 25 = .ok (.iconst 1, 1) := by decide +kernel
theorem dX1_givenWay_26 : decode cX1_givenWay 26 = .ok (.if_icmp .ne 9, 3) := by decide +kernel
theorem dX1_givenWay_29 : decode cX1_givenWay 29 = .ok (.iload_n 1, 1) := by decide +kernel
theorem dX1_givenWay_30 : decode cX1_givenWay 30 = .ok (.iconst 1, 1) := by decide +kernel
theorem dX1_givenWay_31 : decode cX1_givenWay 31 = .ok (.iload_n 2, 1) := by decide +kernel
theorem dX1_givenWay_32 : decode cX1_givenWay 32 = .ok (.ishl, 1) := by decide +kernel
theorem dX1_givenWay_33 : decode cX1_givenWay 33 = .ok (.ior, 1) := by decide +kernel
theorem dX1_givenWay_34 : decode cX1_givenWay 34 = .ok (.istore_n 1, 1) := by decide +kernel
theorem dX1_givenWay_35 : decode cX1_givenWay 35 = .ok (.iinc 2 1, 3) := by decide +kernel
theorem dX1_givenWay_38 : decode cX1_givenWay 38 = .ok (.goto (-34), 3) := by decide +kernel
theorem dX1_givenWay_41 : decode cX1_givenWay 41 = .ok (.iload_n 1, 1) := by decide +kernel
theorem dX1_givenWay_42 : decode cX1_givenWay 42 = .ok (.ireturn, 1) := by decide +kernel
theorem dX1_follow_0 : decode cX1_follow 0 = .ok (.iload_n 1, 1) := by decide +kernel
theorem dX1_follow_1 : decode cX1_follow 1 = .ok (.bipush 16, 2) := by decide +kernel
theorem dX1_follow_3 : decode cX1_follow 3 = .ok (.if_icmp .ge 10, 3) := by decide +kernel
theorem dX1_follow_6 : decode cX1_follow 6 = .ok (.aload_n 0, 1) := by decide +kernel
theorem dX1_follow_7 : decode cX1_follow 7 = .ok (.getfield 11, 3) := by decide +kernel
theorem dX1_follow_10 : decode cX1_follow 10 = .ok (.iconst 2, 1) := by decide +kernel
theorem dX1_follow_11 : decode cX1_follow 11 = .ok (.iload_n 1, 1) := by decide +kernel
theorem dX1_follow_12 : decode cX1_follow 12 = .ok (.iastore, 1) := by decide +kernel
theorem dX1_follow_13 : decode cX1_follow 13 = .ok (.iload_n 1, 1) := by decide +kernel
theorem dX1_follow_14 : decode cX1_follow 14 = .ok (.bipush 16, 2) := by decide +kernel
theorem dX1_follow_16 : decode cX1_follow 16 = .ok (.if_icmp .ne 10, 3) := by decide +kernel
theorem dX1_follow_19 : decode cX1_follow 19 = .ok (.aload_n 0, 1) := by decide +kernel
theorem dX1_follow_20 : decode cX1_follow 20 = .ok (.getfield 11, 3) := by decide +kernel
theorem dX1_follow_23 : decode cX1_follow 23 = .ok (.iconst 3, 1) := by decide +kernel
theorem dX1_follow_24 : decode cX1_follow 24 = .ok (.iconst 0, 1) := by decide +kernel
theorem dX1_follow_25 : decode cX1_follow 25 = .ok (.iastore, 1) := by decide +kernel
theorem dX1_follow_26 : decode cX1_follow 26 = .ok (.iload_n 1, 1) := by decide +kernel
theorem dX1_follow_27 : decode cX1_follow 27 = .ok (.ireturn, 1) := by decide +kernel
set_option maxRecDepth 20000 in
theorem ggX1_approachOf_X1_measure : GoodIn wsX1_approachOf wsX1_measure := goodIn_r _ [7, 1, 8, 9, 2, 10, 11, 12, 13, 14, 15, 16, 17, 18, 19, 20] (by decide +kernel) (by decide +kernel)
set_option maxRecDepth 20000 in
theorem gX1_approachOf_X1_measure : GoodIn wsX1_approachOf (wsV RX1 87 RX1 yX1_measure wsX1_measure) := goodIn_app (goodIn_of _ (by decide +kernel)) ggX1_approachOf_X1_measure
theorem dX1_approachOf_0 : decode cX1_approachOf 0 = .ok (.aload_n 0, 1) := by decide +kernel
theorem dX1_approachOf_1 : decode cX1_approachOf 1 = .ok (.iload_n 1, 1) := by decide +kernel
theorem dX1_approachOf_2 : decode cX1_approachOf 2 = .ok (.aload_n 0, 1) := by decide +kernel
theorem dX1_approachOf_3 : decode cX1_approachOf 3 = .ok (.getfield 11, 3) := by decide +kernel
theorem dX1_approachOf_6 : decode cX1_approachOf 6 = .ok (.iconst 5, 1) := by decide +kernel
theorem dX1_approachOf_7 : decode cX1_approachOf 7 = .ok (.iload_n 1, 1) := by decide +kernel
theorem dX1_approachOf_8 : decode cX1_approachOf 8 = .ok (.imul, 1) := by decide +kernel
theorem dX1_approachOf_9 : decode cX1_approachOf 9 = .ok (.iconst 2, 1) := by decide +kernel
theorem dX1_approachOf_10 : decode cX1_approachOf 10 = .ok (.iadd, 1) := by decide +kernel
theorem dX1_approachOf_11 : decode cX1_approachOf 11 = .ok (.iaload, 1) := by decide +kernel
theorem dX1_approachOf_12 : decode cX1_approachOf 12 = .ok (.aload_n 0, 1) := by decide +kernel
theorem dX1_approachOf_13 : decode cX1_approachOf 13 = .ok (.getfield 11, 3) := by decide +kernel
theorem dX1_approachOf_16 : decode cX1_approachOf 16 = .ok (.iconst 5, 1) := by decide +kernel
theorem dX1_approachOf_17 : decode cX1_approachOf 17 = .ok (.iload_n 1, 1) := by decide +kernel
theorem dX1_approachOf_18 : decode cX1_approachOf 18 = .ok (.imul, 1) := by decide +kernel
theorem dX1_approachOf_19 : decode cX1_approachOf 19 = .ok (.iconst 3, 1) := by decide +kernel
theorem dX1_approachOf_20 : decode cX1_approachOf 20 = .ok (.iadd, 1) := by decide +kernel
theorem dX1_approachOf_21 : decode cX1_approachOf 21 = .ok (.iaload, 1) := by decide +kernel
theorem dX1_approachOf_22 : decode cX1_approachOf 22 = .ok (.iload_n 2, 1) := by decide +kernel
theorem dX1_approachOf_23 : decode cX1_approachOf 23 = .ok (.invokevirtual 87, 3) := by decide +kernel
theorem dX1_approachOf_26 : decode cX1_approachOf 26 = .ok (.aload_n 0, 1) := by decide +kernel
theorem dX1_approachOf_27 : decode cX1_approachOf 27 = .ok (.getfield 18, 3) := by decide +kernel
theorem dX1_approachOf_30 : decode cX1_approachOf 30 = .ok (.areturn, 1) := by decide +kernel
set_option maxRecDepth 20000 in
theorem ggX1_haveRisk_X1_measure : GoodIn wsX1_haveRisk wsX1_measure := goodIn_r _ [7, 1, 8, 9, 2, 10, 11, 12, 13, 23, 24, 25, 26, 27, 28, 29] (by decide +kernel) (by decide +kernel)
set_option maxRecDepth 20000 in
theorem gX1_haveRisk_X1_measure : GoodIn wsX1_haveRisk (wsV RX1 87 RX1 yX1_measure wsX1_measure) := goodIn_app (goodIn_of _ (by decide +kernel)) ggX1_haveRisk_X1_measure
set_option maxRecDepth 20000 in
theorem ggX1_haveRisk_X0_isRisk : GoodIn wsX1_haveRisk wsX0_isRisk := goodIn_r _ [18, 19, 20, 21, 22, 26, 27, 28, 29] (by decide +kernel) (by decide +kernel)
set_option maxRecDepth 20000 in
theorem gX1_haveRisk_X0_isRisk : GoodIn wsX1_haveRisk (wsV RX1 91 RX0 yX0_isRisk wsX0_isRisk) := goodIn_app (goodIn_of _ (by decide +kernel)) ggX1_haveRisk_X0_isRisk
theorem dX1_haveRisk_0 : decode cX1_haveRisk 0 = .ok (.aload_n 0, 1) := by decide +kernel
theorem dX1_haveRisk_1 : decode cX1_haveRisk 1 = .ok (.iload_n 1, 1) := by decide +kernel
theorem dX1_haveRisk_2 : decode cX1_haveRisk 2 = .ok (.aload_n 0, 1) := by decide +kernel
theorem dX1_haveRisk_3 : decode cX1_haveRisk 3 = .ok (.getfield 11, 3) := by decide +kernel
theorem dX1_haveRisk_6 : decode cX1_haveRisk 6 = .ok (.iconst 5, 1) := by decide +kernel
theorem dX1_haveRisk_7 : decode cX1_haveRisk 7 = .ok (.iload_n 1, 1) := by decide +kernel
theorem dX1_haveRisk_8 : decode cX1_haveRisk 8 = .ok (.imul, 1) := by decide +kernel
theorem dX1_haveRisk_9 : decode cX1_haveRisk 9 = .ok (.iconst 2, 1) := by decide +kernel
theorem dX1_haveRisk_10 : decode cX1_haveRisk 10 = .ok (.iadd, 1) := by decide +kernel
theorem dX1_haveRisk_11 : decode cX1_haveRisk 11 = .ok (.iaload, 1) := by decide +kernel
theorem dX1_haveRisk_12 : decode cX1_haveRisk 12 = .ok (.aload_n 0, 1) := by decide +kernel
theorem dX1_haveRisk_13 : decode cX1_haveRisk 13 = .ok (.getfield 11, 3) := by decide +kernel
theorem dX1_haveRisk_16 : decode cX1_haveRisk 16 = .ok (.iconst 5, 1) := by decide +kernel
theorem dX1_haveRisk_17 : decode cX1_haveRisk 17 = .ok (.iload_n 1, 1) := by decide +kernel
theorem dX1_haveRisk_18 : decode cX1_haveRisk 18 = .ok (.imul, 1) := by decide +kernel
theorem dX1_haveRisk_19 : decode cX1_haveRisk 19 = .ok (.iconst 3, 1) := by decide +kernel
theorem dX1_haveRisk_20 : decode cX1_haveRisk 20 = .ok (.iadd, 1) := by decide +kernel
theorem dX1_haveRisk_21 : decode cX1_haveRisk 21 = .ok (.iaload, 1) := by decide +kernel
theorem dX1_haveRisk_22 : decode cX1_haveRisk 22 = .ok (.iload_n 2, 1) := by decide +kernel
theorem dX1_haveRisk_23 : decode cX1_haveRisk 23 = .ok (.invokevirtual 87, 3) := by decide +kernel
theorem dX1_haveRisk_26 : decode cX1_haveRisk 26 = .ok (.aload_n 0, 1) := by decide +kernel
theorem dX1_haveRisk_27 : decode cX1_haveRisk 27 = .ok (.getfield 18, 3) := by decide +kernel
theorem dX1_haveRisk_30 : decode cX1_haveRisk 30 = .ok (.aload_n 0, 1) := by decide +kernel
theorem dX1_haveRisk_31 : decode cX1_haveRisk 31 = .ok (.getfield 11, 3) := by decide +kernel
theorem dX1_haveRisk_34 : decode cX1_haveRisk 34 = .ok (.bipush 36, 2) := by decide +kernel
theorem dX1_haveRisk_36 : decode cX1_haveRisk 36 = .ok (.iaload, 1) := by decide +kernel
theorem dX1_haveRisk_37 : decode cX1_haveRisk 37 = .ok (.i2l, 1) := by decide +kernel
theorem dX1_haveRisk_38 : decode cX1_haveRisk 38 = .ok (.aload_n 0, 1) := by decide +kernel
theorem dX1_haveRisk_39 : decode cX1_haveRisk 39 = .ok (.getfield 11, 3) := by decide +kernel
theorem dX1_haveRisk_42 : decode cX1_haveRisk 42 = .ok (.bipush 37, 2) := by decide +kernel
theorem dX1_haveRisk_44 : decode cX1_haveRisk 44 = .ok (.iaload, 1) := by decide +kernel
theorem dX1_haveRisk_45 : decode cX1_haveRisk 45 = .ok (.i2l, 1) := by decide +kernel
theorem dX1_haveRisk_46 : decode cX1_haveRisk 46 = .ok (.invokevirtual 91, 3) := by decide +kernel
theorem dX1_haveRisk_49 : decode cX1_haveRisk 49 = .ok (.ireturn, 1) := by decide +kernel
set_option maxRecDepth 20000 in
theorem ggX1_wouldRisk_X1_measure : GoodIn wsX1_wouldRisk wsX1_measure := goodIn_r _ [7, 2, 8, 9, 1, 10, 11, 12, 13, 23, 24, 25, 26, 27, 28, 29] (by decide +kernel) (by decide +kernel)
set_option maxRecDepth 20000 in
theorem gX1_wouldRisk_X1_measure : GoodIn wsX1_wouldRisk (wsV RX1 87 RX1 yX1_measure wsX1_measure) := goodIn_app (goodIn_of _ (by decide +kernel)) ggX1_wouldRisk_X1_measure
set_option maxRecDepth 20000 in
theorem ggX1_wouldRisk_X0_isRisk : GoodIn wsX1_wouldRisk wsX0_isRisk := goodIn_r _ [18, 19, 20, 21, 22, 26, 27, 28, 29] (by decide +kernel) (by decide +kernel)
set_option maxRecDepth 20000 in
theorem gX1_wouldRisk_X0_isRisk : GoodIn wsX1_wouldRisk (wsV RX1 91 RX0 yX0_isRisk wsX0_isRisk) := goodIn_app (goodIn_of _ (by decide +kernel)) ggX1_wouldRisk_X0_isRisk
theorem dX1_wouldRisk_0 : decode cX1_wouldRisk 0 = .ok (.aload_n 0, 1) := by decide +kernel
theorem dX1_wouldRisk_1 : decode cX1_wouldRisk 1 = .ok (.iload_n 1, 1) := by decide +kernel
theorem dX1_wouldRisk_2 : decode cX1_wouldRisk 2 = .ok (.iload_n 2, 1) := by decide +kernel
theorem dX1_wouldRisk_3 : decode cX1_wouldRisk 3 = .ok (.iload_n 3, 1) := by decide +kernel
theorem dX1_wouldRisk_4 : decode cX1_wouldRisk 4 = .ok (.iload 4, 2) := by decide +kernel
theorem dX1_wouldRisk_6 : decode cX1_wouldRisk 6 = .ok (.invokevirtual 87, 3) := by decide +kernel
theorem dX1_wouldRisk_9 : decode cX1_wouldRisk 9 = .ok (.aload_n 0, 1) := by decide +kernel
theorem dX1_wouldRisk_10 : decode cX1_wouldRisk 10 = .ok (.getfield 18, 3) := by decide +kernel
theorem dX1_wouldRisk_13 : decode cX1_wouldRisk 13 = .ok (.aload_n 0, 1) := by decide +kernel
theorem dX1_wouldRisk_14 : decode cX1_wouldRisk 14 = .ok (.getfield 11, 3) := by decide +kernel
theorem dX1_wouldRisk_17 : decode cX1_wouldRisk 17 = .ok (.bipush 36, 2) := by decide +kernel
theorem dX1_wouldRisk_19 : decode cX1_wouldRisk 19 = .ok (.iaload, 1) := by decide +kernel
theorem dX1_wouldRisk_20 : decode cX1_wouldRisk 20 = .ok (.i2l, 1) := by decide +kernel
theorem dX1_wouldRisk_21 : decode cX1_wouldRisk 21 = .ok (.aload_n 0, 1) := by decide +kernel
theorem dX1_wouldRisk_22 : decode cX1_wouldRisk 22 = .ok (.getfield 11, 3) := by decide +kernel
theorem dX1_wouldRisk_25 : decode cX1_wouldRisk 25 = .ok (.bipush 37, 2) := by decide +kernel
theorem dX1_wouldRisk_27 : decode cX1_wouldRisk 27 = .ok (.iaload, 1) := by decide +kernel
theorem dX1_wouldRisk_28 : decode cX1_wouldRisk 28 = .ok (.i2l, 1) := by decide +kernel
theorem dX1_wouldRisk_29 : decode cX1_wouldRisk 29 = .ok (.invokevirtual 91, 3) := by decide +kernel
theorem dX1_wouldRisk_32 : decode cX1_wouldRisk 32 = .ok (.ireturn, 1) := by decide +kernel
theorem dX1_measure_0 : decode cX1_measure 0 = .ok (.aload_n 0, 1) := by decide +kernel
theorem dX1_measure_1 : decode cX1_measure 1 = .ok (.getfield 11, 3) := by decide +kernel
theorem dX1_measure_4 : decode cX1_measure 4 = .ok (.iconst 5, 1) := by decide +kernel
theorem dX1_measure_5 : decode cX1_measure 5 = .ok (.iload 4, 2) := by decide +kernel
theorem dX1_measure_7 : decode cX1_measure 7 = .ok (.imul, 1) := by decide +kernel
theorem dX1_measure_8 : decode cX1_measure 8 = .ok (.iconst 2, 1) := by decide +kernel
theorem dX1_measure_9 : decode cX1_measure 9 = .ok (.iadd, 1) := by decide +kernel
theorem dX1_measure_10 : decode cX1_measure 10 = .ok (.iaload, 1) := by decide +kernel
theorem dX1_measure_11 : decode cX1_measure 11 = .ok (.istore 5, 2) := by decide +kernel
theorem dX1_measure_13 : decode cX1_measure 13 = .ok (.aload_n 0, 1) := by decide +kernel
theorem dX1_measure_14 : decode cX1_measure 14 = .ok (.getfield 11, 3) := by decide +kernel
theorem dX1_measure_17 : decode cX1_measure 17 = .ok (.iconst 5, 1) := by decide +kernel
theorem dX1_measure_18 : decode cX1_measure 18 = .ok (.iload 4, 2) := by decide +kernel
theorem dX1_measure_20 : decode cX1_measure 20 = .ok (.imul, 1) := by decide +kernel
theorem dX1_measure_21 : decode cX1_measure 21 = .ok (.iconst 3, 1) := by decide +kernel
theorem dX1_measure_22 : decode cX1_measure 22 = .ok (.iadd, 1) := by decide +kernel
theorem dX1_measure_23 : decode cX1_measure 23 = .ok (.iaload, 1) := by decide +kernel
theorem dX1_measure_24 : decode cX1_measure 24 = .ok (.istore 6, 2) := by decide +kernel
theorem dX1_measure_26 : decode cX1_measure 26 = .ok (.aload_n 0, 1) := by decide +kernel
theorem dX1_measure_27 : decode cX1_measure 27 = .ok (.getfield 11, 3) := by decide +kernel
theorem dX1_measure_30 : decode cX1_measure 30 = .ok (.iconst 5, 1) := by decide +kernel
theorem dX1_measure_31 : decode cX1_measure 31 = .ok (.iload 4, 2) := by decide +kernel
theorem dX1_measure_33 : decode cX1_measure 33 = .ok (.imul, 1) := by decide +kernel
theorem dX1_measure_34 : decode cX1_measure 34 = .ok (.iconst 0, 1) := by decide +kernel
theorem dX1_measure_35 : decode cX1_measure 35 = .ok (.iadd, 1) := by decide +kernel
theorem dX1_measure_36 : decode cX1_measure 36 = .ok (.iaload, 1) := by decide +kernel
theorem dX1_measure_37 : decode cX1_measure 37 = .ok (.aload_n 0, 1) := by decide +kernel
theorem dX1_measure_38 : decode cX1_measure 38 = .ok (.getfield 11, 3) := by decide +kernel
theorem dX1_measure_41 : decode cX1_measure 41 = .ok (.iconst 5, 1) := by decide +kernel
theorem dX1_measure_42 : decode cX1_measure 42 = .ok (.iload_n 1, 1) := by decide +kernel
theorem dX1_measure_43 : decode cX1_measure 43 = .ok (.imul, 1) := by decide +kernel
theorem dX1_measure_44 : decode cX1_measure 44 = .ok (.iconst 0, 1) := by decide +kernel
theorem dX1_measure_45 : decode cX1_measure 45 = .ok (.iadd, 1) := by decide +kernel
theorem dX1_measure_46 : decode cX1_measure 46 = .ok (.iaload, 1) := by decide +kernel
theorem dX1_measure_47 : decode cX1_measure 47 = .ok (.isub, 1) := by decide +kernel
theorem dX1_measure_48 : decode cX1_measure 48 = .ok (.i2l, 1) := by decide +kernel
theorem dX1_measure_49 : decode cX1_measure 49 = .ok (.lstore 7, 2) := by decide +kernel
theorem dX1_measure_51 : decode cX1_measure 51 = .ok (.aload_n 0, 1) := by decide +kernel
theorem dX1_measure_52 : decode cX1_measure 52 = .ok (.getfield 11, 3) := by decide +kernel
theorem dX1_measure_55 : decode cX1_measure 55 = .ok (.iconst 5, 1) := by decide +kernel
theorem dX1_measure_56 : decode cX1_measure 56 = .ok (.iload 4, 2) := by decide +kernel
theorem dX1_measure_58 : decode cX1_measure 58 = .ok (.imul, 1) := by decide +kernel
theorem dX1_measure_59 : decode cX1_measure 59 = .ok (.iconst 1, 1) := by decide +kernel
theorem dX1_measure_60 : decode cX1_measure 60 = .ok (.iadd, 1) := by decide +kernel
theorem dX1_measure_61 : decode cX1_measure 61 = .ok (.iaload, 1) := by decide +kernel
theorem dX1_measure_62 : decode cX1_measure 62 = .ok (.aload_n 0, 1) := by decide +kernel
theorem dX1_measure_63 : decode cX1_measure 63 = .ok (.getfield 11, 3) := by decide +kernel
theorem dX1_measure_66 : decode cX1_measure 66 = .ok (.iconst 5, 1) := by decide +kernel
theorem dX1_measure_67 : decode cX1_measure 67 = .ok (.iload_n 1, 1) := by decide +kernel
theorem dX1_measure_68 : decode cX1_measure 68 = .ok (.imul, 1) := by decide +kernel
theorem dX1_measure_69 : decode cX1_measure 69 = .ok (.iconst 1, 1) := by decide +kernel
theorem dX1_measure_70 : decode cX1_measure 70 = .ok (.iadd, 1) := by decide +kernel
theorem dX1_measure_71 : decode cX1_measure 71 = .ok (.iaload, 1) := by decide +kernel
theorem dX1_measure_72 : decode cX1_measure 72 = .ok (.isub, 1) := by decide +kernel
theorem dX1_measure_73 : decode cX1_measure 73 = .ok (.i2l, 1) := by decide +kernel
theorem dX1_measure_74 : decode cX1_measure 74 = .ok (.lstore 9, 2) := by decide +kernel
theorem dX1_measure_76 : decode cX1_measure 76 = .ok (.iload 6, 2) := by decide +kernel
theorem dX1_measure_78 : decode cX1_measure 78 = .ok (.getstatic 36, 3) := by decide +kernel
theorem dX1_measure_81 : decode cX1_measure 81 = .ok (.iload 5, 2) := by decide +kernel
theorem dX1_measure_83 : decode cX1_measure 83 = .ok (.bipush 15, 2) := by decide +kernel
theorem dX1_measure_85 : decode cX1_measure 85 = .ok (.iand, 1) := by decide +kernel
theorem dX1_measure_86 : decode cX1_measure 86 = .ok (.iaload, 1) := by decide +kernel
theorem dX1_measure_87 : decode cX1_measure 87 = .ok (.imul, 1) := by decide +kernel
theorem dX1_measure_88 : decode cX1_measure 88 = .ok (.iload_n 3, 1) := by decide +kernel
theorem dX1_measure_89 : decode cX1_measure 89 = .ok (.getstatic 36, 3) := by decide +kernel
theorem dX1_measure_92 : decode cX1_measure 92 = .ok (.iload_n 2, 1) := by decide +kernel
theorem dX1_measure_93 : decode cX1_measure 93 = .ok (.bipush 15, 2) := by decide +kernel
theorem dX1_measure_95 : decode cX1_measure 95 = .ok (.iand, 1) := by decide +kernel
theorem dX1_measure_96 : decode cX1_measure 96 = .ok (.iaload, 1) := by decide +kernel
theorem dX1_measure_97 : decode cX1_measure 97 = .ok (.imul, 1) := by decide +kernel
theorem dX1_measure_98 : decode cX1_measure 98 = .ok (.isub, 1) := by decide +kernel
theorem dX1_measure_99 : decode cX1_measure 99 = .ok (.i2l, 1) := by decide +kernel
theorem dX1_measure_100 : decode cX1_measure 100 = .ok (.lstore 11, 2) := by decide +kernel
theorem dX1_measure_102 : decode cX1_measure 102 = .ok (.iload 6, 2) := by decide +kernel
theorem dX1_measure_104 : decode cX1_measure 104 = .ok (.getstatic 39, 3) := by decide +kernel
theorem dX1_measure_107 : decode cX1_measure 107 = .ok (.iload 5, 2) := by decide +kernel
theorem dX1_measure_109 : decode cX1_measure 109 = .ok (.bipush 15, 2) := by decide +kernel
theorem dX1_measure_111 : decode cX1_measure 111 = .ok (.iand, 1) := by decide +kernel
theorem dX1_measure_112 : decode cX1_measure 112 = .ok (.iaload, 1) := by decide +kernel
theorem dX1_measure_113 : decode cX1_measure 113 = .ok (.imul, 1) := by decide +kernel
theorem dX1_measure_114 : decode cX1_measure 114 = .ok (.iload_n 3, 1) := by decide +kernel
theorem dX1_measure_115 : decode cX1_measure 115 = .ok (.getstatic 39, 3) := by decide +kernel
theorem dX1_measure_118 : decode cX1_measure 118 = .ok (.iload_n 2, 1) := by decide +kernel
theorem dX1_measure_119 : decode cX1_measure 119 = .ok (.bipush 15, 2) := by decide +kernel
theorem dX1_measure_121 : decode cX1_measure 121 = .ok (.iand, 1) := by decide +kernel
theorem dX1_measure_122 : decode cX1_measure 122 = .ok (.iaload, 1) := by decide +kernel
theorem dX1_measure_123 : decode cX1_measure 123 = .ok (.imul, 1) := by decide +kernel
theorem dX1_measure_124 : decode cX1_measure 124 = .ok (.isub, 1) := by decide +kernel
theorem dX1_measure_125 : decode cX1_measure 125 = .ok (.i2l, 1) := by decide +kernel
theorem dX1_measure_126 : decode cX1_measure 126 = .ok (.lstore 13, 2) := by decide +kernel
theorem dX1_measure_128 : decode cX1_measure 128 = .ok (.lload 7, 2) := by decide +kernel
theorem dX1_measure_130 : decode cX1_measure 130 = .ok (.lload 11, 2) := by decide +kernel
theorem dX1_measure_132 : decode cX1_measure 132 = .ok (.lmul, 1) := by decide +kernel
theorem dX1_measure_133 : decode cX1_measure 133 = .ok (.lload 9, 2) := by decide +kernel
theorem dX1_measure_135 : decode cX1_measure 135 = .ok (.lload 13, 2) := by decide +kernel
theorem dX1_measure_137 : decode cX1_measure 137 = .ok (.lmul, 1) := by decide +kernel
theorem dX1_measure_138 : decode cX1_measure 138 = .ok (.ladd, 1) := by decide +kernel
theorem dX1_measure_139 : decode cX1_measure 139 = .ok (.lstore 15, 2) := by decide +kernel
theorem dX1_measure_141 : decode cX1_measure 141 = .ok (.lload 15, 2) := by decide +kernel
theorem dX1_measure_143 : decode cX1_measure 143 = .ok (.lconst 0, 1) := by decide +kernel
theorem dX1_measure_144 : decode cX1_measure 144 = .ok (.lcmp, 1) := by decide +kernel
theorem dX1_measure_145 : decode cX1_measure 145 = .ok (.ifCond .lt 46, 3) := by decide +kernel
theorem dX1_measure_148 : decode cX1_measure 148 = .ok (.aload_n 0, 1) := by decide +kernel
theorem dX1_measure_149 : decode cX1_measure 149 = .ok (.getfield 18, 3) := by decide +kernel
theorem dX1_measure_152 : decode cX1_measure 152 = .ok (.lconst 0, 1) := by decide +kernel
theorem dX1_measure_153 : decode cX1_measure 153 = .ok (.putfield 95, 3) := by decide +kernel
theorem dX1_measure_156 : decode cX1_measure 156 = .ok (.aload_n 0, 1) := by decide +kernel
theorem dX1_measure_157 : decode cX1_measure 157 = .ok (.getfield 18, 3) := by decide +kernel
theorem dX1_measure_160 : decode cX1_measure 160 = .ok (.lconst 1, 1) := by decide +kernel
theorem dX1_measure_161 : decode cX1_measure 161 = .ok (.putfield 99, 3) := by decide +kernel
theorem dX1_measure_164 : decode cX1_measure 164 = .ok (.aload_n 0, 1) := by decide +kernel
theorem dX1_measure_165 : decode cX1_measure 165 = .ok (.getfield 18, 3) := by decide +kernel
theorem dX1_measure_168 : decode cX1_measure 168 = .ok (.lload 7, 2) := by decide +kernel
theorem dX1_measure_170 : decode cX1_measure 170 = .ok (.lload 7, 2) := by decide +kernel
theorem dX1_measure_172 : decode cX1_measure 172 = .ok (.lmul, 1) := by decide +kernel
theorem dX1_measure_173 : decode cX1_measure 173 = .ok (.lload 9, 2) := by decide +kernel
theorem dX1_measure_175 : decode cX1_measure 175 = .ok (.lload 9, 2) := by decide +kernel
theorem dX1_measure_177 : decode cX1_measure 177 = .ok (.lmul, 1) := by decide +kernel
theorem dX1_measure_178 : decode cX1_measure 178 = .ok (.ladd, 1) := by decide +kernel
theorem dX1_measure_179 : decode cX1_measure 179 = .ok (.putfield 102, 3) := by decide +kernel
theorem dX1_measure_182 : decode cX1_measure 182 = .ok (.aload_n 0, 1) := by decide +kernel
theorem dX1_measure_183 : decode cX1_measure 183 = .ok (.getfield 18, 3) := by decide +kernel
theorem dX1_measure_186 : decode cX1_measure 186 = .ok (.lconst 1, 1) := by decide +kernel
theorem dX1_measure_187 : decode cX1_measure 187 = .ok (.putfield 105, 3) := by decide +kernel
theorem dX1_measure_190 : decode cX1_measure 190 = .ok (.return_, 1) := by decide +kernel
theorem dX1_measure_191 : decode cX1_measure 191 = .ok (.lload 7, 2) := by decide +kernel
theorem dX1_measure_193 : decode cX1_measure 193 = .ok (.lload 13, 2) := by decide +kernel
theorem dX1_measure_195 : decode cX1_measure 195 = .ok (.lmul, 1) := by decide +kernel
theorem dX1_measure_196 : decode cX1_measure 196 = .ok (.lload 9, 2) := by decide +kernel
theorem dX1_measure_198 : decode cX1_measure 198 = .ok (.lload 11, 2) := by decide +kernel
theorem dX1_measure_200 : decode cX1_measure 200 = .ok (.lmul, 1) := by decide +kernel
theorem dX1_measure_201 : decode cX1_measure 201 = .ok (.lsub, 1) := by decide +kernel
theorem dX1_measure_202 : decode cX1_measure 202 = .ok (.lstore 17, 2) := by decide +kernel
theorem dX1_measure_204 : decode cX1_measure 204 = .ok (.aload_n 0, 1) := by decide +kernel
theorem dX1_measure_205 : decode cX1_measure 205 = .ok (.getfield 18, 3) := by decide +kernel
theorem dX1_measure_208 : decode cX1_measure 208 = .ok (.lload 15, 2) := by decide +kernel
theorem dX1_measure_210 : decode cX1_measure 210 = .ok (.lneg, 1) := by decide +kernel
theorem dX1_measure_211 : decode cX1_measure 211 = .ok (.putfield 95, 3) := by decide +kernel
theorem dX1_measure_214 : decode cX1_measure 214 = .ok (.aload_n 0, 1) := by decide +kernel
theorem dX1_measure_215 : decode cX1_measure 215 = .ok (.getfield 18, 3) := by decide +kernel
theorem dX1_measure_218 : decode cX1_measure 218 = .ok (.lload 11, 2) := by decide +kernel
theorem dX1_measure_220 : decode cX1_measure 220 = .ok (.lload 11, 2) := by decide +kernel
theorem dX1_measure_222 : decode cX1_measure 222 = .ok (.lmul, 1) := by decide +kernel
theorem dX1_measure_223 : decode cX1_measure 223 = .ok (.lload 13, 2) := by decide +kernel
theorem dX1_measure_225 : decode cX1_measure 225 = .ok (.lload 13, 2) := by decide +kernel
theorem dX1_measure_227 : decode cX1_measure 227 = .ok (.lmul, 1) := by decide +kernel
theorem dX1_measure_228 : decode cX1_measure 228 = .ok (.ladd, 1) := by decide +kernel
theorem dX1_measure_229 : decode cX1_measure 229 = .ok (.putfield 99, 3) := by decide +kernel
theorem dX1_measure_232 : decode cX1_measure 232 = .ok (.aload_n 0, 1) := by decide +kernel
theorem dX1_measure_233 : decode cX1_measure 233 = .ok (.getfield 18, 3) := by decide +kernel
theorem dX1_measure_236 : decode cX1_measure 236 = .ok (.lload 17, 2) := by decide +kernel
theorem dX1_measure_238 : decode cX1_measure 238 = .ok (.lload 17, 2) := by decide +kernel
theorem dX1_measure_240 : decode cX1_measure 240 = .ok (.lmul, 1) := by decide +kernel
theorem dX1_measure_241 : decode cX1_measure 241 = .ok (.putfield 102, 3) := by decide +kernel
theorem dX1_measure_244 : decode cX1_measure 244 = .ok (.aload_n 0, 1) := by decide +kernel
theorem dX1_measure_245 : decode cX1_measure 245 = .ok (.getfield 18, 3) := by decide +kernel
theorem dX1_measure_248 : decode cX1_measure 248 = .ok (.aload_n 0, 1) := by decide +kernel
theorem dX1_measure_249 : decode cX1_measure 249 = .ok (.getfield 18, 3) := by decide +kernel
theorem dX1_measure_252 : decode cX1_measure 252 = .ok (.getfield 99, 3) := by decide +kernel
theorem dX1_measure_255 : decode cX1_measure 255 = .ok (.putfield 105, 3) := by decide +kernel
theorem dX1_measure_258 : decode cX1_measure 258 = .ok (.return_, 1) := by decide +kernel
theorem dX1_sectorOf_0 : decode cX1_sectorOf 0 = .ok (.getstatic 36, 3) := by decide +kernel
theorem dX1_sectorOf_3 : decode cX1_sectorOf 3 = .ok (.aload_n 0, 1) := by decide +kernel
theorem dX1_sectorOf_4 : decode cX1_sectorOf 4 = .ok (.getfield 11, 3) := by decide +kernel
theorem dX1_sectorOf_7 : decode cX1_sectorOf 7 = .ok (.iconst 5, 1) := by decide +kernel
theorem dX1_sectorOf_8 : decode cX1_sectorOf 8 = .ok (.iload_n 1, 1) := by decide +kernel
theorem dX1_sectorOf_9 : decode cX1_sectorOf 9 = .ok (.imul, 1) := by decide +kernel
theorem dX1_sectorOf_10 : decode cX1_sectorOf 10 = .ok (.iconst 2, 1) := by decide +kernel
theorem dX1_sectorOf_11 : decode cX1_sectorOf 11 = .ok (.iadd, 1) := by decide +kernel
theorem dX1_sectorOf_12 : decode cX1_sectorOf 12 = .ok (.iaload, 1) := by decide +kernel
theorem dX1_sectorOf_13 : decode cX1_sectorOf 13 = .ok (.bipush 15, 2) := by decide +kernel
theorem dX1_sectorOf_15 : decode cX1_sectorOf 15 = .ok (.iand, 1) := by decide +kernel
theorem dX1_sectorOf_16 : decode cX1_sectorOf 16 = .ok (.iaload, 1) := by decide +kernel
theorem dX1_sectorOf_17 : decode cX1_sectorOf 17 = .ok (.istore_n 3, 1) := by decide +kernel
theorem dX1_sectorOf_18 : decode cX1_sectorOf 18 = .ok (.getstatic 39, 3) := by decide +kernel
theorem dX1_sectorOf_21 : decode cX1_sectorOf 21 = .ok (.aload_n 0, 1) := by decide +kernel
theorem dX1_sectorOf_22 : decode cX1_sectorOf 22 = .ok (.getfield 11, 3) := by decide +kernel
theorem dX1_sectorOf_25 : decode cX1_sectorOf 25 = .ok (.iconst 5, 1) := by decide +kernel
theorem dX1_sectorOf_26 : decode cX1_sectorOf 26 = .ok (.iload_n 1, 1) := by decide +kernel
theorem dX1_sectorOf_27 : decode cX1_sectorOf 27 = .ok (.imul, 1) := by decide +kernel
theorem dX1_sectorOf_28 : decode cX1_sectorOf 28 = .ok (.iconst 2, 1) := by decide +kernel
theorem dX1_sectorOf_29 : decode cX1_sectorOf 29 = .ok (.iadd, 1) := by decide +kernel
theorem dX1_sectorOf_30 : decode cX1_sectorOf 30 = .ok (.iaload, 1) := by decide +kernel
theorem dX1_sectorOf_31 : decode cX1_sectorOf 31 = .ok (.bipush 15, 2) := by decide +kernel
theorem dX1_sectorOf_33 : decode cX1_sectorOf 33 = .ok (.iand, 1) := by decide +kernel
theorem dX1_sectorOf_34 : decode cX1_sectorOf 34 = .ok (.iaload, 1) := by decide +kernel
theorem dX1_sectorOf_35 : decode cX1_sectorOf 35 = .ok (.istore 4, 2) := by decide +kernel
theorem dX1_sectorOf_37 : decode cX1_sectorOf 37 = .ok (.aload_n 0, 1) := by decide +kernel
theorem dX1_sectorOf_38 : decode cX1_sectorOf 38 = .ok (.getfield 11, 3) := by decide +kernel
theorem dX1_sectorOf_41 : decode cX1_sectorOf 41 = .ok (.iconst 5, 1) := by decide +kernel
theorem dX1_sectorOf_42 : decode cX1_sectorOf 42 = .ok (.iload_n 2, 1) := by decide +kernel
theorem dX1_sectorOf_43 : decode cX1_sectorOf 43 = .ok (.imul, 1) := by decide +kernel
theorem dX1_sectorOf_44 : decode cX1_sectorOf 44 = .ok (.iconst 0, 1) := by decide +kernel
theorem dX1_sectorOf_45 : decode cX1_sectorOf 45 = .ok (.iadd, 1) := by decide +kernel
theorem dX1_sectorOf_46 : decode cX1_sectorOf 46 = .ok (.iaload, 1) := by decide +kernel
theorem dX1_sectorOf_47 : decode cX1_sectorOf 47 = .ok (.aload_n 0, 1) := by decide +kernel
theorem dX1_sectorOf_48 : decode cX1_sectorOf 48 = .ok (.getfield 11, 3) := by decide +kernel
theorem dX1_sectorOf_51 : decode cX1_sectorOf 51 = .ok (.iconst 5, 1) := by decide +kernel
theorem dX1_sectorOf_52 : decode cX1_sectorOf 52 = .ok (.iload_n 1, 1) := by decide +kernel
theorem dX1_sectorOf_53 : decode cX1_sectorOf 53 = .ok (.imul, 1) := by decide +kernel
theorem dX1_sectorOf_54 : decode cX1_sectorOf 54 = .ok (.iconst 0, 1) := by decide +kernel
theorem dX1_sectorOf_55 : decode cX1_sectorOf 55 = .ok (.iadd, 1) := by decide +kernel
theorem dX1_sectorOf_56 : decode cX1_sectorOf 56 = .ok (.iaload, 1) := by decide +kernel
theorem dX1_sectorOf_57 : decode cX1_sectorOf 57 = .ok (.isub, 1) := by decide +kernel
theorem dX1_sectorOf_58 : decode cX1_sectorOf 58 = .ok (.istore 5, 2) := by decide +kernel
theorem dX1_sectorOf_60 : decode cX1_sectorOf 60 = .ok (.aload_n 0, 1) := by decide +kernel
theorem dX1_sectorOf_61 : decode cX1_sectorOf 61 = .ok (.getfield 11, 3) := by decide +kernel
theorem dX1_sectorOf_64 : decode cX1_sectorOf 64 = .ok (.iconst 5, 1) := by decide +kernel
theorem dX1_sectorOf_65 : decode cX1_sectorOf 65 = .ok (.iload_n 2, 1) := by decide +kernel
theorem dX1_sectorOf_66 : decode cX1_sectorOf 66 = .ok (.imul, 1) := by decide +kernel
theorem dX1_sectorOf_67 : decode cX1_sectorOf 67 = .ok (.iconst 1, 1) := by decide +kernel
theorem dX1_sectorOf_68 : decode cX1_sectorOf 68 = .ok (.iadd, 1) := by decide +kernel
theorem dX1_sectorOf_69 : decode cX1_sectorOf 69 = .ok (.iaload, 1) := by decide +kernel
theorem dX1_sectorOf_70 : decode cX1_sectorOf 70 = .ok (.aload_n 0, 1) := by decide +kernel
theorem dX1_sectorOf_71 : decode cX1_sectorOf 71 = .ok (.getfield 11, 3) := by decide +kernel
theorem dX1_sectorOf_74 : decode cX1_sectorOf 74 = .ok (.iconst 5, 1) := by decide +kernel
theorem dX1_sectorOf_75 : decode cX1_sectorOf 75 = .ok (.iload_n 1, 1) := by decide +kernel
theorem dX1_sectorOf_76 : decode cX1_sectorOf 76 = .ok (.imul, 1) := by decide +kernel
theorem dX1_sectorOf_77 : decode cX1_sectorOf 77 = .ok (.iconst 1, 1) := by decide +kernel
theorem dX1_sectorOf_78 : decode cX1_sectorOf 78 = .ok (.iadd, 1) := by decide +kernel
theorem dX1_sectorOf_79 : decode cX1_sectorOf 79 = .ok (.iaload, 1) := by decide +kernel
theorem dX1_sectorOf_80 : decode cX1_sectorOf 80 = .ok (.isub, 1) := by decide +kernel
theorem dX1_sectorOf_81 : decode cX1_sectorOf 81 = .ok (.istore 6, 2) := by decide +kernel
theorem dX1_sectorOf_83 : decode cX1_sectorOf 83 = .ok (.iload_n 3, 1) := by decide +kernel
theorem dX1_sectorOf_84 : decode cX1_sectorOf 84 = .ok (.iload 5, 2) := by decide +kernel
theorem dX1_sectorOf_86 : decode cX1_sectorOf 86 = .ok (.imul, 1) := by decide +kernel
theorem dX1_sectorOf_87 : decode cX1_sectorOf 87 = .ok (.iload 4, 2) := by decide +kernel
theorem dX1_sectorOf_89 : decode cX1_sectorOf 89 = .ok (.iload 6, 2) := by decide +kernel
theorem dX1_sectorOf_91 : decode cX1_sectorOf 91 = .ok (.imul, 1) := by decide +kernel
theorem dX1_sectorOf_92 : decode cX1_sectorOf 92 = .ok (.iadd, 1) := by decide +kernel
theorem dX1_sectorOf_93 : decode cX1_sectorOf 93 = .ok (.istore 7, 2) := by decide +kernel
theorem dX1_sectorOf_95 : decode cX1_sectorOf 95 = .ok (.iload_n 3, 1) := by decide +kernel
theorem dX1_sectorOf_96 : decode cX1_sectorOf 96 = .ok (.iload 6, 2) := by decide +kernel
theorem dX1_sectorOf_98 : decode cX1_sectorOf 98 = .ok (.imul, 1) := by decide +kernel
theorem dX1_sectorOf_99 : decode cX1_sectorOf 99 = .ok (.iload 4, 2) := by decide +kernel
theorem dX1_sectorOf_101 : decode cX1_sectorOf 101 = .ok (.iload 5, 2) := by decide +kernel
theorem dX1_sectorOf_103 : decode cX1_sectorOf 103 = .ok (.imul, 1) := by decide +kernel
theorem dX1_sectorOf_104 : decode cX1_sectorOf 104 = .ok (.isub, 1) := by decide +kernel
theorem dX1_sectorOf_105 : decode cX1_sectorOf 105 = .ok (.istore 8, 2) := by decide +kernel
theorem dX1_sectorOf_107 : decode cX1_sectorOf 107 = .ok (.iload 5, 2) := by decide +kernel
theorem dX1_sectorOf_109 : decode cX1_sectorOf 109 = .ok (.ifCond .ne 10, 3) := by decide +kernel
theorem dX1_sectorOf_112 : decode cX1_sectorOf 112 = .ok (.iload 6, 2) := by decide +kernel
theorem dX1_sectorOf_114 : decode cX1_sectorOf 114 = .ok (.ifCond .ne 5, 3) := by decide +kernel
theorem dX1_sectorOf_117 : decode cX1_sectorOf 117 = .ok (.iconst 0, 1) := by decide +kernel
theorem dX1_sectorOf_118 : decode cX1_sectorOf 118 = .ok (.ireturn, 1) := by decide +kernel
theorem dX1_sectorOf_119 : decode cX1_sectorOf 119 = .ok (.iload 7, 2) := by decide +kernel
theorem dX1_sectorOf_121 : decode cX1_sectorOf 121 = .ok (.ifCond .le 17, 3) := by decide +kernel
theorem dX1_sectorOf_124 : decode cX1_sectorOf 124 = .ok (.iconst 4, 1) := by decide +kernel
theorem dX1_sectorOf_125 : decode cX1_sectorOf 125 = .ok (.iload 8, 2) := by decide +kernel
theorem dX1_sectorOf_127 : decode cX1_sectorOf 127 = .ok (.invokestatic 108, 3) := by decide +kernel
theorem dX1_sectorOf_130 : decode cX1_sectorOf 130 = .ok (.imul, 1) := by decide +kernel
theorem dX1_sectorOf_131 : decode cX1_sectorOf 131 = .ok (.iload 7, 2) := by decide +kernel
theorem dX1_sectorOf_133 : decode cX1_sectorOf 133 = .ok (.if_icmp .gt 5, 3) := by decide +kernel
theorem dX1_sectorOf_136 : decode cX1_sectorOf 136 = .ok (.iconst 0, 1) := by decide +kernel
theorem dX1_sectorOf_137 : decode cX1_sectorOf 137 = .ok (.ireturn, 1) := by decide +kernel
theorem dX1_sectorOf_138 : decode cX1_sectorOf 138 = .ok (.iload 7, 2) := by decide +kernel
theorem dX1_sectorOf_140 : decode cX1_sectorOf 140 = .ok (.ifCond .ge 18, 3) := by decide +kernel
theorem dX1_sectorOf_143 : decode cX1_sectorOf 143 = .ok (.iload 8, 2) := by decide +kernel
theorem dX1_sectorOf_145 : decode cX1_sectorOf 145 = .ok (.invokestatic 108, 3) := by decide +kernel
theorem dX1_sectorOf_148 : decode cX1_sectorOf 148 = .ok (.bipush (-2), 2) := by decide +kernel
theorem dX1_sectorOf_150 : decode cX1_sectorOf 150 = .ok (.iload 7, 2) := by decide +kernel
theorem dX1_sectorOf_152 : decode cX1_sectorOf 152 = .ok (.imul, 1) := by decide +kernel
theorem dX1_sectorOf_153 : decode cX1_sectorOf 153 = .ok (.if_icmp .gt 5, 3) := by decide +kernel
theorem dX1_sectorOf_156 : decode cX1_sectorOf 156 = .ok (.iconst 3, 1) := by decide +kernel
theorem dX1_sectorOf_157 : decode cX1_sectorOf 157 = .ok (.ireturn, 1) := by decide +kernel
theorem dX1_sectorOf_158 : decode cX1_sectorOf 158 = .ok (.iload 8, 2) := by decide +kernel
theorem dX1_sectorOf_160 : decode cX1_sectorOf 160 = .ok (.ifCond .ge 7, 3) := by decide +kernel
theorem dX1_sectorOf_163 : decode cX1_sectorOf 163 = .ok (.iconst 1, 1) := by decide +kernel
theorem dX1_sectorOf_164 : decode cX1_sectorOf 164 = .ok (.goto 4, 3) := by decide +kernel
theorem dX1_sectorOf_167 : decode cX1_sectorOf 167 = .ok (.iconst 2, 1) := by decide +kernel
theorem dX1_sectorOf_168 : decode cX1_sectorOf 168 = .ok (.ireturn, 1) := by decide +kernel
set_option maxRecDepth 20000 in
theorem ggX1_tableOf_X1_haveRisk : GoodIn wsX1_tableOf wsX1_haveRisk := goodIn_r _ [5, 6, 7, 8, 9, 10, 4, 11, 12, 13, 14, 15, 16, 17, 18, 19, 20, 21, 22, 23, 24, 25, 26, 35, 36, 37, 38, 39, 40, 41] (by decide +kernel) (by decide +kernel)
set_option maxRecDepth 20000 in
theorem gX1_tableOf_X1_haveRisk : GoodIn wsX1_tableOf (wsV RX1 113 RX1 yX1_haveRisk wsX1_haveRisk) := goodIn_app (goodIn_of _ (by decide +kernel)) ggX1_tableOf_X1_haveRisk
set_option maxRecDepth 20000 in
theorem ggX1_tableOf_X1_sectorOf : GoodIn wsX1_tableOf wsX1_sectorOf := goodIn_r _ [30, 12, 6, 13, 31, 32, 33, 34, 35, 36, 37] (by decide +kernel) (by decide +kernel)
set_option maxRecDepth 20000 in
theorem gX1_tableOf_X1_sectorOf : GoodIn wsX1_tableOf (wsV RX1 116 RX1 yX1_sectorOf wsX1_sectorOf) := goodIn_app (goodIn_of _ (by decide +kernel)) ggX1_tableOf_X1_sectorOf
theorem dX1_tableOf_0 : decode cX1_tableOf 0 = .ok (.aload_n 0, 1) := by decide +kernel
theorem dX1_tableOf_1 : decode cX1_tableOf 1 = .ok (.iload_n 1, 1) := by decide +kernel
theorem dX1_tableOf_2 : decode cX1_tableOf 2 = .ok (.iload_n 2, 1) := by decide +kernel
theorem dX1_tableOf_3 : decode cX1_tableOf 3 = .ok (.invokevirtual 113, 3) := by decide +kernel
theorem dX1_tableOf_6 : decode cX1_tableOf 6 = .ok (.ifCond .ne 5, 3) := by decide +kernel
theorem dX1_tableOf_9 : decode cX1_tableOf 9 = .ok (.iconst 0, 1) := by decide +kernel
theorem dX1_tableOf_10 : decode cX1_tableOf 10 = .ok (.ireturn, 1) := by decide +kernel
theorem dX1_tableOf_11 : decode cX1_tableOf 11 = .ok (.aload_n 0, 1) := by decide +kernel
theorem dX1_tableOf_12 : decode cX1_tableOf 12 = .ok (.iload_n 1, 1) := by decide +kernel
theorem dX1_tableOf_13 : decode cX1_tableOf 13 = .ok (.iload_n 2, 1) := by decide +kernel
theorem dX1_tableOf_14 : decode cX1_tableOf 14 = .ok (.invokevirtual 116, 3) := by decide +kernel
theorem dX1_tableOf_17 : decode cX1_tableOf 17 = .ok (.istore_n 3, 1) := by decide +kernel
theorem dX1_tableOf_18 : decode cX1_tableOf 18 = .ok (.aload_n 0, 1) := by decide +kernel
theorem dX1_tableOf_19 : decode cX1_tableOf 19 = .ok (.iload_n 2, 1) := by decide +kernel
theorem dX1_tableOf_20 : decode cX1_tableOf 20 = .ok (.iload_n 1, 1) := by decide +kernel
theorem dX1_tableOf_21 : decode cX1_tableOf 21 = .ok (.invokevirtual 116, 3) := by decide +kernel
theorem dX1_tableOf_24 : decode cX1_tableOf 24 = .ok (.istore 4, 2) := by decide +kernel
theorem dX1_tableOf_26 : decode cX1_tableOf 26 = .ok (.iload 4, 2) := by decide +kernel
theorem dX1_tableOf_28 : decode cX1_tableOf 28 = .ok (.iconst 3, 1) := by decide +kernel
theorem dX1_tableOf_29 : decode cX1_tableOf 29 = .ok (.if_icmp .ne 5, 3) := by decide +kernel
theorem dX1_tableOf_32 : decode cX1_tableOf 32 = .ok (.iconst 1, 1) := by decide +kernel
theorem dX1_tableOf_33 : decode cX1_tableOf 33 = .ok (.ireturn, 1) := by decide +kernel
theorem dX1_tableOf_34 : decode cX1_tableOf 34 = .ok (.iload_n 3, 1) := by decide +kernel
theorem dX1_tableOf_35 : decode cX1_tableOf 35 = .ok (.iconst 3, 1) := by decide +kernel
theorem dX1_tableOf_36 : decode cX1_tableOf 36 = .ok (.if_icmp .ne 5, 3) := by decide +kernel
theorem dX1_tableOf_39 : decode cX1_tableOf 39 = .ok (.iconst 2, 1) := by decide +kernel
theorem dX1_tableOf_40 : decode cX1_tableOf 40 = .ok (.ireturn, 1) := by decide +kernel
theorem dX1_tableOf_41 : decode cX1_tableOf 41 = .ok (.iload_n 3, 1) := by decide +kernel
theorem dX1_tableOf_42 : decode cX1_tableOf 42 = .ok (.iconst 1, 1) := by decide +kernel
theorem dX1_tableOf_43 : decode cX1_tableOf 43 = .ok (.if_icmp .ne 5, 3) := by decide +kernel
theorem dX1_tableOf_46 : decode cX1_tableOf 46 = .ok (.iconst 1, 1) := by decide +kernel
theorem dX1_tableOf_47 : decode cX1_tableOf 47 = .ok (.ireturn, 1) := by decide +kernel
theorem dX1_tableOf_48 : decode cX1_tableOf 48 = .ok (.iload_n 3, 1) := by decide +kernel
theorem dX1_tableOf_49 : decode cX1_tableOf 49 = .ok (.iconst 2, 1) := by decide +kernel
theorem dX1_tableOf_50 : decode cX1_tableOf 50 = .ok (.if_icmp .ne 5, 3) := by decide +kernel
theorem dX1_tableOf_53 : decode cX1_tableOf 53 = .ok (.iconst 2, 1) := by decide +kernel
theorem dX1_tableOf_54 : decode cX1_tableOf 54 = .ok (.ireturn, 1) := by decide +kernel
theorem dX1_tableOf_55 : decode cX1_tableOf 55 = .ok (.iload 4, 2) := by decide +kernel
theorem dX1_tableOf_57 : decode cX1_tableOf 57 = .ok (.iconst 1, 1) := by decide +kernel
theorem dX1_tableOf_58 : decode cX1_tableOf 58 = .ok (.if_icmp .ne 7, 3) := by decide +kernel
theorem dX1_tableOf_61 : decode cX1_tableOf 61 = .ok (.iconst 2, 1) := by decide +kernel
theorem dX1_tableOf_62 : decode cX1_tableOf 62 = .ok (.goto 4, 3) := by decide +kernel
theorem dX1_tableOf_65 : decode cX1_tableOf 65 = .ok (.iconst 1, 1) := by decide +kernel
theorem dX1_tableOf_66 : decode cX1_tableOf 66 = .ok (.ireturn, 1) := by decide +kernel
set_option maxRecDepth 20000 in
theorem ggX1_worstOther_X1_haveRisk : GoodIn wsX1_worstOther wsX1_haveRisk := goodIn_r _ [8, 1, 2, 9, 10, 11, 7, 12, 13, 14, 15, 16, 17, 18, 19, 20, 21, 22, 23, 24, 25, 26, 27, 36, 37, 38, 39, 40, 41, 42] (by decide +kernel) (by decide +kernel)
set_option maxRecDepth 20000 in
theorem gX1_worstOther_X1_haveRisk : GoodIn wsX1_worstOther (wsV RX1 113 RX1 yX1_haveRisk wsX1_haveRisk) := goodIn_app (goodIn_of _ (by decide +kernel)) ggX1_worstOther_X1_haveRisk
set_option maxRecDepth 20000 in
theorem ggX1_worstOther_X0_isWorse : GoodIn wsX1_worstOther wsX0_isWorse := goodIn_r _ [31, 26, 27, 24, 25, 39, 40, 41, 42] (by decide +kernel) (by decide +kernel)
set_option maxRecDepth 20000 in
theorem gX1_worstOther_X0_isWorse : GoodIn wsX1_worstOther (wsV RX1 119 RX0 yX0_isWorse wsX0_isWorse) := goodIn_app (goodIn_of _ (by decide +kernel)) ggX1_worstOther_X0_isWorse
set_option maxRecDepth 20000 in
theorem ggX1_worstOther_X0_take : GoodIn wsX1_worstOther wsX0_take := goodIn_r _ [35, 26, 27, 24, 25, 39, 40, 41, 42] (by decide +kernel) (by decide +kernel)
set_option maxRecDepth 20000 in
theorem gX1_worstOther_X0_take : GoodIn wsX1_worstOther (wsV RX1 123 RX0 yX0_take wsX0_take) := goodIn_app (goodIn_of _ (by decide +kernel)) ggX1_worstOther_X0_take
theorem dX1_worstOther_0 : decode cX1_worstOther 0 = .ok (.sipush (-10001), 3) := by decide +kernel
theorem dX1_worstOther_3 : decode cX1_worstOther 3 = .ok (.istore_n 1, 1) := by decide +kernel
theorem dX1_worstOther_4 : decode cX1_worstOther 4 = .ok (.iconst 1, 1) := by decide +kernel
theorem dX1_worstOther_5 : decode cX1_worstOther 5 = .ok (.istore_n 2, 1) := by decide +kernel
theorem dX1_worstOther_6 : decode cX1_worstOther 6 = .ok (.iload_n 2, 1) := by decide +kernel
theorem dX1_worstOther_7 : decode cX1_worstOther 7 = .ok (.aload_n 0, 1) := by decide +kernel
theorem dX1_worstOther_8 : decode cX1_worstOther 8 = .ok (.getfield 11, 3) := by decide +kernel
theorem dX1_worstOther_11 : decode cX1_worstOther 11 = .ok (.bipush 35, 2) := by decide +kernel
theorem dX1_worstOther_13 : decode cX1_worstOther 13 = .ok (.iaload, 1) := by decide +kernel
theorem dX1_worstOther_14 : decode cX1_worstOther 14 = .ok (.if_icmp .gt 52, 3) := by decide +kernel
theorem dX1_worstOther_17 : decode cX1_worstOther 17 = .ok (.aload_n 0, 1) := by decide +kernel
theorem dX1_worstOther_18 : decode cX1_worstOther 18 = .ok (.iconst 0, 1) := by decide +kernel
theorem dX1_worstOther_19 : decode cX1_worstOther 19 = .ok (.iload_n 2, 1) := by decide +kernel
theorem dX1_worstOther_20 : decode cX1_worstOther 20 = .ok (.invokevirtual 113, 3) := by decide +kernel
theorem dX1_worstOther_23 : decode cX1_worstOther 23 = .ok (.ifCond .eq 37, 3) := by decide +kernel
theorem dX1_worstOther_26 : decode cX1_worstOther 26 = .ok (.iload_n 1, 1) := by decide +kernel
theorem dX1_worstOther_27 : decode cX1_worstOther 27 = .ok (.sipush (-10001), 3) := by decide +kernel
theorem dX1_worstOther_30 : decode cX1_worstOther 30 = .ok (.if_icmp .eq 17, 3) := by decide +kernel
theorem dX1_worstOther_33 : decode cX1_worstOther 33 = .ok (.aload_n 0, 1) := by decide +kernel
theorem dX1_worstOther_34 : decode cX1_worstOther 34 = .ok (.getfield 18, 3) := by decide +kernel
theorem dX1_worstOther_37 : decode cX1_worstOther 37 = .ok (.aload_n 0, 1) := by decide +kernel
theorem dX1_worstOther_38 : decode cX1_worstOther 38 = .ok (.getfield 22, 3) := by decide +kernel
theorem dX1_worstOther_41 : decode cX1_worstOther 41 = .ok (.invokevirtual 119, 3) := by decide +kernel
theorem dX1_worstOther_44 : decode cX1_worstOther 44 = .ok (.ifCond .eq 16, 3) := by decide +kernel
theorem dX1_worstOther_47 : decode cX1_worstOther 47 = .ok (.iload_n 2, 1) := by decide +kernel
theorem dX1_worstOther_48 : decode cX1_worstOther 48 = .ok (.istore_n 1, 1) := by decide +kernel
theorem dX1_worstOther_49 : decode cX1_worstOther 49 = .ok (.aload_n 0, 1) := by decide +kernel
theorem dX1_worstOther_50 : decode cX1_worstOther 50 = .ok (.getfield 22, 3) := by decide +kernel
theorem dX1_worstOther_53 : decode cX1_worstOther 53 = .ok (.aload_n 0, 1) := by decide +kernel
