theorem dX5_northSpeed_9 : decode cX5_northSpeed 9 = .ok (.invokevirtual 53, 3) := by decide +kernel
theorem dX5_northSpeed_12 : decode cX5_northSpeed 12 = .ok (.invokestatic 50, 3) := by decide +kernel
theorem dX5_northSpeed_15 : decode cX5_northSpeed 15 = .ok (.imul, 1) := by decide +kernel
theorem dX5_northSpeed_16 : decode cX5_northSpeed 16 = .ok (.ireturn, 1) := by decide +kernel
set_option maxRecDepth 20000 in
theorem ggX5_putSteps_X5_in : GoodIn wsX5_putSteps wsX5_in := goodIn_r _ [5] (by decide +kernel) (by decide +kernel)
set_option maxRecDepth 20000 in
theorem gX5_putSteps_X5_in : GoodIn wsX5_putSteps (va_wsS RX5 42 yX5_in wsX5_in) := goodIn_app (goodIn_of _ (by decide +kernel)) ggX5_putSteps_X5_in
set_option maxRecDepth 20000 in
theorem ggX5_putSteps_X5_shipOf : GoodIn wsX5_putSteps wsX5_shipOf := goodIn_r _ [9, 1, 88, 89, 90, 91, 92, 93, 94, 95, 96, 97, 98, 99, 100, 101, 102, 103, 104, 105, 106, 107, 108] (by decide +kernel) (by decide +kernel)
set_option maxRecDepth 20000 in
theorem gX5_putSteps_X5_shipOf : GoodIn wsX5_putSteps (wsV RX5 53 RX5 yX5_shipOf wsX5_shipOf) := goodIn_app (goodIn_of _ (by decide +kernel)) ggX5_putSteps_X5_shipOf
set_option maxRecDepth 20000 in
theorem ggX5_putSteps_X5_eastSpeed : GoodIn wsX5_putSteps wsX5_eastSpeed := goodIn_r _ [13, 6, 7, 8, 4, 9, 1, 14, 15, 16, 17, 18, 19, 88, 89, 90, 91, 92, 93, 94, 95, 96, 97, 98, 99, 100, 101, 102, 103, 104, 105, 106, 107, 108] (by decide +kernel) (by decide +kernel)
set_option maxRecDepth 20000 in
theorem gX5_putSteps_X5_eastSpeed : GoodIn wsX5_putSteps (wsV RX5 145 RX5 yX5_eastSpeed wsX5_eastSpeed) := goodIn_app (goodIn_of _ (by decide +kernel)) ggX5_putSteps_X5_eastSpeed
set_option maxRecDepth 20000 in
theorem ggX5_putSteps_X5_northSpeed : GoodIn wsX5_putSteps wsX5_northSpeed := goodIn_r _ [23, 6, 7, 8, 4, 9, 1, 17, 18, 19, 88, 89, 90, 91, 92, 93, 94, 95, 96, 97, 98, 99, 100, 101, 102, 103, 104, 105, 106, 107, 108] (by decide +kernel) (by decide +kernel)
set_option maxRecDepth 20000 in
theorem gX5_putSteps_X5_northSpeed : GoodIn wsX5_putSteps (wsV RX5 148 RX5 yX5_northSpeed wsX5_northSpeed) := goodIn_app (goodIn_of _ (by decide +kernel)) ggX5_putSteps_X5_northSpeed
set_option maxRecDepth 20000 in
theorem ggX5_putSteps_X5_isPlace : GoodIn wsX5_putSteps wsX5_isPlace := goodIn_r _ [26, 2, 3, 4, 5] (by decide +kernel) (by decide +kernel)
set_option maxRecDepth 20000 in
theorem gX5_putSteps_X5_isPlace : GoodIn wsX5_putSteps (va_wsS RX5 122 yX5_isPlace wsX5_isPlace) := goodIn_app (goodIn_of _ (by decide +kernel)) ggX5_putSteps_X5_isPlace
set_option maxRecDepth 20000 in
theorem ggX5_putSteps_X5_tells : GoodIn wsX5_putSteps wsX5_tells := goodIn_r _ [30, 1, 88, 89, 90, 91, 92, 93, 94, 95, 96, 97, 98, 99, 100, 101, 102, 103, 104, 105, 106, 107, 108] (by decide +kernel) (by decide +kernel)
set_option maxRecDepth 20000 in
theorem gX5_putSteps_X5_tells : GoodIn wsX5_putSteps (wsV RX5 132 RX5 yX5_tells wsX5_tells) := goodIn_app (goodIn_of _ (by decide +kernel)) ggX5_putSteps_X5_tells
set_option maxRecDepth 20000 in
theorem ggX5_putSteps_X5_look : GoodIn wsX5_putSteps wsX5_look := goodIn_r _ [34, 1, 6, 7, 8, 4, 9, 35, 36, 37, 38, 39, 40, 41, 42, 43, 44, 45, 46, 47, 48, 49, 50, 51, 52, 53, 54, 14, 15, 16, 17, 18, 19, 55, 56, 57, 58, 59, 60, 61, 62, 63, 64, 65, 66, 67, 68, 69, 70, 71, 72, 73, 74, 75, 76, 77, 78, 79, 80, 81, 82, 83, 84, 85, 86, 87, 27, 28, 29, 30, 88, 89, 90, 91, 92, 93, 94, 95, 96, 97, 98, 99, 100, 101, 102, 103, 104, 105, 106, 107, 108] (by decide +kernel) (by decide +kernel)
set_option maxRecDepth 20000 in
theorem gX5_putSteps_X5_look : GoodIn wsX5_putSteps (wsV RX5 151 RX5 yX5_look wsX5_look) := goodIn_app (goodIn_of _ (by decide +kernel)) ggX5_putSteps_X5_look
theorem dX5_putSteps_0 : decode cX5_putSteps 0 = .ok (.iload_n 1, 1) := by decide +kernel
theorem dX5_putSteps_1 : decode cX5_putSteps 1 = .ok (.iconst 1, 1) := by decide +kernel
theorem dX5_putSteps_2 : decode cX5_putSteps 2 = .ok (.bipush 60, 2) := by decide +kernel
theorem dX5_putSteps_4 : decode cX5_putSteps 4 = .ok (.invokestatic 42, 3) := by decide +kernel
theorem dX5_putSteps_7 : decode cX5_putSteps 7 = .ok (.ifCond .ne 7, 3) := by decide +kernel
theorem dX5_putSteps_10 : decode cX5_putSteps 10 = .ok (.sipush (-10002), 3) := by decide +kernel
theorem dX5_putSteps_13 : decode cX5_putSteps 13 = .ok (.ireturn, 1) := by decide +kernel
theorem dX5_putSteps_14 : decode cX5_putSteps 14 = .ok (.iconst 0, 1) := by decide +kernel
theorem dX5_putSteps_15 : decode cX5_putSteps 15 = .ok (.istore_n 2, 1) := by decide +kernel
theorem dX5_putSteps_16 : decode cX5_putSteps 16 = .ok (.iload_n 2, 1) := by decide +kernel
theorem dX5_putSteps_17 : decode cX5_putSteps 17 = .ok (.aload_n 0, 1) := by decide +kernel
theorem dX5_putSteps_18 : decode cX5_putSteps 18 = .ok (.getfield 7, 3) := by decide +kernel
theorem dX5_putSteps_21 : decode cX5_putSteps 21 = .ok (.iconst 0, 1) := by decide +kernel
theorem dX5_putSteps_22 : decode cX5_putSteps 22 = .ok (.iaload, 1) := by decide +kernel
theorem dX5_putSteps_23 : decode cX5_putSteps 23 = .ok (.if_icmp .ge 47, 3) := by decide +kernel
theorem dX5_putSteps_26 : decode cX5_putSteps 26 = .ok (.aload_n 0, 1) := by decide +kernel
theorem dX5_putSteps_27 : decode cX5_putSteps 27 = .ok (.iload_n 2, 1) := by decide +kernel
theorem dX5_putSteps_28 : decode cX5_putSteps 28 = .ok (.iconst 0, 1) := by decide +kernel
theorem dX5_putSteps_29 : decode cX5_putSteps 29 = .ok (.invokevirtual 53, 3) := by decide +kernel
theorem dX5_putSteps_32 : decode cX5_putSteps 32 = .ok (.iload_n 1, 1) := by decide +kernel
theorem dX5_putSteps_33 : decode cX5_putSteps 33 = .ok (.aload_n 0, 1) := by decide +kernel
theorem dX5_putSteps_34 : decode cX5_putSteps 34 = .ok (.iload_n 2, 1) := by decide +kernel
theorem dX5_putSteps_35 : decode cX5_putSteps 35 = .ok (.invokevirtual 145, 3) := by decide +kernel
theorem dX5_putSteps_38 : decode cX5_putSteps 38 = .ok (.imul, 1) := by decide +kernel
theorem dX5_putSteps_39 : decode cX5_putSteps 39 = .ok (.iadd, 1) := by decide +kernel
theorem dX5_putSteps_40 : decode cX5_putSteps 40 = .ok (.aload_n 0, 1) := by decide +kernel
theorem dX5_putSteps_41 : decode cX5_putSteps 41 = .ok (.iload_n 2, 1) := by decide +kernel
theorem dX5_putSteps_42 : decode cX5_putSteps 42 = .ok (.iconst 1, 1) := by decide +kernel
theorem dX5_putSteps_43 : decode cX5_putSteps 43 = .ok (.invokevirtual 53, 3) := by decide +kernel
theorem dX5_putSteps_46 : decode cX5_putSteps 46 = .ok (.iload_n 1, 1) := by decide +kernel
theorem dX5_putSteps_47 : decode cX5_putSteps 47 = .ok (.aload_n 0, 1) := by decide +kernel
theorem dX5_putSteps_48 : decode cX5_putSteps 48 = .ok (.iload_n 2, 1) := by decide +kernel
theorem dX5_putSteps_49 : decode cX5_putSteps 49 = .ok (.invokevirtual 148, 3) := by decide +kernel
theorem dX5_putSteps_52 : decode cX5_putSteps 52 = .ok (.imul, 1) := by decide +kernel
theorem dX5_putSteps_53 : decode cX5_putSteps 53 = .ok (.iadd, 1) := by decide +kernel
theorem dX5_putSteps_54 : decode cX5_putSteps 54 = .ok (.invokestatic 122, 3) := by decide +kernel
theorem dX5_putSteps_57 : decode cX5_putSteps 57 = .ok (.ifCond .ne 7, 3) := by decide +kernel
theorem dX5_putSteps_60 : decode cX5_putSteps 60 = .ok (.sipush (-10003), 3) := by decide +kernel
theorem dX5_putSteps_63 : decode cX5_putSteps 63 = .ok (.ireturn, 1) := by decide +kernel
theorem dX5_putSteps_64 : decode cX5_putSteps 64 = .ok (.iinc 2 1, 3) := by decide +kernel
theorem dX5_putSteps_67 : decode cX5_putSteps 67 = .ok (.goto (-51), 3) := by decide +kernel
theorem dX5_putSteps_70 : decode cX5_putSteps 70 = .ok (.iconst 0, 1) := by decide +kernel
theorem dX5_putSteps_71 : decode cX5_putSteps 71 = .ok (.istore_n 2, 1) := by decide +kernel
theorem dX5_putSteps_72 : decode cX5_putSteps 72 = .ok (.iconst 0, 1) := by decide +kernel
theorem dX5_putSteps_73 : decode cX5_putSteps 73 = .ok (.istore_n 3, 1) := by decide +kernel
theorem dX5_putSteps_74 : decode cX5_putSteps 74 = .ok (.iload_n 3, 1) := by decide +kernel
theorem dX5_putSteps_75 : decode cX5_putSteps 75 = .ok (.iload_n 1, 1) := by decide +kernel
theorem dX5_putSteps_76 : decode cX5_putSteps 76 = .ok (.if_icmp .ge 76, 3) := by decide +kernel
theorem dX5_putSteps_79 : decode cX5_putSteps 79 = .ok (.iconst 0, 1) := by decide +kernel
theorem dX5_putSteps_80 : decode cX5_putSteps 80 = .ok (.istore 4, 2) := by decide +kernel
theorem dX5_putSteps_82 : decode cX5_putSteps 82 = .ok (.iload 4, 2) := by decide +kernel
theorem dX5_putSteps_84 : decode cX5_putSteps 84 = .ok (.aload_n 0, 1) := by decide +kernel
theorem dX5_putSteps_85 : decode cX5_putSteps 85 = .ok (.getfield 7, 3) := by decide +kernel
theorem dX5_putSteps_88 : decode cX5_putSteps 88 = .ok (.iconst 0, 1) := by decide +kernel
theorem dX5_putSteps_89 : decode cX5_putSteps 89 = .ok (.iaload, 1) := by decide +kernel
theorem dX5_putSteps_90 : decode cX5_putSteps 90 = .ok (.if_icmp .ge 51, 3) := by decide +kernel
theorem dX5_putSteps_93 : decode cX5_putSteps 93 = .ok (.aload_n 0, 1) := by decide +kernel
theorem dX5_putSteps_94 : decode cX5_putSteps 94 = .ok (.iload 4, 2) := by decide +kernel
theorem dX5_putSteps_96 : decode cX5_putSteps 96 = .ok (.iconst 0, 1) := by decide +kernel
theorem dX5_putSteps_97 : decode cX5_putSteps 97 = .ok (.aload_n 0, 1) := by decide +kernel
theorem dX5_putSteps_98 : decode cX5_putSteps 98 = .ok (.iload 4, 2) := by decide +kernel
theorem dX5_putSteps_100 : decode cX5_putSteps 100 = .ok (.iconst 0, 1) := by decide +kernel
theorem dX5_putSteps_101 : decode cX5_putSteps 101 = .ok (.invokevirtual 53, 3) := by decide +kernel
theorem dX5_putSteps_104 : decode cX5_putSteps 104 = .ok (.aload_n 0, 1) := by decide +kernel
theorem dX5_putSteps_105 : decode cX5_putSteps 105 = .ok (.iload 4, 2) := by decide +kernel
theorem dX5_putSteps_107 : decode cX5_putSteps 107 = .ok (.invokevirtual 145, 3) := by decide +kernel
theorem dX5_putSteps_110 : decode cX5_putSteps 110 = .ok (.iadd, 1) := by decide +kernel
theorem dX5_putSteps_111 : decode cX5_putSteps 111 = .ok (.invokevirtual 132, 3) := by decide +kernel
theorem dX5_putSteps_114 : decode cX5_putSteps 114 = .ok (.aload_n 0, 1) := by decide +kernel
theorem dX5_putSteps_115 : decode cX5_putSteps 115 = .ok (.iload 4, 2) := by decide +kernel
theorem dX5_putSteps_117 : decode cX5_putSteps 117 = .ok (.iconst 1, 1) := by decide +kernel
theorem dX5_putSteps_118 : decode cX5_putSteps 118 = .ok (.aload_n 0, 1) := by decide +kernel
theorem dX5_putSteps_119 : decode cX5_putSteps 119 = .ok (.iload 4, 2) := by decide +kernel
theorem dX5_putSteps_121 : decode cX5_putSteps 121 = .ok (.iconst 1, 1) := by decide +kernel
theorem dX5_putSteps_122 : decode cX5_putSteps 122 = .ok (.invokevirtual 53, 3) := by decide +kernel
theorem dX5_putSteps_125 : decode cX5_putSteps 125 = .ok (.aload_n 0, 1) := by decide +kernel
theorem dX5_putSteps_126 : decode cX5_putSteps 126 = .ok (.iload 4, 2) := by decide +kernel
theorem dX5_putSteps_128 : decode cX5_putSteps 128 = .ok (.invokevirtual 148, 3) := by decide +kernel
theorem dX5_putSteps_131 : decode cX5_putSteps 131 = .ok (.iadd, 1) := by decide +kernel
theorem dX5_putSteps_132 : decode cX5_putSteps 132 = .ok (.invokevirtual 132, 3) := by decide +kernel
theorem dX5_putSteps_135 : decode cX5_putSteps 135 = .ok (.iinc 4 1, 3) := by decide +kernel
theorem dX5_putSteps_138 : decode cX5_putSteps 138 = .ok (.goto (-56), 3) := by decide +kernel
theorem dX5_putSteps_141 : decode cX5_putSteps 141 = .ok (.aload_n 0, 1) := by decide +kernel
theorem dX5_putSteps_142 : decode cX5_putSteps 142 = .ok (.invokevirtual 151, 3) := by decide +kernel
theorem dX5_putSteps_145 : decode cX5_putSteps 145 = .ok (.istore_n 2, 1) := by decide +kernel
theorem dX5_putSteps_146 : decode cX5_putSteps 146 = .ok (.iinc 3 1, 3) := by decide +kernel
theorem dX5_putSteps_149 : decode cX5_putSteps 149 = .ok (.goto (-75), 3) := by decide +kernel
theorem dX5_putSteps_152 : decode cX5_putSteps 152 = .ok (.aload_n 0, 1) := by decide +kernel
theorem dX5_putSteps_153 : decode cX5_putSteps 153 = .ok (.getfield 7, 3) := by decide +kernel
theorem dX5_putSteps_156 : decode cX5_putSteps 156 = .ok (.iconst 3, 1) := by decide +kernel
theorem dX5_putSteps_157 : decode cX5_putSteps 157 = .ok (.dup2, 1) := by decide +kernel
theorem dX5_putSteps_158 : decode cX5_putSteps 158 = .ok (.iaload, 1) := by decide +kernel
theorem dX5_putSteps_159 : decode cX5_putSteps 159 = .ok (.iload_n 1, 1) := by decide +kernel
theorem dX5_putSteps_160 : decode cX5_putSteps 160 = .ok (.iadd, 1) := by decide +kernel
theorem dX5_putSteps_161 : decode cX5_putSteps 161 = .ok (.iastore, 1) := by decide +kernel
theorem dX5_putSteps_162 : decode cX5_putSteps 162 = .ok (.iload_n 2, 1) := by decide +kernel
theorem dX5_putSteps_163 : decode cX5_putSteps 163 = .ok (.ireturn, 1) := by decide +kernel
set_option maxRecDepth 20000 in
theorem ggX5_isClear_X5_lays : GoodIn wsX5_isClear wsX5_lays := goodIn_r _ [6, 7, 8, 9, 10, 11, 12, 13, 5, 14, 1, 15, 16, 17, 18, 19, 20, 44, 45, 46, 47, 48, 49, 50, 51, 52, 53, 54, 55, 56, 57, 58, 59, 60, 61, 62, 63, 64] (by decide +kernel) (by decide +kernel)
set_option maxRecDepth 20000 in
theorem gX5_isClear_X5_lays : GoodIn wsX5_isClear (wsV RX5 73 RX5 yX5_lays wsX5_lays) := goodIn_app (goodIn_of _ (by decide +kernel)) ggX5_isClear_X5_lays
set_option maxRecDepth 20000 in
theorem ggX5_isClear_X5_isRisk : GoodIn wsX5_isClear wsX5_isRisk := goodIn_r _ [24, 1, 25, 26, 27, 28, 29, 30, 31, 5, 32, 9, 10, 7, 8, 33, 34, 35, 36, 37, 38, 39, 40, 41, 42, 43, 44, 45, 46, 47, 48, 49, 50, 51, 52, 53, 54, 55, 56, 57, 58, 59, 60, 61, 62, 63, 64] (by decide +kernel) (by decide +kernel)
set_option maxRecDepth 20000 in
theorem gX5_isClear_X5_isRisk : GoodIn wsX5_isClear (wsV RX5 107 RX5 yX5_isRisk wsX5_isRisk) := goodIn_app (goodIn_of _ (by decide +kernel)) ggX5_isClear_X5_isRisk
theorem dX5_isClear_0 : decode cX5_isClear 0 = .ok (.iconst 1, 1) := by decide +kernel
theorem dX5_isClear_1 : decode cX5_isClear 1 = .ok (.istore 4, 2) := by decide +kernel
theorem dX5_isClear_3 : decode cX5_isClear 3 = .ok (.iconst 0, 1) := by decide +kernel
theorem dX5_isClear_4 : decode cX5_isClear 4 = .ok (.istore 5, 2) := by decide +kernel
theorem dX5_isClear_6 : decode cX5_isClear 6 = .ok (.iload 5, 2) := by decide +kernel
theorem dX5_isClear_8 : decode cX5_isClear 8 = .ok (.aload_n 0, 1) := by decide +kernel
theorem dX5_isClear_9 : decode cX5_isClear 9 = .ok (.getfield 7, 3) := by decide +kernel
theorem dX5_isClear_12 : decode cX5_isClear 12 = .ok (.iconst 0, 1) := by decide +kernel
theorem dX5_isClear_13 : decode cX5_isClear 13 = .ok (.iaload, 1) := by decide +kernel
theorem dX5_isClear_14 : decode cX5_isClear 14 = .ok (.if_icmp .ge 43, 3) := by decide +kernel
theorem dX5_isClear_17 : decode cX5_isClear 17 = .ok (.iload 5, 2) := by decide +kernel
theorem dX5_isClear_19 : decode cX5_isClear 19 = .ok (.iload_n 1, 1) := by decide +kernel
theorem dX5_isClear_20 : decode cX5_isClear 20 = .ok (.if_icmp .eq 31, 3) := by decide +kernel
theorem dX5_isClear_23 : decode cX5_isClear 23 = .ok (.aload_n 0, 1) := by decide +kernel
theorem dX5_isClear_24 : decode cX5_isClear 24 = .ok (.iload_n 1, 1) := by decide +kernel
theorem dX5_isClear_25 : decode cX5_isClear 25 = .ok (.iload 5, 2) := by decide +kernel
theorem dX5_isClear_27 : decode cX5_isClear 27 = .ok (.iload_n 2, 1) := by decide +kernel
theorem dX5_isClear_28 : decode cX5_isClear 28 = .ok (.iload_n 3, 1) := by decide +kernel
theorem dX5_isClear_29 : decode cX5_isClear 29 = .ok (.invokevirtual 73, 3) := by decide +kernel
theorem dX5_isClear_32 : decode cX5_isClear 32 = .ok (.aload_n 0, 1) := by decide +kernel
theorem dX5_isClear_33 : decode cX5_isClear 33 = .ok (.invokevirtual 107, 3) := by decide +kernel
theorem dX5_isClear_36 : decode cX5_isClear 36 = .ok (.ifCond .ne 12, 3) := by decide +kernel
theorem dX5_isClear_39 : decode cX5_isClear 39 = .ok (.iload 4, 2) := by decide +kernel
theorem dX5_isClear_41 : decode cX5_isClear 41 = .ok (.ifCond .eq 7, 3) := by decide +kernel
theorem dX5_isClear_44 : decode cX5_isClear 44 = .ok (.iconst 1, 1) := by decide +kernel
theorem dX5_isClear_45 : decode cX5_isClear 45 = .ok (.goto 4, 3) := by decide +kernel
theorem dX5_isClear_48 : decode cX5_isClear 48 = .ok (.iconst 0, 1) := by decide +kernel
theorem dX5_isClear_49 : decode cX5_isClear 49 = .ok (.istore 4, 2) := by decide +kernel
theorem dX5_isClear_51 : decode cX5_isClear 51 = .ok (.iinc 5 1, 3) := by decide +kernel
theorem dX5_isClear_54 : decode cX5_isClear 54 = .ok (.goto (-48), 3) := by decide +kernel
theorem dX5_isClear_57 : decode cX5_isClear 57 = .ok (.iload 4, 2) := by decide +kernel
theorem dX5_isClear_59 : decode cX5_isClear 59 = .ok (.ireturn, 1) := by decide +kernel
set_option maxRecDepth 20000 in
theorem ggX5_mustGiveWay_X5_shipOf : GoodIn wsX5_mustGiveWay wsX5_shipOf := goodIn_r _ [6, 1, 62, 63, 64, 65, 66, 67, 68, 69, 70, 71, 72, 73, 74, 75, 76, 77, 78, 79, 80, 81, 82] (by decide +kernel) (by decide +kernel)
set_option maxRecDepth 20000 in
theorem gX5_mustGiveWay_X5_shipOf : GoodIn wsX5_mustGiveWay (wsV RX5 53 RX5 yX5_shipOf wsX5_shipOf) := goodIn_app (goodIn_of _ (by decide +kernel)) ggX5_mustGiveWay_X5_shipOf
set_option maxRecDepth 20000 in
theorem ggX5_mustGiveWay_X5_tableOf : GoodIn wsX5_mustGiveWay wsX5_tableOf := goodIn_r _ [10, 11, 12, 13, 5, 14, 15, 16, 17, 18, 2, 3, 4, 6, 1, 19, 20, 21, 22, 23, 24, 25, 26, 27, 28, 29, 30, 31, 32, 33, 34, 35, 36, 37, 38, 39, 40, 41, 42, 43, 44, 45, 46, 47, 48, 49, 50, 51, 52, 53, 54, 55, 56, 57, 58, 59, 60, 61, 62, 63, 64, 65, 66, 67, 68, 69, 70, 71, 72, 73, 74, 75, 76, 77, 78, 79, 80, 81, 82] (by decide +kernel) (by decide +kernel)
set_option maxRecDepth 20000 in
theorem gX5_mustGiveWay_X5_tableOf : GoodIn wsX5_mustGiveWay (wsV RX5 139 RX5 yX5_tableOf wsX5_tableOf) := goodIn_app (goodIn_of _ (by decide +kernel)) ggX5_mustGiveWay_X5_tableOf
theorem dX5_mustGiveWay_0 : decode cX5_mustGiveWay 0 = .ok (.iconst 0, 1) := by decide +kernel
theorem dX5_mustGiveWay_1 : decode cX5_mustGiveWay 1 = .ok (.istore_n 2, 1) := by decide +kernel
theorem dX5_mustGiveWay_2 : decode cX5_mustGiveWay 2 = .ok (.iconst 0, 1) := by decide +kernel
theorem dX5_mustGiveWay_3 : decode cX5_mustGiveWay 3 = .ok (.istore_n 3, 1) := by decide +kernel
theorem dX5_mustGiveWay_4 : decode cX5_mustGiveWay 4 = .ok (.iload_n 3, 1) := by decide +kernel
theorem dX5_mustGiveWay_5 : decode cX5_mustGiveWay 5 = .ok (.aload_n 0, 1) := by decide +kernel
theorem dX5_mustGiveWay_6 : decode cX5_mustGiveWay 6 = .ok (.getfield 7, 3) := by decide +kernel
theorem dX5_mustGiveWay_9 : decode cX5_mustGiveWay 9 = .ok (.iconst 0, 1) := by decide +kernel
theorem dX5_mustGiveWay_10 : decode cX5_mustGiveWay 10 = .ok (.iaload, 1) := by decide +kernel
theorem dX5_mustGiveWay_11 : decode cX5_mustGiveWay 11 = .ok (.if_icmp .ge 47, 3) := by decide +kernel
theorem dX5_mustGiveWay_14 : decode cX5_mustGiveWay 14 = .ok (.iload_n 3, 1) := by decide +kernel
theorem dX5_mustGiveWay_15 : decode cX5_mustGiveWay 15 = .ok (.iload_n 1, 1) := by decide +kernel
theorem dX5_mustGiveWay_16 : decode cX5_mustGiveWay 16 = .ok (.if_icmp .eq 36, 3) := by decide +kernel
theorem dX5_mustGiveWay_19 : decode cX5_mustGiveWay 19 = .ok (.iload_n 2, 1) := by decide +kernel
theorem dX5_mustGiveWay_20 : decode cX5_mustGiveWay 20 = .ok (.ifCond .ne 26, 3) := by decide +kernel
theorem dX5_mustGiveWay_23 : decode cX5_mustGiveWay 23 = .ok (.iload_n 1, 1) := by decide +kernel
theorem dX5_mustGiveWay_24 : decode cX5_mustGiveWay 24 = .ok (.ifCond .ne 12, 3) := by decide +kernel
theorem dX5_mustGiveWay_27 : decode cX5_mustGiveWay 27 = .ok (.aload_n 0, 1) := by decide +kernel
theorem dX5_mustGiveWay_28 : decode cX5_mustGiveWay 28 = .ok (.iload_n 3, 1) := by decide +kernel
theorem dX5_mustGiveWay_29 : decode cX5_mustGiveWay 29 = .ok (.iconst 4, 1) := by decide +kernel
theorem dX5_mustGiveWay_30 : decode cX5_mustGiveWay 30 = .ok (.invokevirtual 53, 3) := by decide +kernel
theorem dX5_mustGiveWay_33 : decode cX5_mustGiveWay 33 = .ok (.goto 9, 3) := by decide +kernel
theorem dX5_mustGiveWay_36 : decode cX5_mustGiveWay 36 = .ok (.aload_n 0, 1) := by decide +kernel
theorem dX5_mustGiveWay_37 : decode cX5_mustGiveWay 37 = .ok (.iload_n 1, 1) := by decide +kernel
theorem dX5_mustGiveWay_38 : decode cX5_mustGiveWay 38 = .ok (.iload_n 3, 1) := by decide +kernel
theorem dX5_mustGiveWay_39 : decode cX5_mustGiveWay 39 = .ok (.invokevirtual 139, 3) := by decide +kernel
theorem dX5_mustGiveWay_42 : decode cX5_mustGiveWay 42 = .ok (.iconst 1, 1) := by decide +kernel
theorem dX5_mustGiveWay_43 : decode cX5_mustGiveWay 43 = .ok (.if_icmp .ne 7, 3) := by decide +kernel
theorem dX5_mustGiveWay_46 : decode cX5_mustGiveWay 46 = .ok (.iconst 1, 1) := by decide +kernel
theorem dX5_mustGiveWay_47 : decode cX5_mustGiveWay 47 = .ok (.goto 4, 3) := by decide +kernel
theorem dX5_mustGiveWay_50 : decode cX5_mustGiveWay 50 = .ok (.iconst 0, 1) := by decide +kernel
theorem dX5_mustGiveWay_51 : decode cX5_mustGiveWay 51 = .ok (.istore_n 2, 1) := by decide +kernel
theorem dX5_mustGiveWay_52 : decode cX5_mustGiveWay 52 = .ok (.iinc 3 1, 3) := by decide +kernel
theorem dX5_mustGiveWay_55 : decode cX5_mustGiveWay 55 = .ok (.goto (-51), 3) := by decide +kernel
theorem dX5_mustGiveWay_58 : decode cX5_mustGiveWay 58 = .ok (.iload_n 2, 1) := by decide +kernel
theorem dX5_mustGiveWay_59 : decode cX5_mustGiveWay 59 = .ok (.ireturn, 1) := by decide +kernel
set_option maxRecDepth 20000 in
theorem ggX5_adviceFor_X5_shipOf : GoodIn wsX5_adviceFor wsX5_shipOf := goodIn_r _ [5, 6, 70, 71, 72, 73, 74, 75, 76, 77, 78, 79, 80, 81, 82, 83, 84, 85, 86, 87, 88, 89, 90] (by decide +kernel) (by decide +kernel)
set_option maxRecDepth 20000 in
theorem gX5_adviceFor_X5_shipOf : GoodIn wsX5_adviceFor (wsV RX5 53 RX5 yX5_shipOf wsX5_shipOf) := goodIn_app (goodIn_of _ (by decide +kernel)) ggX5_adviceFor_X5_shipOf
set_option maxRecDepth 20000 in
theorem ggX5_adviceFor_X5_mustGiveWay : GoodIn wsX5_adviceFor wsX5_mustGiveWay := goodIn_r _ [10, 6, 1, 2, 3, 4, 5, 11, 12, 13, 14, 15, 16, 17, 18, 19, 20, 21, 22, 23, 24, 25, 26, 27, 28, 29, 30, 31, 32, 33, 34, 35, 36, 37, 38, 39, 40, 41, 42, 43, 44, 45, 46, 47, 48, 49, 50, 51, 52, 53, 54, 55, 56, 57, 58, 59, 60, 61, 62, 63, 64, 65, 70, 71, 72, 73, 74, 75, 76, 77, 78, 79, 80, 81, 82, 83, 84, 85, 86, 87, 88, 89, 90] (by decide +kernel) (by decide +kernel)
set_option maxRecDepth 20000 in
theorem gX5_adviceFor_X5_mustGiveWay : GoodIn wsX5_adviceFor (wsV RX5 155 RX5 yX5_mustGiveWay wsX5_mustGiveWay) := goodIn_app (goodIn_of _ (by decide +kernel)) ggX5_adviceFor_X5_mustGiveWay
set_option maxRecDepth 20000 in
theorem ggX5_adviceFor_X5_isClear : GoodIn wsX5_adviceFor wsX5_isClear := goodIn_r _ [69, 6, 23, 24, 25, 4, 26, 27, 28, 29, 30, 1, 2, 3, 5, 31, 32, 33, 34, 35, 36, 37, 38, 39, 40, 41, 42, 43, 44, 45, 46, 47, 48, 49, 50, 51, 52, 53, 54, 55, 56, 57, 58, 59, 70, 71, 72, 73, 74, 75, 76, 77, 78, 79, 80, 81, 82, 83, 84, 85, 86, 87, 88, 89, 90] (by decide +kernel) (by decide +kernel)
set_option maxRecDepth 20000 in
theorem gX5_adviceFor_X5_isClear : GoodIn wsX5_adviceFor (wsV RX5 158 RX5 yX5_isClear wsX5_isClear) := goodIn_app (goodIn_of _ (by decide +kernel)) ggX5_adviceFor_X5_isClear
theorem dX5_adviceFor_0 : decode cX5_adviceFor 0 = .ok (.aload_n 0, 1) := by decide +kernel
theorem dX5_adviceFor_1 : decode cX5_adviceFor 1 = .ok (.iload_n 1, 1) := by decide +kernel
theorem dX5_adviceFor_2 : decode cX5_adviceFor 2 = .ok (.iconst 2, 1) := by decide +kernel
theorem dX5_adviceFor_3 : decode cX5_adviceFor 3 = .ok (.invokevirtual 53, 3) := by decide +kernel
theorem dX5_adviceFor_6 : decode cX5_adviceFor 6 = .ok (.istore_n 2, 1) := by decide +kernel
theorem dX5_adviceFor_7 : decode cX5_adviceFor 7 = .ok (.aload_n 0, 1) := by decide +kernel
theorem dX5_adviceFor_8 : decode cX5_adviceFor 8 = .ok (.iload_n 1, 1) := by decide +kernel
theorem dX5_adviceFor_9 : decode cX5_adviceFor 9 = .ok (.invokevirtual 155, 3) := by decide +kernel
theorem dX5_adviceFor_12 : decode cX5_adviceFor 12 = .ok (.ifCond .ne 5, 3) := by decide +kernel
theorem dX5_adviceFor_15 : decode cX5_adviceFor 15 = .ok (.iload_n 2, 1) := by decide +kernel
theorem dX5_adviceFor_16 : decode cX5_adviceFor 16 = .ok (.ireturn, 1) := by decide +kernel
theorem dX5_adviceFor_17 : decode cX5_adviceFor 17 = .ok (.iconst 1, 1) := by decide +kernel
theorem dX5_adviceFor_18 : decode cX5_adviceFor 18 = .ok (.istore_n 3, 1) := by decide +kernel
theorem dX5_adviceFor_19 : decode cX5_adviceFor 19 = .ok (.iload_n 3, 1) := by decide +kernel
theorem dX5_adviceFor_20 : decode cX5_adviceFor 20 = .ok (.bipush 16, 2) := by decide +kernel
theorem dX5_adviceFor_22 : decode cX5_adviceFor 22 = .ok (.if_icmp .ge 49, 3) := by decide +kernel
theorem dX5_adviceFor_25 : decode cX5_adviceFor 25 = .ok (.iload_n 2, 1) := by decide +kernel
theorem dX5_adviceFor_26 : decode cX5_adviceFor 26 = .ok (.iload_n 3, 1) := by decide +kernel
theorem dX5_adviceFor_27 : decode cX5_adviceFor 27 = .ok (.bipush 9, 2) := by decide +kernel
theorem dX5_adviceFor_29 : decode cX5_adviceFor 29 = .ok (.if_icmp .ge 7, 3) := by decide +kernel
theorem dX5_adviceFor_32 : decode cX5_adviceFor 32 = .ok (.iload_n 3, 1) := by decide +kernel
theorem dX5_adviceFor_33 : decode cX5_adviceFor 33 = .ok (.goto 7, 3) := by decide +kernel
theorem dX5_adviceFor_36 : decode cX5_adviceFor 36 = .ok (.bipush 24, 2) := by decide +kernel
theorem dX5_adviceFor_38 : decode cX5_adviceFor 38 = .ok (.iload_n 3, 1) := by decide +kernel
theorem dX5_adviceFor_39 : decode cX5_adviceFor 39 = .ok (.isub, 1) := by decide +kernel
theorem dX5_adviceFor_40 : decode cX5_adviceFor 40 = .ok (.iadd, 1) := by decide +kernel
theorem dX5_adviceFor_41 : decode cX5_adviceFor 41 = .ok (.bipush 16, 2) := by decide +kernel
theorem dX5_adviceFor_43 : decode cX5_adviceFor 43 = .ok (.irem, 1) := by decide +kernel
theorem dX5_adviceFor_44 : decode cX5_adviceFor 44 = .ok (.istore 4, 2) := by decide +kernel
theorem dX5_adviceFor_46 : decode cX5_adviceFor 46 = .ok (.aload_n 0, 1) := by decide +kernel
theorem dX5_adviceFor_47 : decode cX5_adviceFor 47 = .ok (.iload_n 1, 1) := by decide +kernel
theorem dX5_adviceFor_48 : decode cX5_adviceFor 48 = .ok (.iload 4, 2) := by decide +kernel
theorem dX5_adviceFor_50 : decode cX5_adviceFor 50 = .ok (.aload_n 0, 1) := by decide +kernel
theorem dX5_adviceFor_51 : decode cX5_adviceFor 51 = .ok (.iload_n 1, 1) := by decide +kernel
theorem dX5_adviceFor_52 : decode cX5_adviceFor 52 = .ok (.iconst 3, 1) := by decide +kernel
theorem dX5_adviceFor_53 : decode cX5_adviceFor 53 = .ok (.invokevirtual 53, 3) := by decide +kernel
theorem dX5_adviceFor_56 : decode cX5_adviceFor 56 = .ok (.invokevirtual 158, 3) := by decide +kernel
theorem dX5_adviceFor_59 : decode cX5_adviceFor 59 = .ok (.ifCond .eq 6, 3) := by decide +kernel
theorem dX5_adviceFor_62 : decode cX5_adviceFor 62 = .ok (.iload 4, 2) := by decide +kernel
theorem dX5_adviceFor_64 : decode cX5_adviceFor 64 = .ok (.ireturn, 1) := by decide +kernel
theorem dX5_adviceFor_65 : decode cX5_adviceFor 65 = .ok (.iinc 3 1, 3) := by decide +kernel
theorem dX5_adviceFor_68 : decode cX5_adviceFor 68 = .ok (.goto (-49), 3) := by decide +kernel
theorem dX5_adviceFor_71 : decode cX5_adviceFor 71 = .ok (.aload_n 0, 1) := by decide +kernel
theorem dX5_adviceFor_72 : decode cX5_adviceFor 72 = .ok (.iload_n 1, 1) := by decide +kernel
theorem dX5_adviceFor_73 : decode cX5_adviceFor 73 = .ok (.iload_n 2, 1) := by decide +kernel
theorem dX5_adviceFor_74 : decode cX5_adviceFor 74 = .ok (.iconst 0, 1) := by decide +kernel
theorem dX5_adviceFor_75 : decode cX5_adviceFor 75 = .ok (.invokevirtual 158, 3) := by decide +kernel
theorem dX5_adviceFor_78 : decode cX5_adviceFor 78 = .ok (.ifCond .eq 8, 3) := by decide +kernel
theorem dX5_adviceFor_81 : decode cX5_adviceFor 81 = .ok (.bipush 16, 2) := by decide +kernel
theorem dX5_adviceFor_83 : decode cX5_adviceFor 83 = .ok (.goto 5, 3) := by decide +kernel
theorem dX5_adviceFor_86 : decode cX5_adviceFor 86 = .ok (.bipush 17, 2) := by decide +kernel
theorem dX5_adviceFor_88 : decode cX5_adviceFor 88 = .ok (.ireturn, 1) := by decide +kernel
set_option maxRecDepth 20000 in
theorem ggX5_putObeyed_X5_adviceFor : GoodIn wsX5_putObeyed wsX5_adviceFor := goodIn_r _ [5, 6, 7, 8, 4, 9, 10, 11, 12, 13, 14, 15, 16, 17, 18, 19, 20, 21, 22, 23, 24, 25, 26, 27, 28, 29, 30, 31, 32, 33, 34, 35, 36, 37, 38, 39, 40, 41, 42, 43, 44, 45, 46, 47, 48, 49, 50, 51, 52, 53, 54, 55, 56, 57, 58, 59, 60, 61, 62, 63, 64, 65, 66, 67, 68, 69, 70, 71, 72, 73, 78, 79, 80, 81, 82, 83, 84, 85, 86, 87, 88, 89, 90, 91, 92, 93, 94, 95, 96, 97, 98] (by decide +kernel) (by decide +kernel)
set_option maxRecDepth 20000 in
theorem gX5_putObeyed_X5_adviceFor : GoodIn wsX5_putObeyed (wsV RX5 161 RX5 yX5_adviceFor wsX5_adviceFor) := goodIn_app (goodIn_of _ (by decide +kernel)) ggX5_putObeyed_X5_adviceFor
set_option maxRecDepth 20000 in
theorem ggX5_putObeyed_X5_tells : GoodIn wsX5_putObeyed wsX5_tells := goodIn_r _ [77, 10, 78, 79, 80, 81, 82, 83, 84, 85, 86, 87, 88, 89, 90, 91, 92, 93, 94, 95, 96, 97, 98] (by decide +kernel) (by decide +kernel)
set_option maxRecDepth 20000 in
theorem gX5_putObeyed_X5_tells : GoodIn wsX5_putObeyed (wsV RX5 132 RX5 yX5_tells wsX5_tells) := goodIn_app (goodIn_of _ (by decide +kernel)) ggX5_putObeyed_X5_tells
theorem dX5_putObeyed_0 : decode cX5_putObeyed 0 = .ok (.aload_n 0, 1) := by decide +kernel
theorem dX5_putObeyed_1 : decode cX5_putObeyed 1 = .ok (.iconst 0, 1) := by decide +kernel
theorem dX5_putObeyed_2 : decode cX5_putObeyed 2 = .ok (.invokevirtual 161, 3) := by decide +kernel
theorem dX5_putObeyed_5 : decode cX5_putObeyed 5 = .ok (.istore_n 1, 1) := by decide +kernel
theorem dX5_putObeyed_6 : decode cX5_putObeyed 6 = .ok (.iload_n 1, 1) := by decide +kernel
theorem dX5_putObeyed_7 : decode cX5_putObeyed 7 = .ok (.bipush 16, 2) := by decide +kernel
theorem dX5_putObeyed_9 : decode cX5_putObeyed 9 = .ok (.if_icmp .ge 13, 3) := by decide +kernel
theorem dX5_putObeyed_12 : decode cX5_putObeyed 12 = .ok (.aload_n 0, 1) := by decide +kernel
theorem dX5_putObeyed_13 : decode cX5_putObeyed 13 = .ok (.iconst 0, 1) := by decide +kernel
theorem dX5_putObeyed_14 : decode cX5_putObeyed 14 = .ok (.iconst 2, 1) := by decide +kernel
theorem dX5_putObeyed_15 : decode cX5_putObeyed 15 = .ok (.iload_n 1, 1) := by decide +kernel
theorem dX5_putObeyed_16 : decode cX5_putObeyed 16 = .ok (.invokevirtual 132, 3) := by decide +kernel
theorem dX5_putObeyed_19 : decode cX5_putObeyed 19 = .ok (.goto 16, 3) := by decide +kernel
theorem dX5_putObeyed_22 : decode cX5_putObeyed 22 = .ok (.iload_n 1, 1) := by decide +kernel
theorem dX5_putObeyed_23 : decode cX5_putObeyed 23 = .ok (.bipush 16, 2) := by decide +kernel
theorem dX5_putObeyed_25 : decode cX5_putObeyed 25 = .ok (.if_icmp .ne 10, 3) := by decide +kernel
theorem dX5_putObeyed_28 : decode cX5_putObeyed 28 = .ok (.aload_n 0, 1) := by decide +kernel
theorem dX5_putObeyed_29 : decode cX5_putObeyed 29 = .ok (.iconst 0, 1) := by decide +kernel
theorem dX5_putObeyed_30 : decode cX5_putObeyed 30 = .ok (.iconst 3, 1) := by decide +kernel
theorem dX5_putObeyed_31 : decode cX5_putObeyed 31 = .ok (.iconst 0, 1) := by decide +kernel
theorem dX5_putObeyed_32 : decode cX5_putObeyed 32 = .ok (.invokevirtual 132, 3) := by decide +kernel
theorem dX5_putObeyed_35 : decode cX5_putObeyed 35 = .ok (.iload_n 1, 1) := by decide +kernel
theorem dX5_putObeyed_36 : decode cX5_putObeyed 36 = .ok (.ireturn, 1) := by decide +kernel
set_option maxRecDepth 20000 in
theorem ggX5_adds_X5_laysAside : GoodIn wsX5_adds wsX5_laysAside := goodIn_r _ [5, 6, 7, 44, 45, 46, 47, 48, 49, 50, 51, 52, 53, 54, 55, 56, 57, 58, 59, 60, 61, 62, 63, 64] (by decide +kernel) (by decide +kernel)
set_option maxRecDepth 20000 in
theorem gX5_adds_X5_laysAside : GoodIn wsX5_adds (wsV RX5 164 RX5 yX5_laysAside wsX5_laysAside) := goodIn_app (goodIn_of _ (by decide +kernel)) ggX5_adds_X5_laysAside
set_option maxRecDepth 20000 in
theorem ggX5_adds_X5_putOther : GoodIn wsX5_adds wsX5_putOther := goodIn_r _ [11, 7, 12, 13, 4, 14, 15, 16, 17, 18, 19, 20, 21, 22, 23, 24, 25, 26, 27, 28, 44, 45, 46, 47, 48, 49, 50, 51, 52, 53, 54, 55, 56, 57, 58, 59, 60, 61, 62, 63, 64] (by decide +kernel) (by decide +kernel)
set_option maxRecDepth 20000 in
theorem gX5_adds_X5_putOther : GoodIn wsX5_adds (wsV RX5 167 RX5 yX5_putOther wsX5_putOther) := goodIn_app (goodIn_of _ (by decide +kernel)) ggX5_adds_X5_putOther
set_option maxRecDepth 20000 in
theorem ggX5_adds_X5_finished : GoodIn wsX5_adds wsX5_finished := goodIn_r _ [32, 33, 34, 35, 4, 36, 37, 38, 39, 40, 41, 42, 43, 6, 44, 45, 46, 47, 48, 49, 50, 51, 52, 53, 54, 55, 56, 57, 58, 59, 60, 61, 62, 63, 64] (by decide +kernel) (by decide +kernel)
set_option maxRecDepth 20000 in
theorem gX5_adds_X5_finished : GoodIn wsX5_adds (wsV RX5 171 RX5 yX5_finished wsX5_finished) := goodIn_app (goodIn_of _ (by decide +kernel)) ggX5_adds_X5_finished
theorem dX5_adds_0 : decode cX5_adds 0 = .ok (.aload_n 0, 1) := by decide +kernel
theorem dX5_adds_1 : decode cX5_adds 1 = .ok (.invokevirtual 164, 3) := by decide +kernel
theorem dX5_adds_4 : decode cX5_adds 4 = .ok (.aload_n 0, 1) := by decide +kernel
theorem dX5_adds_5 : decode cX5_adds 5 = .ok (.aload_n 0, 1) := by decide +kernel
theorem dX5_adds_6 : decode cX5_adds 6 = .ok (.iload_n 1, 1) := by decide +kernel
theorem dX5_adds_7 : decode cX5_adds 7 = .ok (.iload_n 2, 1) := by decide +kernel
theorem dX5_adds_8 : decode cX5_adds 8 = .ok (.iload_n 3, 1) := by decide +kernel
theorem dX5_adds_9 : decode cX5_adds 9 = .ok (.iload 4, 2) := by decide +kernel
theorem dX5_adds_11 : decode cX5_adds 11 = .ok (.invokevirtual 167, 3) := by decide +kernel
theorem dX5_adds_14 : decode cX5_adds 14 = .ok (.invokevirtual 171, 3) := by decide +kernel
theorem dX5_adds_17 : decode cX5_adds 17 = .ok (.ireturn, 1) := by decide +kernel
set_option maxRecDepth 20000 in
theorem ggX5_own_X5_laysAside : GoodIn wsX5_own wsX5_laysAside := goodIn_r _ [5, 6, 7, 44, 45, 46, 47, 48, 49, 50, 51, 52, 53, 54, 55, 56, 57, 58, 59, 60, 61, 62, 63, 64] (by decide +kernel) (by decide +kernel)
set_option maxRecDepth 20000 in
theorem gX5_own_X5_laysAside : GoodIn wsX5_own (wsV RX5 164 RX5 yX5_laysAside wsX5_laysAside) := goodIn_app (goodIn_of _ (by decide +kernel)) ggX5_own_X5_laysAside
set_option maxRecDepth 20000 in
theorem ggX5_own_X5_putOwn : GoodIn wsX5_own wsX5_putOwn := goodIn_r _ [11, 7, 12, 13, 4, 14, 15, 16, 17, 18, 19, 20, 21, 22, 23, 24, 25, 26, 27, 28, 44, 45, 46, 47, 48, 49, 50, 51, 52, 53, 54, 55, 56, 57, 58, 59, 60, 61, 62, 63, 64] (by decide +kernel) (by decide +kernel)
set_option maxRecDepth 20000 in
theorem gX5_own_X5_putOwn : GoodIn wsX5_own (wsV RX5 174 RX5 yX5_putOwn wsX5_putOwn) := goodIn_app (goodIn_of _ (by decide +kernel)) ggX5_own_X5_putOwn
set_option maxRecDepth 20000 in
theorem ggX5_own_X5_finished : GoodIn wsX5_own wsX5_finished := goodIn_r _ [32, 33, 34, 35, 4, 36, 37, 38, 39, 40, 41, 42, 43, 6, 44, 45, 46, 47, 48, 49, 50, 51, 52, 53, 54, 55, 56, 57, 58, 59, 60, 61, 62, 63, 64] (by decide +kernel) (by decide +kernel)
set_option maxRecDepth 20000 in
theorem gX5_own_X5_finished : GoodIn wsX5_own (wsV RX5 171 RX5 yX5_finished wsX5_finished) := goodIn_app (goodIn_of _ (by decide +kernel)) ggX5_own_X5_finished
theorem dX5_own_0 : decode cX5_own 0 = .ok (.aload_n 0, 1) := by decide +kernel
theorem dX5_own_1 : decode cX5_own 1 = .ok (.invokevirtual 164, 3) := by decide +kernel
theorem dX5_own_4 : decode cX5_own 4 = .ok (.aload_n 0, 1) := by decide +kernel
theorem dX5_own_5 : decode cX5_own 5 = .ok (.aload_n 0, 1) := by decide +kernel
theorem dX5_own_6 : decode cX5_own 6 = .ok (.iload_n 1, 1) := by decide +kernel
theorem dX5_own_7 : decode cX5_own 7 = .ok (.iload_n 2, 1) := by decide +kernel
theorem dX5_own_8 : decode cX5_own 8 = .ok (.iload_n 3, 1) := by decide +kernel
theorem dX5_own_9 : decode cX5_own 9 = .ok (.iload 4, 2) := by decide +kernel
theorem dX5_own_11 : decode cX5_own 11 = .ok (.invokevirtual 174, 3) := by decide +kernel
theorem dX5_own_14 : decode cX5_own 14 = .ok (.invokevirtual 171, 3) := by decide +kernel
theorem dX5_own_17 : decode cX5_own 17 = .ok (.ireturn, 1) := by decide +kernel
set_option maxRecDepth 20000 in
theorem ggX5_drops_X5_laysAside : GoodIn wsX5_drops wsX5_laysAside := goodIn_r _ [5, 6, 7, 38, 39, 40, 41, 42, 43, 44, 45, 46, 47, 48, 49, 50, 51, 52, 53, 54, 55, 56, 57, 58] (by decide +kernel) (by decide +kernel)
set_option maxRecDepth 20000 in
theorem gX5_drops_X5_laysAside : GoodIn wsX5_drops (wsV RX5 164 RX5 yX5_laysAside wsX5_laysAside) := goodIn_app (goodIn_of _ (by decide +kernel)) ggX5_drops_X5_laysAside
set_option maxRecDepth 20000 in
theorem ggX5_drops_X5_putAway : GoodIn wsX5_drops wsX5_putAway := goodIn_r _ [11, 7, 12, 13, 14, 4, 15, 16, 17, 18, 19, 20, 21, 22, 38, 39, 40, 41, 42, 43, 44, 45, 46, 47, 48, 49, 50, 51, 52, 53, 54, 55, 56, 57, 58] (by decide +kernel) (by decide +kernel)
set_option maxRecDepth 20000 in
theorem gX5_drops_X5_putAway : GoodIn wsX5_drops (wsV RX5 177 RX5 yX5_putAway wsX5_putAway) := goodIn_app (goodIn_of _ (by decide +kernel)) ggX5_drops_X5_putAway
set_option maxRecDepth 20000 in
theorem ggX5_drops_X5_finished : GoodIn wsX5_drops wsX5_finished := goodIn_r _ [26, 27, 28, 29, 4, 30, 31, 32, 33, 34, 35, 36, 37, 6, 38, 39, 40, 41, 42, 43, 44, 45, 46, 47, 48, 49, 50, 51, 52, 53, 54, 55, 56, 57, 58] (by decide +kernel) (by decide +kernel)
set_option maxRecDepth 20000 in
theorem gX5_drops_X5_finished : GoodIn wsX5_drops (wsV RX5 171 RX5 yX5_finished wsX5_finished) := goodIn_app (goodIn_of _ (by decide +kernel)) ggX5_drops_X5_finished
theorem dX5_drops_0 : decode cX5_drops 0 = .ok (.aload_n 0, 1) := by decide +kernel
theorem dX5_drops_1 : decode cX5_drops 1 = .ok (.invokevirtual 164, 3) := by decide +kernel
theorem dX5_drops_4 : decode cX5_drops 4 = .ok (.aload_n 0, 1) := by decide +kernel
theorem dX5_drops_5 : decode cX5_drops 5 = .ok (.aload_n 0, 1) := by decide +kernel
theorem dX5_drops_6 : decode cX5_drops 6 = .ok (.iload_n 1, 1) := by decide +kernel
theorem dX5_drops_7 : decode cX5_drops 7 = .ok (.invokevirtual 177, 3) := by decide +kernel
theorem dX5_drops_10 : decode cX5_drops 10 = .ok (.invokevirtual 171, 3) := by decide +kernel
theorem dX5_drops_13 : decode cX5_drops 13 = .ok (.ireturn, 1) := by decide +kernel
set_option maxRecDepth 20000 in
theorem ggX5_veers_X5_laysAside : GoodIn wsX5_veers wsX5_laysAside := goodIn_r _ [5, 6, 7, 45, 46, 47, 48, 49, 50, 51, 52, 53, 54, 55, 56, 57, 58, 59, 60, 61, 62, 63, 64, 65] (by decide +kernel) (by decide +kernel)
set_option maxRecDepth 20000 in
theorem gX5_veers_X5_laysAside : GoodIn wsX5_veers (wsV RX5 164 RX5 yX5_laysAside wsX5_laysAside) := goodIn_app (goodIn_of _ (by decide +kernel)) ggX5_veers_X5_laysAside
set_option maxRecDepth 20000 in
theorem ggX5_veers_X5_putCourse : GoodIn wsX5_veers wsX5_putCourse := goodIn_r _ [11, 12, 13, 14, 4, 15, 7, 16, 17, 18, 19, 20, 21, 22, 23, 24, 25, 26, 27, 28, 29, 45, 46, 47, 48, 49, 50, 51, 52, 53, 54, 55, 56, 57, 58, 59, 60, 61, 62, 63, 64, 65] (by decide +kernel) (by decide +kernel)
set_option maxRecDepth 20000 in
theorem gX5_veers_X5_putCourse : GoodIn wsX5_veers (wsV RX5 180 RX5 yX5_putCourse wsX5_putCourse) := goodIn_app (goodIn_of _ (by decide +kernel)) ggX5_veers_X5_putCourse
set_option maxRecDepth 20000 in
theorem ggX5_veers_X5_finished : GoodIn wsX5_veers wsX5_finished := goodIn_r _ [33, 34, 35, 36, 4, 37, 38, 39, 40, 41, 42, 43, 44, 6, 45, 46, 47, 48, 49, 50, 51, 52, 53, 54, 55, 56, 57, 58, 59, 60, 61, 62, 63, 64, 65] (by decide +kernel) (by decide +kernel)
set_option maxRecDepth 20000 in
theorem gX5_veers_X5_finished : GoodIn wsX5_veers (wsV RX5 171 RX5 yX5_finished wsX5_finished) := goodIn_app (goodIn_of _ (by decide +kernel)) ggX5_veers_X5_finished
theorem dX5_veers_0 : decode cX5_veers 0 = .ok (.aload_n 0, 1) := by decide +kernel
theorem dX5_veers_1 : decode cX5_veers 1 = .ok (.invokevirtual 164, 3) := by decide +kernel
theorem dX5_veers_4 : decode cX5_veers 4 = .ok (.aload_n 0, 1) := by decide +kernel
theorem dX5_veers_5 : decode cX5_veers 5 = .ok (.aload_n 0, 1) := by decide +kernel
theorem dX5_veers_6 : decode cX5_veers 6 = .ok (.iload_n 1, 1) := by decide +kernel
theorem dX5_veers_7 : decode cX5_veers 7 = .ok (.iload_n 2, 1) := by decide +kernel
theorem dX5_veers_8 : decode cX5_veers 8 = .ok (.iload_n 3, 1) := by decide +kernel
theorem dX5_veers_9 : decode cX5_veers 9 = .ok (.invokevirtual 180, 3) := by decide +kernel
theorem dX5_veers_12 : decode cX5_veers 12 = .ok (.invokevirtual 171, 3) := by decide +kernel
theorem dX5_veers_15 : decode cX5_veers 15 = .ok (.ireturn, 1) := by decide +kernel
set_option maxRecDepth 20000 in
theorem ggX5_sets_X5_laysAside : GoodIn wsX5_sets wsX5_laysAside := goodIn_r _ [5, 6, 7, 30, 31, 32, 33, 34, 35, 36, 37, 38, 39, 40, 41, 42, 43, 44, 45, 46, 47, 48, 49, 50] (by decide +kernel) (by decide +kernel)
set_option maxRecDepth 20000 in
theorem gX5_sets_X5_laysAside : GoodIn wsX5_sets (wsV RX5 164 RX5 yX5_laysAside wsX5_laysAside) := goodIn_app (goodIn_of _ (by decide +kernel)) ggX5_sets_X5_laysAside
set_option maxRecDepth 20000 in
theorem ggX5_sets_X5_putSetting : GoodIn wsX5_sets wsX5_putSetting := goodIn_r _ [11, 7, 12, 13, 4, 14, 30, 31, 32, 33, 34, 35, 36, 37, 38, 39, 40, 41, 42, 43, 44, 45, 46, 47, 48, 49, 50] (by decide +kernel) (by decide +kernel)
set_option maxRecDepth 20000 in
theorem gX5_sets_X5_putSetting : GoodIn wsX5_sets (wsV RX5 184 RX5 yX5_putSetting wsX5_putSetting) := goodIn_app (goodIn_of _ (by decide +kernel)) ggX5_sets_X5_putSetting
set_option maxRecDepth 20000 in
theorem ggX5_sets_X5_finished : GoodIn wsX5_sets wsX5_finished := goodIn_r _ [18, 19, 20, 21, 4, 22, 23, 24, 25, 26, 27, 28, 29, 6, 30, 31, 32, 33, 34, 35, 36, 37, 38, 39, 40, 41, 42, 43, 44, 45, 46, 47, 48, 49, 50] (by decide +kernel) (by decide +kernel)
set_option maxRecDepth 20000 in
theorem gX5_sets_X5_finished : GoodIn wsX5_sets (wsV RX5 171 RX5 yX5_finished wsX5_finished) := goodIn_app (goodIn_of _ (by decide +kernel)) ggX5_sets_X5_finished
theorem dX5_sets_0 : decode cX5_sets 0 = .ok (.aload_n 0, 1) := by decide +kernel
theorem dX5_sets_1 : decode cX5_sets 1 = .ok (.invokevirtual 164, 3) := by decide +kernel
theorem dX5_sets_4 : decode cX5_sets 4 = .ok (.aload_n 0, 1) := by decide +kernel
theorem dX5_sets_5 : decode cX5_sets 5 = .ok (.aload_n 0, 1) := by decide +kernel
theorem dX5_sets_6 : decode cX5_sets 6 = .ok (.iload_n 1, 1) := by decide +kernel
theorem dX5_sets_7 : decode cX5_sets 7 = .ok (.iload_n 2, 1) := by decide +kernel
theorem dX5_sets_8 : decode cX5_sets 8 = .ok (.invokevirtual 184, 3) := by decide +kernel
theorem dX5_sets_11 : decode cX5_sets 11 = .ok (.invokevirtual 171, 3) := by decide +kernel
theorem dX5_sets_14 : decode cX5_sets 14 = .ok (.ireturn, 1) := by decide +kernel
set_option maxRecDepth 20000 in
theorem ggX5_steps_X5_laysAside : GoodIn wsX5_steps wsX5_laysAside := goodIn_r _ [5, 6, 7, 112, 113, 114, 115, 116, 117, 118, 119, 120, 121, 122, 123, 124, 125, 126, 127, 128, 129, 130, 131, 132] (by decide +kernel) (by decide +kernel)
set_option maxRecDepth 20000 in
theorem gX5_steps_X5_laysAside : GoodIn wsX5_steps (wsV RX5 164 RX5 yX5_laysAside wsX5_laysAside) := goodIn_app (goodIn_of _ (by decide +kernel)) ggX5_steps_X5_laysAside
set_option maxRecDepth 20000 in
theorem ggX5_steps_X5_putSteps : GoodIn wsX5_steps wsX5_putSteps := goodIn_r _ [11, 7, 12, 13, 4, 14, 15, 16, 17, 18, 19, 20, 21, 22, 23, 24, 25, 26, 27, 28, 29, 30, 31, 32, 33, 34, 35, 36, 37, 38, 39, 40, 41, 42, 43, 44, 45, 46, 47, 48, 49, 50, 51, 52, 53, 54, 55, 56, 57, 58, 59, 60, 61, 62, 63, 64, 65, 66, 67, 68, 69, 70, 71, 72, 73, 74, 75, 76, 77, 78, 79, 80, 81, 82, 83, 84, 85, 86, 87, 88, 89, 90, 91, 92, 93, 94, 95, 96, 112, 113, 114, 115, 116, 117, 118, 119, 120, 121, 122, 123, 124, 125, 126, 127, 128, 129, 130, 131, 132] (by decide +kernel) (by decide +kernel)
set_option maxRecDepth 20000 in
theorem gX5_steps_X5_putSteps : GoodIn wsX5_steps (wsV RX5 187 RX5 yX5_putSteps wsX5_putSteps) := goodIn_app (goodIn_of _ (by decide +kernel)) ggX5_steps_X5_putSteps
set_option maxRecDepth 20000 in
theorem ggX5_steps_X5_finished : GoodIn wsX5_steps wsX5_finished := goodIn_r _ [100, 101, 102, 103, 4, 104, 105, 106, 107, 108, 109, 110, 111, 6, 112, 113, 114, 115, 116, 117, 118, 119, 120, 121, 122, 123, 124, 125, 126, 127, 128, 129, 130, 131, 132] (by decide +kernel) (by decide +kernel)
set_option maxRecDepth 20000 in
theorem gX5_steps_X5_finished : GoodIn wsX5_steps (wsV RX5 171 RX5 yX5_finished wsX5_finished) := goodIn_app (goodIn_of _ (by decide +kernel)) ggX5_steps_X5_finished
theorem dX5_steps_0 : decode cX5_steps 0 = .ok (.aload_n 0, 1) := by decide +kernel
theorem dX5_steps_1 : decode cX5_steps 1 = .ok (.invokevirtual 164, 3) := by decide +kernel
theorem dX5_steps_4 : decode cX5_steps 4 = .ok (.aload_n 0, 1) := by decide +kernel
theorem dX5_steps_5 : decode cX5_steps 5 = .ok (.aload_n 0, 1) := by decide +kernel
theorem dX5_steps_6 : decode cX5_steps 6 = .ok (.iload_n 1, 1) := by decide +kernel
theorem dX5_steps_7 : decode cX5_steps 7 = .ok (.invokevirtual 187, 3) := by decide +kernel
theorem dX5_steps_10 : decode cX5_steps 10 = .ok (.invokevirtual 171, 3) := by decide +kernel
theorem dX5_steps_13 : decode cX5_steps 13 = .ok (.ireturn, 1) := by decide +kernel
set_option maxRecDepth 20000 in
theorem ggX5_looks_X5_laysAside : GoodIn wsX5_looks wsX5_laysAside := goodIn_r _ [5, 6, 7, 94, 95, 96, 97, 98, 99, 100, 101, 102, 103, 104, 105, 106, 107, 108, 109, 110, 111, 112, 113, 114] (by decide +kernel) (by decide +kernel)
set_option maxRecDepth 20000 in
theorem gX5_looks_X5_laysAside : GoodIn wsX5_looks (wsV RX5 164 RX5 yX5_laysAside wsX5_laysAside) := goodIn_app (goodIn_of _ (by decide +kernel)) ggX5_looks_X5_laysAside
set_option maxRecDepth 20000 in
theorem ggX5_looks_X5_look : GoodIn wsX5_looks wsX5_look := goodIn_r _ [11, 7, 12, 13, 14, 4, 15, 16, 17, 18, 19, 20, 21, 22, 23, 24, 25, 26, 27, 28, 29, 30, 31, 32, 33, 34, 35, 36, 37, 38, 39, 40, 41, 42, 43, 44, 45, 46, 47, 48, 49, 50, 51, 52, 53, 54, 55, 56, 57, 58, 59, 60, 61, 62, 63, 64, 65, 66, 67, 68, 69, 70, 71, 72, 73, 74, 75, 76, 77, 78, 94, 95, 96, 97, 98, 99, 100, 101, 102, 103, 104, 105, 106, 107, 108, 109, 110, 111, 112, 113, 114] (by decide +kernel) (by decide +kernel)
set_option maxRecDepth 20000 in
theorem gX5_looks_X5_look : GoodIn wsX5_looks (wsV RX5 151 RX5 yX5_look wsX5_look) := goodIn_app (goodIn_of _ (by decide +kernel)) ggX5_looks_X5_look
set_option maxRecDepth 20000 in
theorem ggX5_looks_X5_finished : GoodIn wsX5_looks wsX5_finished := goodIn_r _ [82, 83, 84, 85, 4, 86, 87, 88, 89, 90, 91, 92, 93, 6, 94, 95, 96, 97, 98, 99, 100, 101, 102, 103, 104, 105, 106, 107, 108, 109, 110, 111, 112, 113, 114] (by decide +kernel) (by decide +kernel)
set_option maxRecDepth 20000 in
theorem gX5_looks_X5_finished : GoodIn wsX5_looks (wsV RX5 171 RX5 yX5_finished wsX5_finished) := goodIn_app (goodIn_of _ (by decide +kernel)) ggX5_looks_X5_finished
theorem dX5_looks_0 : decode cX5_looks 0 = .ok (.aload_n 0, 1) := by decide +kernel
theorem dX5_looks_1 : decode cX5_looks 1 = .ok (.invokevirtual 164, 3) := by decide +kernel
theorem dX5_looks_4 : decode cX5_looks 4 = .ok (.aload_n 0, 1) := by decide +kernel
theorem dX5_looks_5 : decode cX5_looks 5 = .ok (.aload_n 0, 1) := by decide +kernel
theorem dX5_looks_6 : decode cX5_looks 6 = .ok (.invokevirtual 151, 3) := by decide +kernel
theorem dX5_looks_9 : decode cX5_looks 9 = .ok (.invokevirtual 171, 3) := by decide +kernel
theorem dX5_looks_12 : decode cX5_looks 12 = .ok (.ireturn, 1) := by decide +kernel
set_option maxRecDepth 20000 in
theorem ggX5_obeys_X5_laysAside : GoodIn wsX5_obeys wsX5_laysAside := goodIn_r _ [5, 6, 7, 102, 103, 104, 105, 106, 107, 108, 109, 110, 111, 112, 113, 114, 115, 116, 117, 118, 119, 120, 121, 122] (by decide +kernel) (by decide +kernel)
set_option maxRecDepth 20000 in
theorem gX5_obeys_X5_laysAside : GoodIn wsX5_obeys (wsV RX5 164 RX5 yX5_laysAside wsX5_laysAside) := goodIn_app (goodIn_of _ (by decide +kernel)) ggX5_obeys_X5_laysAside
set_option maxRecDepth 20000 in
theorem ggX5_obeys_X5_putObeyed : GoodIn wsX5_obeys wsX5_putObeyed := goodIn_r _ [11, 12, 13, 14, 4, 15, 16, 17, 18, 19, 7, 20, 21, 22, 23, 24, 25, 26, 27, 28, 29, 30, 31, 32, 33, 34, 35, 36, 37, 38, 39, 40, 41, 42, 43, 44, 45, 46, 47, 48, 49, 50, 51, 52, 53, 54, 55, 56, 57, 58, 59, 60, 61, 62, 63, 64, 65, 66, 67, 68, 69, 70, 71, 72, 73, 74, 75, 76, 77, 78, 79, 80, 81, 82, 83, 84, 85, 86, 102, 103, 104, 105, 106, 107, 108, 109, 110, 111, 112, 113, 114, 115, 116, 117, 118, 119, 120, 121, 122] (by decide +kernel) (by decide +kernel)
set_option maxRecDepth 20000 in
theorem gX5_obeys_X5_putObeyed : GoodIn wsX5_obeys (wsV RX5 190 RX5 yX5_putObeyed wsX5_putObeyed) := goodIn_app (goodIn_of _ (by decide +kernel)) ggX5_obeys_X5_putObeyed
set_option maxRecDepth 20000 in
theorem ggX5_obeys_X5_finished : GoodIn wsX5_obeys wsX5_finished := goodIn_r _ [90, 91, 92, 93, 4, 94, 95, 96, 97, 98, 99, 100, 101, 6, 102, 103, 104, 105, 106, 107, 108, 109, 110, 111, 112, 113, 114, 115, 116, 117, 118, 119, 120, 121, 122] (by decide +kernel) (by decide +kernel)
set_option maxRecDepth 20000 in
theorem gX5_obeys_X5_finished : GoodIn wsX5_obeys (wsV RX5 171 RX5 yX5_finished wsX5_finished) := goodIn_app (goodIn_of _ (by decide +kernel)) ggX5_obeys_X5_finished
theorem dX5_obeys_0 : decode cX5_obeys 0 = .ok (.aload_n 0, 1) := by decide +kernel
theorem dX5_obeys_1 : decode cX5_obeys 1 = .ok (.invokevirtual 164, 3) := by decide +kernel
theorem dX5_obeys_4 : decode cX5_obeys 4 = .ok (.aload_n 0, 1) := by decide +kernel
theorem dX5_obeys_5 : decode cX5_obeys 5 = .ok (.aload_n 0, 1) := by decide +kernel
theorem dX5_obeys_6 : decode cX5_obeys 6 = .ok (.invokevirtual 190, 3) := by decide +kernel
theorem dX5_obeys_9 : decode cX5_obeys 9 = .ok (.invokevirtual 171, 3) := by decide +kernel
theorem dX5_obeys_12 : decode cX5_obeys 12 = .ok (.ireturn, 1) := by decide +kernel
set_option maxRecDepth 20000 in
theorem ggX5_told0_X5_shipOf : GoodIn wsX5_told0 wsX5_shipOf := goodIn_r _ [5, 6, 21, 22, 23, 24, 25, 26, 27, 28, 29, 30, 31, 32, 33, 34, 35, 36, 37, 38, 39, 40, 41] (by decide +kernel) (by decide +kernel)
set_option maxRecDepth 20000 in
theorem gX5_told0_X5_shipOf : GoodIn wsX5_told0 (wsV RX5 53 RX5 yX5_shipOf wsX5_shipOf) := goodIn_app (goodIn_of _ (by decide +kernel)) ggX5_told0_X5_shipOf
set_option maxRecDepth 20000 in
theorem ggX5_told0_X5_eastSpeed : GoodIn wsX5_told0 wsX5_eastSpeed := goodIn_r _ [10, 1, 2, 3, 4, 5, 6, 11, 12, 13, 14, 15, 16, 21, 22, 23, 24, 25, 26, 27, 28, 29, 30, 31, 32, 33, 34, 35, 36, 37, 38, 39, 40, 41] (by decide +kernel) (by decide +kernel)
set_option maxRecDepth 20000 in
theorem gX5_told0_X5_eastSpeed : GoodIn wsX5_told0 (wsV RX5 145 RX5 yX5_eastSpeed wsX5_eastSpeed) := goodIn_app (goodIn_of _ (by decide +kernel)) ggX5_told0_X5_eastSpeed
set_option maxRecDepth 20000 in
theorem ggX5_told0_X5_northSpeed : GoodIn wsX5_told0 wsX5_northSpeed := goodIn_r _ [20, 1, 2, 3, 4, 5, 6, 14, 15, 16, 21, 22, 23, 24, 25, 26, 27, 28, 29, 30, 31, 32, 33, 34, 35, 36, 37, 38, 39, 40, 41] (by decide +kernel) (by decide +kernel)
set_option maxRecDepth 20000 in
theorem gX5_told0_X5_northSpeed : GoodIn wsX5_told0 (wsV RX5 148 RX5 yX5_northSpeed wsX5_northSpeed) := goodIn_app (goodIn_of _ (by decide +kernel)) ggX5_told0_X5_northSpeed
theorem dX5_told0_0 : decode cX5_told0 0 = .ok (.iload_n 2, 1) := by decide +kernel
theorem dX5_told0_1 : decode cX5_told0 1 = .ok (.iconst 4, 1) := by decide +kernel
theorem dX5_told0_2 : decode cX5_told0 2 = .ok (.if_icmp .ge 12, 3) := by decide +kernel
theorem dX5_told0_5 : decode cX5_told0 5 = .ok (.aload_n 0, 1) := by decide +kernel
theorem dX5_told0_6 : decode cX5_told0 6 = .ok (.iload_n 1, 1) := by decide +kernel
theorem dX5_told0_7 : decode cX5_told0 7 = .ok (.iload_n 2, 1) := by decide +kernel
theorem dX5_told0_8 : decode cX5_told0 8 = .ok (.invokevirtual 53, 3) := by decide +kernel
theorem dX5_told0_11 : decode cX5_told0 11 = .ok (.goto 21, 3) := by decide +kernel
theorem dX5_told0_14 : decode cX5_told0 14 = .ok (.iload_n 2, 1) := by decide +kernel
theorem dX5_told0_15 : decode cX5_told0 15 = .ok (.iconst 4, 1) := by decide +kernel
theorem dX5_told0_16 : decode cX5_told0 16 = .ok (.if_icmp .ne 11, 3) := by decide +kernel
theorem dX5_told0_19 : decode cX5_told0 19 = .ok (.aload_n 0, 1) := by decide +kernel
theorem dX5_told0_20 : decode cX5_told0 20 = .ok (.iload_n 1, 1) := by decide +kernel
theorem dX5_told0_21 : decode cX5_told0 21 = .ok (.invokevirtual 145, 3) := by decide +kernel
theorem dX5_told0_24 : decode cX5_told0 24 = .ok (.goto 8, 3) := by decide +kernel
theorem dX5_told0_27 : decode cX5_told0 27 = .ok (.aload_n 0, 1) := by decide +kernel
theorem dX5_told0_28 : decode cX5_told0 28 = .ok (.iload_n 1, 1) := by decide +kernel
theorem dX5_told0_29 : decode cX5_told0 29 = .ok (.invokevirtual 148, 3) := by decide +kernel
theorem dX5_told0_32 : decode cX5_told0 32 = .ok (.ireturn, 1) := by decide +kernel
set_option maxRecDepth 20000 in
theorem ggX5_of_X5_isShip : GoodIn wsX5_of wsX5_isShip := goodIn_r _ [5, 6, 7, 8, 4, 9, 37, 38, 39, 40, 41, 42, 43, 44, 45, 46, 47, 48, 49, 50, 51, 52, 53, 54, 55, 56, 57] (by decide +kernel) (by decide +kernel)
set_option maxRecDepth 20000 in
theorem gX5_of_X5_isShip : GoodIn wsX5_of (wsV RX5 46 RX5 yX5_isShip wsX5_isShip) := goodIn_app (goodIn_of _ (by decide +kernel)) ggX5_of_X5_isShip
set_option maxRecDepth 20000 in
theorem ggX5_of_X5_in : GoodIn wsX5_of wsX5_in := goodIn_r _ [9] (by decide +kernel) (by decide +kernel)
set_option maxRecDepth 20000 in
theorem gX5_of_X5_in : GoodIn wsX5_of (va_wsS RX5 42 yX5_in wsX5_in) := goodIn_app (goodIn_of _ (by decide +kernel)) ggX5_of_X5_in
set_option maxRecDepth 20000 in
theorem ggX5_of_X5_told0 : GoodIn wsX5_of wsX5_told0 := goodIn_r _ [13, 14, 15, 16, 4, 17, 6, 18, 19, 20, 21, 22, 23, 24, 25, 26, 27, 28, 29, 30, 31, 37, 38, 39, 40, 41, 42, 43, 44, 45, 46, 47, 48, 49, 50, 51, 52, 53, 54, 55, 56, 57] (by decide +kernel) (by decide +kernel)
set_option maxRecDepth 20000 in
theorem gX5_of_X5_told0 : GoodIn wsX5_of (wsV RX5 193 RX5 yX5_told0 wsX5_told0) := goodIn_app (goodIn_of _ (by decide +kernel)) ggX5_of_X5_told0
set_option maxRecDepth 20000 in
theorem ggX5_of_X5_refuses : GoodIn wsX5_of wsX5_refuses := goodIn_r _ [35, 36, 37, 38, 39, 40, 41, 42, 43, 44, 45, 46, 47, 48, 49, 50, 51, 52, 53, 54, 55, 56, 57] (by decide +kernel) (by decide +kernel)
set_option maxRecDepth 20000 in
theorem gX5_of_X5_refuses : GoodIn wsX5_of (wsV RX5 35 RX5 yX5_refuses wsX5_refuses) := goodIn_app (goodIn_of _ (by decide +kernel)) ggX5_of_X5_refuses
theorem dX5_of_0 : decode cX5_of 0 = .ok (.aload_n 0, 1) := by decide +kernel
theorem dX5_of_1 : decode cX5_of 1 = .ok (.iload_n 1, 1) := by decide +kernel
theorem dX5_of_2 : decode cX5_of 2 = .ok (.invokevirtual 46, 3) := by decide +kernel
theorem dX5_of_5 : decode cX5_of 5 = .ok (.ifCond .eq 21, 3) := by decide +kernel
theorem dX5_of_8 : decode cX5_of 8 = .ok (.iload_n 2, 1) := by decide +kernel
theorem dX5_of_9 : decode cX5_of 9 = .ok (.iconst 0, 1) := by decide +kernel
theorem dX5_of_10 : decode cX5_of 10 = .ok (.iconst 5, 1) := by decide +kernel
theorem dX5_of_11 : decode cX5_of 11 = .ok (.invokestatic 42, 3) := by decide +kernel
theorem dX5_of_14 : decode cX5_of 14 = .ok (.ifCond .eq 12, 3) := by decide +kernel
theorem dX5_of_17 : decode cX5_of 17 = .ok (.aload_n 0, 1) := by decide +kernel
theorem dX5_of_18 : decode cX5_of 18 = .ok (.iload_n 1, 1) := by decide +kernel
theorem dX5_of_19 : decode cX5_of 19 = .ok (.iload_n 2, 1) := by decide +kernel
theorem dX5_of_20 : decode cX5_of 20 = .ok (.invokevirtual 193, 3) := by decide +kernel
theorem dX5_of_23 : decode cX5_of 23 = .ok (.goto 10, 3) := by decide +kernel
theorem dX5_of_26 : decode cX5_of 26 = .ok (.aload_n 0, 1) := by decide +kernel
theorem dX5_of_27 : decode cX5_of 27 = .ok (.sipush (-10002), 3) := by decide +kernel
theorem dX5_of_30 : decode cX5_of 30 = .ok (.invokevirtual 35, 3) := by decide +kernel
theorem dX5_of_33 : decode cX5_of 33 = .ok (.ireturn, 1) := by decide +kernel
set_option maxRecDepth 20000 in
theorem ggX5_areTwo_X5_isShip : GoodIn wsX5_areTwo wsX5_isShip := goodIn_r _ [5, 6, 7, 8, 4, 9, 10, 11, 12, 13, 14, 15, 16, 17, 18, 19, 20, 21, 22, 23, 24, 25, 26, 27, 28, 29, 30] (by decide +kernel) (by decide +kernel)
set_option maxRecDepth 20000 in
theorem gX5_areTwo_X5_isShip : GoodIn wsX5_areTwo (wsV RX5 46 RX5 yX5_isShip wsX5_isShip) := goodIn_app (goodIn_of _ (by decide +kernel)) ggX5_areTwo_X5_isShip
theorem dX5_areTwo_0 : decode cX5_areTwo 0 = .ok (.aload_n 0, 1) := by decide +kernel
theorem dX5_areTwo_1 : decode cX5_areTwo 1 = .ok (.iload_n 1, 1) := by decide +kernel
theorem dX5_areTwo_2 : decode cX5_areTwo 2 = .ok (.invokevirtual 46, 3) := by decide +kernel
theorem dX5_areTwo_5 : decode cX5_areTwo 5 = .ok (.ifCond .eq 20, 3) := by decide +kernel
theorem dX5_areTwo_8 : decode cX5_areTwo 8 = .ok (.aload_n 0, 1) := by decide +kernel
theorem dX5_areTwo_9 : decode cX5_areTwo 9 = .ok (.iload_n 2, 1) := by decide +kernel
theorem dX5_areTwo_10 : decode cX5_areTwo 10 = .ok (.invokevirtual 46, 3) := by decide +kernel
theorem dX5_areTwo_13 : decode cX5_areTwo 13 = .ok (.ifCond .eq 12, 3) := by decide +kernel
theorem dX5_areTwo_16 : decode cX5_areTwo 16 = .ok (.iload_n 1, 1) := by decide +kernel
theorem dX5_areTwo_17 : decode cX5_areTwo 17 = .ok (.iload_n 2, 1) := by decide +kernel
theorem dX5_areTwo_18 : decode cX5_areTwo 18 = .ok (.if_icmp .eq 7, 3) := by decide +kernel
theorem dX5_areTwo_21 : decode cX5_areTwo 21 = .ok (.iconst 1, 1) := by decide +kernel
theorem dX5_areTwo_22 : decode cX5_areTwo 22 = .ok (.goto 4, 3) := by decide +kernel
theorem dX5_areTwo_25 : decode cX5_areTwo 25 = .ok (.iconst 0, 1) := by decide +kernel
theorem dX5_areTwo_26 : decode cX5_areTwo 26 = .ok (.ireturn, 1) := by decide +kernel
set_option maxRecDepth 20000 in
theorem ggX5_closestOf_X5_laysAsTheyAre : GoodIn wsX5_closestOf wsX5_laysAsTheyAre := goodIn_r _ [9, 10, 11, 12, 8, 13, 14, 15, 16, 17, 18, 19, 20, 21, 22, 23, 24, 25, 26, 27, 28, 44, 45, 46, 47, 48, 49, 50, 51, 52, 53, 54, 55, 56, 57, 58, 59, 60, 61, 62, 63, 64] (by decide +kernel) (by decide +kernel)
set_option maxRecDepth 20000 in
theorem gX5_closestOf_X5_laysAsTheyAre : GoodIn wsX5_closestOf (wsV RX5 103 RX5 yX5_laysAsTheyAre wsX5_laysAsTheyAre) := goodIn_app (goodIn_of _ (by decide +kernel)) ggX5_closestOf_X5_laysAsTheyAre
set_option maxRecDepth 20000 in
theorem ggX5_closestOf_X5_findsClosest : GoodIn wsX5_closestOf wsX5_findsClosest := goodIn_r _ [32, 1, 2, 3, 4, 21, 22, 19, 20, 33, 34, 35, 8, 36, 37, 38, 39, 40, 41, 42, 43, 44, 45, 46, 47, 48, 49, 50, 51, 52, 53, 54, 55, 56, 57, 58, 59, 60, 61, 62, 63, 64] (by decide +kernel) (by decide +kernel)
set_option maxRecDepth 20000 in
theorem gX5_closestOf_X5_findsClosest : GoodIn wsX5_closestOf (wsV RX5 100 RX5 yX5_findsClosest wsX5_findsClosest) := goodIn_app (goodIn_of _ (by decide +kernel)) ggX5_closestOf_X5_findsClosest
theorem dX5_closestOf_0 : decode cX5_closestOf 0 = .ok (.aload_n 0, 1) := by decide +kernel
theorem dX5_closestOf_1 : decode cX5_closestOf 1 = .ok (.iload_n 1, 1) := by decide +kernel
theorem dX5_closestOf_2 : decode cX5_closestOf 2 = .ok (.iload_n 2, 1) := by decide +kernel
theorem dX5_closestOf_3 : decode cX5_closestOf 3 = .ok (.invokevirtual 103, 3) := by decide +kernel
theorem dX5_closestOf_6 : decode cX5_closestOf 6 = .ok (.aload_n 0, 1) := by decide +kernel
theorem dX5_closestOf_7 : decode cX5_closestOf 7 = .ok (.invokevirtual 100, 3) := by decide +kernel
theorem dX5_closestOf_10 : decode cX5_closestOf 10 = .ok (.iload_n 3, 1) := by decide +kernel
theorem dX5_closestOf_11 : decode cX5_closestOf 11 = .ok (.ifCond .ne 10, 3) := by decide +kernel
theorem dX5_closestOf_14 : decode cX5_closestOf 14 = .ok (.aload_n 0, 1) := by decide +kernel
theorem dX5_closestOf_15 : decode cX5_closestOf 15 = .ok (.getfield 81, 3) := by decide +kernel
theorem dX5_closestOf_18 : decode cX5_closestOf 18 = .ok (.goto 31, 3) := by decide +kernel
theorem dX5_closestOf_21 : decode cX5_closestOf 21 = .ok (.iload_n 3, 1) := by decide +kernel
theorem dX5_closestOf_22 : decode cX5_closestOf 22 = .ok (.iconst 1, 1) := by decide +kernel
theorem dX5_closestOf_23 : decode cX5_closestOf 23 = .ok (.if_icmp .ne 10, 3) := by decide +kernel
theorem dX5_closestOf_26 : decode cX5_closestOf 26 = .ok (.aload_n 0, 1) := by decide +kernel
theorem dX5_closestOf_27 : decode cX5_closestOf 27 = .ok (.getfield 84, 3) := by decide +kernel
theorem dX5_closestOf_30 : decode cX5_closestOf 30 = .ok (.goto 19, 3) := by decide +kernel
theorem dX5_closestOf_33 : decode cX5_closestOf 33 = .ok (.iload_n 3, 1) := by decide +kernel
theorem dX5_closestOf_34 : decode cX5_closestOf 34 = .ok (.iconst 2, 1) := by decide +kernel
theorem dX5_closestOf_35 : decode cX5_closestOf 35 = .ok (.if_icmp .ne 10, 3) := by decide +kernel
theorem dX5_closestOf_38 : decode cX5_closestOf 38 = .ok (.aload_n 0, 1) := by decide +kernel
theorem dX5_closestOf_39 : decode cX5_closestOf 39 = .ok (.getfield 90, 3) := by decide +kernel
theorem dX5_closestOf_42 : decode cX5_closestOf 42 = .ok (.goto 7, 3) := by decide +kernel
theorem dX5_closestOf_45 : decode cX5_closestOf 45 = .ok (.aload_n 0, 1) := by decide +kernel
theorem dX5_closestOf_46 : decode cX5_closestOf 46 = .ok (.getfield 93, 3) := by decide +kernel
theorem dX5_closestOf_49 : decode cX5_closestOf 49 = .ok (.lreturn, 1) := by decide +kernel
set_option maxRecDepth 20000 in
theorem ggX5_closest_X5_areTwo : GoodIn wsX5_closest wsX5_areTwo := goodIn_r _ [5, 6, 7, 8, 4, 9, 10, 11, 12, 13, 64, 65, 66, 67, 68, 69, 70, 71, 72, 73, 74, 75, 76, 77, 78, 79, 80, 81, 82, 83, 84] (by decide +kernel) (by decide +kernel)
set_option maxRecDepth 20000 in
theorem gX5_closest_X5_areTwo : GoodIn wsX5_closest (wsV RX5 196 RX5 yX5_areTwo wsX5_areTwo) := goodIn_app (goodIn_of _ (by decide +kernel)) ggX5_closest_X5_areTwo
set_option maxRecDepth 20000 in
theorem ggX5_closest_X5_in : GoodIn wsX5_closest wsX5_in := goodIn_r _ [13] (by decide +kernel) (by decide +kernel)
set_option maxRecDepth 20000 in
theorem gX5_closest_X5_in : GoodIn wsX5_closest (va_wsS RX5 42 yX5_in wsX5_in) := goodIn_app (goodIn_of _ (by decide +kernel)) ggX5_closest_X5_in
set_option maxRecDepth 20000 in
theorem ggX5_closest_X5_closestOf : GoodIn wsX5_closest wsX5_closestOf := goodIn_r _ [17, 18, 19, 20, 21, 22, 23, 24, 4, 25, 26, 27, 28, 29, 10, 30, 31, 32, 33, 34, 35, 36, 37, 38, 39, 40, 41, 42, 43, 44, 45, 46, 47, 48, 49, 50, 51, 52, 53, 54, 55, 56, 57, 58, 64, 65, 66, 67, 68, 69, 70, 71, 72, 73, 74, 75, 76, 77, 78, 79, 80, 81, 82, 83, 84] (by decide +kernel) (by decide +kernel)
set_option maxRecDepth 20000 in
theorem gX5_closest_X5_closestOf : GoodIn wsX5_closest (wsV RX5 199 RX5 yX5_closestOf wsX5_closestOf) := goodIn_app (goodIn_of _ (by decide +kernel)) ggX5_closest_X5_closestOf
set_option maxRecDepth 20000 in
theorem ggX5_closest_X5_refuses : GoodIn wsX5_closest wsX5_refuses := goodIn_r _ [62, 63, 64, 65, 66, 67, 68, 69, 70, 71, 72, 73, 74, 75, 76, 77, 78, 79, 80, 81, 82, 83, 84] (by decide +kernel) (by decide +kernel)
set_option maxRecDepth 20000 in
theorem gX5_closest_X5_refuses : GoodIn wsX5_closest (wsV RX5 35 RX5 yX5_refuses wsX5_refuses) := goodIn_app (goodIn_of _ (by decide +kernel)) ggX5_closest_X5_refuses
theorem dX5_closest_0 : decode cX5_closest 0 = .ok (.aload_n 0, 1) := by decide +kernel
theorem dX5_closest_1 : decode cX5_closest 1 = .ok (.iload_n 1, 1) := by decide +kernel
theorem dX5_closest_2 : decode cX5_closest 2 = .ok (.iload_n 2, 1) := by decide +kernel
theorem dX5_closest_3 : decode cX5_closest 3 = .ok (.invokevirtual 196, 3) := by decide +kernel
theorem dX5_closest_6 : decode cX5_closest 6 = .ok (.ifCond .eq 22, 3) := by decide +kernel
theorem dX5_closest_9 : decode cX5_closest 9 = .ok (.iload_n 3, 1) := by decide +kernel
theorem dX5_closest_10 : decode cX5_closest 10 = .ok (.iconst 0, 1) := by decide +kernel
theorem dX5_closest_11 : decode cX5_closest 11 = .ok (.iconst 3, 1) := by decide +kernel
theorem dX5_closest_12 : decode cX5_closest 12 = .ok (.invokestatic 42, 3) := by decide +kernel
theorem dX5_closest_15 : decode cX5_closest 15 = .ok (.ifCond .eq 13, 3) := by decide +kernel
theorem dX5_closest_18 : decode cX5_closest 18 = .ok (.aload_n 0, 1) := by decide +kernel
theorem dX5_closest_19 : decode cX5_closest 19 = .ok (.iload_n 1, 1) := by decide +kernel
theorem dX5_closest_20 : decode cX5_closest 20 = .ok (.iload_n 2, 1) := by decide +kernel
theorem dX5_closest_21 : decode cX5_closest 21 = .ok (.iload_n 3, 1) := by decide +kernel
theorem dX5_closest_22 : decode cX5_closest 22 = .ok (.invokevirtual 199, 3) := by decide +kernel
theorem dX5_closest_25 : decode cX5_closest 25 = .ok (.goto 11, 3) := by decide +kernel
theorem dX5_closest_28 : decode cX5_closest 28 = .ok (.aload_n 0, 1) := by decide +kernel
theorem dX5_closest_29 : decode cX5_closest 29 = .ok (.sipush (-10002), 3) := by decide +kernel
theorem dX5_closest_32 : decode cX5_closest 32 = .ok (.invokevirtual 35, 3) := by decide +kernel
theorem dX5_closest_35 : decode cX5_closest 35 = .ok (.i2l, 1) := by decide +kernel
theorem dX5_closest_36 : decode cX5_closest 36 = .ok (.lreturn, 1) := by decide +kernel
set_option maxRecDepth 20000 in
theorem ggX5_risk_X5_areTwo : GoodIn wsX5_risk wsX5_areTwo := goodIn_r _ [5, 6, 7, 8, 4, 9, 10, 11, 12, 13, 68, 69, 70, 71, 72, 73, 74, 75, 76, 77, 78, 79, 80, 81, 82, 83, 84, 85, 86, 87, 88] (by decide +kernel) (by decide +kernel)
set_option maxRecDepth 20000 in
theorem gX5_risk_X5_areTwo : GoodIn wsX5_risk (wsV RX5 196 RX5 yX5_areTwo wsX5_areTwo) := goodIn_app (goodIn_of _ (by decide +kernel)) ggX5_risk_X5_areTwo
set_option maxRecDepth 20000 in
theorem ggX5_risk_X5_haveRisk : GoodIn wsX5_risk wsX5_haveRisk := goodIn_r _ [17, 18, 19, 20, 4, 21, 22, 23, 24, 25, 10, 26, 27, 28, 29, 30, 31, 32, 33, 34, 35, 36, 37, 38, 39, 40, 41, 42, 43, 44, 45, 46, 47, 48, 49, 50, 51, 52, 53, 54, 55, 56, 57, 58, 59, 60, 61, 62, 68, 69, 70, 71, 72, 73, 74, 75, 76, 77, 78, 79, 80, 81, 82, 83, 84, 85, 86, 87, 88] (by decide +kernel) (by decide +kernel)
set_option maxRecDepth 20000 in
theorem gX5_risk_X5_haveRisk : GoodIn wsX5_risk (wsV RX5 115 RX5 yX5_haveRisk wsX5_haveRisk) := goodIn_app (goodIn_of _ (by decide +kernel)) ggX5_risk_X5_haveRisk
set_option maxRecDepth 20000 in
theorem ggX5_risk_X5_refuses : GoodIn wsX5_risk wsX5_refuses := goodIn_r _ [66, 67, 68, 69, 70, 71, 72, 73, 74, 75, 76, 77, 78, 79, 80, 81, 82, 83, 84, 85, 86, 87, 88] (by decide +kernel) (by decide +kernel)
set_option maxRecDepth 20000 in
theorem gX5_risk_X5_refuses : GoodIn wsX5_risk (wsV RX5 35 RX5 yX5_refuses wsX5_refuses) := goodIn_app (goodIn_of _ (by decide +kernel)) ggX5_risk_X5_refuses
theorem dX5_risk_0 : decode cX5_risk 0 = .ok (.aload_n 0, 1) := by decide +kernel
theorem dX5_risk_1 : decode cX5_risk 1 = .ok (.iload_n 1, 1) := by decide +kernel
theorem dX5_risk_2 : decode cX5_risk 2 = .ok (.iload_n 2, 1) := by decide +kernel
theorem dX5_risk_3 : decode cX5_risk 3 = .ok (.invokevirtual 196, 3) := by decide +kernel
theorem dX5_risk_6 : decode cX5_risk 6 = .ok (.ifCond .eq 20, 3) := by decide +kernel
theorem dX5_risk_9 : decode cX5_risk 9 = .ok (.aload_n 0, 1) := by decide +kernel
theorem dX5_risk_10 : decode cX5_risk 10 = .ok (.iload_n 1, 1) := by decide +kernel
theorem dX5_risk_11 : decode cX5_risk 11 = .ok (.iload_n 2, 1) := by decide +kernel
theorem dX5_risk_12 : decode cX5_risk 12 = .ok (.invokevirtual 115, 3) := by decide +kernel
theorem dX5_risk_15 : decode cX5_risk 15 = .ok (.ifCond .eq 7, 3) := by decide +kernel
theorem dX5_risk_18 : decode cX5_risk 18 = .ok (.iconst 1, 1) := by decide +kernel
theorem dX5_risk_19 : decode cX5_risk 19 = .ok (.goto 14, 3) := by decide +kernel
theorem dX5_risk_22 : decode cX5_risk 22 = .ok (.iconst 0, 1) := by decide +kernel
theorem dX5_risk_23 : decode cX5_risk 23 = .ok (.goto 10, 3) := by decide +kernel
theorem dX5_risk_26 : decode cX5_risk 26 = .ok (.aload_n 0, 1) := by decide +kernel
theorem dX5_risk_27 : decode cX5_risk 27 = .ok (.sipush (-10002), 3) := by decide +kernel
theorem dX5_risk_30 : decode cX5_risk 30 = .ok (.invokevirtual 35, 3) := by decide +kernel
theorem dX5_risk_33 : decode cX5_risk 33 = .ok (.ireturn, 1) := by decide +kernel
set_option maxRecDepth 20000 in
theorem ggX5_sector_X5_areTwo : GoodIn wsX5_sector wsX5_areTwo := goodIn_r _ [5, 6, 7, 8, 4, 9, 10, 11, 12, 13, 51, 52, 53, 54, 55, 56, 57, 58, 59, 60, 61, 62, 63, 64, 65, 66, 67, 68, 69, 70, 71] (by decide +kernel) (by decide +kernel)
set_option maxRecDepth 20000 in
theorem gX5_sector_X5_areTwo : GoodIn wsX5_sector (wsV RX5 196 RX5 yX5_areTwo wsX5_areTwo) := goodIn_app (goodIn_of _ (by decide +kernel)) ggX5_sector_X5_areTwo
set_option maxRecDepth 20000 in
theorem ggX5_sector_X5_sectorOf : GoodIn wsX5_sector wsX5_sectorOf := goodIn_r _ [17, 18, 19, 20, 21, 22, 23, 24, 4, 25, 26, 27, 28, 29, 10, 30, 31, 32, 33, 34, 35, 36, 37, 38, 39, 40, 41, 42, 43, 44, 45, 51, 52, 53, 54, 55, 56, 57, 58, 59, 60, 61, 62, 63, 64, 65, 66, 67, 68, 69, 70, 71] (by decide +kernel) (by decide +kernel)
set_option maxRecDepth 20000 in
theorem gX5_sector_X5_sectorOf : GoodIn wsX5_sector (wsV RX5 119 RX5 yX5_sectorOf wsX5_sectorOf) := goodIn_app (goodIn_of _ (by decide +kernel)) ggX5_sector_X5_sectorOf
set_option maxRecDepth 20000 in
theorem ggX5_sector_X5_refuses : GoodIn wsX5_sector wsX5_refuses := goodIn_r _ [49, 50, 51, 52, 53, 54, 55, 56, 57, 58, 59, 60, 61, 62, 63, 64, 65, 66, 67, 68, 69, 70, 71] (by decide +kernel) (by decide +kernel)
set_option maxRecDepth 20000 in
theorem gX5_sector_X5_refuses : GoodIn wsX5_sector (wsV RX5 35 RX5 yX5_refuses wsX5_refuses) := goodIn_app (goodIn_of _ (by decide +kernel)) ggX5_sector_X5_refuses
theorem dX5_sector_0 : decode cX5_sector 0 = .ok (.aload_n 0, 1) := by decide +kernel
theorem dX5_sector_1 : decode cX5_sector 1 = .ok (.iload_n 1, 1) := by decide +kernel
theorem dX5_sector_2 : decode cX5_sector 2 = .ok (.iload_n 2, 1) := by decide +kernel
theorem dX5_sector_3 : decode cX5_sector 3 = .ok (.invokevirtual 196, 3) := by decide +kernel
theorem dX5_sector_6 : decode cX5_sector 6 = .ok (.ifCond .eq 12, 3) := by decide +kernel
theorem dX5_sector_9 : decode cX5_sector 9 = .ok (.aload_n 0, 1) := by decide +kernel
theorem dX5_sector_10 : decode cX5_sector 10 = .ok (.iload_n 1, 1) := by decide +kernel
theorem dX5_sector_11 : decode cX5_sector 11 = .ok (.iload_n 2, 1) := by decide +kernel
theorem dX5_sector_12 : decode cX5_sector 12 = .ok (.invokevirtual 119, 3) := by decide +kernel
theorem dX5_sector_15 : decode cX5_sector 15 = .ok (.goto 10, 3) := by decide +kernel
theorem dX5_sector_18 : decode cX5_sector 18 = .ok (.aload_n 0, 1) := by decide +kernel
theorem dX5_sector_19 : decode cX5_sector 19 = .ok (.sipush (-10002), 3) := by decide +kernel
theorem dX5_sector_22 : decode cX5_sector 22 = .ok (.invokevirtual 35, 3) := by decide +kernel
theorem dX5_sector_25 : decode cX5_sector 25 = .ok (.ireturn, 1) := by decide +kernel
set_option maxRecDepth 20000 in
theorem ggX5_table_X5_areTwo : GoodIn wsX5_table wsX5_areTwo := goodIn_r _ [5, 6, 7, 8, 4, 9, 10, 11, 12, 13, 78, 79, 80, 81, 82, 83, 84, 85, 86, 87, 88, 89, 90, 91, 92, 93, 94, 95, 96, 97, 98] (by decide +kernel) (by decide +kernel)
set_option maxRecDepth 20000 in
theorem gX5_table_X5_areTwo : GoodIn wsX5_table (wsV RX5 196 RX5 yX5_areTwo wsX5_areTwo) := goodIn_app (goodIn_of _ (by decide +kernel)) ggX5_table_X5_areTwo
set_option maxRecDepth 20000 in
theorem ggX5_table_X5_tableOf : GoodIn wsX5_table wsX5_tableOf := goodIn_r _ [17, 18, 19, 20, 4, 21, 22, 23, 24, 25, 26, 27, 28, 29, 10, 30, 31, 32, 33, 34, 35, 36, 37, 38, 39, 40, 41, 42, 43, 44, 45, 46, 47, 48, 49, 50, 51, 52, 53, 54, 55, 56, 57, 58, 59, 60, 61, 62, 63, 64, 65, 66, 67, 68, 69, 70, 71, 72, 78, 79, 80, 81, 82, 83, 84, 85, 86, 87, 88, 89, 90, 91, 92, 93, 94, 95, 96, 97, 98] (by decide +kernel) (by decide +kernel)
set_option maxRecDepth 20000 in
theorem gX5_table_X5_tableOf : GoodIn wsX5_table (wsV RX5 139 RX5 yX5_tableOf wsX5_tableOf) := goodIn_app (goodIn_of _ (by decide +kernel)) ggX5_table_X5_tableOf
set_option maxRecDepth 20000 in
theorem ggX5_table_X5_refuses : GoodIn wsX5_table wsX5_refuses := goodIn_r _ [76, 77, 78, 79, 80, 81, 82, 83, 84, 85, 86, 87, 88, 89, 90, 91, 92, 93, 94, 95, 96, 97, 98] (by decide +kernel) (by decide +kernel)
set_option maxRecDepth 20000 in
theorem gX5_table_X5_refuses : GoodIn wsX5_table (wsV RX5 35 RX5 yX5_refuses wsX5_refuses) := goodIn_app (goodIn_of _ (by decide +kernel)) ggX5_table_X5_refuses
theorem dX5_table_0 : decode cX5_table 0 = .ok (.aload_n 0, 1) := by decide +kernel
theorem dX5_table_1 : decode cX5_table 1 = .ok (.iload_n 1, 1) := by decide +kernel
theorem dX5_table_2 : decode cX5_table 2 = .ok (.iload_n 2, 1) := by decide +kernel
theorem dX5_table_3 : decode cX5_table 3 = .ok (.invokevirtual 196, 3) := by decide +kernel
theorem dX5_table_6 : decode cX5_table 6 = .ok (.ifCond .eq 12, 3) := by decide +kernel
theorem dX5_table_9 : decode cX5_table 9 = .ok (.aload_n 0, 1) := by decide +kernel
theorem dX5_table_10 : decode cX5_table 10 = .ok (.iload_n 1, 1) := by decide +kernel
theorem dX5_table_11 : decode cX5_table 11 = .ok (.iload_n 2, 1) := by decide +kernel
theorem dX5_table_12 : decode cX5_table 12 = .ok (.invokevirtual 139, 3) := by decide +kernel
theorem dX5_table_15 : decode cX5_table 15 = .ok (.goto 10, 3) := by decide +kernel
theorem dX5_table_18 : decode cX5_table 18 = .ok (.aload_n 0, 1) := by decide +kernel
theorem dX5_table_19 : decode cX5_table 19 = .ok (.sipush (-10002), 3) := by decide +kernel
theorem dX5_table_22 : decode cX5_table 22 = .ok (.invokevirtual 35, 3) := by decide +kernel
theorem dX5_table_25 : decode cX5_table 25 = .ok (.ireturn, 1) := by decide +kernel
set_option maxRecDepth 20000 in
theorem ggX5_duty_X5_isOther : GoodIn wsX5_duty wsX5_isOther := goodIn_r _ [5, 6, 7, 8, 4, 9, 10, 11, 12, 13, 23, 24, 25, 26, 27, 28, 29, 30, 31, 32, 33, 34, 35, 36, 37, 38, 39, 40, 41, 42, 43] (by decide +kernel) (by decide +kernel)
set_option maxRecDepth 20000 in
theorem gX5_duty_X5_isOther : GoodIn wsX5_duty (wsV RX5 136 RX5 yX5_isOther wsX5_isOther) := goodIn_app (goodIn_of _ (by decide +kernel)) ggX5_duty_X5_isOther
set_option maxRecDepth 20000 in
theorem ggX5_duty_X5_shipOf : GoodIn wsX5_duty wsX5_shipOf := goodIn_r _ [17, 10, 23, 24, 25, 26, 27, 28, 29, 30, 31, 32, 33, 34, 35, 36, 37, 38, 39, 40, 41, 42, 43] (by decide +kernel) (by decide +kernel)
set_option maxRecDepth 20000 in
theorem gX5_duty_X5_shipOf : GoodIn wsX5_duty (wsV RX5 53 RX5 yX5_shipOf wsX5_shipOf) := goodIn_app (goodIn_of _ (by decide +kernel)) ggX5_duty_X5_shipOf
set_option maxRecDepth 20000 in
theorem ggX5_duty_X5_refuses : GoodIn wsX5_duty wsX5_refuses := goodIn_r _ [21, 22, 23, 24, 25, 26, 27, 28, 29, 30, 31, 32, 33, 34, 35, 36, 37, 38, 39, 40, 41, 42, 43] (by decide +kernel) (by decide +kernel)
set_option maxRecDepth 20000 in
theorem gX5_duty_X5_refuses : GoodIn wsX5_duty (wsV RX5 35 RX5 yX5_refuses wsX5_refuses) := goodIn_app (goodIn_of _ (by decide +kernel)) ggX5_duty_X5_refuses
theorem dX5_duty_0 : decode cX5_duty 0 = .ok (.aload_n 0, 1) := by decide +kernel
theorem dX5_duty_1 : decode cX5_duty 1 = .ok (.iload_n 1, 1) := by decide +kernel
theorem dX5_duty_2 : decode cX5_duty 2 = .ok (.invokevirtual 136, 3) := by decide +kernel
theorem dX5_duty_5 : decode cX5_duty 5 = .ok (.ifCond .eq 12, 3) := by decide +kernel
theorem dX5_duty_8 : decode cX5_duty 8 = .ok (.aload_n 0, 1) := by decide +kernel
theorem dX5_duty_9 : decode cX5_duty 9 = .ok (.iload_n 1, 1) := by decide +kernel
theorem dX5_duty_10 : decode cX5_duty 10 = .ok (.iconst 4, 1) := by decide +kernel
theorem dX5_duty_11 : decode cX5_duty 11 = .ok (.invokevirtual 53, 3) := by decide +kernel
theorem dX5_duty_14 : decode cX5_duty 14 = .ok (.goto 10, 3) := by decide +kernel
theorem dX5_duty_17 : decode cX5_duty 17 = .ok (.aload_n 0, 1) := by decide +kernel
theorem dX5_duty_18 : decode cX5_duty 18 = .ok (.sipush (-10002), 3) := by decide +kernel
theorem dX5_duty_21 : decode cX5_duty 21 = .ok (.invokevirtual 35, 3) := by decide +kernel
theorem dX5_duty_24 : decode cX5_duty 24 = .ok (.ireturn, 1) := by decide +kernel
set_option maxRecDepth 20000 in
theorem ggX5_worst_X5_haveRisk : GoodIn wsX5_worst wsX5_haveRisk := goodIn_r _ [10, 11, 12, 13, 9, 14, 15, 16, 17, 18, 1, 19, 20, 21, 22, 23, 24, 25, 26, 27, 28, 29, 30, 31, 32, 33, 34, 35, 36, 4, 5, 2, 3, 37, 38, 39, 40, 41, 42, 43, 44, 45, 46, 47, 48, 49, 50, 51, 52, 53, 54, 55, 56, 57, 58, 59, 60, 61, 62, 63, 64, 65, 66, 67, 68, 69, 70, 71, 72] (by decide +kernel) (by decide +kernel)
set_option maxRecDepth 20000 in
theorem gX5_worst_X5_haveRisk : GoodIn wsX5_worst (wsV RX5 115 RX5 yX5_haveRisk wsX5_haveRisk) := goodIn_app (goodIn_of _ (by decide +kernel)) ggX5_worst_X5_haveRisk
theorem dX5_worst_0 : decode cX5_worst 0 = .ok (.sipush (-10001), 3) := by decide +kernel
theorem dX5_worst_3 : decode cX5_worst 3 = .ok (.istore_n 1, 1) := by decide +kernel
theorem dX5_worst_4 : decode cX5_worst 4 = .ok (.lconst 0, 1) := by decide +kernel
theorem dX5_worst_5 : decode cX5_worst 5 = .ok (.lstore_n 2, 1) := by decide +kernel
theorem dX5_worst_6 : decode cX5_worst 6 = .ok (.lconst 1, 1) := by decide +kernel
theorem dX5_worst_7 : decode cX5_worst 7 = .ok (.lstore 4, 2) := by decide +kernel
theorem dX5_worst_9 : decode cX5_worst 9 = .ok (.lconst 0, 1) := by decide +kernel
theorem dX5_worst_10 : decode cX5_worst 10 = .ok (.lstore 6, 2) := by decide +kernel
theorem dX5_worst_12 : decode cX5_worst 12 = .ok (.lconst 1, 1) := by decide +kernel
theorem dX5_worst_13 : decode cX5_worst 13 = .ok (.lstore 8, 2) := by decide +kernel
theorem dX5_worst_15 : decode cX5_worst 15 = .ok (.iconst 1, 1) := by decide +kernel
theorem dX5_worst_16 : decode cX5_worst 16 = .ok (.istore 10, 2) := by decide +kernel
theorem dX5_worst_18 : decode cX5_worst 18 = .ok (.iload 10, 2) := by decide +kernel
theorem dX5_worst_20 : decode cX5_worst 20 = .ok (.aload_n 0, 1) := by decide +kernel
theorem dX5_worst_21 : decode cX5_worst 21 = .ok (.getfield 7, 3) := by decide +kernel
theorem dX5_worst_24 : decode cX5_worst 24 = .ok (.iconst 0, 1) := by decide +kernel
theorem dX5_worst_25 : decode cX5_worst 25 = .ok (.iaload, 1) := by decide +kernel
theorem dX5_worst_26 : decode cX5_worst 26 = .ok (.if_icmp .ge 106, 3) := by decide +kernel
theorem dX5_worst_29 : decode cX5_worst 29 = .ok (.aload_n 0, 1) := by decide +kernel
theorem dX5_worst_30 : decode cX5_worst 30 = .ok (.iconst 0, 1) := by decide +kernel
theorem dX5_worst_31 : decode cX5_worst 31 = .ok (.iload 10, 2) := by decide +kernel
theorem dX5_worst_33 : decode cX5_worst 33 = .ok (.invokevirtual 115, 3) := by decide +kernel
theorem dX5_worst_36 : decode cX5_worst 36 = .ok (.ifCond .eq 90, 3) := by decide +kernel
theorem dX5_worst_39 : decode cX5_worst 39 = .ok (.aload_n 0, 1) := by decide +kernel
theorem dX5_worst_40 : decode cX5_worst 40 = .ok (.getfield 81, 3) := by decide +kernel
theorem dX5_worst_43 : decode cX5_worst 43 = .ok (.lload 4, 2) := by decide +kernel
theorem dX5_worst_45 : decode cX5_worst 45 = .ok (.lmul, 1) := by decide +kernel
theorem dX5_worst_46 : decode cX5_worst 46 = .ok (.lload_n 2, 1) := by decide +kernel
theorem dX5_worst_47 : decode cX5_worst 47 = .ok (.aload_n 0, 1) := by decide +kernel
theorem dX5_worst_48 : decode cX5_worst 48 = .ok (.getfield 84, 3) := by decide +kernel
theorem dX5_worst_51 : decode cX5_worst 51 = .ok (.lmul, 1) := by decide +kernel
theorem dX5_worst_52 : decode cX5_worst 52 = .ok (.lsub, 1) := by decide +kernel
theorem dX5_worst_53 : decode cX5_worst 53 = .ok (.lstore 11, 2) := by decide +kernel
theorem dX5_worst_55 : decode cX5_worst 55 = .ok (.aload_n 0, 1) := by decide +kernel
theorem dX5_worst_56 : decode cX5_worst 56 = .ok (.getfield 90, 3) := by decide +kernel
theorem dX5_worst_59 : decode cX5_worst 59 = .ok (.lload 8, 2) := by decide +kernel
theorem dX5_worst_61 : decode cX5_worst 61 = .ok (.lmul, 1) := by decide +kernel
theorem dX5_worst_62 : decode cX5_worst 62 = .ok (.lload 6, 2) := by decide +kernel
theorem dX5_worst_64 : decode cX5_worst 64 = .ok (.aload_n 0, 1) := by decide +kernel
theorem dX5_worst_65 : decode cX5_worst 65 = .ok (.getfield 93, 3) := by decide +kernel
theorem dX5_worst_68 : decode cX5_worst 68 = .ok (.lmul, 1) := by decide +kernel
theorem dX5_worst_69 : decode cX5_worst 69 = .ok (.lsub, 1) := by decide +kernel
theorem dX5_worst_70 : decode cX5_worst 70 = .ok (.lstore 13, 2) := by decide +kernel
