theorem dX4_digest_85 : decode cX4_digest 85 = .ok (.goto (-24), 3) := by decide +kernel
theorem dX4_digest_88 : decode cX4_digest 88 = .ok (.iconst 1, 1) := by decide +kernel
theorem dX4_digest_89 : decode cX4_digest 89 = .ok (.istore_n 3, 1) := by decide +kernel
theorem dX4_digest_90 : decode cX4_digest 90 = .ok (.iload_n 3, 1) := by decide +kernel
theorem dX4_digest_91 : decode cX4_digest 91 = .ok (.aload_n 0, 1) := by decide +kernel
theorem dX4_digest_92 : decode cX4_digest 92 = .ok (.getfield 10, 3) := by decide +kernel
theorem dX4_digest_95 : decode cX4_digest 95 = .ok (.invokevirtual 176, 3) := by decide +kernel
theorem dX4_digest_98 : decode cX4_digest 98 = .ok (.if_icmp .gt 19, 3) := by decide +kernel
theorem dX4_digest_101 : decode cX4_digest 101 = .ok (.aload_n 0, 1) := by decide +kernel
theorem dX4_digest_102 : decode cX4_digest 102 = .ok (.getfield 10, 3) := by decide +kernel
theorem dX4_digest_105 : decode cX4_digest 105 = .ok (.lload_n 1, 1) := by decide +kernel
theorem dX4_digest_106 : decode cX4_digest 106 = .ok (.iload_n 3, 1) := by decide +kernel
theorem dX4_digest_107 : decode cX4_digest 107 = .ok (.invokevirtual 183, 3) := by decide +kernel
theorem dX4_digest_110 : decode cX4_digest 110 = .ok (.lstore_n 1, 1) := by decide +kernel
theorem dX4_digest_111 : decode cX4_digest 111 = .ok (.iinc 3 1, 3) := by decide +kernel
theorem dX4_digest_114 : decode cX4_digest 114 = .ok (.goto (-24), 3) := by decide +kernel
theorem dX4_digest_117 : decode cX4_digest 117 = .ok (.ldc2_w 174, 3) := by decide +kernel
theorem dX4_digest_120 : decode cX4_digest 120 = .ok (.lload_n 1, 1) := by decide +kernel
theorem dX4_digest_121 : decode cX4_digest 121 = .ok (.lmul, 1) := by decide +kernel
theorem dX4_digest_122 : decode cX4_digest 122 = .ok (.aload_n 0, 1) := by decide +kernel
theorem dX4_digest_123 : decode cX4_digest 123 = .ok (.getfield 10, 3) := by decide +kernel
theorem dX4_digest_126 : decode cX4_digest 126 = .ok (.invokevirtual 115, 3) := by decide +kernel
theorem dX4_digest_129 : decode cX4_digest 129 = .ok (.i2l, 1) := by decide +kernel
theorem dX4_digest_130 : decode cX4_digest 130 = .ok (.ladd, 1) := by decide +kernel
theorem dX4_digest_131 : decode cX4_digest 131 = .ok (.lreturn, 1) := by decide +kernel
set_option maxRecDepth 20000 in
theorem ggX4_perform_X1_join : GoodIn wsX4_perform wsX1_join := goodIn_r _ [9, 10, 11, 12, 8, 13, 14, 15, 16, 17, 18, 19, 20, 144, 145, 146] (by decide +kernel) (by decide +kernel)
set_option maxRecDepth 20000 in
theorem gX4_perform_X1_join : GoodIn wsX4_perform (wsV RX4 38 RX1 yX1_join wsX1_join) := goodIn_app (goodIn_of _ (by decide +kernel)) ggX4_perform_X1_join
set_option maxRecDepth 20000 in
theorem ggX4_perform_X1_placeOwn : GoodIn wsX4_perform wsX1_placeOwn := goodIn_r _ [24, 10, 11, 12, 8, 13, 14, 15, 16, 17, 18, 19, 20, 144, 145, 146] (by decide +kernel) (by decide +kernel)
set_option maxRecDepth 20000 in
theorem gX4_perform_X1_placeOwn : GoodIn wsX4_perform (wsV RX4 46 RX1 yX1_placeOwn wsX1_placeOwn) := goodIn_app (goodIn_of _ (by decide +kernel)) ggX4_perform_X1_placeOwn
set_option maxRecDepth 20000 in
theorem ggX4_perform_X1_steer : GoodIn wsX4_perform wsX1_steer := goodIn_r _ [28, 10, 29, 30, 31, 8, 32, 14, 15, 16, 144, 145, 146] (by decide +kernel) (by decide +kernel)
set_option maxRecDepth 20000 in
theorem gX4_perform_X1_steer : GoodIn wsX4_perform (wsV RX4 52 RX1 yX1_steer wsX1_steer) := goodIn_app (goodIn_of _ (by decide +kernel)) ggX4_perform_X1_steer
set_option maxRecDepth 20000 in
theorem ggX4_perform_X1_goOn : GoodIn wsX4_perform wsX1_goOn := goodIn_r _ [36, 10, 37, 38, 39, 8, 40, 41, 42, 43, 44, 45, 11, 12, 13, 46, 47, 48, 49, 50, 51, 52, 53, 54, 55, 56, 57, 58, 59, 60, 61, 62, 63, 64, 65, 66, 67, 68, 69, 70, 71, 72, 73, 74, 75, 76, 77, 78, 79, 80, 81, 82, 83, 84, 85, 86, 87, 88, 89, 90, 91, 92, 93, 94, 95, 96, 97, 98, 99, 100, 101, 102, 103, 104, 144, 145, 146, 147, 148, 149, 150] (by decide +kernel) (by decide +kernel)
set_option maxRecDepth 20000 in
theorem gX4_perform_X1_goOn : GoodIn wsX4_perform (wsV RX4 60 RX1 yX1_goOn wsX1_goOn) := goodIn_app (goodIn_of _ (by decide +kernel)) ggX4_perform_X1_goOn
set_option maxRecDepth 20000 in
theorem ggX4_perform_X1_adviceFor : GoodIn wsX4_perform wsX1_adviceFor := goodIn_r _ [108, 10, 109, 110, 111, 8, 112, 101, 102, 103, 104, 59, 60, 61, 62, 63, 64, 65, 66, 67, 68, 69, 70, 71, 45, 50, 72, 73, 74, 75, 76, 77, 78, 79, 80, 81, 82, 83, 84, 85, 86, 87, 88, 89, 90, 91, 92, 113, 114, 115, 116, 117, 118, 119, 120, 121, 122, 123, 124, 144, 145, 146, 147, 148, 149, 150] (by decide +kernel) (by decide +kernel)
set_option maxRecDepth 20000 in
theorem gX4_perform_X1_adviceFor : GoodIn wsX4_perform (wsV RX4 70 RX1 yX1_adviceFor wsX1_adviceFor) := goodIn_app (goodIn_of _ (by decide +kernel)) ggX4_perform_X1_adviceFor
set_option maxRecDepth 20000 in
theorem ggX4_perform_X1_follow : GoodIn wsX4_perform wsX1_follow := goodIn_r _ [128, 10, 144, 145, 146] (by decide +kernel) (by decide +kernel)
set_option maxRecDepth 20000 in
theorem gX4_perform_X1_follow : GoodIn wsX4_perform (wsV RX4 73 RX1 yX1_follow wsX1_follow) := goodIn_app (goodIn_of _ (by decide +kernel)) ggX4_perform_X1_follow
set_option maxRecDepth 20000 in
theorem ggX4_perform_X1_setRule : GoodIn wsX4_perform wsX1_setRule := goodIn_r _ [132, 10, 144, 145, 146] (by decide +kernel) (by decide +kernel)
set_option maxRecDepth 20000 in
theorem gX4_perform_X1_setRule : GoodIn wsX4_perform (wsV RX4 56 RX1 yX1_setRule wsX1_setRule) := goodIn_app (goodIn_of _ (by decide +kernel)) ggX4_perform_X1_setRule
theorem dX4_perform_0 : decode cX4_perform 0 = .ok (.aload_n 0, 1) := by decide +kernel
theorem dX4_perform_1 : decode cX4_perform 1 = .ok (.getfield 26, 3) := by decide +kernel
theorem dX4_perform_4 : decode cX4_perform 4 = .ok (.getfield 186, 3) := by decide +kernel
theorem dX4_perform_7 : decode cX4_perform 7 = .ok (.astore_n 1, 1) := by decide +kernel
theorem dX4_perform_8 : decode cX4_perform 8 = .ok (.aload_n 0, 1) := by decide +kernel
theorem dX4_perform_9 : decode cX4_perform 9 = .ok (.getfield 26, 3) := by decide +kernel
theorem dX4_perform_12 : decode cX4_perform 12 = .ok (.getfield 189, 3) := by decide +kernel
theorem dX4_perform_15 : decode cX4_perform 15 = .ok (.lookupswitch 131 #[(97, 49), (98, 115), (110, 104), (111, 69), (116, 89)], 49) := by decide +kernel
theorem dX4_perform_64 : decode cX4_perform 64 = .ok (.aload_n 0, 1) := by decide +kernel
theorem dX4_perform_65 : decode cX4_perform 65 = .ok (.getfield 10, 3) := by decide +kernel
theorem dX4_perform_68 : decode cX4_perform 68 = .ok (.aload_n 1, 1) := by decide +kernel
theorem dX4_perform_69 : decode cX4_perform 69 = .ok (.iconst 0, 1) := by decide +kernel
theorem dX4_perform_70 : decode cX4_perform 70 = .ok (.iaload, 1) := by decide +kernel
theorem dX4_perform_71 : decode cX4_perform 71 = .ok (.aload_n 1, 1) := by decide +kernel
theorem dX4_perform_72 : decode cX4_perform 72 = .ok (.iconst 1, 1) := by decide +kernel
theorem dX4_perform_73 : decode cX4_perform 73 = .ok (.iaload, 1) := by decide +kernel
theorem dX4_perform_74 : decode cX4_perform 74 = .ok (.aload_n 1, 1) := by decide +kernel
theorem dX4_perform_75 : decode cX4_perform 75 = .ok (.iconst 2, 1) := by decide +kernel
theorem dX4_perform_76 : decode cX4_perform 76 = .ok (.iaload, 1) := by decide +kernel
theorem dX4_perform_77 : decode cX4_perform 77 = .ok (.aload_n 1, 1) := by decide +kernel
theorem dX4_perform_78 : decode cX4_perform 78 = .ok (.iconst 3, 1) := by decide +kernel
theorem dX4_perform_79 : decode cX4_perform 79 = .ok (.iaload, 1) := by decide +kernel
theorem dX4_perform_80 : decode cX4_perform 80 = .ok (.invokevirtual 38, 3) := by decide +kernel
theorem dX4_perform_83 : decode cX4_perform 83 = .ok (.ireturn, 1) := by decide +kernel
theorem dX4_perform_84 : decode cX4_perform 84 = .ok (.aload_n 0, 1) := by decide +kernel
theorem dX4_perform_85 : decode cX4_perform 85 = .ok (.getfield 10, 3) := by decide +kernel
theorem dX4_perform_88 : decode cX4_perform 88 = .ok (.aload_n 1, 1) := by decide +kernel
theorem dX4_perform_89 : decode cX4_perform 89 = .ok (.iconst 0, 1) := by decide +kernel
theorem dX4_perform_90 : decode cX4_perform 90 = .ok (.iaload, 1) := by decide +kernel
theorem dX4_perform_91 : decode cX4_perform 91 = .ok (.aload_n 1, 1) := by decide +kernel
theorem dX4_perform_92 : decode cX4_perform 92 = .ok (.iconst 1, 1) := by decide +kernel
theorem dX4_perform_93 : decode cX4_perform 93 = .ok (.iaload, 1) := by decide +kernel
theorem dX4_perform_94 : decode cX4_perform 94 = .ok (.aload_n 1, 1) := by decide +kernel
theorem dX4_perform_95 : decode cX4_perform 95 = .ok (.iconst 2, 1) := by decide +kernel
theorem dX4_perform_96 : decode cX4_perform 96 = .ok (.iaload, 1) := by decide +kernel
theorem dX4_perform_97 : decode cX4_perform 97 = .ok (.aload_n 1, 1) := by decide +kernel
theorem dX4_perform_98 : decode cX4_perform 98 = .ok (.iconst 3, 1) := by decide +kernel
theorem dX4_perform_99 : decode cX4_perform 99 = .ok (.iaload, 1) := by decide +kernel
theorem dX4_perform_100 : decode cX4_perform 100 = .ok (.invokevirtual 46, 3) := by decide +kernel
theorem dX4_perform_103 : decode cX4_perform 103 = .ok (.ireturn, 1) := by decide +kernel
theorem dX4_perform_104 : decode cX4_perform 104 = .ok (.aload_n 0, 1) := by decide +kernel
theorem dX4_perform_105 : decode cX4_perform 105 = .ok (.getfield 10, 3) := by decide +kernel
theorem dX4_perform_108 : decode cX4_perform 108 = .ok (.iconst 0, 1) := by decide +kernel
theorem dX4_perform_109 : decode cX4_perform 109 = .ok (.aload_n 1, 1) := by decide +kernel
theorem dX4_perform_110 : decode cX4_perform 110 = .ok (.iconst 0, 1) := by decide +kernel
theorem dX4_perform_111 : decode cX4_perform 111 = .ok (.iaload, 1) := by decide +kernel
theorem dX4_perform_112 : decode cX4_perform 112 = .ok (.aload_n 1, 1) := by decide +kernel
theorem dX4_perform_113 : decode cX4_perform 113 = .ok (.iconst 1, 1) := by decide +kernel
theorem dX4_perform_114 : decode cX4_perform 114 = .ok (.iaload, 1) := by decide +kernel
theorem dX4_perform_115 : decode cX4_perform 115 = .ok (.invokevirtual 52, 3) := by decide +kernel
theorem dX4_perform_118 : decode cX4_perform 118 = .ok (.ireturn, 1) := by decide +kernel
theorem dX4_perform_119 : decode cX4_perform 119 = .ok (.aload_n 0, 1) := by decide +kernel
theorem dX4_perform_120 : decode cX4_perform 120 = .ok (.getfield 10, 3) := by decide +kernel
theorem dX4_perform_123 : decode cX4_perform 123 = .ok (.aload_n 1, 1) := by decide +kernel
theorem dX4_perform_124 : decode cX4_perform 124 = .ok (.iconst 0, 1) := by decide +kernel
theorem dX4_perform_125 : decode cX4_perform 125 = .ok (.iaload, 1) := by decide +kernel
theorem dX4_perform_126 : decode cX4_perform 126 = .ok (.invokevirtual 60, 3) := by decide +kernel
theorem dX4_perform_129 : decode cX4_perform 129 = .ok (.ireturn, 1) := by decide +kernel
theorem dX4_perform_130 : decode cX4_perform 130 = .ok (.aload_n 0, 1) := by decide +kernel
theorem dX4_perform_131 : decode cX4_perform 131 = .ok (.getfield 10, 3) := by decide +kernel
theorem dX4_perform_134 : decode cX4_perform 134 = .ok (.aload_n 0, 1) := by decide +kernel
theorem dX4_perform_135 : decode cX4_perform 135 = .ok (.getfield 10, 3) := by decide +kernel
theorem dX4_perform_138 : decode cX4_perform 138 = .ok (.iconst 0, 1) := by decide +kernel
theorem dX4_perform_139 : decode cX4_perform 139 = .ok (.invokevirtual 70, 3) := by decide +kernel
theorem dX4_perform_142 : decode cX4_perform 142 = .ok (.invokevirtual 73, 3) := by decide +kernel
theorem dX4_perform_145 : decode cX4_perform 145 = .ok (.ireturn, 1) := by decide +kernel
theorem dX4_perform_146 : decode cX4_perform 146 = .ok (.aload_n 0, 1) := by decide +kernel
theorem dX4_perform_147 : decode cX4_perform 147 = .ok (.getfield 10, 3) := by decide +kernel
theorem dX4_perform_150 : decode cX4_perform 150 = .ok (.aload_n 1, 1) := by decide +kernel
theorem dX4_perform_151 : decode cX4_perform 151 = .ok (.iconst 0, 1) := by decide +kernel
theorem dX4_perform_152 : decode cX4_perform 152 = .ok (.iaload, 1) := by decide +kernel
theorem dX4_perform_153 : decode cX4_perform 153 = .ok (.aload_n 1, 1) := by decide +kernel
theorem dX4_perform_154 : decode cX4_perform 154 = .ok (.iconst 1, 1) := by decide +kernel
theorem dX4_perform_155 : decode cX4_perform 155 = .ok (.iaload, 1) := by decide +kernel
theorem dX4_perform_156 : decode cX4_perform 156 = .ok (.invokevirtual 56, 3) := by decide +kernel
theorem dX4_perform_159 : decode cX4_perform 159 = .ok (.ireturn, 1) := by decide +kernel
theorem dX4_tally_0 : decode cX4_tally 0 = .ok (.iload_n 1, 1) := by decide +kernel
theorem dX4_tally_1 : decode cX4_tally 1 = .ok (.tableswitch 54 0 3 #[31, 36, 41, 46], 31) := by decide +kernel
theorem dX4_tally_32 : decode cX4_tally 32 = .ok (.aload_n 0, 1) := by decide +kernel
theorem dX4_tally_33 : decode cX4_tally 33 = .ok (.getfield 192, 3) := by decide +kernel
theorem dX4_tally_36 : decode cX4_tally 36 = .ok (.ireturn, 1) := by decide +kernel
theorem dX4_tally_37 : decode cX4_tally 37 = .ok (.aload_n 0, 1) := by decide +kernel
theorem dX4_tally_38 : decode cX4_tally 38 = .ok (.getfield 195, 3) := by decide +kernel
theorem dX4_tally_41 : decode cX4_tally 41 = .ok (.ireturn, 1) := by decide +kernel
theorem dX4_tally_42 : decode cX4_tally 42 = .ok (.aload_n 0, 1) := by decide +kernel
theorem dX4_tally_43 : decode cX4_tally 43 = .ok (.getfield 198, 3) := by decide +kernel
theorem dX4_tally_46 : decode cX4_tally 46 = .ok (.ireturn, 1) := by decide +kernel
theorem dX4_tally_47 : decode cX4_tally 47 = .ok (.aload_n 0, 1) := by decide +kernel
theorem dX4_tally_48 : decode cX4_tally 48 = .ok (.getfield 26, 3) := by decide +kernel
theorem dX4_tally_51 : decode cX4_tally 51 = .ok (.getfield 201, 3) := by decide +kernel
theorem dX4_tally_54 : decode cX4_tally 54 = .ok (.ireturn, 1) := by decide +kernel
theorem dX4_tally_55 : decode cX4_tally 55 = .ok (.aload_n 0, 1) := by decide +kernel
theorem dX4_tally_56 : decode cX4_tally 56 = .ok (.getfield 19, 3) := by decide +kernel
theorem dX4_tally_59 : decode cX4_tally 59 = .ok (.getfield 162, 3) := by decide +kernel
theorem dX4_tally_62 : decode cX4_tally 62 = .ok (.ireturn, 1) := by decide +kernel
set_option maxRecDepth 20000 in
theorem ggX4_changed_X4_isRefusal : GoodIn wsX4_changed wsX4_isRefusal := goodIn_r _ [5] (by decide +kernel) (by decide +kernel)
set_option maxRecDepth 20000 in
theorem gX4_changed_X4_isRefusal : GoodIn wsX4_changed (va_wsS RX4 153 yX4_isRefusal wsX4_isRefusal) := goodIn_app (goodIn_of _ (by decide +kernel)) ggX4_changed_X4_isRefusal
set_option maxRecDepth 20000 in
theorem ggX4_changed_X2_keep : GoodIn wsX4_changed wsX2_keep := goodIn_r _ [10, 11, 12, 13, 14, 15, 16, 30, 31] (by decide +kernel) (by decide +kernel)
set_option maxRecDepth 20000 in
theorem gX4_changed_X2_keep : GoodIn wsX4_changed (wsV RX4 159 RX2 yX2_keep wsX2_keep) := goodIn_app (goodIn_of _ (by decide +kernel)) ggX4_changed_X2_keep
set_option maxRecDepth 20000 in
theorem ggX4_changed_X4_answered : GoodIn wsX4_changed wsX4_answered := goodIn_r _ [20, 21, 22, 23, 24, 25, 26, 27, 28, 29] (by decide +kernel) (by decide +kernel)
set_option maxRecDepth 20000 in
theorem gX4_changed_X4_answered : GoodIn wsX4_changed (wsV RX4 80 RX4 yX4_answered wsX4_answered) := goodIn_app (goodIn_of _ (by decide +kernel)) ggX4_changed_X4_answered
theorem dX4_changed_0 : decode cX4_changed 0 = .ok (.iload_n 1, 1) := by decide +kernel
theorem dX4_changed_1 : decode cX4_changed 1 = .ok (.invokestatic 153, 3) := by decide +kernel
theorem dX4_changed_4 : decode cX4_changed 4 = .ok (.ifCond .ne 10, 3) := by decide +kernel
theorem dX4_changed_7 : decode cX4_changed 7 = .ok (.aload_n 0, 1) := by decide +kernel
theorem dX4_changed_8 : decode cX4_changed 8 = .ok (.getfield 19, 3) := by decide +kernel
theorem dX4_changed_11 : decode cX4_changed 11 = .ok (.invokevirtual 159, 3) := by decide +kernel
theorem dX4_changed_14 : decode cX4_changed 14 = .ok (.aload_n 0, 1) := by decide +kernel
theorem dX4_changed_15 : decode cX4_changed 15 = .ok (.iload_n 1, 1) := by decide +kernel
theorem dX4_changed_16 : decode cX4_changed 16 = .ok (.invokevirtual 80, 3) := by decide +kernel
theorem dX4_changed_19 : decode cX4_changed 19 = .ok (.ireturn, 1) := by decide +kernel
theorem dX4_answered_0 : decode cX4_answered 0 = .ok (.iload_n 1, 1) := by decide +kernel
theorem dX4_answered_1 : decode cX4_answered 1 = .ok (.sipush (-10002), 3) := by decide +kernel
theorem dX4_answered_4 : decode cX4_answered 4 = .ok (.if_icmp .ne 13, 3) := by decide +kernel
theorem dX4_answered_7 : decode cX4_answered 7 = .ok (.aload_n 0, 1) := by decide +kernel
theorem dX4_answered_8 : decode cX4_answered 8 = .ok (.dup, 1) := by decide +kernel
theorem dX4_answered_9 : decode cX4_answered 9 = .ok (.getfield 192, 3) := by decide +kernel
theorem dX4_answered_12 : decode cX4_answered 12 = .ok (.iconst 1, 1) := by decide +kernel
theorem dX4_answered_13 : decode cX4_answered 13 = .ok (.iadd, 1) := by decide +kernel
theorem dX4_answered_14 : decode cX4_answered 14 = .ok (.putfield 192, 3) := by decide +kernel
theorem dX4_answered_17 : decode cX4_answered 17 = .ok (.iload_n 1, 1) := by decide +kernel
theorem dX4_answered_18 : decode cX4_answered 18 = .ok (.sipush (-10003), 3) := by decide +kernel
theorem dX4_answered_21 : decode cX4_answered 21 = .ok (.if_icmp .ne 13, 3) := by decide +kernel
theorem dX4_answered_24 : decode cX4_answered 24 = .ok (.aload_n 0, 1) := by decide +kernel
theorem dX4_answered_25 : decode cX4_answered 25 = .ok (.dup, 1) := by decide +kernel
theorem dX4_answered_26 : decode cX4_answered 26 = .ok (.getfield 195, 3) := by decide +kernel
theorem dX4_answered_29 : decode cX4_answered 29 = .ok (.iconst 1, 1) := by decide +kernel
theorem dX4_answered_30 : decode cX4_answered 30 = .ok (.iadd, 1) := by decide +kernel
theorem dX4_answered_31 : decode cX4_answered 31 = .ok (.putfield 195, 3) := by decide +kernel
theorem dX4_answered_34 : decode cX4_answered 34 = .ok (.iload_n 1, 1) := by decide +kernel
theorem dX4_answered_35 : decode cX4_answered 35 = .ok (.sipush (-10004), 3) := by decide +kernel
theorem dX4_answered_38 : decode cX4_answered 38 = .ok (.if_icmp .ne 13, 3) := by decide +kernel
theorem dX4_answered_41 : decode cX4_answered 41 = .ok (.aload_n 0, 1) := by decide +kernel
theorem dX4_answered_42 : decode cX4_answered 42 = .ok (.dup, 1) := by decide +kernel
theorem dX4_answered_43 : decode cX4_answered 43 = .ok (.getfield 198, 3) := by decide +kernel
theorem dX4_answered_46 : decode cX4_answered 46 = .ok (.iconst 1, 1) := by decide +kernel
theorem dX4_answered_47 : decode cX4_answered 47 = .ok (.iadd, 1) := by decide +kernel
theorem dX4_answered_48 : decode cX4_answered 48 = .ok (.putfield 198, 3) := by decide +kernel
theorem dX4_answered_51 : decode cX4_answered 51 = .ok (.iload_n 1, 1) := by decide +kernel
theorem dX4_answered_52 : decode cX4_answered 52 = .ok (.ireturn, 1) := by decide +kernel
theorem dX4_isRefusal_0 : decode cX4_isRefusal 0 = .ok (.iload_n 0, 1) := by decide +kernel
theorem dX4_isRefusal_1 : decode cX4_isRefusal 1 = .ok (.sipush (-10002), 3) := by decide +kernel
theorem dX4_isRefusal_4 : decode cX4_isRefusal 4 = .ok (.if_icmp .eq 17, 3) := by decide +kernel
theorem dX4_isRefusal_7 : decode cX4_isRefusal 7 = .ok (.iload_n 0, 1) := by decide +kernel
theorem dX4_isRefusal_8 : decode cX4_isRefusal 8 = .ok (.sipush (-10003), 3) := by decide +kernel
theorem dX4_isRefusal_11 : decode cX4_isRefusal 11 = .ok (.if_icmp .eq 10, 3) := by decide +kernel
theorem dX4_isRefusal_14 : decode cX4_isRefusal 14 = .ok (.iload_n 0, 1) := by decide +kernel
theorem dX4_isRefusal_15 : decode cX4_isRefusal 15 = .ok (.sipush (-10004), 3) := by decide +kernel
theorem dX4_isRefusal_18 : decode cX4_isRefusal 18 = .ok (.if_icmp .ne 7, 3) := by decide +kernel
theorem dX4_isRefusal_21 : decode cX4_isRefusal 21 = .ok (.iconst 1, 1) := by decide +kernel
theorem dX4_isRefusal_22 : decode cX4_isRefusal 22 = .ok (.goto 4, 3) := by decide +kernel
theorem dX4_isRefusal_25 : decode cX4_isRefusal 25 = .ok (.iconst 0, 1) := by decide +kernel
theorem dX4_isRefusal_26 : decode cX4_isRefusal 26 = .ok (.ireturn, 1) := by decide +kernel
theorem dX4_isCourse_0 : decode cX4_isCourse 0 = .ok (.iload_n 0, 1) := by decide +kernel
theorem dX4_isCourse_1 : decode cX4_isCourse 1 = .ok (.ifCond .lt 23, 3) := by decide +kernel
theorem dX4_isCourse_4 : decode cX4_isCourse 4 = .ok (.iload_n 0, 1) := by decide +kernel
theorem dX4_isCourse_5 : decode cX4_isCourse 5 = .ok (.bipush 16, 2) := by decide +kernel
theorem dX4_isCourse_7 : decode cX4_isCourse 7 = .ok (.if_icmp .ge 17, 3) := by decide +kernel
theorem dX4_isCourse_10 : decode cX4_isCourse 10 = .ok (.iload_n 1, 1) := by decide +kernel
theorem dX4_isCourse_11 : decode cX4_isCourse 11 = .ok (.ifCond .lt 13, 3) := by decide +kernel
theorem dX4_isCourse_14 : decode cX4_isCourse 14 = .ok (.iload_n 1, 1) := by decide +kernel
theorem dX4_isCourse_15 : decode cX4_isCourse 15 = .ok (.bipush 9, 2) := by decide +kernel
theorem dX4_isCourse_17 : decode cX4_isCourse 17 = .ok (.if_icmp .gt 7, 3) := by decide +kernel
theorem dX4_isCourse_20 : decode cX4_isCourse 20 = .ok (.iconst 1, 1) := by decide +kernel
theorem dX4_isCourse_21 : decode cX4_isCourse 21 = .ok (.goto 4, 3) := by decide +kernel
theorem dX4_isCourse_24 : decode cX4_isCourse 24 = .ok (.iconst 0, 1) := by decide +kernel
theorem dX4_isCourse_25 : decode cX4_isCourse 25 = .ok (.ireturn, 1) := by decide +kernel
theorem dX5_init_0 : decode cX5_init 0 = .ok (.aload_n 0, 1) := by decide +kernel
theorem dX5_init_1 : decode cX5_init 1 = .ok (.invokespecial 1, 3) := by decide +kernel
theorem dX5_init_4 : decode cX5_init 4 = .ok (.aload_n 0, 1) := by decide +kernel
theorem dX5_init_5 : decode cX5_init 5 = .ok (.bipush 39, 2) := by decide +kernel
theorem dX5_init_7 : decode cX5_init 7 = .ok (.newarray .int, 2) := by decide +kernel
theorem dX5_init_9 : decode cX5_init 9 = .ok (.putfield 7, 3) := by decide +kernel
theorem dX5_init_12 : decode cX5_init 12 = .ok (.aload_n 0, 1) := by decide +kernel
theorem dX5_init_13 : decode cX5_init 13 = .ok (.bipush 39, 2) := by decide +kernel
theorem dX5_init_15 : decode cX5_init 15 = .ok (.newarray .int, 2) := by decide +kernel
theorem dX5_init_17 : decode cX5_init 17 = .ok (.putfield 13, 3) := by decide +kernel
theorem dX5_init_20 : decode cX5_init 20 = .ok (.aload_n 0, 1) := by decide +kernel
theorem dX5_init_21 : decode cX5_init 21 = .ok (.sipush 195, 3) := by decide +kernel
theorem dX5_init_24 : decode cX5_init 24 = .ok (.newarray .int, 2) := by decide +kernel
theorem dX5_init_26 : decode cX5_init 26 = .ok (.putfield 16, 3) := by decide +kernel
theorem dX5_init_29 : decode cX5_init 29 = .ok (.aload_n 0, 1) := by decide +kernel
theorem dX5_init_30 : decode cX5_init 30 = .ok (.iconst 3, 1) := by decide +kernel
theorem dX5_init_31 : decode cX5_init 31 = .ok (.newarray .int, 2) := by decide +kernel
theorem dX5_init_33 : decode cX5_init 33 = .ok (.putfield 19, 3) := by decide +kernel
theorem dX5_init_36 : decode cX5_init 36 = .ok (.aload_n 0, 1) := by decide +kernel
theorem dX5_init_37 : decode cX5_init 37 = .ok (.sipush 150, 3) := by decide +kernel
theorem dX5_init_40 : decode cX5_init 40 = .ok (.newarray .int, 2) := by decide +kernel
theorem dX5_init_42 : decode cX5_init 42 = .ok (.putfield 22, 3) := by decide +kernel
theorem dX5_init_45 : decode cX5_init 45 = .ok (.aload_n 0, 1) := by decide +kernel
theorem dX5_init_46 : decode cX5_init 46 = .ok (.bipush 75, 2) := by decide +kernel
theorem dX5_init_48 : decode cX5_init 48 = .ok (.newarray .int, 2) := by decide +kernel
theorem dX5_init_50 : decode cX5_init 50 = .ok (.putfield 25, 3) := by decide +kernel
theorem dX5_init_53 : decode cX5_init 53 = .ok (.aload_n 0, 1) := by decide +kernel
theorem dX5_init_54 : decode cX5_init 54 = .ok (.sipush 300, 3) := by decide +kernel
theorem dX5_init_57 : decode cX5_init 57 = .ok (.newarray .int, 2) := by decide +kernel
theorem dX5_init_59 : decode cX5_init 59 = .ok (.putfield 28, 3) := by decide +kernel
theorem dX5_init_62 : decode cX5_init 62 = .ok (.aload_n 0, 1) := by decide +kernel
theorem dX5_init_63 : decode cX5_init 63 = .ok (.getfield 7, 3) := by decide +kernel
theorem dX5_init_66 : decode cX5_init 66 = .ok (.iconst 0, 1) := by decide +kernel
theorem dX5_init_67 : decode cX5_init 67 = .ok (.iconst 1, 1) := by decide +kernel
theorem dX5_init_68 : decode cX5_init 68 = .ok (.iastore, 1) := by decide +kernel
theorem dX5_init_69 : decode cX5_init 69 = .ok (.aload_n 0, 1) := by decide +kernel
theorem dX5_init_70 : decode cX5_init 70 = .ok (.getfield 7, 3) := by decide +kernel
theorem dX5_init_73 : decode cX5_init 73 = .ok (.iconst 1, 1) := by decide +kernel
theorem dX5_init_74 : decode cX5_init 74 = .ok (.bipush 50, 2) := by decide +kernel
theorem dX5_init_76 : decode cX5_init 76 = .ok (.iastore, 1) := by decide +kernel
theorem dX5_init_77 : decode cX5_init 77 = .ok (.aload_n 0, 1) := by decide +kernel
theorem dX5_init_78 : decode cX5_init 78 = .ok (.getfield 7, 3) := by decide +kernel
theorem dX5_init_81 : decode cX5_init 81 = .ok (.iconst 2, 1) := by decide +kernel
theorem dX5_init_82 : decode cX5_init 82 = .ok (.bipush 12, 2) := by decide +kernel
theorem dX5_init_84 : decode cX5_init 84 = .ok (.iastore, 1) := by decide +kernel
theorem dX5_init_85 : decode cX5_init 85 = .ok (.return_, 1) := by decide +kernel
theorem dX5_in_0 : decode cX5_in 0 = .ok (.iload_n 0, 1) := by decide +kernel
theorem dX5_in_1 : decode cX5_in 1 = .ok (.iload_n 1, 1) := by decide +kernel
theorem dX5_in_2 : decode cX5_in 2 = .ok (.if_icmp .lt 12, 3) := by decide +kernel
theorem dX5_in_5 : decode cX5_in 5 = .ok (.iload_n 0, 1) := by decide +kernel
theorem dX5_in_6 : decode cX5_in 6 = .ok (.iload_n 2, 1) := by decide +kernel
theorem dX5_in_7 : decode cX5_in 7 = .ok (.if_icmp .gt 7, 3) := by decide +kernel
theorem dX5_in_10 : decode cX5_in 10 = .ok (.iconst 1, 1) := by decide +kernel
theorem dX5_in_11 : decode cX5_in 11 = .ok (.goto 4, 3) := by decide +kernel
theorem dX5_in_14 : decode cX5_in 14 = .ok (.iconst 0, 1) := by decide +kernel
theorem dX5_in_15 : decode cX5_in 15 = .ok (.ireturn, 1) := by decide +kernel
theorem dX5_refuses_0 : decode cX5_refuses 0 = .ok (.aload_n 0, 1) := by decide +kernel
theorem dX5_refuses_1 : decode cX5_refuses 1 = .ok (.getfield 19, 3) := by decide +kernel
theorem dX5_refuses_4 : decode cX5_refuses 4 = .ok (.sipush (-10002), 3) := by decide +kernel
theorem dX5_refuses_7 : decode cX5_refuses 7 = .ok (.iload_n 1, 1) := by decide +kernel
theorem dX5_refuses_8 : decode cX5_refuses 8 = .ok (.isub, 1) := by decide +kernel
theorem dX5_refuses_9 : decode cX5_refuses 9 = .ok (.dup2, 1) := by decide +kernel
theorem dX5_refuses_10 : decode cX5_refuses 10 = .ok (.iaload, 1) := by decide +kernel
theorem dX5_refuses_11 : decode cX5_refuses 11 = .ok (.iconst 1, 1) := by decide +kernel
theorem dX5_refuses_12 : decode cX5_refuses 12 = .ok (.iadd, 1) := by decide +kernel
theorem dX5_refuses_13 : decode cX5_refuses 13 = .ok (.iastore, 1) := by decide +kernel
theorem dX5_refuses_14 : decode cX5_refuses 14 = .ok (.iload_n 1, 1) := by decide +kernel
theorem dX5_refuses_15 : decode cX5_refuses 15 = .ok (.ireturn, 1) := by decide +kernel
theorem dX5_laysAside_0 : decode cX5_laysAside 0 = .ok (.iconst 0, 1) := by decide +kernel
theorem dX5_laysAside_1 : decode cX5_laysAside 1 = .ok (.istore_n 1, 1) := by decide +kernel
theorem dX5_laysAside_2 : decode cX5_laysAside 2 = .ok (.iload_n 1, 1) := by decide +kernel
theorem dX5_laysAside_3 : decode cX5_laysAside 3 = .ok (.bipush 39, 2) := by decide +kernel
theorem dX5_laysAside_5 : decode cX5_laysAside 5 = .ok (.if_icmp .ge 21, 3) := by decide +kernel
theorem dX5_laysAside_8 : decode cX5_laysAside 8 = .ok (.aload_n 0, 1) := by decide +kernel
theorem dX5_laysAside_9 : decode cX5_laysAside 9 = .ok (.getfield 13, 3) := by decide +kernel
theorem dX5_laysAside_12 : decode cX5_laysAside 12 = .ok (.iload_n 1, 1) := by decide +kernel
theorem dX5_laysAside_13 : decode cX5_laysAside 13 = .ok (.aload_n 0, 1) := by decide +kernel
theorem dX5_laysAside_14 : decode cX5_laysAside 14 = .ok (.getfield 7, 3) := by decide +kernel
theorem dX5_laysAside_17 : decode cX5_laysAside 17 = .ok (.iload_n 1, 1) := by decide +kernel
theorem dX5_laysAside_18 : decode cX5_laysAside 18 = .ok (.iaload, 1) := by decide +kernel
theorem dX5_laysAside_19 : decode cX5_laysAside 19 = .ok (.iastore, 1) := by decide +kernel
theorem dX5_laysAside_20 : decode cX5_laysAside 20 = .ok (.iinc 1 1, 3) := by decide +kernel
theorem dX5_laysAside_23 : decode cX5_laysAside 23 = .ok (.goto (-21), 3) := by decide +kernel
theorem dX5_laysAside_26 : decode cX5_laysAside 26 = .ok (.return_, 1) := by decide +kernel
theorem dX5_remembers_0 : decode cX5_remembers 0 = .ok (.aload_n 0, 1) := by decide +kernel
theorem dX5_remembers_1 : decode cX5_remembers 1 = .ok (.getfield 31, 3) := by decide +kernel
theorem dX5_remembers_4 : decode cX5_remembers 4 = .ok (.iconst 5, 1) := by decide +kernel
theorem dX5_remembers_5 : decode cX5_remembers 5 = .ok (.if_icmp .ne 43, 3) := by decide +kernel
theorem dX5_remembers_8 : decode cX5_remembers 8 = .ok (.iconst 0, 1) := by decide +kernel
theorem dX5_remembers_9 : decode cX5_remembers 9 = .ok (.istore_n 1, 1) := by decide +kernel
theorem dX5_remembers_10 : decode cX5_remembers 10 = .ok (.iload_n 1, 1) := by decide +kernel
theorem dX5_remembers_11 : decode cX5_remembers 11 = .ok (.sipush 156, 3) := by decide +kernel
theorem dX5_remembers_14 : decode cX5_remembers 14 = .ok (.if_icmp .ge 24, 3) := by decide +kernel
theorem dX5_remembers_17 : decode cX5_remembers 17 = .ok (.aload_n 0, 1) := by decide +kernel
theorem dX5_remembers_18 : decode cX5_remembers 18 = .ok (.getfield 16, 3) := by decide +kernel
theorem dX5_remembers_21 : decode cX5_remembers 21 = .ok (.iload_n 1, 1) := by decide +kernel
theorem dX5_remembers_22 : decode cX5_remembers 22 = .ok (.aload_n 0, 1) := by decide +kernel
theorem dX5_remembers_23 : decode cX5_remembers 23 = .ok (.getfield 16, 3) := by decide +kernel
theorem dX5_remembers_26 : decode cX5_remembers 26 = .ok (.iload_n 1, 1) := by decide +kernel
theorem dX5_remembers_27 : decode cX5_remembers 27 = .ok (.bipush 39, 2) := by decide +kernel
theorem dX5_remembers_29 : decode cX5_remembers 29 = .ok (.iadd, 1) := by decide +kernel
theorem dX5_remembers_30 : decode cX5_remembers 30 = .ok (.iaload, 1) := by decide +kernel
theorem dX5_remembers_31 : decode cX5_remembers 31 = .ok (.iastore, 1) := by decide +kernel
theorem dX5_remembers_32 : decode cX5_remembers 32 = .ok (.iinc 1 1, 3) := by decide +kernel
theorem dX5_remembers_35 : decode cX5_remembers 35 = .ok (.goto (-25), 3) := by decide +kernel
theorem dX5_remembers_38 : decode cX5_remembers 38 = .ok (.aload_n 0, 1) := by decide +kernel
theorem dX5_remembers_39 : decode cX5_remembers 39 = .ok (.dup, 1) := by decide +kernel
theorem dX5_remembers_40 : decode cX5_remembers 40 = .ok (.getfield 31, 3) := by decide +kernel
theorem dX5_remembers_43 : decode cX5_remembers 43 = .ok (.iconst 1, 1) := by decide +kernel
theorem dX5_remembers_44 : decode cX5_remembers 44 = .ok (.isub, 1) := by decide +kernel
theorem dX5_remembers_45 : decode cX5_remembers 45 = .ok (.putfield 31, 3) := by decide +kernel
theorem dX5_remembers_48 : decode cX5_remembers 48 = .ok (.iconst 0, 1) := by decide +kernel
theorem dX5_remembers_49 : decode cX5_remembers 49 = .ok (.istore_n 1, 1) := by decide +kernel
theorem dX5_remembers_50 : decode cX5_remembers 50 = .ok (.iload_n 1, 1) := by decide +kernel
theorem dX5_remembers_51 : decode cX5_remembers 51 = .ok (.bipush 39, 2) := by decide +kernel
theorem dX5_remembers_53 : decode cX5_remembers 53 = .ok (.if_icmp .ge 29, 3) := by decide +kernel
theorem dX5_remembers_56 : decode cX5_remembers 56 = .ok (.aload_n 0, 1) := by decide +kernel
theorem dX5_remembers_57 : decode cX5_remembers 57 = .ok (.getfield 16, 3) := by decide +kernel
theorem dX5_remembers_60 : decode cX5_remembers 60 = .ok (.bipush 39, 2) := by decide +kernel
theorem dX5_remembers_62 : decode cX5_remembers 62 = .ok (.aload_n 0, 1) := by decide +kernel
theorem dX5_remembers_63 : decode cX5_remembers 63 = .ok (.getfield 31, 3) := by decide +kernel
theorem dX5_remembers_66 : decode cX5_remembers 66 = .ok (.imul, 1) := by decide +kernel
theorem dX5_remembers_67 : decode cX5_remembers 67 = .ok (.iload_n 1, 1) := by decide +kernel
theorem dX5_remembers_68 : decode cX5_remembers 68 = .ok (.iadd, 1) := by decide +kernel
theorem dX5_remembers_69 : decode cX5_remembers 69 = .ok (.aload_n 0, 1) := by decide +kernel
theorem dX5_remembers_70 : decode cX5_remembers 70 = .ok (.getfield 13, 3) := by decide +kernel
theorem dX5_remembers_73 : decode cX5_remembers 73 = .ok (.iload_n 1, 1) := by decide +kernel
theorem dX5_remembers_74 : decode cX5_remembers 74 = .ok (.iaload, 1) := by decide +kernel
theorem dX5_remembers_75 : decode cX5_remembers 75 = .ok (.iastore, 1) := by decide +kernel
theorem dX5_remembers_76 : decode cX5_remembers 76 = .ok (.iinc 1 1, 3) := by decide +kernel
theorem dX5_remembers_79 : decode cX5_remembers 79 = .ok (.goto (-29), 3) := by decide +kernel
theorem dX5_remembers_82 : decode cX5_remembers 82 = .ok (.aload_n 0, 1) := by decide +kernel
theorem dX5_remembers_83 : decode cX5_remembers 83 = .ok (.dup, 1) := by decide +kernel
theorem dX5_remembers_84 : decode cX5_remembers 84 = .ok (.getfield 31, 3) := by decide +kernel
theorem dX5_remembers_87 : decode cX5_remembers 87 = .ok (.iconst 1, 1) := by decide +kernel
theorem dX5_remembers_88 : decode cX5_remembers 88 = .ok (.iadd, 1) := by decide +kernel
theorem dX5_remembers_89 : decode cX5_remembers 89 = .ok (.putfield 31, 3) := by decide +kernel
theorem dX5_remembers_92 : decode cX5_remembers 92 = .ok (.return_, 1) := by decide +kernel
set_option maxRecDepth 20000 in
theorem ggX5_back_X5_refuses : GoodIn wsX5_back wsX5_refuses := goodIn_r _ [8, 9, 10, 11, 12, 13, 14, 15, 16, 17, 18, 19, 20, 21, 22, 23, 24, 25, 26, 27, 28, 29, 30] (by decide +kernel) (by decide +kernel)
set_option maxRecDepth 20000 in
theorem gX5_back_X5_refuses : GoodIn wsX5_back (wsV RX5 35 RX5 yX5_refuses wsX5_refuses) := goodIn_app (goodIn_of _ (by decide +kernel)) ggX5_back_X5_refuses
theorem dX5_back_0 : decode cX5_back 0 = .ok (.aload_n 0, 1) := by decide +kernel
theorem dX5_back_1 : decode cX5_back 1 = .ok (.getfield 31, 3) := by decide +kernel
theorem dX5_back_4 : decode cX5_back 4 = .ok (.ifCond .ne 11, 3) := by decide +kernel
theorem dX5_back_7 : decode cX5_back 7 = .ok (.aload_n 0, 1) := by decide +kernel
theorem dX5_back_8 : decode cX5_back 8 = .ok (.sipush (-10003), 3) := by decide +kernel
theorem dX5_back_11 : decode cX5_back 11 = .ok (.invokevirtual 35, 3) := by decide +kernel
theorem dX5_back_14 : decode cX5_back 14 = .ok (.ireturn, 1) := by decide +kernel
theorem dX5_back_15 : decode cX5_back 15 = .ok (.aload_n 0, 1) := by decide +kernel
theorem dX5_back_16 : decode cX5_back 16 = .ok (.dup, 1) := by decide +kernel
theorem dX5_back_17 : decode cX5_back 17 = .ok (.getfield 31, 3) := by decide +kernel
theorem dX5_back_20 : decode cX5_back 20 = .ok (.iconst 1, 1) := by decide +kernel
theorem dX5_back_21 : decode cX5_back 21 = .ok (.isub, 1) := by decide +kernel
theorem dX5_back_22 : decode cX5_back 22 = .ok (.putfield 31, 3) := by decide +kernel
theorem dX5_back_25 : decode cX5_back 25 = .ok (.iconst 0, 1) := by decide +kernel
theorem dX5_back_26 : decode cX5_back 26 = .ok (.istore_n 1, 1) := by decide +kernel
theorem dX5_back_27 : decode cX5_back 27 = .ok (.iload_n 1, 1) := by decide +kernel
theorem dX5_back_28 : decode cX5_back 28 = .ok (.bipush 39, 2) := by decide +kernel
theorem dX5_back_30 : decode cX5_back 30 = .ok (.if_icmp .ge 29, 3) := by decide +kernel
theorem dX5_back_33 : decode cX5_back 33 = .ok (.aload_n 0, 1) := by decide +kernel
theorem dX5_back_34 : decode cX5_back 34 = .ok (.getfield 7, 3) := by decide +kernel
theorem dX5_back_37 : decode cX5_back 37 = .ok (.iload_n 1, 1) := by decide +kernel
theorem dX5_back_38 : decode cX5_back 38 = .ok (.aload_n 0, 1) := by decide +kernel
theorem dX5_back_39 : decode cX5_back 39 = .ok (.getfield 16, 3) := by decide +kernel
theorem dX5_back_42 : decode cX5_back 42 = .ok (.bipush 39, 2) := by decide +kernel
theorem dX5_back_44 : decode cX5_back 44 = .ok (.aload_n 0, 1) := by decide +kernel
theorem dX5_back_45 : decode cX5_back 45 = .ok (.getfield 31, 3) := by decide +kernel
theorem dX5_back_48 : decode cX5_back 48 = .ok (.imul, 1) := by decide +kernel
theorem dX5_back_49 : decode cX5_back 49 = .ok (.iload_n 1, 1) := by decide +kernel
theorem dX5_back_50 : decode cX5_back 50 = .ok (.iadd, 1) := by decide +kernel
theorem dX5_back_51 : decode cX5_back 51 = .ok (.iaload, 1) := by decide +kernel
theorem dX5_back_52 : decode cX5_back 52 = .ok (.iastore, 1) := by decide +kernel
theorem dX5_back_53 : decode cX5_back 53 = .ok (.iinc 1 1, 3) := by decide +kernel
theorem dX5_back_56 : decode cX5_back 56 = .ok (.goto (-29), 3) := by decide +kernel
theorem dX5_back_59 : decode cX5_back 59 = .ok (.aload_n 0, 1) := by decide +kernel
theorem dX5_back_60 : decode cX5_back 60 = .ok (.getfield 31, 3) := by decide +kernel
theorem dX5_back_63 : decode cX5_back 63 = .ok (.ireturn, 1) := by decide +kernel
set_option maxRecDepth 20000 in
theorem ggX5_finished_X5_refuses : GoodIn wsX5_finished wsX5_refuses := goodIn_r _ [5, 6, 14, 15, 16, 17, 18, 19, 20, 21, 22, 23, 24, 25, 26, 27, 28, 29, 30, 31, 32, 33, 34] (by decide +kernel) (by decide +kernel)
set_option maxRecDepth 20000 in
theorem gX5_finished_X5_refuses : GoodIn wsX5_finished (wsV RX5 35 RX5 yX5_refuses wsX5_refuses) := goodIn_app (goodIn_of _ (by decide +kernel)) ggX5_finished_X5_refuses
set_option maxRecDepth 20000 in
theorem ggX5_finished_X5_remembers : GoodIn wsX5_finished wsX5_remembers := goodIn_r _ [10, 11, 12, 13, 14, 15, 16, 17, 18, 19, 20, 21, 22, 23, 24, 25, 26, 27, 28, 29, 30, 31, 32, 33, 34] (by decide +kernel) (by decide +kernel)
set_option maxRecDepth 20000 in
theorem gX5_finished_X5_remembers : GoodIn wsX5_finished (wsV RX5 39 RX5 yX5_remembers wsX5_remembers) := goodIn_app (goodIn_of _ (by decide +kernel)) ggX5_finished_X5_remembers
theorem dX5_finished_0 : decode cX5_finished 0 = .ok (.iload_n 1, 1) := by decide +kernel
theorem dX5_finished_1 : decode cX5_finished 1 = .ok (.sipush (-10002), 3) := by decide +kernel
theorem dX5_finished_4 : decode cX5_finished 4 = .ok (.if_icmp .gt 9, 3) := by decide +kernel
theorem dX5_finished_7 : decode cX5_finished 7 = .ok (.aload_n 0, 1) := by decide +kernel
theorem dX5_finished_8 : decode cX5_finished 8 = .ok (.iload_n 1, 1) := by decide +kernel
theorem dX5_finished_9 : decode cX5_finished 9 = .ok (.invokevirtual 35, 3) := by decide +kernel
theorem dX5_finished_12 : decode cX5_finished 12 = .ok (.ireturn, 1) := by decide +kernel
theorem dX5_finished_13 : decode cX5_finished 13 = .ok (.aload_n 0, 1) := by decide +kernel
theorem dX5_finished_14 : decode cX5_finished 14 = .ok (.invokevirtual 39, 3) := by decide +kernel
theorem dX5_finished_17 : decode cX5_finished 17 = .ok (.iload_n 1, 1) := by decide +kernel
theorem dX5_finished_18 : decode cX5_finished 18 = .ok (.ireturn, 1) := by decide +kernel
theorem dX5_shipOf_0 : decode cX5_shipOf 0 = .ok (.aload_n 0, 1) := by decide +kernel
theorem dX5_shipOf_1 : decode cX5_shipOf 1 = .ok (.getfield 7, 3) := by decide +kernel
theorem dX5_shipOf_4 : decode cX5_shipOf 4 = .ok (.iconst 4, 1) := by decide +kernel
theorem dX5_shipOf_5 : decode cX5_shipOf 5 = .ok (.iconst 5, 1) := by decide +kernel
theorem dX5_shipOf_6 : decode cX5_shipOf 6 = .ok (.iload_n 1, 1) := by decide +kernel
theorem dX5_shipOf_7 : decode cX5_shipOf 7 = .ok (.imul, 1) := by decide +kernel
theorem dX5_shipOf_8 : decode cX5_shipOf 8 = .ok (.iadd, 1) := by decide +kernel
theorem dX5_shipOf_9 : decode cX5_shipOf 9 = .ok (.iload_n 2, 1) := by decide +kernel
theorem dX5_shipOf_10 : decode cX5_shipOf 10 = .ok (.iadd, 1) := by decide +kernel
theorem dX5_shipOf_11 : decode cX5_shipOf 11 = .ok (.iaload, 1) := by decide +kernel
theorem dX5_shipOf_12 : decode cX5_shipOf 12 = .ok (.ireturn, 1) := by decide +kernel
theorem dX5_tells_0 : decode cX5_tells 0 = .ok (.aload_n 0, 1) := by decide +kernel
theorem dX5_tells_1 : decode cX5_tells 1 = .ok (.getfield 7, 3) := by decide +kernel
theorem dX5_tells_4 : decode cX5_tells 4 = .ok (.iconst 4, 1) := by decide +kernel
theorem dX5_tells_5 : decode cX5_tells 5 = .ok (.iconst 5, 1) := by decide +kernel
theorem dX5_tells_6 : decode cX5_tells 6 = .ok (.iload_n 1, 1) := by decide +kernel
theorem dX5_tells_7 : decode cX5_tells 7 = .ok (.imul, 1) := by decide +kernel
theorem dX5_tells_8 : decode cX5_tells 8 = .ok (.iadd, 1) := by decide +kernel
theorem dX5_tells_9 : decode cX5_tells 9 = .ok (.iload_n 2, 1) := by decide +kernel
theorem dX5_tells_10 : decode cX5_tells 10 = .ok (.iadd, 1) := by decide +kernel
theorem dX5_tells_11 : decode cX5_tells 11 = .ok (.iload_n 3, 1) := by decide +kernel
theorem dX5_tells_12 : decode cX5_tells 12 = .ok (.iastore, 1) := by decide +kernel
theorem dX5_tells_13 : decode cX5_tells 13 = .ok (.return_, 1) := by decide +kernel
set_option maxRecDepth 20000 in
theorem ggX5_isShip_X5_in : GoodIn wsX5_isShip wsX5_in := goodIn_r _ [5] (by decide +kernel) (by decide +kernel)
set_option maxRecDepth 20000 in
theorem gX5_isShip_X5_in : GoodIn wsX5_isShip (va_wsS RX5 42 yX5_in wsX5_in) := goodIn_app (goodIn_of _ (by decide +kernel)) ggX5_isShip_X5_in
theorem dX5_isShip_0 : decode cX5_isShip 0 = .ok (.iload_n 1, 1) := by decide +kernel
theorem dX5_isShip_1 : decode cX5_isShip 1 = .ok (.iconst 0, 1) := by decide +kernel
theorem dX5_isShip_2 : decode cX5_isShip 2 = .ok (.aload_n 0, 1) := by decide +kernel
theorem dX5_isShip_3 : decode cX5_isShip 3 = .ok (.getfield 7, 3) := by decide +kernel
theorem dX5_isShip_6 : decode cX5_isShip 6 = .ok (.iconst 0, 1) := by decide +kernel
theorem dX5_isShip_7 : decode cX5_isShip 7 = .ok (.iaload, 1) := by decide +kernel
theorem dX5_isShip_8 : decode cX5_isShip 8 = .ok (.iconst 1, 1) := by decide +kernel
theorem dX5_isShip_9 : decode cX5_isShip 9 = .ok (.isub, 1) := by decide +kernel
theorem dX5_isShip_10 : decode cX5_isShip 10 = .ok (.invokestatic 42, 3) := by decide +kernel
theorem dX5_isShip_13 : decode cX5_isShip 13 = .ok (.ireturn, 1) := by decide +kernel
set_option maxRecDepth 20000 in
theorem ggX5_isOther_X5_isShip : GoodIn wsX5_isOther wsX5_isShip := goodIn_r _ [5, 6, 7, 8, 4, 9, 10, 11, 12, 13, 14, 15, 16, 17, 18, 19, 20, 21, 22, 23, 24, 25, 26, 27, 28, 29, 30] (by decide +kernel) (by decide +kernel)
set_option maxRecDepth 20000 in
theorem gX5_isOther_X5_isShip : GoodIn wsX5_isOther (wsV RX5 46 RX5 yX5_isShip wsX5_isShip) := goodIn_app (goodIn_of _ (by decide +kernel)) ggX5_isOther_X5_isShip
theorem dX5_isOther_0 : decode cX5_isOther 0 = .ok (.iload_n 1, 1) := by decide +kernel
theorem dX5_isOther_1 : decode cX5_isOther 1 = .ok (.ifCond .le 15, 3) := by decide +kernel
theorem dX5_isOther_4 : decode cX5_isOther 4 = .ok (.aload_n 0, 1) := by decide +kernel
theorem dX5_isOther_5 : decode cX5_isOther 5 = .ok (.iload_n 1, 1) := by decide +kernel
theorem dX5_isOther_6 : decode cX5_isOther 6 = .ok (.invokevirtual 46, 3) := by decide +kernel
theorem dX5_isOther_9 : decode cX5_isOther 9 = .ok (.ifCond .eq 7, 3) := by decide +kernel
theorem dX5_isOther_12 : decode cX5_isOther 12 = .ok (.iconst 1, 1) := by decide +kernel
theorem dX5_isOther_13 : decode cX5_isOther 13 = .ok (.goto 4, 3) := by decide +kernel
theorem dX5_isOther_16 : decode cX5_isOther 16 = .ok (.iconst 0, 1) := by decide +kernel
theorem dX5_isOther_17 : decode cX5_isOther 17 = .ok (.ireturn, 1) := by decide +kernel
set_option maxRecDepth 20000 in
theorem ggX5_isCourse_X5_in : GoodIn wsX5_isCourse wsX5_in := goodIn_r _ [4] (by decide +kernel) (by decide +kernel)
set_option maxRecDepth 20000 in
theorem gX5_isCourse_X5_in : GoodIn wsX5_isCourse (va_wsS RX5 42 yX5_in wsX5_in) := goodIn_app (goodIn_of _ (by decide +kernel)) ggX5_isCourse_X5_in
theorem dX5_isCourse_0 : decode cX5_isCourse 0 = .ok (.iload_n 0, 1) := by decide +kernel
theorem dX5_isCourse_1 : decode cX5_isCourse 1 = .ok (.iconst 0, 1) := by decide +kernel
theorem dX5_isCourse_2 : decode cX5_isCourse 2 = .ok (.bipush 15, 2) := by decide +kernel
theorem dX5_isCourse_4 : decode cX5_isCourse 4 = .ok (.invokestatic 42, 3) := by decide +kernel
theorem dX5_isCourse_7 : decode cX5_isCourse 7 = .ok (.ifCond .eq 17, 3) := by decide +kernel
theorem dX5_isCourse_10 : decode cX5_isCourse 10 = .ok (.iload_n 1, 1) := by decide +kernel
theorem dX5_isCourse_11 : decode cX5_isCourse 11 = .ok (.iconst 0, 1) := by decide +kernel
theorem dX5_isCourse_12 : decode cX5_isCourse 12 = .ok (.bipush 9, 2) := by decide +kernel
theorem dX5_isCourse_14 : decode cX5_isCourse 14 = .ok (.invokestatic 42, 3) := by decide +kernel
theorem dX5_isCourse_17 : decode cX5_isCourse 17 = .ok (.ifCond .eq 7, 3) := by decide +kernel
theorem dX5_isCourse_20 : decode cX5_isCourse 20 = .ok (.iconst 1, 1) := by decide +kernel
theorem dX5_isCourse_21 : decode cX5_isCourse 21 = .ok (.goto 4, 3) := by decide +kernel
theorem dX5_isCourse_24 : decode cX5_isCourse 24 = .ok (.iconst 0, 1) := by decide +kernel
theorem dX5_isCourse_25 : decode cX5_isCourse 25 = .ok (.ireturn, 1) := by decide +kernel
set_option maxRecDepth 20000 in
theorem ggX5_isPlace_X5_in : GoodIn wsX5_isPlace wsX5_in := goodIn_r _ [4] (by decide +kernel) (by decide +kernel)
set_option maxRecDepth 20000 in
theorem gX5_isPlace_X5_in : GoodIn wsX5_isPlace (va_wsS RX5 42 yX5_in wsX5_in) := goodIn_app (goodIn_of _ (by decide +kernel)) ggX5_isPlace_X5_in
theorem dX5_isPlace_0 : decode cX5_isPlace 0 = .ok (.iload_n 0, 1) := by decide +kernel
theorem dX5_isPlace_1 : decode cX5_isPlace 1 = .ok (.sipush (-9999), 3) := by decide +kernel
theorem dX5_isPlace_4 : decode cX5_isPlace 4 = .ok (.sipush 9999, 3) := by decide +kernel
theorem dX5_isPlace_7 : decode cX5_isPlace 7 = .ok (.invokestatic 42, 3) := by decide +kernel
theorem dX5_isPlace_10 : decode cX5_isPlace 10 = .ok (.ifCond .eq 20, 3) := by decide +kernel
theorem dX5_isPlace_13 : decode cX5_isPlace 13 = .ok (.iload_n 1, 1) := by decide +kernel
theorem dX5_isPlace_14 : decode cX5_isPlace 14 = .ok (.sipush (-9999), 3) := by decide +kernel
theorem dX5_isPlace_17 : decode cX5_isPlace 17 = .ok (.sipush 9999, 3) := by decide +kernel
theorem dX5_isPlace_20 : decode cX5_isPlace 20 = .ok (.invokestatic 42, 3) := by decide +kernel
theorem dX5_isPlace_23 : decode cX5_isPlace 23 = .ok (.ifCond .eq 7, 3) := by decide +kernel
theorem dX5_isPlace_26 : decode cX5_isPlace 26 = .ok (.iconst 1, 1) := by decide +kernel
theorem dX5_isPlace_27 : decode cX5_isPlace 27 = .ok (.goto 4, 3) := by decide +kernel
theorem dX5_isPlace_30 : decode cX5_isPlace 30 = .ok (.iconst 0, 1) := by decide +kernel
theorem dX5_isPlace_31 : decode cX5_isPlace 31 = .ok (.ireturn, 1) := by decide +kernel
theorem dX5_northOf_0 : decode cX5_northOf 0 = .ok (.iload_n 0, 1) := by decide +kernel
theorem dX5_northOf_1 : decode cX5_northOf 1 = .ok (.bipush 8, 2) := by decide +kernel
theorem dX5_northOf_3 : decode cX5_northOf 3 = .ok (.if_icmp .le 10, 3) := by decide +kernel
theorem dX5_northOf_6 : decode cX5_northOf 6 = .ok (.bipush 16, 2) := by decide +kernel
theorem dX5_northOf_8 : decode cX5_northOf 8 = .ok (.iload_n 0, 1) := by decide +kernel
theorem dX5_northOf_9 : decode cX5_northOf 9 = .ok (.isub, 1) := by decide +kernel
theorem dX5_northOf_10 : decode cX5_northOf 10 = .ok (.goto 4, 3) := by decide +kernel
theorem dX5_northOf_13 : decode cX5_northOf 13 = .ok (.iload_n 0, 1) := by decide +kernel
theorem dX5_northOf_14 : decode cX5_northOf 14 = .ok (.istore_n 1, 1) := by decide +kernel
theorem dX5_northOf_15 : decode cX5_northOf 15 = .ok (.iload_n 1, 1) := by decide +kernel
theorem dX5_northOf_16 : decode cX5_northOf 16 = .ok (.iconst 4, 1) := by decide +kernel
theorem dX5_northOf_17 : decode cX5_northOf 17 = .ok (.if_icmp .le 10, 3) := by decide +kernel
theorem dX5_northOf_20 : decode cX5_northOf 20 = .ok (.bipush 8, 2) := by decide +kernel
theorem dX5_northOf_22 : decode cX5_northOf 22 = .ok (.iload_n 1, 1) := by decide +kernel
theorem dX5_northOf_23 : decode cX5_northOf 23 = .ok (.isub, 1) := by decide +kernel
theorem dX5_northOf_24 : decode cX5_northOf 24 = .ok (.goto 4, 3) := by decide +kernel
theorem dX5_northOf_27 : decode cX5_northOf 27 = .ok (.iload_n 1, 1) := by decide +kernel
theorem dX5_northOf_28 : decode cX5_northOf 28 = .ok (.istore_n 2, 1) := by decide +kernel
theorem dX5_northOf_29 : decode cX5_northOf 29 = .ok (.iload_n 2, 1) := by decide +kernel
theorem dX5_northOf_30 : decode cX5_northOf 30 = .ok (.ifCond .ne 8, 3) := by decide +kernel
theorem dX5_northOf_33 : decode cX5_northOf 33 = .ok (.bipush 10, 2) := by decide +kernel
theorem dX5_northOf_35 : decode cX5_northOf 35 = .ok (.goto 33, 3) := by decide +kernel
theorem dX5_northOf_38 : decode cX5_northOf 38 = .ok (.iload_n 2, 1) := by decide +kernel
theorem dX5_northOf_39 : decode cX5_northOf 39 = .ok (.iconst 1, 1) := by decide +kernel
theorem dX5_northOf_40 : decode cX5_northOf 40 = .ok (.if_icmp .ne 8, 3) := by decide +kernel
theorem dX5_northOf_43 : decode cX5_northOf 43 = .ok (.bipush 9, 2) := by decide +kernel
theorem dX5_northOf_45 : decode cX5_northOf 45 = .ok (.goto 23, 3) := by decide +kernel
theorem dX5_northOf_48 : decode cX5_northOf 48 = .ok (.iload_n 2, 1) := by decide +kernel
theorem dX5_northOf_49 : decode cX5_northOf 49 = .ok (.iconst 2, 1) := by decide +kernel
theorem dX5_northOf_50 : decode cX5_northOf 50 = .ok (.if_icmp .ne 8, 3) := by decide +kernel
theorem dX5_northOf_53 : decode cX5_northOf 53 = .ok (.bipush 7, 2) := by decide +kernel
theorem dX5_northOf_55 : decode cX5_northOf 55 = .ok (.goto 13, 3) := by decide +kernel
theorem dX5_northOf_58 : decode cX5_northOf 58 = .ok (.iload_n 2, 1) := by decide +kernel
theorem dX5_northOf_59 : decode cX5_northOf 59 = .ok (.iconst 3, 1) := by decide +kernel
theorem dX5_northOf_60 : decode cX5_northOf 60 = .ok (.if_icmp .ne 7, 3) := by decide +kernel
theorem dX5_northOf_63 : decode cX5_northOf 63 = .ok (.iconst 4, 1) := by decide +kernel
theorem dX5_northOf_64 : decode cX5_northOf 64 = .ok (.goto 4, 3) := by decide +kernel
theorem dX5_northOf_67 : decode cX5_northOf 67 = .ok (.iconst 0, 1) := by decide +kernel
theorem dX5_northOf_68 : decode cX5_northOf 68 = .ok (.istore_n 3, 1) := by decide +kernel
theorem dX5_northOf_69 : decode cX5_northOf 69 = .ok (.iload_n 1, 1) := by decide +kernel
theorem dX5_northOf_70 : decode cX5_northOf 70 = .ok (.iconst 4, 1) := by decide +kernel
theorem dX5_northOf_71 : decode cX5_northOf 71 = .ok (.if_icmp .le 8, 3) := by decide +kernel
theorem dX5_northOf_74 : decode cX5_northOf 74 = .ok (.iload_n 3, 1) := by decide +kernel
theorem dX5_northOf_75 : decode cX5_northOf 75 = .ok (.ineg, 1) := by decide +kernel
theorem dX5_northOf_76 : decode cX5_northOf 76 = .ok (.goto 4, 3) := by decide +kernel
theorem dX5_northOf_79 : decode cX5_northOf 79 = .ok (.iload_n 3, 1) := by decide +kernel
theorem dX5_northOf_80 : decode cX5_northOf 80 = .ok (.ireturn, 1) := by decide +kernel
set_option maxRecDepth 20000 in
theorem ggX5_eastOf_X5_northOf : GoodIn wsX5_eastOf wsX5_northOf := goodIn_r _ [4] (by decide +kernel) (by decide +kernel)
set_option maxRecDepth 20000 in
theorem gX5_eastOf_X5_northOf : GoodIn wsX5_eastOf (va_wsS RX5 50 yX5_northOf wsX5_northOf) := goodIn_app (goodIn_of _ (by decide +kernel)) ggX5_eastOf_X5_northOf
theorem dX5_eastOf_0 : decode cX5_eastOf 0 = .ok (.iload_n 0, 1) := by decide +kernel
theorem dX5_eastOf_1 : decode cX5_eastOf 1 = .ok (.bipush 12, 2) := by decide +kernel
theorem dX5_eastOf_3 : decode cX5_eastOf 3 = .ok (.iadd, 1) := by decide +kernel
theorem dX5_eastOf_4 : decode cX5_eastOf 4 = .ok (.bipush 16, 2) := by decide +kernel
theorem dX5_eastOf_6 : decode cX5_eastOf 6 = .ok (.irem, 1) := by decide +kernel
theorem dX5_eastOf_7 : decode cX5_eastOf 7 = .ok (.invokestatic 50, 3) := by decide +kernel
theorem dX5_eastOf_10 : decode cX5_eastOf 10 = .ok (.ireturn, 1) := by decide +kernel
set_option maxRecDepth 20000 in
theorem ggX5_lays_X5_shipOf : GoodIn wsX5_lays wsX5_shipOf := goodIn_r _ [9, 10, 17, 18, 19, 20, 21, 22, 23, 24, 25, 26, 27, 28, 29, 30, 31, 32, 33, 34, 35, 36, 37] (by decide +kernel) (by decide +kernel)
set_option maxRecDepth 20000 in
theorem gX5_lays_X5_shipOf : GoodIn wsX5_lays (wsV RX5 53 RX5 yX5_shipOf wsX5_shipOf) := goodIn_app (goodIn_of _ (by decide +kernel)) ggX5_lays_X5_shipOf
set_option maxRecDepth 20000 in
theorem ggX5_lays_X5_eastOf : GoodIn wsX5_lays wsX5_eastOf := goodIn_r _ [13, 14, 15, 8, 16] (by decide +kernel) (by decide +kernel)
set_option maxRecDepth 20000 in
theorem gX5_lays_X5_eastOf : GoodIn wsX5_lays (va_wsS RX5 64 yX5_eastOf wsX5_eastOf) := goodIn_app (goodIn_of _ (by decide +kernel)) ggX5_lays_X5_eastOf
set_option maxRecDepth 20000 in
theorem ggX5_lays_X5_northOf : GoodIn wsX5_lays wsX5_northOf := goodIn_r _ [16] (by decide +kernel) (by decide +kernel)
set_option maxRecDepth 20000 in
theorem gX5_lays_X5_northOf : GoodIn wsX5_lays (va_wsS RX5 50 yX5_northOf wsX5_northOf) := goodIn_app (goodIn_of _ (by decide +kernel)) ggX5_lays_X5_northOf
theorem dX5_lays_0 : decode cX5_lays 0 = .ok (.aload_n 0, 1) := by decide +kernel
theorem dX5_lays_1 : decode cX5_lays 1 = .ok (.aload_n 0, 1) := by decide +kernel
theorem dX5_lays_2 : decode cX5_lays 2 = .ok (.iload_n 2, 1) := by decide +kernel
theorem dX5_lays_3 : decode cX5_lays 3 = .ok (.iconst 0, 1) := by decide +kernel
theorem dX5_lays_4 : decode cX5_lays 4 = .ok (.invokevirtual 53, 3) := by decide +kernel
theorem dX5_lays_7 : decode cX5_lays 7 = .ok (.aload_n 0, 1) := by decide +kernel
theorem dX5_lays_8 : decode cX5_lays 8 = .ok (.iload_n 1, 1) := by decide +kernel
theorem dX5_lays_9 : decode cX5_lays 9 = .ok (.iconst 0, 1) := by decide +kernel
theorem dX5_lays_10 : decode cX5_lays 10 = .ok (.invokevirtual 53, 3) := by decide +kernel
theorem dX5_lays_13 : decode cX5_lays 13 = .ok (.isub, 1) := by decide +kernel
theorem dX5_lays_14 : decode cX5_lays 14 = .ok (.i2l, 1) := by decide +kernel
theorem dX5_lays_15 : decode cX5_lays 15 = .ok (.putfield 57, 3) := by decide +kernel
theorem dX5_lays_18 : decode cX5_lays 18 = .ok (.aload_n 0, 1) := by decide +kernel
theorem dX5_lays_19 : decode cX5_lays 19 = .ok (.aload_n 0, 1) := by decide +kernel
theorem dX5_lays_20 : decode cX5_lays 20 = .ok (.iload_n 2, 1) := by decide +kernel
theorem dX5_lays_21 : decode cX5_lays 21 = .ok (.iconst 1, 1) := by decide +kernel
theorem dX5_lays_22 : decode cX5_lays 22 = .ok (.invokevirtual 53, 3) := by decide +kernel
theorem dX5_lays_25 : decode cX5_lays 25 = .ok (.aload_n 0, 1) := by decide +kernel
theorem dX5_lays_26 : decode cX5_lays 26 = .ok (.iload_n 1, 1) := by decide +kernel
theorem dX5_lays_27 : decode cX5_lays 27 = .ok (.iconst 1, 1) := by decide +kernel
theorem dX5_lays_28 : decode cX5_lays 28 = .ok (.invokevirtual 53, 3) := by decide +kernel
theorem dX5_lays_31 : decode cX5_lays 31 = .ok (.isub, 1) := by decide +kernel
theorem dX5_lays_32 : decode cX5_lays 32 = .ok (.i2l, 1) := by decide +kernel
theorem dX5_lays_33 : decode cX5_lays 33 = .ok (.putfield 61, 3) := by decide +kernel
theorem dX5_lays_36 : decode cX5_lays 36 = .ok (.aload_n 0, 1) := by decide +kernel
theorem dX5_lays_37 : decode cX5_lays 37 = .ok (.aload_n 0, 1) := by decide +kernel
theorem dX5_lays_38 : decode cX5_lays 38 = .ok (.iload_n 2, 1) := by decide +kernel
theorem dX5_lays_39 : decode cX5_lays 39 = .ok (.iconst 3, 1) := by decide +kernel
theorem dX5_lays_40 : decode cX5_lays 40 = .ok (.invokevirtual 53, 3) := by decide +kernel
theorem dX5_lays_43 : decode cX5_lays 43 = .ok (.aload_n 0, 1) := by decide +kernel
theorem dX5_lays_44 : decode cX5_lays 44 = .ok (.iload_n 2, 1) := by decide +kernel
theorem dX5_lays_45 : decode cX5_lays 45 = .ok (.iconst 2, 1) := by decide +kernel
theorem dX5_lays_46 : decode cX5_lays 46 = .ok (.invokevirtual 53, 3) := by decide +kernel
theorem dX5_lays_49 : decode cX5_lays 49 = .ok (.invokestatic 64, 3) := by decide +kernel
theorem dX5_lays_52 : decode cX5_lays 52 = .ok (.imul, 1) := by decide +kernel
theorem dX5_lays_53 : decode cX5_lays 53 = .ok (.iload 4, 2) := by decide +kernel
theorem dX5_lays_55 : decode cX5_lays 55 = .ok (.iload_n 3, 1) := by decide +kernel
theorem dX5_lays_56 : decode cX5_lays 56 = .ok (.invokestatic 64, 3) := by decide +kernel
theorem dX5_lays_59 : decode cX5_lays 59 = .ok (.imul, 1) := by decide +kernel
theorem dX5_lays_60 : decode cX5_lays 60 = .ok (.isub, 1) := by decide +kernel
theorem dX5_lays_61 : decode cX5_lays 61 = .ok (.i2l, 1) := by decide +kernel
theorem dX5_lays_62 : decode cX5_lays 62 = .ok (.putfield 67, 3) := by decide +kernel
theorem dX5_lays_65 : decode cX5_lays 65 = .ok (.aload_n 0, 1) := by decide +kernel
theorem dX5_lays_66 : decode cX5_lays 66 = .ok (.aload_n 0, 1) := by decide +kernel
theorem dX5_lays_67 : decode cX5_lays 67 = .ok (.iload_n 2, 1) := by decide +kernel
theorem dX5_lays_68 : decode cX5_lays 68 = .ok (.iconst 3, 1) := by decide +kernel
theorem dX5_lays_69 : decode cX5_lays 69 = .ok (.invokevirtual 53, 3) := by decide +kernel
theorem dX5_lays_72 : decode cX5_lays 72 = .ok (.aload_n 0, 1) := by decide +kernel
theorem dX5_lays_73 : decode cX5_lays 73 = .ok (.iload_n 2, 1) := by decide +kernel
theorem dX5_lays_74 : decode cX5_lays 74 = .ok (.iconst 2, 1) := by decide +kernel
theorem dX5_lays_75 : decode cX5_lays 75 = .ok (.invokevirtual 53, 3) := by decide +kernel
theorem dX5_lays_78 : decode cX5_lays 78 = .ok (.invokestatic 50, 3) := by decide +kernel
theorem dX5_lays_81 : decode cX5_lays 81 = .ok (.imul, 1) := by decide +kernel
theorem dX5_lays_82 : decode cX5_lays 82 = .ok (.iload 4, 2) := by decide +kernel
theorem dX5_lays_84 : decode cX5_lays 84 = .ok (.iload_n 3, 1) := by decide +kernel
theorem dX5_lays_85 : decode cX5_lays 85 = .ok (.invokestatic 50, 3) := by decide +kernel
theorem dX5_lays_88 : decode cX5_lays 88 = .ok (.imul, 1) := by decide +kernel
theorem dX5_lays_89 : decode cX5_lays 89 = .ok (.isub, 1) := by decide +kernel
theorem dX5_lays_90 : decode cX5_lays 90 = .ok (.i2l, 1) := by decide +kernel
theorem dX5_lays_91 : decode cX5_lays 91 = .ok (.putfield 70, 3) := by decide +kernel
theorem dX5_lays_94 : decode cX5_lays 94 = .ok (.return_, 1) := by decide +kernel
set_option maxRecDepth 20000 in
theorem ggX5_laysAsTheyAre_X5_shipOf : GoodIn wsX5_laysAsTheyAre wsX5_shipOf := goodIn_r _ [5, 6, 21, 22, 23, 24, 25, 26, 27, 28, 29, 30, 31, 32, 33, 34, 35, 36, 37, 38, 39, 40, 41] (by decide +kernel) (by decide +kernel)
set_option maxRecDepth 20000 in
theorem gX5_laysAsTheyAre_X5_shipOf : GoodIn wsX5_laysAsTheyAre (wsV RX5 53 RX5 yX5_shipOf wsX5_shipOf) := goodIn_app (goodIn_of _ (by decide +kernel)) ggX5_laysAsTheyAre_X5_shipOf
set_option maxRecDepth 20000 in
theorem ggX5_laysAsTheyAre_X5_lays : GoodIn wsX5_laysAsTheyAre wsX5_lays := goodIn_r _ [10, 11, 12, 13, 14, 1, 2, 3, 4, 5, 6, 15, 16, 17, 18, 19, 20, 21, 22, 23, 24, 25, 26, 27, 28, 29, 30, 31, 32, 33, 34, 35, 36, 37, 38, 39, 40, 41] (by decide +kernel) (by decide +kernel)
set_option maxRecDepth 20000 in
theorem gX5_laysAsTheyAre_X5_lays : GoodIn wsX5_laysAsTheyAre (wsV RX5 73 RX5 yX5_lays wsX5_lays) := goodIn_app (goodIn_of _ (by decide +kernel)) ggX5_laysAsTheyAre_X5_lays
theorem dX5_laysAsTheyAre_0 : decode cX5_laysAsTheyAre 0 = .ok (.aload_n 0, 1) := by decide +kernel
theorem dX5_laysAsTheyAre_1 : decode cX5_laysAsTheyAre 1 = .ok (.iload_n 1, 1) := by decide +kernel
theorem dX5_laysAsTheyAre_2 : decode cX5_laysAsTheyAre 2 = .ok (.iload_n 2, 1) := by decide +kernel
theorem dX5_laysAsTheyAre_3 : decode cX5_laysAsTheyAre 3 = .ok (.aload_n 0, 1) := by decide +kernel
theorem dX5_laysAsTheyAre_4 : decode cX5_laysAsTheyAre 4 = .ok (.iload_n 1, 1) := by decide +kernel
theorem dX5_laysAsTheyAre_5 : decode cX5_laysAsTheyAre 5 = .ok (.iconst 2, 1) := by decide +kernel
theorem dX5_laysAsTheyAre_6 : decode cX5_laysAsTheyAre 6 = .ok (.invokevirtual 53, 3) := by decide +kernel
theorem dX5_laysAsTheyAre_9 : decode cX5_laysAsTheyAre 9 = .ok (.aload_n 0, 1) := by decide +kernel
theorem dX5_laysAsTheyAre_10 : decode cX5_laysAsTheyAre 10 = .ok (.iload_n 1, 1) := by decide +kernel
theorem dX5_laysAsTheyAre_11 : decode cX5_laysAsTheyAre 11 = .ok (.iconst 3, 1) := by decide +kernel
theorem dX5_laysAsTheyAre_12 : decode cX5_laysAsTheyAre 12 = .ok (.invokevirtual 53, 3) := by decide +kernel
theorem dX5_laysAsTheyAre_15 : decode cX5_laysAsTheyAre 15 = .ok (.invokevirtual 73, 3) := by decide +kernel
theorem dX5_laysAsTheyAre_18 : decode cX5_laysAsTheyAre 18 = .ok (.return_, 1) := by decide +kernel
theorem dX5_towards_0 : decode cX5_towards 0 = .ok (.aload_n 0, 1) := by decide +kernel
theorem dX5_towards_1 : decode cX5_towards 1 = .ok (.getfield 57, 3) := by decide +kernel
theorem dX5_towards_4 : decode cX5_towards 4 = .ok (.aload_n 0, 1) := by decide +kernel
theorem dX5_towards_5 : decode cX5_towards 5 = .ok (.getfield 67, 3) := by decide +kernel
theorem dX5_towards_8 : decode cX5_towards 8 = .ok (.lmul, 1) := by decide +kernel
theorem dX5_towards_9 : decode cX5_towards 9 = .ok (.aload_n 0, 1) := by decide +kernel
theorem dX5_towards_10 : decode cX5_towards 10 = .ok (.getfield 61, 3) := by decide +kernel
theorem dX5_towards_13 : decode cX5_towards 13 = .ok (.aload_n 0, 1) := by decide +kernel
theorem dX5_towards_14 : decode cX5_towards 14 = .ok (.getfield 70, 3) := by decide +kernel
theorem dX5_towards_17 : decode cX5_towards 17 = .ok (.lmul, 1) := by decide +kernel
theorem dX5_towards_18 : decode cX5_towards 18 = .ok (.ladd, 1) := by decide +kernel
theorem dX5_towards_19 : decode cX5_towards 19 = .ok (.lreturn, 1) := by decide +kernel
theorem dX5_squareAway_0 : decode cX5_squareAway 0 = .ok (.aload_n 0, 1) := by decide +kernel
theorem dX5_squareAway_1 : decode cX5_squareAway 1 = .ok (.getfield 57, 3) := by decide +kernel
theorem dX5_squareAway_4 : decode cX5_squareAway 4 = .ok (.aload_n 0, 1) := by decide +kernel
theorem dX5_squareAway_5 : decode cX5_squareAway 5 = .ok (.getfield 57, 3) := by decide +kernel
theorem dX5_squareAway_8 : decode cX5_squareAway 8 = .ok (.lmul, 1) := by decide +kernel
theorem dX5_squareAway_9 : decode cX5_squareAway 9 = .ok (.aload_n 0, 1) := by decide +kernel
theorem dX5_squareAway_10 : decode cX5_squareAway 10 = .ok (.getfield 61, 3) := by decide +kernel
theorem dX5_squareAway_13 : decode cX5_squareAway 13 = .ok (.aload_n 0, 1) := by decide +kernel
theorem dX5_squareAway_14 : decode cX5_squareAway 14 = .ok (.getfield 61, 3) := by decide +kernel
theorem dX5_squareAway_17 : decode cX5_squareAway 17 = .ok (.lmul, 1) := by decide +kernel
theorem dX5_squareAway_18 : decode cX5_squareAway 18 = .ok (.ladd, 1) := by decide +kernel
theorem dX5_squareAway_19 : decode cX5_squareAway 19 = .ok (.lreturn, 1) := by decide +kernel
theorem dX5_common_0 : decode cX5_common 0 = .ok (.lload_n 0, 1) := by decide +kernel
theorem dX5_common_1 : decode cX5_common 1 = .ok (.lstore 4, 2) := by decide +kernel
theorem dX5_common_3 : decode cX5_common 3 = .ok (.lload_n 2, 1) := by decide +kernel
theorem dX5_common_4 : decode cX5_common 4 = .ok (.lstore 6, 2) := by decide +kernel
theorem dX5_common_6 : decode cX5_common 6 = .ok (.lload 6, 2) := by decide +kernel
theorem dX5_common_8 : decode cX5_common 8 = .ok (.lconst 0, 1) := by decide +kernel
theorem dX5_common_9 : decode cX5_common 9 = .ok (.lcmp, 1) := by decide +kernel
theorem dX5_common_10 : decode cX5_common 10 = .ok (.ifCond .eq 21, 3) := by decide +kernel
theorem dX5_common_13 : decode cX5_common 13 = .ok (.lload 4, 2) := by decide +kernel
theorem dX5_common_15 : decode cX5_common 15 = .ok (.lload 6, 2) := by decide +kernel
