theorem dX3_next_40 : decode cX3_next 40 = .ok (.iconst (-1), 1) := by decide +kernel
theorem dX3_next_41 : decode cX3_next 41 = .ok (.ireturn, 1) := by decide +kernel
theorem dX3_isFigure_0 : decode cX3_isFigure 0 = .ok (.iload_n 0, 1) := by decide +kernel
theorem dX3_isFigure_1 : decode cX3_isFigure 1 = .ok (.bipush 48, 2) := by decide +kernel
theorem dX3_isFigure_3 : decode cX3_isFigure 3 = .ok (.if_icmp .lt 13, 3) := by decide +kernel
theorem dX3_isFigure_6 : decode cX3_isFigure 6 = .ok (.iload_n 0, 1) := by decide +kernel
theorem dX3_isFigure_7 : decode cX3_isFigure 7 = .ok (.bipush 57, 2) := by decide +kernel
theorem dX3_isFigure_9 : decode cX3_isFigure 9 = .ok (.if_icmp .gt 7, 3) := by decide +kernel
theorem dX3_isFigure_12 : decode cX3_isFigure 12 = .ok (.iconst 1, 1) := by decide +kernel
theorem dX3_isFigure_13 : decode cX3_isFigure 13 = .ok (.goto 4, 3) := by decide +kernel
theorem dX3_isFigure_16 : decode cX3_isFigure 16 = .ok (.iconst 0, 1) := by decide +kernel
theorem dX3_isFigure_17 : decode cX3_isFigure 17 = .ok (.ireturn, 1) := by decide +kernel
theorem dX3_numbersOf_0 : decode cX3_numbersOf 0 = .ok (.iload_n 0, 1) := by decide +kernel
theorem dX3_numbersOf_1 : decode cX3_numbersOf 1 = .ok (.tableswitch 103 97 116 #[95, 101, 103, 103, 103, 103, 103, 103, 103, 103, 103, 103, 103, 99, 95, 103, 103, 103, 97, 97], 95) := by decide +kernel
theorem dX3_numbersOf_96 : decode cX3_numbersOf 96 = .ok (.iconst 4, 1) := by decide +kernel
theorem dX3_numbersOf_97 : decode cX3_numbersOf 97 = .ok (.ireturn, 1) := by decide +kernel
theorem dX3_numbersOf_98 : decode cX3_numbersOf 98 = .ok (.iconst 2, 1) := by decide +kernel
theorem dX3_numbersOf_99 : decode cX3_numbersOf 99 = .ok (.ireturn, 1) := by decide +kernel
theorem dX3_numbersOf_100 : decode cX3_numbersOf 100 = .ok (.iconst 1, 1) := by decide +kernel
theorem dX3_numbersOf_101 : decode cX3_numbersOf 101 = .ok (.ireturn, 1) := by decide +kernel
theorem dX3_numbersOf_102 : decode cX3_numbersOf 102 = .ok (.iconst 0, 1) := by decide +kernel
theorem dX3_numbersOf_103 : decode cX3_numbersOf 103 = .ok (.ireturn, 1) := by decide +kernel
theorem dX3_numbersOf_104 : decode cX3_numbersOf 104 = .ok (.iconst (-1), 1) := by decide +kernel
theorem dX3_numbersOf_105 : decode cX3_numbersOf 105 = .ok (.ireturn, 1) := by decide +kernel
set_option maxRecDepth 20000 in
theorem ggX4_init_X1_init : GoodIn wsX4_init wsX1_init := goodIn_r _ [18, 19, 2, 3, 20, 21, 22, 23, 24, 25, 26, 27, 28, 29, 30, 31, 32, 45, 46, 47, 61, 62, 63, 64] (by decide +kernel) (by decide +kernel)
set_option maxRecDepth 20000 in
theorem gX4_init_X1_init : GoodIn wsX4_init (wsX1_init) := ggX4_init_X1_init
set_option maxRecDepth 20000 in
theorem ggX4_init_X2_init : GoodIn wsX4_init wsX2_init := goodIn_r _ [35, 36, 2, 3, 20, 37, 54, 55] (by decide +kernel) (by decide +kernel)
set_option maxRecDepth 20000 in
theorem gX4_init_X2_init : GoodIn wsX4_init (wsX2_init) := ggX4_init_X2_init
set_option maxRecDepth 20000 in
theorem ggX4_init_X3_init : GoodIn wsX4_init wsX3_init := goodIn_r _ [40, 41, 2, 3, 42, 43, 20, 44, 56, 57, 58, 59, 60] (by decide +kernel) (by decide +kernel)
set_option maxRecDepth 20000 in
theorem gX4_init_X3_init : GoodIn wsX4_init (wsX3_init) := ggX4_init_X3_init
theorem dX4_init_0 : decode cX4_init 0 = .ok (.aload_n 0, 1) := by decide +kernel
theorem dX4_init_1 : decode cX4_init 1 = .ok (.invokespecial 1, 3) := by decide +kernel
theorem dX4_init_4 : decode cX4_init 4 = .ok (.aload_n 0, 1) := by decide +kernel
theorem dX4_init_5 : decode cX4_init 5 = .ok (.new 7, 3) := by decide +kernel
theorem dX4_init_8 : decode cX4_init 8 = .ok (.dup, 1) := by decide +kernel
theorem dX4_init_9 : decode cX4_init 9 = .ok (.invokespecial 9, 3) := by decide +kernel
theorem dX4_init_12 : decode cX4_init 12 = .ok (.putfield 10, 3) := by decide +kernel
theorem dX4_init_15 : decode cX4_init 15 = .ok (.aload_n 0, 1) := by decide +kernel
theorem dX4_init_16 : decode cX4_init 16 = .ok (.new 16, 3) := by decide +kernel
theorem dX4_init_19 : decode cX4_init 19 = .ok (.dup, 1) := by decide +kernel
theorem dX4_init_20 : decode cX4_init 20 = .ok (.invokespecial 18, 3) := by decide +kernel
theorem dX4_init_23 : decode cX4_init 23 = .ok (.putfield 19, 3) := by decide +kernel
theorem dX4_init_26 : decode cX4_init 26 = .ok (.aload_n 0, 1) := by decide +kernel
theorem dX4_init_27 : decode cX4_init 27 = .ok (.new 23, 3) := by decide +kernel
theorem dX4_init_30 : decode cX4_init 30 = .ok (.dup, 1) := by decide +kernel
theorem dX4_init_31 : decode cX4_init 31 = .ok (.invokespecial 25, 3) := by decide +kernel
theorem dX4_init_34 : decode cX4_init 34 = .ok (.putfield 26, 3) := by decide +kernel
theorem dX4_init_37 : decode cX4_init 37 = .ok (.return_, 1) := by decide +kernel
set_option maxRecDepth 20000 in
theorem ggX4_adds_X2_mark : GoodIn wsX4_adds wsX2_mark := goodIn_r _ [8, 9, 10, 11, 12, 13, 14, 58, 59] (by decide +kernel) (by decide +kernel)
set_option maxRecDepth 20000 in
theorem gX4_adds_X2_mark : GoodIn wsX4_adds (wsV RX4 34 RX2 yX2_mark wsX2_mark) := goodIn_app (goodIn_of _ (by decide +kernel)) ggX4_adds_X2_mark
set_option maxRecDepth 20000 in
theorem ggX4_adds_X1_join : GoodIn wsX4_adds wsX1_join := goodIn_r _ [19, 20, 21, 22, 18, 23, 24, 25, 26, 27, 28, 29, 30, 55, 56, 57] (by decide +kernel) (by decide +kernel)
set_option maxRecDepth 20000 in
theorem gX4_adds_X1_join : GoodIn wsX4_adds (wsV RX4 38 RX1 yX1_join wsX1_join) := goodIn_app (goodIn_of _ (by decide +kernel)) ggX4_adds_X1_join
set_option maxRecDepth 20000 in
theorem ggX4_adds_X4_changed : GoodIn wsX4_adds wsX4_changed := goodIn_r _ [34, 1, 35, 36, 25, 37, 38, 39, 40, 7, 41, 10, 9, 11, 12, 13, 14, 42, 43, 44, 45, 46, 47, 48, 49, 50, 51, 52, 53, 54, 58, 59] (by decide +kernel) (by decide +kernel)
set_option maxRecDepth 20000 in
theorem gX4_adds_X4_changed : GoodIn wsX4_adds (wsV RX4 42 RX4 yX4_changed wsX4_changed) := goodIn_app (goodIn_of _ (by decide +kernel)) ggX4_adds_X4_changed
theorem dX4_adds_0 : decode cX4_adds 0 = .ok (.aload_n 0, 1) := by decide +kernel
theorem dX4_adds_1 : decode cX4_adds 1 = .ok (.getfield 19, 3) := by decide +kernel
theorem dX4_adds_4 : decode cX4_adds 4 = .ok (.aload_n 0, 1) := by decide +kernel
theorem dX4_adds_5 : decode cX4_adds 5 = .ok (.getfield 10, 3) := by decide +kernel
theorem dX4_adds_8 : decode cX4_adds 8 = .ok (.getfield 30, 3) := by decide +kernel
theorem dX4_adds_11 : decode cX4_adds 11 = .ok (.invokevirtual 34, 3) := by decide +kernel
theorem dX4_adds_14 : decode cX4_adds 14 = .ok (.aload_n 0, 1) := by decide +kernel
theorem dX4_adds_15 : decode cX4_adds 15 = .ok (.aload_n 0, 1) := by decide +kernel
theorem dX4_adds_16 : decode cX4_adds 16 = .ok (.getfield 10, 3) := by decide +kernel
theorem dX4_adds_19 : decode cX4_adds 19 = .ok (.iload_n 1, 1) := by decide +kernel
theorem dX4_adds_20 : decode cX4_adds 20 = .ok (.iload_n 2, 1) := by decide +kernel
theorem dX4_adds_21 : decode cX4_adds 21 = .ok (.iload_n 3, 1) := by decide +kernel
theorem dX4_adds_22 : decode cX4_adds 22 = .ok (.iload 4, 2) := by decide +kernel
theorem dX4_adds_24 : decode cX4_adds 24 = .ok (.invokevirtual 38, 3) := by decide +kernel
theorem dX4_adds_27 : decode cX4_adds 27 = .ok (.invokevirtual 42, 3) := by decide +kernel
theorem dX4_adds_30 : decode cX4_adds 30 = .ok (.ireturn, 1) := by decide +kernel
set_option maxRecDepth 20000 in
theorem ggX4_own_X2_mark : GoodIn wsX4_own wsX2_mark := goodIn_r _ [8, 9, 10, 11, 12, 13, 14, 58, 59] (by decide +kernel) (by decide +kernel)
set_option maxRecDepth 20000 in
theorem gX4_own_X2_mark : GoodIn wsX4_own (wsV RX4 34 RX2 yX2_mark wsX2_mark) := goodIn_app (goodIn_of _ (by decide +kernel)) ggX4_own_X2_mark
set_option maxRecDepth 20000 in
theorem ggX4_own_X1_placeOwn : GoodIn wsX4_own wsX1_placeOwn := goodIn_r _ [19, 20, 21, 22, 18, 23, 24, 25, 26, 27, 28, 29, 30, 55, 56, 57] (by decide +kernel) (by decide +kernel)
set_option maxRecDepth 20000 in
theorem gX4_own_X1_placeOwn : GoodIn wsX4_own (wsV RX4 46 RX1 yX1_placeOwn wsX1_placeOwn) := goodIn_app (goodIn_of _ (by decide +kernel)) ggX4_own_X1_placeOwn
set_option maxRecDepth 20000 in
theorem ggX4_own_X4_changed : GoodIn wsX4_own wsX4_changed := goodIn_r _ [34, 1, 35, 36, 25, 37, 38, 39, 40, 7, 41, 10, 9, 11, 12, 13, 14, 42, 43, 44, 45, 46, 47, 48, 49, 50, 51, 52, 53, 54, 58, 59] (by decide +kernel) (by decide +kernel)
set_option maxRecDepth 20000 in
theorem gX4_own_X4_changed : GoodIn wsX4_own (wsV RX4 42 RX4 yX4_changed wsX4_changed) := goodIn_app (goodIn_of _ (by decide +kernel)) ggX4_own_X4_changed
theorem dX4_own_0 : decode cX4_own 0 = .ok (.aload_n 0, 1) := by decide +kernel
theorem dX4_own_1 : decode cX4_own 1 = .ok (.getfield 19, 3) := by decide +kernel
theorem dX4_own_4 : decode cX4_own 4 = .ok (.aload_n 0, 1) := by decide +kernel
theorem dX4_own_5 : decode cX4_own 5 = .ok (.getfield 10, 3) := by decide +kernel
theorem dX4_own_8 : decode cX4_own 8 = .ok (.getfield 30, 3) := by decide +kernel
theorem dX4_own_11 : decode cX4_own 11 = .ok (.invokevirtual 34, 3) := by decide +kernel
theorem dX4_own_14 : decode cX4_own 14 = .ok (.aload_n 0, 1) := by decide +kernel
theorem dX4_own_15 : decode cX4_own 15 = .ok (.aload_n 0, 1) := by decide +kernel
theorem dX4_own_16 : decode cX4_own 16 = .ok (.getfield 10, 3) := by decide +kernel
theorem dX4_own_19 : decode cX4_own 19 = .ok (.iload_n 1, 1) := by decide +kernel
theorem dX4_own_20 : decode cX4_own 20 = .ok (.iload_n 2, 1) := by decide +kernel
theorem dX4_own_21 : decode cX4_own 21 = .ok (.iload_n 3, 1) := by decide +kernel
theorem dX4_own_22 : decode cX4_own 22 = .ok (.iload 4, 2) := by decide +kernel
theorem dX4_own_24 : decode cX4_own 24 = .ok (.invokevirtual 46, 3) := by decide +kernel
theorem dX4_own_27 : decode cX4_own 27 = .ok (.invokevirtual 42, 3) := by decide +kernel
theorem dX4_own_30 : decode cX4_own 30 = .ok (.ireturn, 1) := by decide +kernel
set_option maxRecDepth 20000 in
theorem ggX4_drops_X2_mark : GoodIn wsX4_drops wsX2_mark := goodIn_r _ [8, 9, 10, 11, 12, 13, 14, 54, 55] (by decide +kernel) (by decide +kernel)
set_option maxRecDepth 20000 in
theorem gX4_drops_X2_mark : GoodIn wsX4_drops (wsV RX4 34 RX2 yX2_mark wsX2_mark) := goodIn_app (goodIn_of _ (by decide +kernel)) ggX4_drops_X2_mark
set_option maxRecDepth 20000 in
theorem ggX4_drops_X1_leave : GoodIn wsX4_drops wsX1_leave := goodIn_r _ [19, 20, 21, 12, 13, 14, 22, 23, 24, 18, 25, 51, 52, 53] (by decide +kernel) (by decide +kernel)
set_option maxRecDepth 20000 in
theorem gX4_drops_X1_leave : GoodIn wsX4_drops (wsV RX4 49 RX1 yX1_leave wsX1_leave) := goodIn_app (goodIn_of _ (by decide +kernel)) ggX4_drops_X1_leave
set_option maxRecDepth 20000 in
theorem ggX4_drops_X4_changed : GoodIn wsX4_drops wsX4_changed := goodIn_r _ [30, 1, 31, 32, 29, 33, 34, 35, 36, 7, 37, 10, 9, 11, 12, 13, 14, 38, 39, 40, 41, 42, 43, 44, 45, 46, 47, 48, 49, 50, 54, 55] (by decide +kernel) (by decide +kernel)
set_option maxRecDepth 20000 in
theorem gX4_drops_X4_changed : GoodIn wsX4_drops (wsV RX4 42 RX4 yX4_changed wsX4_changed) := goodIn_app (goodIn_of _ (by decide +kernel)) ggX4_drops_X4_changed
theorem dX4_drops_0 : decode cX4_drops 0 = .ok (.aload_n 0, 1) := by decide +kernel
theorem dX4_drops_1 : decode cX4_drops 1 = .ok (.getfield 19, 3) := by decide +kernel
theorem dX4_drops_4 : decode cX4_drops 4 = .ok (.aload_n 0, 1) := by decide +kernel
theorem dX4_drops_5 : decode cX4_drops 5 = .ok (.getfield 10, 3) := by decide +kernel
theorem dX4_drops_8 : decode cX4_drops 8 = .ok (.getfield 30, 3) := by decide +kernel
theorem dX4_drops_11 : decode cX4_drops 11 = .ok (.invokevirtual 34, 3) := by decide +kernel
theorem dX4_drops_14 : decode cX4_drops 14 = .ok (.aload_n 0, 1) := by decide +kernel
theorem dX4_drops_15 : decode cX4_drops 15 = .ok (.aload_n 0, 1) := by decide +kernel
theorem dX4_drops_16 : decode cX4_drops 16 = .ok (.getfield 10, 3) := by decide +kernel
theorem dX4_drops_19 : decode cX4_drops 19 = .ok (.iload_n 1, 1) := by decide +kernel
theorem dX4_drops_20 : decode cX4_drops 20 = .ok (.invokevirtual 49, 3) := by decide +kernel
theorem dX4_drops_23 : decode cX4_drops 23 = .ok (.invokevirtual 42, 3) := by decide +kernel
theorem dX4_drops_26 : decode cX4_drops 26 = .ok (.ireturn, 1) := by decide +kernel
set_option maxRecDepth 20000 in
theorem ggX4_veers_X2_mark : GoodIn wsX4_veers wsX2_mark := goodIn_r _ [8, 9, 10, 11, 12, 13, 14, 55, 56] (by decide +kernel) (by decide +kernel)
set_option maxRecDepth 20000 in
theorem gX4_veers_X2_mark : GoodIn wsX4_veers (wsV RX4 34 RX2 yX2_mark wsX2_mark) := goodIn_app (goodIn_of _ (by decide +kernel)) ggX4_veers_X2_mark
set_option maxRecDepth 20000 in
theorem ggX4_veers_X1_steer : GoodIn wsX4_veers wsX1_steer := goodIn_r _ [19, 20, 21, 22, 23, 18, 24, 25, 26, 27, 52, 53, 54] (by decide +kernel) (by decide +kernel)
set_option maxRecDepth 20000 in
theorem gX4_veers_X1_steer : GoodIn wsX4_veers (wsV RX4 52 RX1 yX1_steer wsX1_steer) := goodIn_app (goodIn_of _ (by decide +kernel)) ggX4_veers_X1_steer
set_option maxRecDepth 20000 in
theorem ggX4_veers_X4_changed : GoodIn wsX4_veers wsX4_changed := goodIn_r _ [31, 1, 32, 33, 26, 34, 35, 36, 37, 7, 38, 10, 9, 11, 12, 13, 14, 39, 40, 41, 42, 43, 44, 45, 46, 47, 48, 49, 50, 51, 55, 56] (by decide +kernel) (by decide +kernel)
set_option maxRecDepth 20000 in
theorem gX4_veers_X4_changed : GoodIn wsX4_veers (wsV RX4 42 RX4 yX4_changed wsX4_changed) := goodIn_app (goodIn_of _ (by decide +kernel)) ggX4_veers_X4_changed
theorem dX4_veers_0 : decode cX4_veers 0 = .ok (.aload_n 0, 1) := by decide +kernel
theorem dX4_veers_1 : decode cX4_veers 1 = .ok (.getfield 19, 3) := by decide +kernel
theorem dX4_veers_4 : decode cX4_veers 4 = .ok (.aload_n 0, 1) := by decide +kernel
theorem dX4_veers_5 : decode cX4_veers 5 = .ok (.getfield 10, 3) := by decide +kernel
theorem dX4_veers_8 : decode cX4_veers 8 = .ok (.getfield 30, 3) := by decide +kernel
theorem dX4_veers_11 : decode cX4_veers 11 = .ok (.invokevirtual 34, 3) := by decide +kernel
theorem dX4_veers_14 : decode cX4_veers 14 = .ok (.aload_n 0, 1) := by decide +kernel
theorem dX4_veers_15 : decode cX4_veers 15 = .ok (.aload_n 0, 1) := by decide +kernel
theorem dX4_veers_16 : decode cX4_veers 16 = .ok (.getfield 10, 3) := by decide +kernel
theorem dX4_veers_19 : decode cX4_veers 19 = .ok (.iload_n 1, 1) := by decide +kernel
theorem dX4_veers_20 : decode cX4_veers 20 = .ok (.iload_n 2, 1) := by decide +kernel
theorem dX4_veers_21 : decode cX4_veers 21 = .ok (.iload_n 3, 1) := by decide +kernel
theorem dX4_veers_22 : decode cX4_veers 22 = .ok (.invokevirtual 52, 3) := by decide +kernel
theorem dX4_veers_25 : decode cX4_veers 25 = .ok (.invokevirtual 42, 3) := by decide +kernel
theorem dX4_veers_28 : decode cX4_veers 28 = .ok (.ireturn, 1) := by decide +kernel
set_option maxRecDepth 20000 in
theorem ggX4_sets_X2_mark : GoodIn wsX4_sets wsX2_mark := goodIn_r _ [8, 9, 10, 11, 12, 13, 14, 49, 50] (by decide +kernel) (by decide +kernel)
set_option maxRecDepth 20000 in
theorem gX4_sets_X2_mark : GoodIn wsX4_sets (wsV RX4 34 RX2 yX2_mark wsX2_mark) := goodIn_app (goodIn_of _ (by decide +kernel)) ggX4_sets_X2_mark
set_option maxRecDepth 20000 in
theorem ggX4_sets_X1_setRule : GoodIn wsX4_sets wsX1_setRule := goodIn_r _ [19, 20, 46, 47, 48] (by decide +kernel) (by decide +kernel)
set_option maxRecDepth 20000 in
theorem gX4_sets_X1_setRule : GoodIn wsX4_sets (wsV RX4 56 RX1 yX1_setRule wsX1_setRule) := goodIn_app (goodIn_of _ (by decide +kernel)) ggX4_sets_X1_setRule
set_option maxRecDepth 20000 in
theorem ggX4_sets_X4_changed : GoodIn wsX4_sets wsX4_changed := goodIn_r _ [25, 1, 26, 27, 24, 28, 29, 30, 31, 7, 32, 10, 9, 11, 12, 13, 14, 33, 34, 35, 36, 37, 38, 39, 40, 41, 42, 43, 44, 45, 49, 50] (by decide +kernel) (by decide +kernel)
set_option maxRecDepth 20000 in
theorem gX4_sets_X4_changed : GoodIn wsX4_sets (wsV RX4 42 RX4 yX4_changed wsX4_changed) := goodIn_app (goodIn_of _ (by decide +kernel)) ggX4_sets_X4_changed
theorem dX4_sets_0 : decode cX4_sets 0 = .ok (.aload_n 0, 1) := by decide +kernel
theorem dX4_sets_1 : decode cX4_sets 1 = .ok (.getfield 19, 3) := by decide +kernel
theorem dX4_sets_4 : decode cX4_sets 4 = .ok (.aload_n 0, 1) := by decide +kernel
theorem dX4_sets_5 : decode cX4_sets 5 = .ok (.getfield 10, 3) := by decide +kernel
theorem dX4_sets_8 : decode cX4_sets 8 = .ok (.getfield 30, 3) := by decide +kernel
theorem dX4_sets_11 : decode cX4_sets 11 = .ok (.invokevirtual 34, 3) := by decide +kernel
theorem dX4_sets_14 : decode cX4_sets 14 = .ok (.aload_n 0, 1) := by decide +kernel
theorem dX4_sets_15 : decode cX4_sets 15 = .ok (.aload_n 0, 1) := by decide +kernel
theorem dX4_sets_16 : decode cX4_sets 16 = .ok (.getfield 10, 3) := by decide +kernel
theorem dX4_sets_19 : decode cX4_sets 19 = .ok (.iload_n 1, 1) := by decide +kernel
theorem dX4_sets_20 : decode cX4_sets 20 = .ok (.iload_n 2, 1) := by decide +kernel
theorem dX4_sets_21 : decode cX4_sets 21 = .ok (.invokevirtual 56, 3) := by decide +kernel
theorem dX4_sets_24 : decode cX4_sets 24 = .ok (.invokevirtual 42, 3) := by decide +kernel
theorem dX4_sets_27 : decode cX4_sets 27 = .ok (.ireturn, 1) := by decide +kernel
set_option maxRecDepth 20000 in
theorem ggX4_steps_X2_mark : GoodIn wsX4_steps wsX2_mark := goodIn_r _ [8, 9, 10, 11, 12, 13, 14, 120, 121] (by decide +kernel) (by decide +kernel)
set_option maxRecDepth 20000 in
theorem gX4_steps_X2_mark : GoodIn wsX4_steps (wsV RX4 34 RX2 yX2_mark wsX2_mark) := goodIn_app (goodIn_of _ (by decide +kernel)) ggX4_steps_X2_mark
set_option maxRecDepth 20000 in
theorem ggX4_steps_X1_goOn : GoodIn wsX4_steps wsX1_goOn := goodIn_r _ [19, 20, 21, 22, 23, 18, 24, 25, 26, 27, 28, 29, 30, 31, 32, 33, 34, 35, 36, 37, 38, 39, 40, 41, 42, 43, 44, 45, 46, 47, 48, 49, 50, 51, 52, 53, 54, 55, 56, 57, 58, 59, 60, 61, 62, 63, 64, 65, 66, 67, 68, 69, 70, 71, 72, 73, 74, 75, 76, 77, 78, 79, 80, 81, 82, 83, 84, 85, 86, 87, 88, 89, 90, 91, 117, 118, 119, 122, 123, 124, 125] (by decide +kernel) (by decide +kernel)
set_option maxRecDepth 20000 in
theorem gX4_steps_X1_goOn : GoodIn wsX4_steps (wsV RX4 60 RX1 yX1_goOn wsX1_goOn) := goodIn_app (goodIn_of _ (by decide +kernel)) ggX4_steps_X1_goOn
set_option maxRecDepth 20000 in
theorem ggX4_steps_X4_changed : GoodIn wsX4_steps wsX4_changed := goodIn_r _ [96, 1, 97, 98, 95, 99, 100, 101, 102, 7, 103, 10, 9, 11, 12, 13, 14, 104, 105, 106, 107, 108, 109, 110, 111, 112, 113, 114, 115, 116, 120, 121] (by decide +kernel) (by decide +kernel)
set_option maxRecDepth 20000 in
theorem gX4_steps_X4_changed : GoodIn wsX4_steps (wsV RX4 42 RX4 yX4_changed wsX4_changed) := goodIn_app (goodIn_of _ (by decide +kernel)) ggX4_steps_X4_changed
theorem dX4_steps_0 : decode cX4_steps 0 = .ok (.aload_n 0, 1) := by decide +kernel
theorem dX4_steps_1 : decode cX4_steps 1 = .ok (.getfield 19, 3) := by decide +kernel
theorem dX4_steps_4 : decode cX4_steps 4 = .ok (.aload_n 0, 1) := by decide +kernel
theorem dX4_steps_5 : decode cX4_steps 5 = .ok (.getfield 10, 3) := by decide +kernel
theorem dX4_steps_8 : decode cX4_steps 8 = .ok (.getfield 30, 3) := by decide +kernel
theorem dX4_steps_11 : decode cX4_steps 11 = .ok (.invokevirtual 34, 3) := by decide +kernel
theorem dX4_steps_14 : decode cX4_steps 14 = .ok (.aload_n 0, 1) := by decide +kernel
theorem dX4_steps_15 : decode cX4_steps 15 = .ok (.aload_n 0, 1) := by decide +kernel
theorem dX4_steps_16 : decode cX4_steps 16 = .ok (.getfield 10, 3) := by decide +kernel
theorem dX4_steps_19 : decode cX4_steps 19 = .ok (.iload_n 1, 1) := by decide +kernel
theorem dX4_steps_20 : decode cX4_steps 20 = .ok (.invokevirtual 60, 3) := by decide +kernel
theorem dX4_steps_23 : decode cX4_steps 23 = .ok (.invokevirtual 42, 3) := by decide +kernel
theorem dX4_steps_26 : decode cX4_steps 26 = .ok (.ireturn, 1) := by decide +kernel
set_option maxRecDepth 20000 in
theorem ggX4_looks_X2_mark : GoodIn wsX4_looks wsX2_mark := goodIn_r _ [8, 9, 10, 11, 12, 13, 14, 97, 98] (by decide +kernel) (by decide +kernel)
set_option maxRecDepth 20000 in
theorem gX4_looks_X2_mark : GoodIn wsX4_looks (wsV RX4 34 RX2 yX2_mark wsX2_mark) := goodIn_app (goodIn_of _ (by decide +kernel)) ggX4_looks_X2_mark
set_option maxRecDepth 20000 in
theorem ggX4_looks_X1_look : GoodIn wsX4_looks wsX1_look := goodIn_r _ [19, 20, 21, 22, 23, 18, 24, 25, 26, 27, 28, 29, 30, 31, 32, 33, 34, 35, 36, 37, 38, 39, 40, 41, 42, 43, 44, 45, 46, 47, 48, 49, 50, 51, 52, 53, 54, 55, 56, 57, 58, 59, 60, 61, 62, 63, 64, 94, 95, 96, 99, 100, 101, 102] (by decide +kernel) (by decide +kernel)
set_option maxRecDepth 20000 in
theorem gX4_looks_X1_look : GoodIn wsX4_looks (wsV RX4 63 RX1 yX1_look wsX1_look) := goodIn_app (goodIn_of _ (by decide +kernel)) ggX4_looks_X1_look
set_option maxRecDepth 20000 in
theorem ggX4_looks_X1_givenWay : GoodIn wsX4_looks wsX1_givenWay := goodIn_r _ [68, 20, 94, 95, 96] (by decide +kernel) (by decide +kernel)
set_option maxRecDepth 20000 in
theorem gX4_looks_X1_givenWay : GoodIn wsX4_looks (wsV RX4 66 RX1 yX1_givenWay wsX1_givenWay) := goodIn_app (goodIn_of _ (by decide +kernel)) ggX4_looks_X1_givenWay
set_option maxRecDepth 20000 in
theorem ggX4_looks_X4_changed : GoodIn wsX4_looks wsX4_changed := goodIn_r _ [73, 1, 74, 75, 72, 76, 77, 78, 79, 7, 80, 10, 9, 11, 12, 13, 14, 81, 82, 83, 84, 85, 86, 87, 88, 89, 90, 91, 92, 93, 97, 98] (by decide +kernel) (by decide +kernel)
set_option maxRecDepth 20000 in
theorem gX4_looks_X4_changed : GoodIn wsX4_looks (wsV RX4 42 RX4 yX4_changed wsX4_changed) := goodIn_app (goodIn_of _ (by decide +kernel)) ggX4_looks_X4_changed
theorem dX4_looks_0 : decode cX4_looks 0 = .ok (.aload_n 0, 1) := by decide +kernel
theorem dX4_looks_1 : decode cX4_looks 1 = .ok (.getfield 19, 3) := by decide +kernel
theorem dX4_looks_4 : decode cX4_looks 4 = .ok (.aload_n 0, 1) := by decide +kernel
theorem dX4_looks_5 : decode cX4_looks 5 = .ok (.getfield 10, 3) := by decide +kernel
theorem dX4_looks_8 : decode cX4_looks 8 = .ok (.getfield 30, 3) := by decide +kernel
theorem dX4_looks_11 : decode cX4_looks 11 = .ok (.invokevirtual 34, 3) := by decide +kernel
theorem dX4_looks_14 : decode cX4_looks 14 = .ok (.aload_n 0, 1) := by decide +kernel
theorem dX4_looks_15 : decode cX4_looks 15 = .ok (.getfield 10, 3) := by decide +kernel
theorem dX4_looks_18 : decode cX4_looks 18 = .ok (.invokevirtual 63, 3) := by decide +kernel
theorem dX4_looks_21 : decode cX4_looks 21 = .ok (.aload_n 0, 1) := by decide +kernel
theorem dX4_looks_22 : decode cX4_looks 22 = .ok (.aload_n 0, 1) := by decide +kernel
theorem dX4_looks_23 : decode cX4_looks 23 = .ok (.getfield 10, 3) := by decide +kernel
theorem dX4_looks_26 : decode cX4_looks 26 = .ok (.invokevirtual 66, 3) := by decide +kernel
theorem dX4_looks_29 : decode cX4_looks 29 = .ok (.invokevirtual 42, 3) := by decide +kernel
theorem dX4_looks_32 : decode cX4_looks 32 = .ok (.ireturn, 1) := by decide +kernel
set_option maxRecDepth 20000 in
theorem ggX4_obeys_X2_mark : GoodIn wsX4_obeys wsX2_mark := goodIn_r _ [8, 9, 10, 11, 12, 13, 14, 109, 110] (by decide +kernel) (by decide +kernel)
set_option maxRecDepth 20000 in
theorem gX4_obeys_X2_mark : GoodIn wsX4_obeys (wsV RX4 34 RX2 yX2_mark wsX2_mark) := goodIn_app (goodIn_of _ (by decide +kernel)) ggX4_obeys_X2_mark
set_option maxRecDepth 20000 in
theorem ggX4_obeys_X1_adviceFor : GoodIn wsX4_obeys wsX1_adviceFor := goodIn_r _ [19, 20, 21, 22, 23, 18, 24, 25, 26, 27, 28, 29, 30, 31, 32, 33, 34, 35, 36, 37, 38, 39, 40, 41, 42, 43, 44, 45, 46, 47, 48, 49, 50, 51, 52, 53, 54, 55, 56, 57, 58, 59, 60, 61, 62, 63, 64, 65, 66, 67, 68, 69, 70, 71, 72, 73, 74, 75, 76, 106, 107, 108, 111, 112, 113, 114] (by decide +kernel) (by decide +kernel)
set_option maxRecDepth 20000 in
theorem gX4_obeys_X1_adviceFor : GoodIn wsX4_obeys (wsV RX4 70 RX1 yX1_adviceFor wsX1_adviceFor) := goodIn_app (goodIn_of _ (by decide +kernel)) ggX4_obeys_X1_adviceFor
set_option maxRecDepth 20000 in
theorem ggX4_obeys_X1_follow : GoodIn wsX4_obeys wsX1_follow := goodIn_r _ [80, 20, 106, 107, 108] (by decide +kernel) (by decide +kernel)
set_option maxRecDepth 20000 in
theorem gX4_obeys_X1_follow : GoodIn wsX4_obeys (wsV RX4 73 RX1 yX1_follow wsX1_follow) := goodIn_app (goodIn_of _ (by decide +kernel)) ggX4_obeys_X1_follow
set_option maxRecDepth 20000 in
theorem ggX4_obeys_X4_changed : GoodIn wsX4_obeys wsX4_changed := goodIn_r _ [85, 1, 86, 87, 84, 88, 89, 90, 91, 7, 92, 10, 9, 11, 12, 13, 14, 93, 94, 95, 96, 97, 98, 99, 100, 101, 102, 103, 104, 105, 109, 110] (by decide +kernel) (by decide +kernel)
set_option maxRecDepth 20000 in
theorem gX4_obeys_X4_changed : GoodIn wsX4_obeys (wsV RX4 42 RX4 yX4_changed wsX4_changed) := goodIn_app (goodIn_of _ (by decide +kernel)) ggX4_obeys_X4_changed
theorem dX4_obeys_0 : decode cX4_obeys 0 = .ok (.aload_n 0, 1) := by decide +kernel
theorem dX4_obeys_1 : decode cX4_obeys 1 = .ok (.getfield 19, 3) := by decide +kernel
theorem dX4_obeys_4 : decode cX4_obeys 4 = .ok (.aload_n 0, 1) := by decide +kernel
theorem dX4_obeys_5 : decode cX4_obeys 5 = .ok (.getfield 10, 3) := by decide +kernel
theorem dX4_obeys_8 : decode cX4_obeys 8 = .ok (.getfield 30, 3) := by decide +kernel
theorem dX4_obeys_11 : decode cX4_obeys 11 = .ok (.invokevirtual 34, 3) := by decide +kernel
theorem dX4_obeys_14 : decode cX4_obeys 14 = .ok (.aload_n 0, 1) := by decide +kernel
theorem dX4_obeys_15 : decode cX4_obeys 15 = .ok (.aload_n 0, 1) := by decide +kernel
theorem dX4_obeys_16 : decode cX4_obeys 16 = .ok (.getfield 10, 3) := by decide +kernel
theorem dX4_obeys_19 : decode cX4_obeys 19 = .ok (.aload_n 0, 1) := by decide +kernel
theorem dX4_obeys_20 : decode cX4_obeys 20 = .ok (.getfield 10, 3) := by decide +kernel
theorem dX4_obeys_23 : decode cX4_obeys 23 = .ok (.iconst 0, 1) := by decide +kernel
theorem dX4_obeys_24 : decode cX4_obeys 24 = .ok (.invokevirtual 70, 3) := by decide +kernel
theorem dX4_obeys_27 : decode cX4_obeys 27 = .ok (.invokevirtual 73, 3) := by decide +kernel
theorem dX4_obeys_30 : decode cX4_obeys 30 = .ok (.invokevirtual 42, 3) := by decide +kernel
theorem dX4_obeys_33 : decode cX4_obeys 33 = .ok (.ireturn, 1) := by decide +kernel
set_option maxRecDepth 20000 in
theorem ggX4_of_X1_isShip : GoodIn wsX4_of wsX1_isShip := goodIn_r _ [6, 7, 36, 37, 38] (by decide +kernel) (by decide +kernel)
set_option maxRecDepth 20000 in
theorem gX4_of_X1_isShip : GoodIn wsX4_of (wsV RX4 76 RX1 yX1_isShip wsX1_isShip) := goodIn_app (goodIn_of _ (by decide +kernel)) ggX4_of_X1_isShip
set_option maxRecDepth 20000 in
theorem ggX4_of_X4_answered : GoodIn wsX4_of wsX4_answered := goodIn_r _ [12, 13, 14, 15, 30, 31, 32, 33, 34, 35] (by decide +kernel) (by decide +kernel)
set_option maxRecDepth 20000 in
theorem gX4_of_X4_answered : GoodIn wsX4_of (wsV RX4 80 RX4 yX4_answered wsX4_answered) := goodIn_app (goodIn_of _ (by decide +kernel)) ggX4_of_X4_answered
set_option maxRecDepth 20000 in
theorem ggX4_of_X1_partOf : GoodIn wsX4_of wsX1_partOf := goodIn_r _ [19, 7, 20, 21, 22, 5, 23, 24, 25, 26, 27, 28, 29, 36, 37, 38] (by decide +kernel) (by decide +kernel)
set_option maxRecDepth 20000 in
theorem gX4_of_X1_partOf : GoodIn wsX4_of (wsV RX4 83 RX1 yX1_partOf wsX1_partOf) := goodIn_app (goodIn_of _ (by decide +kernel)) ggX4_of_X1_partOf
theorem dX4_of_0 : decode cX4_of 0 = .ok (.aload_n 0, 1) := by decide +kernel
theorem dX4_of_1 : decode cX4_of 1 = .ok (.getfield 10, 3) := by decide +kernel
theorem dX4_of_4 : decode cX4_of 4 = .ok (.iload_n 1, 1) := by decide +kernel
theorem dX4_of_5 : decode cX4_of 5 = .ok (.invokevirtual 76, 3) := by decide +kernel
theorem dX4_of_8 : decode cX4_of 8 = .ok (.ifCond .eq 12, 3) := by decide +kernel
theorem dX4_of_11 : decode cX4_of 11 = .ok (.iload_n 2, 1) := by decide +kernel
theorem dX4_of_12 : decode cX4_of 12 = .ok (.ifCond .lt 8, 3) := by decide +kernel
theorem dX4_of_15 : decode cX4_of 15 = .ok (.iload_n 2, 1) := by decide +kernel
theorem dX4_of_16 : decode cX4_of 16 = .ok (.iconst 5, 1) := by decide +kernel
theorem dX4_of_17 : decode cX4_of 17 = .ok (.if_icmp .le 11, 3) := by decide +kernel
theorem dX4_of_20 : decode cX4_of 20 = .ok (.aload_n 0, 1) := by decide +kernel
theorem dX4_of_21 : decode cX4_of 21 = .ok (.sipush (-10002), 3) := by decide +kernel
theorem dX4_of_24 : decode cX4_of 24 = .ok (.invokevirtual 80, 3) := by decide +kernel
theorem dX4_of_27 : decode cX4_of 27 = .ok (.ireturn, 1) := by decide +kernel
theorem dX4_of_28 : decode cX4_of 28 = .ok (.aload_n 0, 1) := by decide +kernel
theorem dX4_of_29 : decode cX4_of 29 = .ok (.getfield 10, 3) := by decide +kernel
theorem dX4_of_32 : decode cX4_of 32 = .ok (.iload_n 1, 1) := by decide +kernel
theorem dX4_of_33 : decode cX4_of 33 = .ok (.iload_n 2, 1) := by decide +kernel
theorem dX4_of_34 : decode cX4_of 34 = .ok (.invokevirtual 83, 3) := by decide +kernel
theorem dX4_of_37 : decode cX4_of 37 = .ok (.ireturn, 1) := by decide +kernel
set_option maxRecDepth 20000 in
theorem ggX4_closest_X1_isPair : GoodIn wsX4_closest wsX1_isPair := goodIn_r _ [6, 7, 8, 9, 5, 10, 11, 56, 57, 58] (by decide +kernel) (by decide +kernel)
set_option maxRecDepth 20000 in
theorem gX4_closest_X1_isPair : GoodIn wsX4_closest (wsV RX4 86 RX1 yX1_isPair wsX1_isPair) := goodIn_app (goodIn_of _ (by decide +kernel)) ggX4_closest_X1_isPair
set_option maxRecDepth 20000 in
theorem ggX4_closest_X4_answered : GoodIn wsX4_closest wsX4_answered := goodIn_r _ [16, 17, 18, 19, 50, 51, 52, 53, 54, 55] (by decide +kernel) (by decide +kernel)
set_option maxRecDepth 20000 in
theorem gX4_closest_X4_answered : GoodIn wsX4_closest (wsV RX4 80 RX4 yX4_answered wsX4_answered) := goodIn_app (goodIn_of _ (by decide +kernel)) ggX4_closest_X4_answered
set_option maxRecDepth 20000 in
theorem ggX4_closest_X1_approachOf : GoodIn wsX4_closest wsX1_approachOf := goodIn_r _ [23, 11, 24, 25, 26, 27, 5, 28, 29, 30, 31, 32, 33, 34, 56, 57, 58, 59, 60, 61, 62] (by decide +kernel) (by decide +kernel)
set_option maxRecDepth 20000 in
theorem gX4_closest_X1_approachOf : GoodIn wsX4_closest (wsV RX4 90 RX1 yX1_approachOf wsX1_approachOf) := goodIn_app (goodIn_of _ (by decide +kernel)) ggX4_closest_X1_approachOf
set_option maxRecDepth 20000 in
theorem ggX4_closest_X0_part : GoodIn wsX4_closest wsX0_part := goodIn_r _ [39, 40, 41, 42, 43, 44, 45, 38, 46, 47, 48, 49, 59, 60, 61, 62] (by decide +kernel) (by decide +kernel)
set_option maxRecDepth 20000 in
theorem gX4_closest_X0_part : GoodIn wsX4_closest (wsV RX4 94 RX0 yX0_part wsX0_part) := goodIn_app (goodIn_of _ (by decide +kernel)) ggX4_closest_X0_part
theorem dX4_closest_0 : decode cX4_closest 0 = .ok (.aload_n 0, 1) := by decide +kernel
theorem dX4_closest_1 : decode cX4_closest 1 = .ok (.getfield 10, 3) := by decide +kernel
theorem dX4_closest_4 : decode cX4_closest 4 = .ok (.iload_n 1, 1) := by decide +kernel
theorem dX4_closest_5 : decode cX4_closest 5 = .ok (.iload_n 2, 1) := by decide +kernel
theorem dX4_closest_6 : decode cX4_closest 6 = .ok (.invokevirtual 86, 3) := by decide +kernel
theorem dX4_closest_9 : decode cX4_closest 9 = .ok (.ifCond .eq 12, 3) := by decide +kernel
theorem dX4_closest_12 : decode cX4_closest 12 = .ok (.iload_n 3, 1) := by decide +kernel
theorem dX4_closest_13 : decode cX4_closest 13 = .ok (.ifCond .lt 8, 3) := by decide +kernel
theorem dX4_closest_16 : decode cX4_closest 16 = .ok (.iload_n 3, 1) := by decide +kernel
theorem dX4_closest_17 : decode cX4_closest 17 = .ok (.iconst 3, 1) := by decide +kernel
theorem dX4_closest_18 : decode cX4_closest 18 = .ok (.if_icmp .le 12, 3) := by decide +kernel
theorem dX4_closest_21 : decode cX4_closest 21 = .ok (.aload_n 0, 1) := by decide +kernel
theorem dX4_closest_22 : decode cX4_closest 22 = .ok (.sipush (-10002), 3) := by decide +kernel
theorem dX4_closest_25 : decode cX4_closest 25 = .ok (.invokevirtual 80, 3) := by decide +kernel
theorem dX4_closest_28 : decode cX4_closest 28 = .ok (.i2l, 1) := by decide +kernel
theorem dX4_closest_29 : decode cX4_closest 29 = .ok (.lreturn, 1) := by decide +kernel
theorem dX4_closest_30 : decode cX4_closest 30 = .ok (.aload_n 0, 1) := by decide +kernel
theorem dX4_closest_31 : decode cX4_closest 31 = .ok (.getfield 10, 3) := by decide +kernel
theorem dX4_closest_34 : decode cX4_closest 34 = .ok (.iload_n 1, 1) := by decide +kernel
theorem dX4_closest_35 : decode cX4_closest 35 = .ok (.iload_n 2, 1) := by decide +kernel
theorem dX4_closest_36 : decode cX4_closest 36 = .ok (.invokevirtual 90, 3) := by decide +kernel
theorem dX4_closest_39 : decode cX4_closest 39 = .ok (.iload_n 3, 1) := by decide +kernel
theorem dX4_closest_40 : decode cX4_closest 40 = .ok (.invokevirtual 94, 3) := by decide +kernel
theorem dX4_closest_43 : decode cX4_closest 43 = .ok (.lreturn, 1) := by decide +kernel
set_option maxRecDepth 20000 in
theorem ggX4_risk_X1_isPair : GoodIn wsX4_risk wsX1_isPair := goodIn_r _ [6, 7, 8, 9, 5, 10, 11, 50, 51, 52] (by decide +kernel) (by decide +kernel)
set_option maxRecDepth 20000 in
theorem gX4_risk_X1_isPair : GoodIn wsX4_risk (wsV RX4 86 RX1 yX1_isPair wsX1_isPair) := goodIn_app (goodIn_of _ (by decide +kernel)) ggX4_risk_X1_isPair
set_option maxRecDepth 20000 in
theorem ggX4_risk_X4_answered : GoodIn wsX4_risk wsX4_answered := goodIn_r _ [16, 17, 18, 19, 44, 45, 46, 47, 48, 49] (by decide +kernel) (by decide +kernel)
set_option maxRecDepth 20000 in
theorem gX4_risk_X4_answered : GoodIn wsX4_risk (wsV RX4 80 RX4 yX4_answered wsX4_answered) := goodIn_app (goodIn_of _ (by decide +kernel)) ggX4_risk_X4_answered
set_option maxRecDepth 20000 in
theorem ggX4_risk_X1_haveRisk : GoodIn wsX4_risk wsX1_haveRisk := goodIn_r _ [23, 11, 24, 25, 26, 27, 5, 28, 29, 30, 31, 32, 33, 34, 35, 36, 37, 38, 39, 40, 41, 42, 43, 50, 51, 52, 53, 54, 55, 56] (by decide +kernel) (by decide +kernel)
set_option maxRecDepth 20000 in
theorem gX4_risk_X1_haveRisk : GoodIn wsX4_risk (wsV RX4 100 RX1 yX1_haveRisk wsX1_haveRisk) := goodIn_app (goodIn_of _ (by decide +kernel)) ggX4_risk_X1_haveRisk
theorem dX4_risk_0 : decode cX4_risk 0 = .ok (.aload_n 0, 1) := by decide +kernel
theorem dX4_risk_1 : decode cX4_risk 1 = .ok (.getfield 10, 3) := by decide +kernel
theorem dX4_risk_4 : decode cX4_risk 4 = .ok (.iload_n 1, 1) := by decide +kernel
theorem dX4_risk_5 : decode cX4_risk 5 = .ok (.iload_n 2, 1) := by decide +kernel
theorem dX4_risk_6 : decode cX4_risk 6 = .ok (.invokevirtual 86, 3) := by decide +kernel
theorem dX4_risk_9 : decode cX4_risk 9 = .ok (.ifCond .ne 11, 3) := by decide +kernel
theorem dX4_risk_12 : decode cX4_risk 12 = .ok (.aload_n 0, 1) := by decide +kernel
theorem dX4_risk_13 : decode cX4_risk 13 = .ok (.sipush (-10002), 3) := by decide +kernel
theorem dX4_risk_16 : decode cX4_risk 16 = .ok (.invokevirtual 80, 3) := by decide +kernel
theorem dX4_risk_19 : decode cX4_risk 19 = .ok (.ireturn, 1) := by decide +kernel
theorem dX4_risk_20 : decode cX4_risk 20 = .ok (.aload_n 0, 1) := by decide +kernel
theorem dX4_risk_21 : decode cX4_risk 21 = .ok (.getfield 10, 3) := by decide +kernel
theorem dX4_risk_24 : decode cX4_risk 24 = .ok (.iload_n 1, 1) := by decide +kernel
theorem dX4_risk_25 : decode cX4_risk 25 = .ok (.iload_n 2, 1) := by decide +kernel
theorem dX4_risk_26 : decode cX4_risk 26 = .ok (.invokevirtual 100, 3) := by decide +kernel
theorem dX4_risk_29 : decode cX4_risk 29 = .ok (.ifCond .eq 7, 3) := by decide +kernel
theorem dX4_risk_32 : decode cX4_risk 32 = .ok (.iconst 1, 1) := by decide +kernel
theorem dX4_risk_33 : decode cX4_risk 33 = .ok (.goto 4, 3) := by decide +kernel
theorem dX4_risk_36 : decode cX4_risk 36 = .ok (.iconst 0, 1) := by decide +kernel
theorem dX4_risk_37 : decode cX4_risk 37 = .ok (.ireturn, 1) := by decide +kernel
set_option maxRecDepth 20000 in
theorem ggX4_sector_X1_isPair : GoodIn wsX4_sector wsX1_isPair := goodIn_r _ [6, 7, 8, 9, 5, 10, 11, 36, 37, 38] (by decide +kernel) (by decide +kernel)
set_option maxRecDepth 20000 in
theorem gX4_sector_X1_isPair : GoodIn wsX4_sector (wsV RX4 86 RX1 yX1_isPair wsX1_isPair) := goodIn_app (goodIn_of _ (by decide +kernel)) ggX4_sector_X1_isPair
set_option maxRecDepth 20000 in
theorem ggX4_sector_X4_answered : GoodIn wsX4_sector wsX4_answered := goodIn_r _ [16, 17, 18, 19, 30, 31, 32, 33, 34, 35] (by decide +kernel) (by decide +kernel)
set_option maxRecDepth 20000 in
theorem gX4_sector_X4_answered : GoodIn wsX4_sector (wsV RX4 80 RX4 yX4_answered wsX4_answered) := goodIn_app (goodIn_of _ (by decide +kernel)) ggX4_sector_X4_answered
set_option maxRecDepth 20000 in
theorem ggX4_sector_X1_sectorOf : GoodIn wsX4_sector wsX1_sectorOf := goodIn_r _ [23, 24, 11, 25, 26, 27, 28, 29, 36, 37, 38] (by decide +kernel) (by decide +kernel)
set_option maxRecDepth 20000 in
theorem gX4_sector_X1_sectorOf : GoodIn wsX4_sector (wsV RX4 103 RX1 yX1_sectorOf wsX1_sectorOf) := goodIn_app (goodIn_of _ (by decide +kernel)) ggX4_sector_X1_sectorOf
theorem dX4_sector_0 : decode cX4_sector 0 = .ok (.aload_n 0, 1) := by decide +kernel
theorem dX4_sector_1 : decode cX4_sector 1 = .ok (.getfield 10, 3) := by decide +kernel
theorem dX4_sector_4 : decode cX4_sector 4 = .ok (.iload_n 1, 1) := by decide +kernel
theorem dX4_sector_5 : decode cX4_sector 5 = .ok (.iload_n 2, 1) := by decide +kernel
theorem dX4_sector_6 : decode cX4_sector 6 = .ok (.invokevirtual 86, 3) := by decide +kernel
theorem dX4_sector_9 : decode cX4_sector 9 = .ok (.ifCond .ne 11, 3) := by decide +kernel
theorem dX4_sector_12 : decode cX4_sector 12 = .ok (.aload_n 0, 1) := by decide +kernel
theorem dX4_sector_13 : decode cX4_sector 13 = .ok (.sipush (-10002), 3) := by decide +kernel
theorem dX4_sector_16 : decode cX4_sector 16 = .ok (.invokevirtual 80, 3) := by decide +kernel
theorem dX4_sector_19 : decode cX4_sector 19 = .ok (.ireturn, 1) := by decide +kernel
theorem dX4_sector_20 : decode cX4_sector 20 = .ok (.aload_n 0, 1) := by decide +kernel
theorem dX4_sector_21 : decode cX4_sector 21 = .ok (.getfield 10, 3) := by decide +kernel
theorem dX4_sector_24 : decode cX4_sector 24 = .ok (.iload_n 1, 1) := by decide +kernel
theorem dX4_sector_25 : decode cX4_sector 25 = .ok (.iload_n 2, 1) := by decide +kernel
theorem dX4_sector_26 : decode cX4_sector 26 = .ok (.invokevirtual 103, 3) := by decide +kernel
theorem dX4_sector_29 : decode cX4_sector 29 = .ok (.ireturn, 1) := by decide +kernel
set_option maxRecDepth 20000 in
theorem ggX4_table_X1_isPair : GoodIn wsX4_table wsX1_isPair := goodIn_r _ [6, 7, 8, 9, 5, 10, 11, 62, 63, 64] (by decide +kernel) (by decide +kernel)
set_option maxRecDepth 20000 in
theorem gX4_table_X1_isPair : GoodIn wsX4_table (wsV RX4 86 RX1 yX1_isPair wsX1_isPair) := goodIn_app (goodIn_of _ (by decide +kernel)) ggX4_table_X1_isPair
set_option maxRecDepth 20000 in
theorem ggX4_table_X4_answered : GoodIn wsX4_table wsX4_answered := goodIn_r _ [16, 17, 18, 19, 56, 57, 58, 59, 60, 61] (by decide +kernel) (by decide +kernel)
set_option maxRecDepth 20000 in
theorem gX4_table_X4_answered : GoodIn wsX4_table (wsV RX4 80 RX4 yX4_answered wsX4_answered) := goodIn_app (goodIn_of _ (by decide +kernel)) ggX4_table_X4_answered
set_option maxRecDepth 20000 in
theorem ggX4_table_X1_tableOf : GoodIn wsX4_table wsX1_tableOf := goodIn_r _ [23, 24, 25, 26, 5, 27, 11, 28, 29, 30, 31, 32, 33, 34, 35, 36, 37, 38, 39, 40, 41, 42, 43, 44, 45, 46, 47, 48, 49, 50, 51, 52, 53, 54, 55, 62, 63, 64, 65, 66, 67, 68] (by decide +kernel) (by decide +kernel)
set_option maxRecDepth 20000 in
theorem gX4_table_X1_tableOf : GoodIn wsX4_table (wsV RX4 106 RX1 yX1_tableOf wsX1_tableOf) := goodIn_app (goodIn_of _ (by decide +kernel)) ggX4_table_X1_tableOf
theorem dX4_table_0 : decode cX4_table 0 = .ok (.aload_n 0, 1) := by decide +kernel
theorem dX4_table_1 : decode cX4_table 1 = .ok (.getfield 10, 3) := by decide +kernel
theorem dX4_table_4 : decode cX4_table 4 = .ok (.iload_n 1, 1) := by decide +kernel
theorem dX4_table_5 : decode cX4_table 5 = .ok (.iload_n 2, 1) := by decide +kernel
theorem dX4_table_6 : decode cX4_table 6 = .ok (.invokevirtual 86, 3) := by decide +kernel
theorem dX4_table_9 : decode cX4_table 9 = .ok (.ifCond .ne 11, 3) := by decide +kernel
theorem dX4_table_12 : decode cX4_table 12 = .ok (.aload_n 0, 1) := by decide +kernel
theorem dX4_table_13 : decode cX4_table 13 = .ok (.sipush (-10002), 3) := by decide +kernel
theorem dX4_table_16 : decode cX4_table 16 = .ok (.invokevirtual 80, 3) := by decide +kernel
theorem dX4_table_19 : decode cX4_table 19 = .ok (.ireturn, 1) := by decide +kernel
theorem dX4_table_20 : decode cX4_table 20 = .ok (.aload_n 0, 1) := by decide +kernel
theorem dX4_table_21 : decode cX4_table 21 = .ok (.getfield 10, 3) := by decide +kernel
theorem dX4_table_24 : decode cX4_table 24 = .ok (.iload_n 1, 1) := by decide +kernel
theorem dX4_table_25 : decode cX4_table 25 = .ok (.iload_n 2, 1) := by decide +kernel
theorem dX4_table_26 : decode cX4_table 26 = .ok (.invokevirtual 106, 3) := by decide +kernel
theorem dX4_table_29 : decode cX4_table 29 = .ok (.ireturn, 1) := by decide +kernel
set_option maxRecDepth 20000 in
theorem ggX4_duty_X1_isOther : GoodIn wsX4_duty wsX1_isOther := goodIn_r _ [6, 7, 26, 27, 28] (by decide +kernel) (by decide +kernel)
set_option maxRecDepth 20000 in
theorem gX4_duty_X1_isOther : GoodIn wsX4_duty (wsV RX4 109 RX1 yX1_isOther wsX1_isOther) := goodIn_app (goodIn_of _ (by decide +kernel)) ggX4_duty_X1_isOther
set_option maxRecDepth 20000 in
theorem ggX4_duty_X4_answered : GoodIn wsX4_duty wsX4_answered := goodIn_r _ [12, 13, 14, 15, 20, 21, 22, 23, 24, 25] (by decide +kernel) (by decide +kernel)
set_option maxRecDepth 20000 in
theorem gX4_duty_X4_answered : GoodIn wsX4_duty (wsV RX4 80 RX4 yX4_answered wsX4_answered) := goodIn_app (goodIn_of _ (by decide +kernel)) ggX4_duty_X4_answered
set_option maxRecDepth 20000 in
theorem ggX4_duty_X1_dutyTo : GoodIn wsX4_duty wsX1_dutyTo := goodIn_r _ [19, 7, 26, 27, 28] (by decide +kernel) (by decide +kernel)
set_option maxRecDepth 20000 in
theorem gX4_duty_X1_dutyTo : GoodIn wsX4_duty (wsV RX4 112 RX1 yX1_dutyTo wsX1_dutyTo) := goodIn_app (goodIn_of _ (by decide +kernel)) ggX4_duty_X1_dutyTo
theorem dX4_duty_0 : decode cX4_duty 0 = .ok (.aload_n 0, 1) := by decide +kernel
theorem dX4_duty_1 : decode cX4_duty 1 = .ok (.getfield 10, 3) := by decide +kernel
theorem dX4_duty_4 : decode cX4_duty 4 = .ok (.iload_n 1, 1) := by decide +kernel
theorem dX4_duty_5 : decode cX4_duty 5 = .ok (.invokevirtual 109, 3) := by decide +kernel
theorem dX4_duty_8 : decode cX4_duty 8 = .ok (.ifCond .ne 11, 3) := by decide +kernel
theorem dX4_duty_11 : decode cX4_duty 11 = .ok (.aload_n 0, 1) := by decide +kernel
theorem dX4_duty_12 : decode cX4_duty 12 = .ok (.sipush (-10002), 3) := by decide +kernel
theorem dX4_duty_15 : decode cX4_duty 15 = .ok (.invokevirtual 80, 3) := by decide +kernel
theorem dX4_duty_18 : decode cX4_duty 18 = .ok (.ireturn, 1) := by decide +kernel
theorem dX4_duty_19 : decode cX4_duty 19 = .ok (.aload_n 0, 1) := by decide +kernel
theorem dX4_duty_20 : decode cX4_duty 20 = .ok (.getfield 10, 3) := by decide +kernel
theorem dX4_duty_23 : decode cX4_duty 23 = .ok (.iload_n 1, 1) := by decide +kernel
theorem dX4_duty_24 : decode cX4_duty 24 = .ok (.invokevirtual 112, 3) := by decide +kernel
theorem dX4_duty_27 : decode cX4_duty 27 = .ok (.ireturn, 1) := by decide +kernel
set_option maxRecDepth 20000 in
theorem ggX4_worst_X1_worstOther : GoodIn wsX4_worst wsX1_worstOther := goodIn_r _ [6, 7, 8, 9, 10, 11, 12, 5, 13, 14, 15, 16, 17, 18, 19, 20, 21, 22, 23, 24, 25, 26, 27, 28, 29, 30, 31, 32, 33, 34, 35, 36, 37, 38, 39, 40, 47, 48, 49, 50, 51, 52, 53] (by decide +kernel) (by decide +kernel)
set_option maxRecDepth 20000 in
theorem gX4_worst_X1_worstOther : GoodIn wsX4_worst (wsV RX4 115 RX1 yX1_worstOther wsX1_worstOther) := goodIn_app (goodIn_of _ (by decide +kernel)) ggX4_worst_X1_worstOther
theorem dX4_worst_0 : decode cX4_worst 0 = .ok (.aload_n 0, 1) := by decide +kernel
theorem dX4_worst_1 : decode cX4_worst 1 = .ok (.getfield 10, 3) := by decide +kernel
theorem dX4_worst_4 : decode cX4_worst 4 = .ok (.invokevirtual 115, 3) := by decide +kernel
theorem dX4_worst_7 : decode cX4_worst 7 = .ok (.ireturn, 1) := by decide +kernel
set_option maxRecDepth 20000 in
theorem ggX4_clear_X1_isShip : GoodIn wsX4_clear wsX1_isShip := goodIn_r _ [6, 7, 53, 54, 55] (by decide +kernel) (by decide +kernel)
set_option maxRecDepth 20000 in
theorem gX4_clear_X1_isShip : GoodIn wsX4_clear (wsV RX4 76 RX1 yX1_isShip wsX1_isShip) := goodIn_app (goodIn_of _ (by decide +kernel)) ggX4_clear_X1_isShip
set_option maxRecDepth 20000 in
theorem ggX4_clear_X4_isCourse : GoodIn wsX4_clear wsX4_isCourse := goodIn_r _ [11] (by decide +kernel) (by decide +kernel)
set_option maxRecDepth 20000 in
theorem gX4_clear_X4_isCourse : GoodIn wsX4_clear (va_wsS RX4 118 yX4_isCourse wsX4_isCourse) := goodIn_app (goodIn_of _ (by decide +kernel)) ggX4_clear_X4_isCourse
set_option maxRecDepth 20000 in
theorem ggX4_clear_X4_answered : GoodIn wsX4_clear wsX4_answered := goodIn_r _ [15, 16, 17, 18, 47, 48, 49, 50, 51, 52] (by decide +kernel) (by decide +kernel)
set_option maxRecDepth 20000 in
theorem gX4_clear_X4_answered : GoodIn wsX4_clear (wsV RX4 80 RX4 yX4_answered wsX4_answered) := goodIn_app (goodIn_of _ (by decide +kernel)) ggX4_clear_X4_answered
set_option maxRecDepth 20000 in
theorem ggX4_clear_X1_isClear : GoodIn wsX4_clear wsX1_isClear := goodIn_r _ [22, 7, 23, 24, 25, 5, 26, 27, 28, 29, 30, 31, 32, 33, 34, 35, 36, 37, 38, 39, 40, 41, 42, 43, 44, 45, 46, 53, 54, 55, 56, 57, 58, 59] (by decide +kernel) (by decide +kernel)
set_option maxRecDepth 20000 in
theorem gX4_clear_X1_isClear : GoodIn wsX4_clear (wsV RX4 121 RX1 yX1_isClear wsX1_isClear) := goodIn_app (goodIn_of _ (by decide +kernel)) ggX4_clear_X1_isClear
theorem dX4_clear_0 : decode cX4_clear 0 = .ok (.aload_n 0, 1) := by decide +kernel
theorem dX4_clear_1 : decode cX4_clear 1 = .ok (.getfield 10, 3) := by decide +kernel
theorem dX4_clear_4 : decode cX4_clear 4 = .ok (.iload_n 1, 1) := by decide +kernel
theorem dX4_clear_5 : decode cX4_clear 5 = .ok (.invokevirtual 76, 3) := by decide +kernel
theorem dX4_clear_8 : decode cX4_clear 8 = .ok (.ifCond .eq 11, 3) := by decide +kernel
theorem dX4_clear_11 : decode cX4_clear 11 = .ok (.iload_n 2, 1) := by decide +kernel
theorem dX4_clear_12 : decode cX4_clear 12 = .ok (.iload_n 3, 1) := by decide +kernel
theorem dX4_clear_13 : decode cX4_clear 13 = .ok (.invokestatic 118, 3) := by decide +kernel
theorem dX4_clear_16 : decode cX4_clear 16 = .ok (.ifCond .ne 11, 3) := by decide +kernel
theorem dX4_clear_19 : decode cX4_clear 19 = .ok (.aload_n 0, 1) := by decide +kernel
theorem dX4_clear_20 : decode cX4_clear 20 = .ok (.sipush (-10002), 3) := by decide +kernel
theorem dX4_clear_23 : decode cX4_clear 23 = .ok (.invokevirtual 80, 3) := by decide +kernel
theorem dX4_clear_26 : decode cX4_clear 26 = .ok (.ireturn, 1) := by decide +kernel
theorem dX4_clear_27 : decode cX4_clear 27 = .ok (.aload_n 0, 1) := by decide +kernel
theorem dX4_clear_28 : decode cX4_clear 28 = .ok (.getfield 10, 3) := by decide +kernel
theorem dX4_clear_31 : decode cX4_clear 31 = .ok (.iload_n 1, 1) := by decide +kernel
theorem dX4_clear_32 : decode cX4_clear 32 = .ok (.iload_n 2, 1) := by decide +kernel
theorem dX4_clear_33 : decode cX4_clear 33 = .ok (.iload_n 3, 1) := by decide +kernel
theorem dX4_clear_34 : decode cX4_clear 34 = .ok (.invokevirtual 121, 3) := by decide +kernel
theorem dX4_clear_37 : decode cX4_clear 37 = .ok (.ifCond .eq 7, 3) := by decide +kernel
theorem dX4_clear_40 : decode cX4_clear 40 = .ok (.iconst 1, 1) := by decide +kernel
theorem dX4_clear_41 : decode cX4_clear 41 = .ok (.goto 4, 3) := by decide +kernel
theorem dX4_clear_44 : decode cX4_clear 44 = .ok (.iconst 0, 1) := by decide +kernel
theorem dX4_clear_45 : decode cX4_clear 45 = .ok (.ireturn, 1) := by decide +kernel
set_option maxRecDepth 20000 in
theorem ggX4_blocked_X1_isOther : GoodIn wsX4_blocked wsX1_isOther := goodIn_r _ [6, 7, 50, 51, 52] (by decide +kernel) (by decide +kernel)
set_option maxRecDepth 20000 in
theorem gX4_blocked_X1_isOther : GoodIn wsX4_blocked (wsV RX4 109 RX1 yX1_isOther wsX1_isOther) := goodIn_app (goodIn_of _ (by decide +kernel)) ggX4_blocked_X1_isOther
set_option maxRecDepth 20000 in
theorem ggX4_blocked_X4_answered : GoodIn wsX4_blocked wsX4_answered := goodIn_r _ [12, 13, 14, 15, 44, 45, 46, 47, 48, 49] (by decide +kernel) (by decide +kernel)
set_option maxRecDepth 20000 in
theorem gX4_blocked_X4_answered : GoodIn wsX4_blocked (wsV RX4 80 RX4 yX4_answered wsX4_answered) := goodIn_app (goodIn_of _ (by decide +kernel)) ggX4_blocked_X4_answered
set_option maxRecDepth 20000 in
theorem ggX4_blocked_X1_blockedBy : GoodIn wsX4_blocked wsX1_blockedBy := goodIn_r _ [19, 7, 20, 21, 22, 5, 23, 24, 25, 26, 27, 28, 29, 30, 31, 32, 33, 34, 35, 36, 37, 38, 39, 40, 41, 42, 43, 50, 51, 52, 53, 54, 55, 56] (by decide +kernel) (by decide +kernel)
set_option maxRecDepth 20000 in
theorem gX4_blocked_X1_blockedBy : GoodIn wsX4_blocked (wsV RX4 125 RX1 yX1_blockedBy wsX1_blockedBy) := goodIn_app (goodIn_of _ (by decide +kernel)) ggX4_blocked_X1_blockedBy
theorem dX4_blocked_0 : decode cX4_blocked 0 = .ok (.aload_n 0, 1) := by decide +kernel
theorem dX4_blocked_1 : decode cX4_blocked 1 = .ok (.getfield 10, 3) := by decide +kernel
theorem dX4_blocked_4 : decode cX4_blocked 4 = .ok (.iload_n 1, 1) := by decide +kernel
theorem dX4_blocked_5 : decode cX4_blocked 5 = .ok (.invokevirtual 109, 3) := by decide +kernel
theorem dX4_blocked_8 : decode cX4_blocked 8 = .ok (.ifCond .ne 11, 3) := by decide +kernel
theorem dX4_blocked_11 : decode cX4_blocked 11 = .ok (.aload_n 0, 1) := by decide +kernel
theorem dX4_blocked_12 : decode cX4_blocked 12 = .ok (.sipush (-10002), 3) := by decide +kernel
theorem dX4_blocked_15 : decode cX4_blocked 15 = .ok (.invokevirtual 80, 3) := by decide +kernel
theorem dX4_blocked_18 : decode cX4_blocked 18 = .ok (.ireturn, 1) := by decide +kernel
theorem dX4_blocked_19 : decode cX4_blocked 19 = .ok (.aload_n 0, 1) := by decide +kernel
theorem dX4_blocked_20 : decode cX4_blocked 20 = .ok (.getfield 10, 3) := by decide +kernel
theorem dX4_blocked_23 : decode cX4_blocked 23 = .ok (.iload_n 1, 1) := by decide +kernel
theorem dX4_blocked_24 : decode cX4_blocked 24 = .ok (.invokevirtual 125, 3) := by decide +kernel
theorem dX4_blocked_27 : decode cX4_blocked 27 = .ok (.ireturn, 1) := by decide +kernel
set_option maxRecDepth 20000 in
theorem ggX4_advice_X1_isShip : GoodIn wsX4_advice wsX1_isShip := goodIn_r _ [6, 7, 82, 83, 84] (by decide +kernel) (by decide +kernel)
set_option maxRecDepth 20000 in
theorem gX4_advice_X1_isShip : GoodIn wsX4_advice (wsV RX4 76 RX1 yX1_isShip wsX1_isShip) := goodIn_app (goodIn_of _ (by decide +kernel)) ggX4_advice_X1_isShip
set_option maxRecDepth 20000 in
theorem ggX4_advice_X4_answered : GoodIn wsX4_advice wsX4_answered := goodIn_r _ [12, 13, 14, 15, 76, 77, 78, 79, 80, 81] (by decide +kernel) (by decide +kernel)
set_option maxRecDepth 20000 in
theorem gX4_advice_X4_answered : GoodIn wsX4_advice (wsV RX4 80 RX4 yX4_answered wsX4_answered) := goodIn_app (goodIn_of _ (by decide +kernel)) ggX4_advice_X4_answered
set_option maxRecDepth 20000 in
theorem ggX4_advice_X1_adviceFor : GoodIn wsX4_advice wsX1_adviceFor := goodIn_r _ [19, 7, 20, 21, 22, 5, 23, 24, 25, 26, 27, 28, 29, 30, 31, 32, 33, 34, 35, 36, 37, 38, 39, 40, 41, 42, 43, 44, 45, 46, 47, 48, 49, 50, 51, 52, 53, 54, 55, 56, 57, 58, 59, 60, 61, 62, 63, 64, 65, 66, 67, 68, 69, 70, 71, 72, 73, 74, 75, 82, 83, 84, 85, 86, 87, 88] (by decide +kernel) (by decide +kernel)
set_option maxRecDepth 20000 in
theorem gX4_advice_X1_adviceFor : GoodIn wsX4_advice (wsV RX4 70 RX1 yX1_adviceFor wsX1_adviceFor) := goodIn_app (goodIn_of _ (by decide +kernel)) ggX4_advice_X1_adviceFor
theorem dX4_advice_0 : decode cX4_advice 0 = .ok (.aload_n 0, 1) := by decide +kernel
theorem dX4_advice_1 : decode cX4_advice 1 = .ok (.getfield 10, 3) := by decide +kernel
theorem dX4_advice_4 : decode cX4_advice 4 = .ok (.iload_n 1, 1) := by decide +kernel
theorem dX4_advice_5 : decode cX4_advice 5 = .ok (.invokevirtual 76, 3) := by decide +kernel
theorem dX4_advice_8 : decode cX4_advice 8 = .ok (.ifCond .ne 11, 3) := by decide +kernel
theorem dX4_advice_11 : decode cX4_advice 11 = .ok (.aload_n 0, 1) := by decide +kernel
theorem dX4_advice_12 : decode cX4_advice 12 = .ok (.sipush (-10002), 3) := by decide +kernel
theorem dX4_advice_15 : decode cX4_advice 15 = .ok (.invokevirtual 80, 3) := by decide +kernel
theorem dX4_advice_18 : decode cX4_advice 18 = .ok (.ireturn, 1) := by decide +kernel
theorem dX4_advice_19 : decode cX4_advice 19 = .ok (.aload_n 0, 1) := by decide +kernel
theorem dX4_advice_20 : decode cX4_advice 20 = .ok (.getfield 10, 3) := by decide +kernel
theorem dX4_advice_23 : decode cX4_advice 23 = .ok (.iload_n 1, 1) := by decide +kernel
theorem dX4_advice_24 : decode cX4_advice 24 = .ok (.invokevirtual 70, 3) := by decide +kernel
theorem dX4_advice_27 : decode cX4_advice 27 = .ok (.ireturn, 1) := by decide +kernel
set_option maxRecDepth 20000 in
theorem ggX4_count_X4_answered : GoodIn wsX4_count wsX4_answered := goodIn_r _ [6, 7, 8, 9, 16, 17, 18, 19, 20, 21] (by decide +kernel) (by decide +kernel)
set_option maxRecDepth 20000 in
theorem gX4_count_X4_answered : GoodIn wsX4_count (wsV RX4 80 RX4 yX4_answered wsX4_answered) := goodIn_app (goodIn_of _ (by decide +kernel)) ggX4_count_X4_answered
set_option maxRecDepth 20000 in
theorem ggX4_count_X1_countOf : GoodIn wsX4_count wsX1_countOf := goodIn_r _ [14, 15, 22, 23, 24] (by decide +kernel) (by decide +kernel)
set_option maxRecDepth 20000 in
theorem gX4_count_X1_countOf : GoodIn wsX4_count (wsV RX4 128 RX1 yX1_countOf wsX1_countOf) := goodIn_app (goodIn_of _ (by decide +kernel)) ggX4_count_X1_countOf
theorem dX4_count_0 : decode cX4_count 0 = .ok (.iload_n 1, 1) := by decide +kernel
theorem dX4_count_1 : decode cX4_count 1 = .ok (.ifCond .lt 8, 3) := by decide +kernel
theorem dX4_count_4 : decode cX4_count 4 = .ok (.iload_n 1, 1) := by decide +kernel
theorem dX4_count_5 : decode cX4_count 5 = .ok (.iconst 3, 1) := by decide +kernel
theorem dX4_count_6 : decode cX4_count 6 = .ok (.if_icmp .le 11, 3) := by decide +kernel
theorem dX4_count_9 : decode cX4_count 9 = .ok (.aload_n 0, 1) := by decide +kernel
theorem dX4_count_10 : decode cX4_count 10 = .ok (.sipush (-10002), 3) := by decide +kernel
theorem dX4_count_13 : decode cX4_count 13 = .ok (.invokevirtual 80, 3) := by decide +kernel
theorem dX4_count_16 : decode cX4_count 16 = .ok (.ireturn, 1) := by decide +kernel
theorem dX4_count_17 : decode cX4_count 17 = .ok (.aload_n 0, 1) := by decide +kernel
theorem dX4_count_18 : decode cX4_count 18 = .ok (.getfield 10, 3) := by decide +kernel
theorem dX4_count_21 : decode cX4_count 21 = .ok (.iload_n 1, 1) := by decide +kernel
theorem dX4_count_22 : decode cX4_count 22 = .ok (.invokevirtual 128, 3) := by decide +kernel
theorem dX4_count_25 : decode cX4_count 25 = .ok (.ireturn, 1) := by decide +kernel
set_option maxRecDepth 20000 in
theorem ggX4_type_X3_append : GoodIn wsX4_type wsX3_append := goodIn_r _ [6, 7, 8, 23, 24, 25, 26, 27] (by decide +kernel) (by decide +kernel)
set_option maxRecDepth 20000 in
theorem gX4_type_X3_append : GoodIn wsX4_type (wsV RX4 131 RX3 yX3_append wsX3_append) := goodIn_app (goodIn_of _ (by decide +kernel)) ggX4_type_X3_append
set_option maxRecDepth 20000 in
theorem ggX4_type_X4_answered : GoodIn wsX4_type wsX4_answered := goodIn_r _ [13, 14, 15, 16, 17, 18, 19, 20, 21, 22] (by decide +kernel) (by decide +kernel)
set_option maxRecDepth 20000 in
theorem gX4_type_X4_answered : GoodIn wsX4_type (wsV RX4 80 RX4 yX4_answered wsX4_answered) := goodIn_app (goodIn_of _ (by decide +kernel)) ggX4_type_X4_answered
theorem dX4_type_0 : decode cX4_type 0 = .ok (.aload_n 0, 1) := by decide +kernel
theorem dX4_type_1 : decode cX4_type 1 = .ok (.aload_n 0, 1) := by decide +kernel
theorem dX4_type_2 : decode cX4_type 2 = .ok (.getfield 26, 3) := by decide +kernel
theorem dX4_type_5 : decode cX4_type 5 = .ok (.iload_n 1, 1) := by decide +kernel
theorem dX4_type_6 : decode cX4_type 6 = .ok (.invokevirtual 131, 3) := by decide +kernel
theorem dX4_type_9 : decode cX4_type 9 = .ok (.invokevirtual 80, 3) := by decide +kernel
theorem dX4_type_12 : decode cX4_type 12 = .ok (.ireturn, 1) := by decide +kernel
set_option maxRecDepth 20000 in
theorem ggX4_wipes_X3_empty : GoodIn wsX4_wipes wsX3_empty := goodIn_r _ [6, 7, 14, 15, 16, 17, 18] (by decide +kernel) (by decide +kernel)
set_option maxRecDepth 20000 in
theorem gX4_wipes_X3_empty : GoodIn wsX4_wipes (wsV RX4 134 RX3 yX3_empty wsX3_empty) := goodIn_app (goodIn_of _ (by decide +kernel)) ggX4_wipes_X3_empty
theorem dX4_wipes_0 : decode cX4_wipes 0 = .ok (.aload_n 0, 1) := by decide +kernel
theorem dX4_wipes_1 : decode cX4_wipes 1 = .ok (.getfield 26, 3) := by decide +kernel
theorem dX4_wipes_4 : decode cX4_wipes 4 = .ok (.invokevirtual 134, 3) := by decide +kernel
theorem dX4_wipes_7 : decode cX4_wipes 7 = .ok (.ireturn, 1) := by decide +kernel
set_option maxRecDepth 20000 in
theorem ggX4_does_X3_faultPlace : GoodIn wsX4_does wsX3_faultPlace := goodIn_r _ [9, 10, 11, 12, 13, 14, 8, 15, 16, 17, 18, 19, 20, 21, 22, 23, 24, 25, 26, 27, 28, 29, 30, 31, 32, 33, 34, 35, 36, 37, 38, 39, 40, 41, 42, 43, 44, 213, 214, 215, 216, 217] (by decide +kernel) (by decide +kernel)
set_option maxRecDepth 20000 in
theorem gX4_does_X3_faultPlace : GoodIn wsX4_does (wsV RX4 137 RX3 yX3_faultPlace wsX3_faultPlace) := goodIn_app (goodIn_of _ (by decide +kernel)) ggX4_does_X3_faultPlace
set_option maxRecDepth 20000 in
theorem ggX4_does_X2_mark : GoodIn wsX4_does wsX2_mark := goodIn_r _ [49, 50, 51, 52, 53, 54, 55, 218, 219] (by decide +kernel) (by decide +kernel)
set_option maxRecDepth 20000 in
theorem gX4_does_X2_mark : GoodIn wsX4_does (wsV RX4 34 RX2 yX2_mark wsX2_mark) := goodIn_app (goodIn_of _ (by decide +kernel)) ggX4_does_X2_mark
set_option maxRecDepth 20000 in
theorem ggX4_does_X3_rewind : GoodIn wsX4_does wsX3_rewind := goodIn_r _ [15, 11, 16, 17, 18, 8, 19, 10, 20, 21, 22, 23, 24, 213, 214, 215, 216, 217] (by decide +kernel) (by decide +kernel)
set_option maxRecDepth 20000 in
theorem gX4_does_X3_rewind : GoodIn wsX4_does (wsV RX4 140 RX3 yX3_rewind wsX3_rewind) := goodIn_app (goodIn_of _ (by decide +kernel)) ggX4_does_X3_rewind
set_option maxRecDepth 20000 in
theorem ggX4_does_X3_hasMore : GoodIn wsX4_does wsX3_hasMore := goodIn_r _ [28, 11, 10, 213, 214, 215, 216, 217] (by decide +kernel) (by decide +kernel)
set_option maxRecDepth 20000 in
theorem gX4_does_X3_hasMore : GoodIn wsX4_does (wsV RX4 143 RX3 yX3_hasMore wsX3_hasMore) := goodIn_app (goodIn_of _ (by decide +kernel)) ggX4_does_X3_hasMore
set_option maxRecDepth 20000 in
theorem ggX4_does_X3_readOrder : GoodIn wsX4_does wsX3_readOrder := goodIn_r _ [32, 33, 11, 20, 21, 22, 8, 23, 10, 24, 34, 35, 36, 16, 17, 18, 19, 37, 38, 39, 40, 41, 42, 43, 44, 213, 214, 215, 216, 217] (by decide +kernel) (by decide +kernel)
set_option maxRecDepth 20000 in
theorem gX4_does_X3_readOrder : GoodIn wsX4_does (wsV RX4 147 RX3 yX3_readOrder wsX3_readOrder) := goodIn_app (goodIn_of _ (by decide +kernel)) ggX4_does_X3_readOrder
set_option maxRecDepth 20000 in
theorem ggX4_does_X4_perform : GoodIn wsX4_does wsX4_perform := goodIn_r _ [63, 1, 64, 65, 3, 66, 67, 68, 69, 70, 71, 72, 73, 74, 75, 62, 76, 77, 78, 79, 80, 81, 82, 83, 84, 85, 86, 87, 88, 89, 90, 91, 92, 93, 94, 95, 96, 97, 98, 99, 100, 101, 102, 103, 104, 105, 106, 107, 108, 109, 110, 111, 112, 113, 114, 115, 116, 117, 118, 119, 120, 121, 122, 123, 124, 125, 126, 127, 128, 129, 130, 131, 132, 133, 134, 135, 136, 137, 138, 139, 140, 141, 142, 143, 144, 145, 146, 147, 148, 149, 150, 151, 152, 153, 154, 155, 156, 157, 158, 159, 160, 161, 162, 163, 164, 165, 166, 167, 168, 169, 170, 171, 172, 173, 174, 175, 176, 177, 178, 179, 180, 181, 182, 183, 184, 185, 186, 187, 188, 189, 190, 191, 192, 204, 205, 206, 207, 208, 209, 213, 214, 215, 216, 217, 210, 211, 212, 220, 221, 222, 223] (by decide +kernel) (by decide +kernel)
set_option maxRecDepth 20000 in
theorem gX4_does_X4_perform : GoodIn wsX4_does (wsV RX4 150 RX4 yX4_perform wsX4_perform) := goodIn_app (goodIn_of _ (by decide +kernel)) ggX4_does_X4_perform
set_option maxRecDepth 20000 in
theorem ggX4_does_X4_isRefusal : GoodIn wsX4_does wsX4_isRefusal := goodIn_r _ [195] (by decide +kernel) (by decide +kernel)
set_option maxRecDepth 20000 in
theorem gX4_does_X4_isRefusal : GoodIn wsX4_does (va_wsS RX4 153 yX4_isRefusal wsX4_isRefusal) := goodIn_app (goodIn_of _ (by decide +kernel)) ggX4_does_X4_isRefusal
set_option maxRecDepth 20000 in
theorem ggX4_does_X2_restore : GoodIn wsX4_does wsX2_restore := goodIn_r _ [199, 50, 51, 52, 53, 54, 55, 218, 219] (by decide +kernel) (by decide +kernel)
set_option maxRecDepth 20000 in
theorem gX4_does_X2_restore : GoodIn wsX4_does (wsV RX4 156 RX2 yX2_restore wsX2_restore) := goodIn_app (goodIn_of _ (by decide +kernel)) ggX4_does_X2_restore
set_option maxRecDepth 20000 in
theorem ggX4_does_X2_keep : GoodIn wsX4_does wsX2_keep := goodIn_r _ [203, 51, 50, 52, 53, 54, 55, 218, 219] (by decide +kernel) (by decide +kernel)
set_option maxRecDepth 20000 in
theorem gX4_does_X2_keep : GoodIn wsX4_does (wsV RX4 159 RX2 yX2_keep wsX2_keep) := goodIn_app (goodIn_of _ (by decide +kernel)) ggX4_does_X2_keep
theorem dX4_does_0 : decode cX4_does 0 = .ok (.aload_n 0, 1) := by decide +kernel
theorem dX4_does_1 : decode cX4_does 1 = .ok (.getfield 26, 3) := by decide +kernel
theorem dX4_does_4 : decode cX4_does 4 = .ok (.invokevirtual 137, 3) := by decide +kernel
theorem dX4_does_7 : decode cX4_does 7 = .ok (.istore_n 1, 1) := by decide +kernel
theorem dX4_does_8 : decode cX4_does 8 = .ok (.iload_n 1, 1) := by decide +kernel
theorem dX4_does_9 : decode cX4_does 9 = .ok (.ifCond .lt 8, 3) := by decide +kernel
theorem dX4_does_12 : decode cX4_does 12 = .ok (.bipush (-10), 2) := by decide +kernel
theorem dX4_does_14 : decode cX4_does 14 = .ok (.iload_n 1, 1) := by decide +kernel
theorem dX4_does_15 : decode cX4_does 15 = .ok (.isub, 1) := by decide +kernel
theorem dX4_does_16 : decode cX4_does 16 = .ok (.ireturn, 1) := by decide +kernel
theorem dX4_does_17 : decode cX4_does 17 = .ok (.aload_n 0, 1) := by decide +kernel
theorem dX4_does_18 : decode cX4_does 18 = .ok (.getfield 19, 3) := by decide +kernel
theorem dX4_does_21 : decode cX4_does 21 = .ok (.aload_n 0, 1) := by decide +kernel
theorem dX4_does_22 : decode cX4_does 22 = .ok (.getfield 10, 3) := by decide +kernel
theorem dX4_does_25 : decode cX4_does 25 = .ok (.getfield 30, 3) := by decide +kernel
theorem dX4_does_28 : decode cX4_does 28 = .ok (.invokevirtual 34, 3) := by decide +kernel
theorem dX4_does_31 : decode cX4_does 31 = .ok (.aload_n 0, 1) := by decide +kernel
theorem dX4_does_32 : decode cX4_does 32 = .ok (.getfield 26, 3) := by decide +kernel
theorem dX4_does_35 : decode cX4_does 35 = .ok (.invokevirtual 140, 3) := by decide +kernel
theorem dX4_does_38 : decode cX4_does 38 = .ok (.iconst 0, 1) := by decide +kernel
theorem dX4_does_39 : decode cX4_does 39 = .ok (.istore_n 2, 1) := by decide +kernel
theorem dX4_does_40 : decode cX4_does 40 = .ok (.iload_n 2, 1) := by decide +kernel
theorem dX4_does_41 : decode cX4_does 41 = .ok (.bipush 75, 2) := by decide +kernel
theorem dX4_does_43 : decode cX4_does 43 = .ok (.if_icmp .ge 59, 3) := by decide +kernel
theorem dX4_does_46 : decode cX4_does 46 = .ok (.aload_n 0, 1) := by decide +kernel
theorem dX4_does_47 : decode cX4_does 47 = .ok (.getfield 26, 3) := by decide +kernel
theorem dX4_does_50 : decode cX4_does 50 = .ok (.invokevirtual 143, 3) := by decide +kernel
theorem dX4_does_53 : decode cX4_does 53 = .ok (.ifCond .eq 49, 3) := by decide +kernel
theorem dX4_does_56 : decode cX4_does 56 = .ok (.aload_n 0, 1) := by decide +kernel
theorem dX4_does_57 : decode cX4_does 57 = .ok (.getfield 26, 3) := by decide +kernel
theorem dX4_does_60 : decode cX4_does 60 = .ok (.invokevirtual 147, 3) := by decide +kernel
theorem dX4_does_63 : decode cX4_does 63 = .ok (.ifCond .eq 13, 3) := by decide +kernel
theorem dX4_does_66 : decode cX4_does 66 = .ok (.aload_n 0, 1) := by decide +kernel
theorem dX4_does_67 : decode cX4_does 67 = .ok (.invokevirtual 150, 3) := by decide +kernel
theorem dX4_does_70 : decode cX4_does 70 = .ok (.invokestatic 153, 3) := by decide +kernel
theorem dX4_does_73 : decode cX4_does 73 = .ok (.ifCond .eq 23, 3) := by decide +kernel
theorem dX4_does_76 : decode cX4_does 76 = .ok (.aload_n 0, 1) := by decide +kernel
theorem dX4_does_77 : decode cX4_does 77 = .ok (.getfield 19, 3) := by decide +kernel
theorem dX4_does_80 : decode cX4_does 80 = .ok (.aload_n 0, 1) := by decide +kernel
theorem dX4_does_81 : decode cX4_does 81 = .ok (.getfield 10, 3) := by decide +kernel
theorem dX4_does_84 : decode cX4_does 84 = .ok (.getfield 30, 3) := by decide +kernel
theorem dX4_does_87 : decode cX4_does 87 = .ok (.invokevirtual 156, 3) := by decide +kernel
theorem dX4_does_90 : decode cX4_does 90 = .ok (.sipush (-1000), 3) := by decide +kernel
theorem dX4_does_93 : decode cX4_does 93 = .ok (.iload_n 2, 1) := by decide +kernel
theorem dX4_does_94 : decode cX4_does 94 = .ok (.isub, 1) := by decide +kernel
theorem dX4_does_95 : decode cX4_does 95 = .ok (.ireturn, 1) := by decide +kernel
theorem dX4_does_96 : decode cX4_does 96 = .ok (.iinc 2 1, 3) := by decide +kernel
theorem dX4_does_99 : decode cX4_does 99 = .ok (.goto (-59), 3) := by decide +kernel
theorem dX4_does_102 : decode cX4_does 102 = .ok (.aload_n 0, 1) := by decide +kernel
theorem dX4_does_103 : decode cX4_does 103 = .ok (.getfield 19, 3) := by decide +kernel
theorem dX4_does_106 : decode cX4_does 106 = .ok (.invokevirtual 159, 3) := by decide +kernel
theorem dX4_does_109 : decode cX4_does 109 = .ok (.iload_n 2, 1) := by decide +kernel
theorem dX4_does_110 : decode cX4_does 110 = .ok (.ireturn, 1) := by decide +kernel
set_option maxRecDepth 20000 in
theorem ggX4_back_X4_answered : GoodIn wsX4_back wsX4_answered := goodIn_r _ [9, 10, 11, 12, 28, 29, 30, 31, 32, 33] (by decide +kernel) (by decide +kernel)
set_option maxRecDepth 20000 in
theorem gX4_back_X4_answered : GoodIn wsX4_back (wsV RX4 80 RX4 yX4_answered wsX4_answered) := goodIn_app (goodIn_of _ (by decide +kernel)) ggX4_back_X4_answered
set_option maxRecDepth 20000 in
theorem ggX4_back_X2_takeBack : GoodIn wsX4_back wsX2_takeBack := goodIn_r _ [17, 18, 19, 20, 21, 16, 22, 23, 24, 25, 26, 27, 34, 35] (by decide +kernel) (by decide +kernel)
set_option maxRecDepth 20000 in
theorem gX4_back_X2_takeBack : GoodIn wsX4_back (wsV RX4 166 RX2 yX2_takeBack wsX2_takeBack) := goodIn_app (goodIn_of _ (by decide +kernel)) ggX4_back_X2_takeBack
theorem dX4_back_0 : decode cX4_back 0 = .ok (.aload_n 0, 1) := by decide +kernel
theorem dX4_back_1 : decode cX4_back 1 = .ok (.getfield 19, 3) := by decide +kernel
theorem dX4_back_4 : decode cX4_back 4 = .ok (.getfield 162, 3) := by decide +kernel
theorem dX4_back_7 : decode cX4_back 7 = .ok (.ifCond .ne 11, 3) := by decide +kernel
theorem dX4_back_10 : decode cX4_back 10 = .ok (.aload_n 0, 1) := by decide +kernel
theorem dX4_back_11 : decode cX4_back 11 = .ok (.sipush (-10003), 3) := by decide +kernel
theorem dX4_back_14 : decode cX4_back 14 = .ok (.invokevirtual 80, 3) := by decide +kernel
theorem dX4_back_17 : decode cX4_back 17 = .ok (.ireturn, 1) := by decide +kernel
theorem dX4_back_18 : decode cX4_back 18 = .ok (.aload_n 0, 1) := by decide +kernel
theorem dX4_back_19 : decode cX4_back 19 = .ok (.getfield 19, 3) := by decide +kernel
theorem dX4_back_22 : decode cX4_back 22 = .ok (.aload_n 0, 1) := by decide +kernel
theorem dX4_back_23 : decode cX4_back 23 = .ok (.getfield 10, 3) := by decide +kernel
theorem dX4_back_26 : decode cX4_back 26 = .ok (.getfield 30, 3) := by decide +kernel
theorem dX4_back_29 : decode cX4_back 29 = .ok (.invokevirtual 166, 3) := by decide +kernel
theorem dX4_back_32 : decode cX4_back 32 = .ok (.aload_n 0, 1) := by decide +kernel
theorem dX4_back_33 : decode cX4_back 33 = .ok (.getfield 19, 3) := by decide +kernel
theorem dX4_back_36 : decode cX4_back 36 = .ok (.getfield 162, 3) := by decide +kernel
theorem dX4_back_39 : decode cX4_back 39 = .ok (.ireturn, 1) := by decide +kernel
set_option maxRecDepth 20000 in
theorem ggX4_told_X4_answered : GoodIn wsX4_told wsX4_answered := goodIn_r _ [5, 6, 7, 8, 17, 18, 19, 20, 21, 22] (by decide +kernel) (by decide +kernel)
set_option maxRecDepth 20000 in
theorem gX4_told_X4_answered : GoodIn wsX4_told (wsV RX4 80 RX4 yX4_answered wsX4_answered) := goodIn_app (goodIn_of _ (by decide +kernel)) ggX4_told_X4_answered
set_option maxRecDepth 20000 in
theorem ggX4_told_X4_tally : GoodIn wsX4_told wsX4_tally := goodIn_r _ [12, 6, 7, 8, 13, 14, 15, 16, 17, 18, 19, 20, 21, 22, 23, 24, 25, 26, 27, 28, 29] (by decide +kernel) (by decide +kernel)
set_option maxRecDepth 20000 in
theorem gX4_told_X4_tally : GoodIn wsX4_told (wsV RX4 169 RX4 yX4_tally wsX4_tally) := goodIn_app (goodIn_of _ (by decide +kernel)) ggX4_told_X4_tally
theorem dX4_told_0 : decode cX4_told 0 = .ok (.iload_n 1, 1) := by decide +kernel
theorem dX4_told_1 : decode cX4_told 1 = .ok (.ifCond .lt 8, 3) := by decide +kernel
theorem dX4_told_4 : decode cX4_told 4 = .ok (.iload_n 1, 1) := by decide +kernel
theorem dX4_told_5 : decode cX4_told 5 = .ok (.iconst 4, 1) := by decide +kernel
theorem dX4_told_6 : decode cX4_told 6 = .ok (.if_icmp .le 11, 3) := by decide +kernel
theorem dX4_told_9 : decode cX4_told 9 = .ok (.aload_n 0, 1) := by decide +kernel
theorem dX4_told_10 : decode cX4_told 10 = .ok (.sipush (-10002), 3) := by decide +kernel
theorem dX4_told_13 : decode cX4_told 13 = .ok (.invokevirtual 80, 3) := by decide +kernel
theorem dX4_told_16 : decode cX4_told 16 = .ok (.ireturn, 1) := by decide +kernel
theorem dX4_told_17 : decode cX4_told 17 = .ok (.aload_n 0, 1) := by decide +kernel
theorem dX4_told_18 : decode cX4_told 18 = .ok (.iload_n 1, 1) := by decide +kernel
theorem dX4_told_19 : decode cX4_told 19 = .ok (.invokevirtual 169, 3) := by decide +kernel
theorem dX4_told_22 : decode cX4_told 22 = .ok (.ireturn, 1) := by decide +kernel
set_option maxRecDepth 20000 in
theorem ggX4_digest_X4_tally : GoodIn wsX4_digest wsX4_tally := goodIn_r _ [8, 9, 10, 11, 12, 13, 14, 15, 142, 143, 144, 145, 146, 147, 148, 149, 150, 151, 152, 153, 154] (by decide +kernel) (by decide +kernel)
set_option maxRecDepth 20000 in
theorem gX4_digest_X4_tally : GoodIn wsX4_digest (wsV RX4 169 RX4 yX4_tally wsX4_tally) := goodIn_app (goodIn_of _ (by decide +kernel)) ggX4_digest_X4_tally
set_option maxRecDepth 20000 in
theorem ggX4_digest_X1_countOf : GoodIn wsX4_digest wsX1_countOf := goodIn_r _ [20, 21, 155, 156, 157] (by decide +kernel) (by decide +kernel)
set_option maxRecDepth 20000 in
theorem gX4_digest_X1_countOf : GoodIn wsX4_digest (wsV RX4 128 RX1 yX1_countOf wsX1_countOf) := goodIn_app (goodIn_of _ (by decide +kernel)) ggX4_digest_X1_countOf
set_option maxRecDepth 20000 in
theorem ggX4_digest_X1_others : GoodIn wsX4_digest wsX1_others := goodIn_r _ [25, 21, 155, 156, 157] (by decide +kernel) (by decide +kernel)
set_option maxRecDepth 20000 in
theorem gX4_digest_X1_others : GoodIn wsX4_digest (wsV RX4 176 RX1 yX1_others wsX1_others) := goodIn_app (goodIn_of _ (by decide +kernel)) ggX4_digest_X1_others
set_option maxRecDepth 20000 in
theorem ggX4_digest_X1_foldShip : GoodIn wsX4_digest wsX1_foldShip := goodIn_r _ [29, 30, 31, 32, 33, 19, 34, 21, 35, 36, 37, 38, 39, 40, 41, 42, 43, 44, 45, 46, 47, 48, 49, 50, 51, 52, 53, 54, 55, 56, 57, 58, 59, 60, 61, 62, 63, 64, 65, 66, 67, 68, 69, 70, 71, 72, 73, 74, 75, 76, 77, 78, 79, 80, 81, 82, 83, 84, 85, 86, 87, 88, 89, 90, 91, 92, 93, 94, 95, 96, 97, 98, 99, 100, 101, 102, 155, 156, 157, 158, 159, 160, 161] (by decide +kernel) (by decide +kernel)
set_option maxRecDepth 20000 in
theorem gX4_digest_X1_foldShip : GoodIn wsX4_digest (wsV RX4 179 RX1 yX1_foldShip wsX1_foldShip) := goodIn_app (goodIn_of _ (by decide +kernel)) ggX4_digest_X1_foldShip
set_option maxRecDepth 20000 in
theorem ggX4_digest_X1_foldOther : GoodIn wsX4_digest wsX1_foldOther := goodIn_r _ [106, 30, 107, 108, 109, 19, 110, 21, 111, 112, 113, 114, 65, 66, 67, 68, 69, 39, 44, 70, 71, 72, 73, 115, 116, 117, 77, 118, 81, 82, 79, 80, 119, 120, 121, 122, 123, 124, 83, 84, 85, 86, 87, 88, 89, 90, 125, 126, 127, 128, 99, 100, 101, 102, 74, 75, 76, 78, 155, 156, 157, 158, 159, 160, 161] (by decide +kernel) (by decide +kernel)
set_option maxRecDepth 20000 in
theorem gX4_digest_X1_foldOther : GoodIn wsX4_digest (wsV RX4 183 RX1 yX1_foldOther wsX1_foldOther) := goodIn_app (goodIn_of _ (by decide +kernel)) ggX4_digest_X1_foldOther
set_option maxRecDepth 20000 in
theorem ggX4_digest_X1_worstOther : GoodIn wsX4_digest wsX1_worstOther := goodIn_r _ [132, 21, 65, 133, 61, 62, 63, 19, 64, 66, 67, 68, 69, 39, 44, 70, 71, 72, 73, 74, 75, 76, 77, 78, 79, 80, 81, 82, 134, 135, 136, 137, 138, 139, 140, 141, 155, 156, 157, 158, 159, 160, 161] (by decide +kernel) (by decide +kernel)
set_option maxRecDepth 20000 in
theorem gX4_digest_X1_worstOther : GoodIn wsX4_digest (wsV RX4 115 RX1 yX1_worstOther wsX1_worstOther) := goodIn_app (goodIn_of _ (by decide +kernel)) ggX4_digest_X1_worstOther
theorem dX4_digest_0 : decode cX4_digest 0 = .ok (.ldc2_w 172, 3) := by decide +kernel
theorem dX4_digest_3 : decode cX4_digest 3 = .ok (.lstore_n 1, 1) := by decide +kernel
theorem dX4_digest_4 : decode cX4_digest 4 = .ok (.iconst 0, 1) := by decide +kernel
theorem dX4_digest_5 : decode cX4_digest 5 = .ok (.istore_n 3, 1) := by decide +kernel
theorem dX4_digest_6 : decode cX4_digest 6 = .ok (.iload_n 3, 1) := by decide +kernel
theorem dX4_digest_7 : decode cX4_digest 7 = .ok (.iconst 4, 1) := by decide +kernel
theorem dX4_digest_8 : decode cX4_digest 8 = .ok (.if_icmp .gt 22, 3) := by decide +kernel
theorem dX4_digest_11 : decode cX4_digest 11 = .ok (.ldc2_w 174, 3) := by decide +kernel
theorem dX4_digest_14 : decode cX4_digest 14 = .ok (.lload_n 1, 1) := by decide +kernel
theorem dX4_digest_15 : decode cX4_digest 15 = .ok (.lmul, 1) := by decide +kernel
theorem dX4_digest_16 : decode cX4_digest 16 = .ok (.aload_n 0, 1) := by decide +kernel
theorem dX4_digest_17 : decode cX4_digest 17 = .ok (.iload_n 3, 1) := by decide +kernel
theorem dX4_digest_18 : decode cX4_digest 18 = .ok (.invokevirtual 169, 3) := by decide +kernel
theorem dX4_digest_21 : decode cX4_digest 21 = .ok (.i2l, 1) := by decide +kernel
theorem dX4_digest_22 : decode cX4_digest 22 = .ok (.ladd, 1) := by decide +kernel
theorem dX4_digest_23 : decode cX4_digest 23 = .ok (.lstore_n 1, 1) := by decide +kernel
theorem dX4_digest_24 : decode cX4_digest 24 = .ok (.iinc 3 1, 3) := by decide +kernel
theorem dX4_digest_27 : decode cX4_digest 27 = .ok (.goto (-21), 3) := by decide +kernel
theorem dX4_digest_30 : decode cX4_digest 30 = .ok (.iconst 0, 1) := by decide +kernel
theorem dX4_digest_31 : decode cX4_digest 31 = .ok (.istore_n 3, 1) := by decide +kernel
theorem dX4_digest_32 : decode cX4_digest 32 = .ok (.iload_n 3, 1) := by decide +kernel
theorem dX4_digest_33 : decode cX4_digest 33 = .ok (.iconst 3, 1) := by decide +kernel
theorem dX4_digest_34 : decode cX4_digest 34 = .ok (.if_icmp .gt 25, 3) := by decide +kernel
theorem dX4_digest_37 : decode cX4_digest 37 = .ok (.ldc2_w 174, 3) := by decide +kernel
theorem dX4_digest_40 : decode cX4_digest 40 = .ok (.lload_n 1, 1) := by decide +kernel
theorem dX4_digest_41 : decode cX4_digest 41 = .ok (.lmul, 1) := by decide +kernel
theorem dX4_digest_42 : decode cX4_digest 42 = .ok (.aload_n 0, 1) := by decide +kernel
theorem dX4_digest_43 : decode cX4_digest 43 = .ok (.getfield 10, 3) := by decide +kernel
theorem dX4_digest_46 : decode cX4_digest 46 = .ok (.iload_n 3, 1) := by decide +kernel
theorem dX4_digest_47 : decode cX4_digest 47 = .ok (.invokevirtual 128, 3) := by decide +kernel
theorem dX4_digest_50 : decode cX4_digest 50 = .ok (.i2l, 1) := by decide +kernel
theorem dX4_digest_51 : decode cX4_digest 51 = .ok (.ladd, 1) := by decide +kernel
theorem dX4_digest_52 : decode cX4_digest 52 = .ok (.lstore_n 1, 1) := by decide +kernel
theorem dX4_digest_53 : decode cX4_digest 53 = .ok (.iinc 3 1, 3) := by decide +kernel
theorem dX4_digest_56 : decode cX4_digest 56 = .ok (.goto (-24), 3) := by decide +kernel
theorem dX4_digest_59 : decode cX4_digest 59 = .ok (.iconst 0, 1) := by decide +kernel
theorem dX4_digest_60 : decode cX4_digest 60 = .ok (.istore_n 3, 1) := by decide +kernel
theorem dX4_digest_61 : decode cX4_digest 61 = .ok (.iload_n 3, 1) := by decide +kernel
theorem dX4_digest_62 : decode cX4_digest 62 = .ok (.aload_n 0, 1) := by decide +kernel
theorem dX4_digest_63 : decode cX4_digest 63 = .ok (.getfield 10, 3) := by decide +kernel
theorem dX4_digest_66 : decode cX4_digest 66 = .ok (.invokevirtual 176, 3) := by decide +kernel
theorem dX4_digest_69 : decode cX4_digest 69 = .ok (.if_icmp .gt 19, 3) := by decide +kernel
theorem dX4_digest_72 : decode cX4_digest 72 = .ok (.aload_n 0, 1) := by decide +kernel
theorem dX4_digest_73 : decode cX4_digest 73 = .ok (.getfield 10, 3) := by decide +kernel
theorem dX4_digest_76 : decode cX4_digest 76 = .ok (.lload_n 1, 1) := by decide +kernel
theorem dX4_digest_77 : decode cX4_digest 77 = .ok (.iload_n 3, 1) := by decide +kernel
theorem dX4_digest_78 : decode cX4_digest 78 = .ok (.invokevirtual 179, 3) := by decide +kernel
theorem dX4_digest_81 : decode cX4_digest 81 = .ok (.lstore_n 1, 1) := by decide +kernel
theorem dX4_digest_82 : decode cX4_digest 82 = .ok (.iinc 3 1, 3) := by decide +kernel
