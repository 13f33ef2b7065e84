theorem dX0_init_0 : decode cX0_init 0 = .ok (.aload_n 0, 1) := by decide +kernel
theorem dX0_init_1 : decode cX0_init 1 = .ok (.invokespecial 1, 3) := by decide +kernel
theorem dX0_init_4 : decode cX0_init 4 = .ok (.aload_n 0, 1) := by decide +kernel
theorem dX0_init_5 : decode cX0_init 5 = .ok (.lconst 1, 1) := by decide +kernel
theorem dX0_init_6 : decode cX0_init 6 = .ok (.putfield 7, 3) := by decide +kernel
theorem dX0_init_9 : decode cX0_init 9 = .ok (.aload_n 0, 1) := by decide +kernel
theorem dX0_init_10 : decode cX0_init 10 = .ok (.lconst 1, 1) := by decide +kernel
theorem dX0_init_11 : decode cX0_init 11 = .ok (.putfield 13, 3) := by decide +kernel
theorem dX0_init_14 : decode cX0_init 14 = .ok (.return_, 1) := by decide +kernel
theorem dX0_take_0 : decode cX0_take 0 = .ok (.aload_n 0, 1) := by decide +kernel
theorem dX0_take_1 : decode cX0_take 1 = .ok (.aload_n 1, 1) := by decide +kernel
theorem dX0_take_2 : decode cX0_take 2 = .ok (.getfield 16, 3) := by decide +kernel
theorem dX0_take_5 : decode cX0_take 5 = .ok (.putfield 16, 3) := by decide +kernel
theorem dX0_take_8 : decode cX0_take 8 = .ok (.aload_n 0, 1) := by decide +kernel
theorem dX0_take_9 : decode cX0_take 9 = .ok (.aload_n 1, 1) := by decide +kernel
theorem dX0_take_10 : decode cX0_take 10 = .ok (.getfield 7, 3) := by decide +kernel
theorem dX0_take_13 : decode cX0_take 13 = .ok (.putfield 7, 3) := by decide +kernel
theorem dX0_take_16 : decode cX0_take 16 = .ok (.aload_n 0, 1) := by decide +kernel
theorem dX0_take_17 : decode cX0_take 17 = .ok (.aload_n 1, 1) := by decide +kernel
theorem dX0_take_18 : decode cX0_take 18 = .ok (.getfield 19, 3) := by decide +kernel
theorem dX0_take_21 : decode cX0_take 21 = .ok (.putfield 19, 3) := by decide +kernel
theorem dX0_take_24 : decode cX0_take 24 = .ok (.aload_n 0, 1) := by decide +kernel
theorem dX0_take_25 : decode cX0_take 25 = .ok (.aload_n 1, 1) := by decide +kernel
theorem dX0_take_26 : decode cX0_take 26 = .ok (.getfield 13, 3) := by decide +kernel
theorem dX0_take_29 : decode cX0_take 29 = .ok (.putfield 13, 3) := by decide +kernel
theorem dX0_take_32 : decode cX0_take 32 = .ok (.return_, 1) := by decide +kernel
theorem dX0_isRisk_0 : decode cX0_isRisk 0 = .ok (.aload_n 0, 1) := by decide +kernel
theorem dX0_isRisk_1 : decode cX0_isRisk 1 = .ok (.getfield 19, 3) := by decide +kernel
theorem dX0_isRisk_4 : decode cX0_isRisk 4 = .ok (.lload_n 1, 1) := by decide +kernel
theorem dX0_isRisk_5 : decode cX0_isRisk 5 = .ok (.lload_n 1, 1) := by decide +kernel
theorem dX0_isRisk_6 : decode cX0_isRisk 6 = .ok (.lmul, 1) := by decide +kernel
theorem dX0_isRisk_7 : decode cX0_isRisk 7 = .ok (.aload_n 0, 1) := by decide +kernel
theorem dX0_isRisk_8 : decode cX0_isRisk 8 = .ok (.getfield 13, 3) := by decide +kernel
theorem dX0_isRisk_11 : decode cX0_isRisk 11 = .ok (.lmul, 1) := by decide +kernel
theorem dX0_isRisk_12 : decode cX0_isRisk 12 = .ok (.lcmp, 1) := by decide +kernel
theorem dX0_isRisk_13 : decode cX0_isRisk 13 = .ok (.ifCond .ge 21, 3) := by decide +kernel
theorem dX0_isRisk_16 : decode cX0_isRisk 16 = .ok (.aload_n 0, 1) := by decide +kernel
theorem dX0_isRisk_17 : decode cX0_isRisk 17 = .ok (.getfield 16, 3) := by decide +kernel
theorem dX0_isRisk_20 : decode cX0_isRisk 20 = .ok (.lload_n 3, 1) := by decide +kernel
theorem dX0_isRisk_21 : decode cX0_isRisk 21 = .ok (.aload_n 0, 1) := by decide +kernel
theorem dX0_isRisk_22 : decode cX0_isRisk 22 = .ok (.getfield 7, 3) := by decide +kernel
theorem dX0_isRisk_25 : decode cX0_isRisk 25 = .ok (.lmul, 1) := by decide +kernel
theorem dX0_isRisk_26 : decode cX0_isRisk 26 = .ok (.lcmp, 1) := by decide +kernel
theorem dX0_isRisk_27 : decode cX0_isRisk 27 = .ok (.ifCond .gt 7, 3) := by decide +kernel
theorem dX0_isRisk_30 : decode cX0_isRisk 30 = .ok (.iconst 1, 1) := by decide +kernel
theorem dX0_isRisk_31 : decode cX0_isRisk 31 = .ok (.goto 4, 3) := by decide +kernel
theorem dX0_isRisk_34 : decode cX0_isRisk 34 = .ok (.iconst 0, 1) := by decide +kernel
theorem dX0_isRisk_35 : decode cX0_isRisk 35 = .ok (.ireturn, 1) := by decide +kernel
theorem dX0_isPastAndClear_0 : decode cX0_isPastAndClear 0 = .ok (.aload_n 0, 1) := by decide +kernel
theorem dX0_isPastAndClear_1 : decode cX0_isPastAndClear 1 = .ok (.getfield 16, 3) := by decide +kernel
theorem dX0_isPastAndClear_4 : decode cX0_isPastAndClear 4 = .ok (.lconst 0, 1) := by decide +kernel
theorem dX0_isPastAndClear_5 : decode cX0_isPastAndClear 5 = .ok (.lcmp, 1) := by decide +kernel
theorem dX0_isPastAndClear_6 : decode cX0_isPastAndClear 6 = .ok (.ifCond .ne 18, 3) := by decide +kernel
theorem dX0_isPastAndClear_9 : decode cX0_isPastAndClear 9 = .ok (.aload_n 0, 1) := by decide +kernel
theorem dX0_isPastAndClear_10 : decode cX0_isPastAndClear 10 = .ok (.getfield 19, 3) := by decide +kernel
theorem dX0_isPastAndClear_13 : decode cX0_isPastAndClear 13 = .ok (.lload_n 1, 1) := by decide +kernel
theorem dX0_isPastAndClear_14 : decode cX0_isPastAndClear 14 = .ok (.lload_n 1, 1) := by decide +kernel
theorem dX0_isPastAndClear_15 : decode cX0_isPastAndClear 15 = .ok (.lmul, 1) := by decide +kernel
theorem dX0_isPastAndClear_16 : decode cX0_isPastAndClear 16 = .ok (.lcmp, 1) := by decide +kernel
theorem dX0_isPastAndClear_17 : decode cX0_isPastAndClear 17 = .ok (.ifCond .lt 7, 3) := by decide +kernel
theorem dX0_isPastAndClear_20 : decode cX0_isPastAndClear 20 = .ok (.iconst 1, 1) := by decide +kernel
theorem dX0_isPastAndClear_21 : decode cX0_isPastAndClear 21 = .ok (.goto 4, 3) := by decide +kernel
theorem dX0_isPastAndClear_24 : decode cX0_isPastAndClear 24 = .ok (.iconst 0, 1) := by decide +kernel
theorem dX0_isPastAndClear_25 : decode cX0_isPastAndClear 25 = .ok (.ireturn, 1) := by decide +kernel
theorem dX0_isWorse_0 : decode cX0_isWorse 0 = .ok (.aload_n 1, 1) := by decide +kernel
theorem dX0_isWorse_1 : decode cX0_isWorse 1 = .ok (.getfield 16, 3) := by decide +kernel
theorem dX0_isWorse_4 : decode cX0_isWorse 4 = .ok (.aload_n 0, 1) := by decide +kernel
theorem dX0_isWorse_5 : decode cX0_isWorse 5 = .ok (.getfield 7, 3) := by decide +kernel
theorem dX0_isWorse_8 : decode cX0_isWorse 8 = .ok (.lmul, 1) := by decide +kernel
theorem dX0_isWorse_9 : decode cX0_isWorse 9 = .ok (.aload_n 0, 1) := by decide +kernel
theorem dX0_isWorse_10 : decode cX0_isWorse 10 = .ok (.getfield 16, 3) := by decide +kernel
theorem dX0_isWorse_13 : decode cX0_isWorse 13 = .ok (.aload_n 1, 1) := by decide +kernel
theorem dX0_isWorse_14 : decode cX0_isWorse 14 = .ok (.getfield 7, 3) := by decide +kernel
theorem dX0_isWorse_17 : decode cX0_isWorse 17 = .ok (.lmul, 1) := by decide +kernel
theorem dX0_isWorse_18 : decode cX0_isWorse 18 = .ok (.lsub, 1) := by decide +kernel
theorem dX0_isWorse_19 : decode cX0_isWorse 19 = .ok (.lstore_n 2, 1) := by decide +kernel
theorem dX0_isWorse_20 : decode cX0_isWorse 20 = .ok (.lload_n 2, 1) := by decide +kernel
theorem dX0_isWorse_21 : decode cX0_isWorse 21 = .ok (.lconst 0, 1) := by decide +kernel
theorem dX0_isWorse_22 : decode cX0_isWorse 22 = .ok (.lcmp, 1) := by decide +kernel
theorem dX0_isWorse_23 : decode cX0_isWorse 23 = .ok (.ifCond .eq 15, 3) := by decide +kernel
theorem dX0_isWorse_26 : decode cX0_isWorse 26 = .ok (.lload_n 2, 1) := by decide +kernel
theorem dX0_isWorse_27 : decode cX0_isWorse 27 = .ok (.lconst 0, 1) := by decide +kernel
theorem dX0_isWorse_28 : decode cX0_isWorse 28 = .ok (.lcmp, 1) := by decide +kernel
theorem dX0_isWorse_29 : decode cX0_isWorse 29 = .ok (.ifCond .le 7, 3) := by decide +kernel
theorem dX0_isWorse_32 : decode cX0_isWorse 32 = .ok (.iconst 1, 1) := by decide +kernel
theorem dX0_isWorse_33 : decode cX0_isWorse 33 = .ok (.goto 4, 3) := by decide +kernel
theorem dX0_isWorse_36 : decode cX0_isWorse 36 = .ok (.iconst 0, 1) := by decide +kernel
theorem dX0_isWorse_37 : decode cX0_isWorse 37 = .ok (.ireturn, 1) := by decide +kernel
theorem dX0_isWorse_38 : decode cX0_isWorse 38 = .ok (.aload_n 0, 1) := by decide +kernel
theorem dX0_isWorse_39 : decode cX0_isWorse 39 = .ok (.getfield 19, 3) := by decide +kernel
theorem dX0_isWorse_42 : decode cX0_isWorse 42 = .ok (.aload_n 1, 1) := by decide +kernel
theorem dX0_isWorse_43 : decode cX0_isWorse 43 = .ok (.getfield 13, 3) := by decide +kernel
theorem dX0_isWorse_46 : decode cX0_isWorse 46 = .ok (.lmul, 1) := by decide +kernel
theorem dX0_isWorse_47 : decode cX0_isWorse 47 = .ok (.aload_n 1, 1) := by decide +kernel
theorem dX0_isWorse_48 : decode cX0_isWorse 48 = .ok (.getfield 19, 3) := by decide +kernel
theorem dX0_isWorse_51 : decode cX0_isWorse 51 = .ok (.aload_n 0, 1) := by decide +kernel
theorem dX0_isWorse_52 : decode cX0_isWorse 52 = .ok (.getfield 13, 3) := by decide +kernel
theorem dX0_isWorse_55 : decode cX0_isWorse 55 = .ok (.lmul, 1) := by decide +kernel
theorem dX0_isWorse_56 : decode cX0_isWorse 56 = .ok (.lcmp, 1) := by decide +kernel
theorem dX0_isWorse_57 : decode cX0_isWorse 57 = .ok (.ifCond .ge 7, 3) := by decide +kernel
theorem dX0_isWorse_60 : decode cX0_isWorse 60 = .ok (.iconst 1, 1) := by decide +kernel
theorem dX0_isWorse_61 : decode cX0_isWorse 61 = .ok (.goto 4, 3) := by decide +kernel
theorem dX0_isWorse_64 : decode cX0_isWorse 64 = .ok (.iconst 0, 1) := by decide +kernel
theorem dX0_isWorse_65 : decode cX0_isWorse 65 = .ok (.ireturn, 1) := by decide +kernel
set_option maxRecDepth 20000 in
theorem ggX0_part_X0_lowest : GoodIn wsX0_part wsX0_lowest := goodIn_r _ [8, 9, 10, 7, 11] (by decide +kernel) (by decide +kernel)
set_option maxRecDepth 20000 in
theorem gX0_part_X0_lowest : GoodIn wsX0_part (va_wsS RX0 22 yX0_lowest wsX0_lowest) := goodIn_app (goodIn_of _ (by decide +kernel)) ggX0_part_X0_lowest
theorem dX0_part_0 : decode cX0_part 0 = .ok (.iload_n 1, 1) := by decide +kernel
theorem dX0_part_1 : decode cX0_part 1 = .ok (.iconst 2, 1) := by decide +kernel
theorem dX0_part_2 : decode cX0_part 2 = .ok (.if_icmp .ge 24, 3) := by decide +kernel
theorem dX0_part_5 : decode cX0_part 5 = .ok (.aload_n 0, 1) := by decide +kernel
theorem dX0_part_6 : decode cX0_part 6 = .ok (.getfield 16, 3) := by decide +kernel
theorem dX0_part_9 : decode cX0_part 9 = .ok (.aload_n 0, 1) := by decide +kernel
theorem dX0_part_10 : decode cX0_part 10 = .ok (.getfield 7, 3) := by decide +kernel
theorem dX0_part_13 : decode cX0_part 13 = .ok (.iload_n 1, 1) := by decide +kernel
theorem dX0_part_14 : decode cX0_part 14 = .ok (.ifCond .ne 7, 3) := by decide +kernel
theorem dX0_part_17 : decode cX0_part 17 = .ok (.iconst 1, 1) := by decide +kernel
theorem dX0_part_18 : decode cX0_part 18 = .ok (.goto 4, 3) := by decide +kernel
theorem dX0_part_21 : decode cX0_part 21 = .ok (.iconst 0, 1) := by decide +kernel
theorem dX0_part_22 : decode cX0_part 22 = .ok (.invokestatic 22, 3) := by decide +kernel
theorem dX0_part_25 : decode cX0_part 25 = .ok (.lreturn, 1) := by decide +kernel
theorem dX0_part_26 : decode cX0_part 26 = .ok (.aload_n 0, 1) := by decide +kernel
theorem dX0_part_27 : decode cX0_part 27 = .ok (.getfield 19, 3) := by decide +kernel
theorem dX0_part_30 : decode cX0_part 30 = .ok (.aload_n 0, 1) := by decide +kernel
theorem dX0_part_31 : decode cX0_part 31 = .ok (.getfield 13, 3) := by decide +kernel
theorem dX0_part_34 : decode cX0_part 34 = .ok (.iload_n 1, 1) := by decide +kernel
theorem dX0_part_35 : decode cX0_part 35 = .ok (.iconst 2, 1) := by decide +kernel
theorem dX0_part_36 : decode cX0_part 36 = .ok (.if_icmp .ne 7, 3) := by decide +kernel
theorem dX0_part_39 : decode cX0_part 39 = .ok (.iconst 1, 1) := by decide +kernel
theorem dX0_part_40 : decode cX0_part 40 = .ok (.goto 4, 3) := by decide +kernel
theorem dX0_part_43 : decode cX0_part 43 = .ok (.iconst 0, 1) := by decide +kernel
theorem dX0_part_44 : decode cX0_part 44 = .ok (.invokestatic 22, 3) := by decide +kernel
theorem dX0_part_47 : decode cX0_part 47 = .ok (.lreturn, 1) := by decide +kernel
set_option maxRecDepth 20000 in
theorem ggX0_lowest_X0_sharedDivisor : GoodIn wsX0_lowest wsX0_sharedDivisor := goodIn_r _ [4] (by decide +kernel) (by decide +kernel)
set_option maxRecDepth 20000 in
theorem gX0_lowest_X0_sharedDivisor : GoodIn wsX0_lowest (va_wsS RX0 26 yX0_sharedDivisor wsX0_sharedDivisor) := goodIn_app (goodIn_of _ (by decide +kernel)) ggX0_lowest_X0_sharedDivisor
theorem dX0_lowest_0 : decode cX0_lowest 0 = .ok (.lload_n 0, 1) := by decide +kernel
theorem dX0_lowest_1 : decode cX0_lowest 1 = .ok (.lload_n 2, 1) := by decide +kernel
theorem dX0_lowest_2 : decode cX0_lowest 2 = .ok (.invokestatic 26, 3) := by decide +kernel
theorem dX0_lowest_5 : decode cX0_lowest 5 = .ok (.lstore 5, 2) := by decide +kernel
theorem dX0_lowest_7 : decode cX0_lowest 7 = .ok (.lload 5, 2) := by decide +kernel
theorem dX0_lowest_9 : decode cX0_lowest 9 = .ok (.lconst 0, 1) := by decide +kernel
theorem dX0_lowest_10 : decode cX0_lowest 10 = .ok (.lcmp, 1) := by decide +kernel
theorem dX0_lowest_11 : decode cX0_lowest 11 = .ok (.ifCond .ne 5, 3) := by decide +kernel
theorem dX0_lowest_14 : decode cX0_lowest 14 = .ok (.lconst 0, 1) := by decide +kernel
theorem dX0_lowest_15 : decode cX0_lowest 15 = .ok (.lreturn, 1) := by decide +kernel
theorem dX0_lowest_16 : decode cX0_lowest 16 = .ok (.iload 4, 2) := by decide +kernel
theorem dX0_lowest_18 : decode cX0_lowest 18 = .ok (.ifCond .eq 7, 3) := by decide +kernel
theorem dX0_lowest_21 : decode cX0_lowest 21 = .ok (.lload_n 0, 1) := by decide +kernel
theorem dX0_lowest_22 : decode cX0_lowest 22 = .ok (.goto 4, 3) := by decide +kernel
theorem dX0_lowest_25 : decode cX0_lowest 25 = .ok (.lload_n 2, 1) := by decide +kernel
theorem dX0_lowest_26 : decode cX0_lowest 26 = .ok (.lload 5, 2) := by decide +kernel
theorem dX0_lowest_28 : decode cX0_lowest 28 = .ok (.ldiv, 1) := by decide +kernel
theorem dX0_lowest_29 : decode cX0_lowest 29 = .ok (.lreturn, 1) := by decide +kernel
theorem dX0_sharedDivisor_0 : decode cX0_sharedDivisor 0 = .ok (.iconst 0, 1) := by decide +kernel
theorem dX0_sharedDivisor_1 : decode cX0_sharedDivisor 1 = .ok (.istore 4, 2) := by decide +kernel
theorem dX0_sharedDivisor_3 : decode cX0_sharedDivisor 3 = .ok (.iload 4, 2) := by decide +kernel
theorem dX0_sharedDivisor_5 : decode cX0_sharedDivisor 5 = .ok (.bipush 100, 2) := by decide +kernel
theorem dX0_sharedDivisor_7 : decode cX0_sharedDivisor 7 = .ok (.if_icmp .ge 25, 3) := by decide +kernel
theorem dX0_sharedDivisor_10 : decode cX0_sharedDivisor 10 = .ok (.lload_n 2, 1) := by decide +kernel
theorem dX0_sharedDivisor_11 : decode cX0_sharedDivisor 11 = .ok (.lconst 0, 1) := by decide +kernel
theorem dX0_sharedDivisor_12 : decode cX0_sharedDivisor 12 = .ok (.lcmp, 1) := by decide +kernel
theorem dX0_sharedDivisor_13 : decode cX0_sharedDivisor 13 = .ok (.ifCond .eq 19, 3) := by decide +kernel
theorem dX0_sharedDivisor_16 : decode cX0_sharedDivisor 16 = .ok (.lload_n 0, 1) := by decide +kernel
theorem dX0_sharedDivisor_17 : decode cX0_sharedDivisor 17 = .ok (.lload_n 2, 1) := by decide +kernel
theorem dX0_sharedDivisor_18 : decode cX0_sharedDivisor 18 = .ok (.lrem, 1) := by decide +kernel
theorem dX0_sharedDivisor_19 : decode cX0_sharedDivisor 19 = .ok (.lstore 5, 2) := by decide +kernel
theorem dX0_sharedDivisor_21 : decode cX0_sharedDivisor 21 = .ok (.lload_n 2, 1) := by decide +kernel
theorem dX0_sharedDivisor_22 : decode cX0_sharedDivisor 22 = .ok (.lstore_n 0, 1) := by decide +kernel
theorem dX0_sharedDivisor_23 : decode cX0_sharedDivisor 23 = .ok (.lload 5, 2) := by decide +kernel
theorem dX0_sharedDivisor_25 : decode cX0_sharedDivisor 25 = .ok (.lstore_n 2, 1) := by decide +kernel
theorem dX0_sharedDivisor_26 : decode cX0_sharedDivisor 26 = .ok (.iinc 4 1, 3) := by decide +kernel
theorem dX0_sharedDivisor_29 : decode cX0_sharedDivisor 29 = .ok (.goto (-26), 3) := by decide +kernel
theorem dX0_sharedDivisor_32 : decode cX0_sharedDivisor 32 = .ok (.lload_n 0, 1) := by decide +kernel
theorem dX0_sharedDivisor_33 : decode cX0_sharedDivisor 33 = .ok (.lreturn, 1) := by decide +kernel
set_option maxRecDepth 20000 in
theorem ggX1_init_X0_init : GoodIn wsX1_init wsX0_init := goodIn_r _ [13, 14, 2, 3, 15, 16, 20, 21, 22, 23] (by decide +kernel) (by decide +kernel)
set_option maxRecDepth 20000 in
theorem gX1_init_X0_init : GoodIn wsX1_init (wsX0_init) := ggX1_init_X0_init
theorem dX1_init_0 : decode cX1_init 0 = .ok (.aload_n 0, 1) := by decide +kernel
theorem dX1_init_1 : decode cX1_init 1 = .ok (.invokespecial 3, 3) := by decide +kernel
theorem dX1_init_4 : decode cX1_init 4 = .ok (.aload_n 0, 1) := by decide +kernel
theorem dX1_init_5 : decode cX1_init 5 = .ok (.bipush 39, 2) := by decide +kernel
theorem dX1_init_7 : decode cX1_init 7 = .ok (.newarray .int, 2) := by decide +kernel
theorem dX1_init_9 : decode cX1_init 9 = .ok (.putfield 11, 3) := by decide +kernel
theorem dX1_init_12 : decode cX1_init 12 = .ok (.aload_n 0, 1) := by decide +kernel
theorem dX1_init_13 : decode cX1_init 13 = .ok (.getfield 11, 3) := by decide +kernel
theorem dX1_init_16 : decode cX1_init 16 = .ok (.bipush 36, 2) := by decide +kernel
theorem dX1_init_18 : decode cX1_init 18 = .ok (.bipush 50, 2) := by decide +kernel
theorem dX1_init_20 : decode cX1_init 20 = .ok (.iastore, 1) := by decide +kernel
theorem dX1_init_21 : decode cX1_init 21 = .ok (.aload_n 0, 1) := by decide +kernel
theorem dX1_init_22 : decode cX1_init 22 = .ok (.getfield 11, 3) := by decide +kernel
theorem dX1_init_25 : decode cX1_init 25 = .ok (.bipush 37, 2) := by decide +kernel
theorem dX1_init_27 : decode cX1_init 27 = .ok (.bipush 12, 2) := by decide +kernel
theorem dX1_init_29 : decode cX1_init 29 = .ok (.iastore, 1) := by decide +kernel
theorem dX1_init_30 : decode cX1_init 30 = .ok (.aload_n 0, 1) := by decide +kernel
theorem dX1_init_31 : decode cX1_init 31 = .ok (.new 15, 3) := by decide +kernel
theorem dX1_init_34 : decode cX1_init 34 = .ok (.dup, 1) := by decide +kernel
theorem dX1_init_35 : decode cX1_init 35 = .ok (.invokespecial 17, 3) := by decide +kernel
theorem dX1_init_38 : decode cX1_init 38 = .ok (.putfield 18, 3) := by decide +kernel
theorem dX1_init_41 : decode cX1_init 41 = .ok (.aload_n 0, 1) := by decide +kernel
theorem dX1_init_42 : decode cX1_init 42 = .ok (.new 15, 3) := by decide +kernel
theorem dX1_init_45 : decode cX1_init 45 = .ok (.dup, 1) := by decide +kernel
theorem dX1_init_46 : decode cX1_init 46 = .ok (.invokespecial 17, 3) := by decide +kernel
theorem dX1_init_49 : decode cX1_init 49 = .ok (.putfield 22, 3) := by decide +kernel
theorem dX1_init_52 : decode cX1_init 52 = .ok (.return_, 1) := by decide +kernel
theorem dX1_others_0 : decode cX1_others 0 = .ok (.aload_n 0, 1) := by decide +kernel
theorem dX1_others_1 : decode cX1_others 1 = .ok (.getfield 11, 3) := by decide +kernel
theorem dX1_others_4 : decode cX1_others 4 = .ok (.bipush 35, 2) := by decide +kernel
theorem dX1_others_6 : decode cX1_others 6 = .ok (.iaload, 1) := by decide +kernel
theorem dX1_others_7 : decode cX1_others 7 = .ok (.ireturn, 1) := by decide +kernel
theorem dX1_isShip_0 : decode cX1_isShip 0 = .ok (.iload_n 1, 1) := by decide +kernel
theorem dX1_isShip_1 : decode cX1_isShip 1 = .ok (.ifCond .lt 18, 3) := by decide +kernel
theorem dX1_isShip_4 : decode cX1_isShip 4 = .ok (.iload_n 1, 1) := by decide +kernel
theorem dX1_isShip_5 : decode cX1_isShip 5 = .ok (.aload_n 0, 1) := by decide +kernel
theorem dX1_isShip_6 : decode cX1_isShip 6 = .ok (.getfield 11, 3) := by decide +kernel
theorem dX1_isShip_9 : decode cX1_isShip 9 = .ok (.bipush 35, 2) := by decide +kernel
theorem dX1_isShip_11 : decode cX1_isShip 11 = .ok (.iaload, 1) := by decide +kernel
theorem dX1_isShip_12 : decode cX1_isShip 12 = .ok (.if_icmp .gt 7, 3) := by decide +kernel
theorem dX1_isShip_15 : decode cX1_isShip 15 = .ok (.iconst 1, 1) := by decide +kernel
theorem dX1_isShip_16 : decode cX1_isShip 16 = .ok (.goto 4, 3) := by decide +kernel
theorem dX1_isShip_19 : decode cX1_isShip 19 = .ok (.iconst 0, 1) := by decide +kernel
theorem dX1_isShip_20 : decode cX1_isShip 20 = .ok (.ireturn, 1) := by decide +kernel
theorem dX1_isOther_0 : decode cX1_isOther 0 = .ok (.iload_n 1, 1) := by decide +kernel
theorem dX1_isOther_1 : decode cX1_isOther 1 = .ok (.ifCond .le 18, 3) := by decide +kernel
theorem dX1_isOther_4 : decode cX1_isOther 4 = .ok (.iload_n 1, 1) := by decide +kernel
theorem dX1_isOther_5 : decode cX1_isOther 5 = .ok (.aload_n 0, 1) := by decide +kernel
theorem dX1_isOther_6 : decode cX1_isOther 6 = .ok (.getfield 11, 3) := by decide +kernel
theorem dX1_isOther_9 : decode cX1_isOther 9 = .ok (.bipush 35, 2) := by decide +kernel
theorem dX1_isOther_11 : decode cX1_isOther 11 = .ok (.iaload, 1) := by decide +kernel
theorem dX1_isOther_12 : decode cX1_isOther 12 = .ok (.if_icmp .gt 7, 3) := by decide +kernel
theorem dX1_isOther_15 : decode cX1_isOther 15 = .ok (.iconst 1, 1) := by decide +kernel
theorem dX1_isOther_16 : decode cX1_isOther 16 = .ok (.goto 4, 3) := by decide +kernel
theorem dX1_isOther_19 : decode cX1_isOther 19 = .ok (.iconst 0, 1) := by decide +kernel
theorem dX1_isOther_20 : decode cX1_isOther 20 = .ok (.ireturn, 1) := by decide +kernel
set_option maxRecDepth 20000 in
theorem ggX1_isPair_X1_isShip : GoodIn wsX1_isPair wsX1_isShip := goodIn_r _ [5, 6, 7, 8, 9] (by decide +kernel) (by decide +kernel)
set_option maxRecDepth 20000 in
theorem gX1_isPair_X1_isShip : GoodIn wsX1_isPair (wsV RX1 25 RX1 yX1_isShip wsX1_isShip) := goodIn_app (goodIn_of _ (by decide +kernel)) ggX1_isPair_X1_isShip
theorem dX1_isPair_0 : decode cX1_isPair 0 = .ok (.aload_n 0, 1) := by decide +kernel
theorem dX1_isPair_1 : decode cX1_isPair 1 = .ok (.iload_n 1, 1) := by decide +kernel
theorem dX1_isPair_2 : decode cX1_isPair 2 = .ok (.invokevirtual 25, 3) := by decide +kernel
theorem dX1_isPair_5 : decode cX1_isPair 5 = .ok (.ifCond .eq 20, 3) := by decide +kernel
theorem dX1_isPair_8 : decode cX1_isPair 8 = .ok (.aload_n 0, 1) := by decide +kernel
theorem dX1_isPair_9 : decode cX1_isPair 9 = .ok (.iload_n 2, 1) := by decide +kernel
theorem dX1_isPair_10 : decode cX1_isPair 10 = .ok (.invokevirtual 25, 3) := by decide +kernel
theorem dX1_isPair_13 : decode cX1_isPair 13 = .ok (.ifCond .eq 12, 3) := by decide +kernel
theorem dX1_isPair_16 : decode cX1_isPair 16 = .ok (.iload_n 1, 1) := by decide +kernel
theorem dX1_isPair_17 : decode cX1_isPair 17 = .ok (.iload_n 2, 1) := by decide +kernel
theorem dX1_isPair_18 : decode cX1_isPair 18 = .ok (.if_icmp .eq 7, 3) := by decide +kernel
theorem dX1_isPair_21 : decode cX1_isPair 21 = .ok (.iconst 1, 1) := by decide +kernel
theorem dX1_isPair_22 : decode cX1_isPair 22 = .ok (.goto 4, 3) := by decide +kernel
theorem dX1_isPair_25 : decode cX1_isPair 25 = .ok (.iconst 0, 1) := by decide +kernel
theorem dX1_isPair_26 : decode cX1_isPair 26 = .ok (.ireturn, 1) := by decide +kernel
theorem dX1_dutyTo_0 : decode cX1_dutyTo 0 = .ok (.aload_n 0, 1) := by decide +kernel
theorem dX1_dutyTo_1 : decode cX1_dutyTo 1 = .ok (.getfield 11, 3) := by decide +kernel
theorem dX1_dutyTo_4 : decode cX1_dutyTo 4 = .ok (.iconst 5, 1) := by decide +kernel
theorem dX1_dutyTo_5 : decode cX1_dutyTo 5 = .ok (.iload_n 1, 1) := by decide +kernel
theorem dX1_dutyTo_6 : decode cX1_dutyTo 6 = .ok (.imul, 1) := by decide +kernel
theorem dX1_dutyTo_7 : decode cX1_dutyTo 7 = .ok (.iconst 4, 1) := by decide +kernel
theorem dX1_dutyTo_8 : decode cX1_dutyTo 8 = .ok (.iadd, 1) := by decide +kernel
theorem dX1_dutyTo_9 : decode cX1_dutyTo 9 = .ok (.iaload, 1) := by decide +kernel
theorem dX1_dutyTo_10 : decode cX1_dutyTo 10 = .ok (.ireturn, 1) := by decide +kernel
theorem dX1_countOf_0 : decode cX1_countOf 0 = .ok (.aload_n 0, 1) := by decide +kernel
theorem dX1_countOf_1 : decode cX1_countOf 1 = .ok (.getfield 11, 3) := by decide +kernel
theorem dX1_countOf_4 : decode cX1_countOf 4 = .ok (.bipush 35, 2) := by decide +kernel
theorem dX1_countOf_6 : decode cX1_countOf 6 = .ok (.iload_n 1, 1) := by decide +kernel
theorem dX1_countOf_7 : decode cX1_countOf 7 = .ok (.iadd, 1) := by decide +kernel
theorem dX1_countOf_8 : decode cX1_countOf 8 = .ok (.iaload, 1) := by decide +kernel
theorem dX1_countOf_9 : decode cX1_countOf 9 = .ok (.ireturn, 1) := by decide +kernel
set_option maxRecDepth 20000 in
theorem ggX1_partOf_X1_eastward : GoodIn wsX1_partOf wsX1_eastward := goodIn_r _ [6, 1, 7, 13, 14, 15] (by decide +kernel) (by decide +kernel)
set_option maxRecDepth 20000 in
theorem gX1_partOf_X1_eastward : GoodIn wsX1_partOf (wsV RX1 29 RX1 yX1_eastward wsX1_eastward) := goodIn_app (goodIn_of _ (by decide +kernel)) ggX1_partOf_X1_eastward
set_option maxRecDepth 20000 in
theorem ggX1_partOf_X1_northward : GoodIn wsX1_partOf wsX1_northward := goodIn_r _ [11, 1, 12, 13, 14, 15] (by decide +kernel) (by decide +kernel)
set_option maxRecDepth 20000 in
theorem gX1_partOf_X1_northward : GoodIn wsX1_partOf (wsV RX1 33 RX1 yX1_northward wsX1_northward) := goodIn_app (goodIn_of _ (by decide +kernel)) ggX1_partOf_X1_northward
theorem dX1_partOf_0 : decode cX1_partOf 0 = .ok (.iload_n 2, 1) := by decide +kernel
theorem dX1_partOf_1 : decode cX1_partOf 1 = .ok (.iconst 4, 1) := by decide +kernel
theorem dX1_partOf_2 : decode cX1_partOf 2 = .ok (.if_icmp .ne 9, 3) := by decide +kernel
theorem dX1_partOf_5 : decode cX1_partOf 5 = .ok (.aload_n 0, 1) := by decide +kernel
theorem dX1_partOf_6 : decode cX1_partOf 6 = .ok (.iload_n 1, 1) := by decide +kernel
theorem dX1_partOf_7 : decode cX1_partOf 7 = .ok (.invokevirtual 29, 3) := by decide +kernel
theorem dX1_partOf_10 : decode cX1_partOf 10 = .ok (.ireturn, 1) := by decide +kernel
theorem dX1_partOf_11 : decode cX1_partOf 11 = .ok (.iload_n 2, 1) := by decide +kernel
theorem dX1_partOf_12 : decode cX1_partOf 12 = .ok (.iconst 5, 1) := by decide +kernel
theorem dX1_partOf_13 : decode cX1_partOf 13 = .ok (.if_icmp .ne 9, 3) := by decide +kernel
theorem dX1_partOf_16 : decode cX1_partOf 16 = .ok (.aload_n 0, 1) := by decide +kernel
theorem dX1_partOf_17 : decode cX1_partOf 17 = .ok (.iload_n 1, 1) := by decide +kernel
theorem dX1_partOf_18 : decode cX1_partOf 18 = .ok (.invokevirtual 33, 3) := by decide +kernel
theorem dX1_partOf_21 : decode cX1_partOf 21 = .ok (.ireturn, 1) := by decide +kernel
theorem dX1_partOf_22 : decode cX1_partOf 22 = .ok (.aload_n 0, 1) := by decide +kernel
theorem dX1_partOf_23 : decode cX1_partOf 23 = .ok (.getfield 11, 3) := by decide +kernel
theorem dX1_partOf_26 : decode cX1_partOf 26 = .ok (.iconst 5, 1) := by decide +kernel
theorem dX1_partOf_27 : decode cX1_partOf 27 = .ok (.iload_n 1, 1) := by decide +kernel
theorem dX1_partOf_28 : decode cX1_partOf 28 = .ok (.imul, 1) := by decide +kernel
theorem dX1_partOf_29 : decode cX1_partOf 29 = .ok (.iload_n 2, 1) := by decide +kernel
theorem dX1_partOf_30 : decode cX1_partOf 30 = .ok (.iadd, 1) := by decide +kernel
theorem dX1_partOf_31 : decode cX1_partOf 31 = .ok (.iaload, 1) := by decide +kernel
theorem dX1_partOf_32 : decode cX1_partOf 32 = .ok (.ireturn, 1) := by decide +kernel
theorem dX1_eastward_0 : decode cX1_eastward 0 = .ok (.aload_n 0, 1) := by decide +kernel
theorem dX1_eastward_1 : decode cX1_eastward 1 = .ok (.getfield 11, 3) := by decide +kernel
theorem dX1_eastward_4 : decode cX1_eastward 4 = .ok (.iconst 5, 1) := by decide +kernel
theorem dX1_eastward_5 : decode cX1_eastward 5 = .ok (.iload_n 1, 1) := by decide +kernel
theorem dX1_eastward_6 : decode cX1_eastward 6 = .ok (.imul, 1) := by decide +kernel
theorem dX1_eastward_7 : decode cX1_eastward 7 = .ok (.iconst 3, 1) := by decide +kernel
theorem dX1_eastward_8 : decode cX1_eastward 8 = .ok (.iadd, 1) := by decide +kernel
theorem dX1_eastward_9 : decode cX1_eastward 9 = .ok (.iaload, 1) := by decide +kernel
theorem dX1_eastward_10 : decode cX1_eastward 10 = .ok (.getstatic 36, 3) := by decide +kernel
theorem dX1_eastward_13 : decode cX1_eastward 13 = .ok (.aload_n 0, 1) := by decide +kernel
theorem dX1_eastward_14 : decode cX1_eastward 14 = .ok (.getfield 11, 3) := by decide +kernel
theorem dX1_eastward_17 : decode cX1_eastward 17 = .ok (.iconst 5, 1) := by decide +kernel
theorem dX1_eastward_18 : decode cX1_eastward 18 = .ok (.iload_n 1, 1) := by decide +kernel
theorem dX1_eastward_19 : decode cX1_eastward 19 = .ok (.imul, 1) := by decide +kernel
theorem dX1_eastward_20 : decode cX1_eastward 20 = .ok (.iconst 2, 1) := by decide +kernel
theorem dX1_eastward_21 : decode cX1_eastward 21 = .ok (.iadd, 1) := by decide +kernel
theorem dX1_eastward_22 : decode cX1_eastward 22 = .ok (.iaload, 1) := by decide +kernel
theorem dX1_eastward_23 : decode cX1_eastward 23 = .ok (.bipush 15, 2) := by decide +kernel
theorem dX1_eastward_25 : decode cX1_eastward 25 = .ok (.iand, 1) := by decide +kernel
theorem dX1_eastward_26 : decode cX1_eastward 26 = .ok (.iaload, 1) := by decide +kernel
theorem dX1_eastward_27 : decode cX1_eastward 27 = .ok (.imul, 1) := by decide +kernel
theorem dX1_eastward_28 : decode cX1_eastward 28 = .ok (.ireturn, 1) := by decide +kernel
theorem dX1_northward_0 : decode cX1_northward 0 = .ok (.aload_n 0, 1) := by decide +kernel
theorem dX1_northward_1 : decode cX1_northward 1 = .ok (.getfield 11, 3) := by decide +kernel
theorem dX1_northward_4 : decode cX1_northward 4 = .ok (.iconst 5, 1) := by decide +kernel
theorem dX1_northward_5 : decode cX1_northward 5 = .ok (.iload_n 1, 1) := by decide +kernel
theorem dX1_northward_6 : decode cX1_northward 6 = .ok (.imul, 1) := by decide +kernel
theorem dX1_northward_7 : decode cX1_northward 7 = .ok (.iconst 3, 1) := by decide +kernel
theorem dX1_northward_8 : decode cX1_northward 8 = .ok (.iadd, 1) := by decide +kernel
theorem dX1_northward_9 : decode cX1_northward 9 = .ok (.iaload, 1) := by decide +kernel
theorem dX1_northward_10 : decode cX1_northward 10 = .ok (.getstatic 39, 3) := by decide +kernel
theorem dX1_northward_13 : decode cX1_northward 13 = .ok (.aload_n 0, 1) := by decide +kernel
theorem dX1_northward_14 : decode cX1_northward 14 = .ok (.getfield 11, 3) := by decide +kernel
theorem dX1_northward_17 : decode cX1_northward 17 = .ok (.iconst 5, 1) := by decide +kernel
theorem dX1_northward_18 : decode cX1_northward 18 = .ok (.iload_n 1, 1) := by decide +kernel
theorem dX1_northward_19 : decode cX1_northward 19 = .ok (.imul, 1) := by decide +kernel
theorem dX1_northward_20 : decode cX1_northward 20 = .ok (.iconst 2, 1) := by decide +kernel
theorem dX1_northward_21 : decode cX1_northward 21 = .ok (.iadd, 1) := by decide +kernel
theorem dX1_northward_22 : decode cX1_northward 22 = .ok (.iaload, 1) := by decide +kernel
theorem dX1_northward_23 : decode cX1_northward 23 = .ok (.bipush 15, 2) := by decide +kernel
theorem dX1_northward_25 : decode cX1_northward 25 = .ok (.iand, 1) := by decide +kernel
theorem dX1_northward_26 : decode cX1_northward 26 = .ok (.iaload, 1) := by decide +kernel
theorem dX1_northward_27 : decode cX1_northward 27 = .ok (.imul, 1) := by decide +kernel
theorem dX1_northward_28 : decode cX1_northward 28 = .ok (.ireturn, 1) := by decide +kernel
set_option maxRecDepth 20000 in
theorem ggX1_join_X1_isPlace : GoodIn wsX1_join wsX1_isPlace := goodIn_r _ [5] (by decide +kernel) (by decide +kernel)
set_option maxRecDepth 20000 in
theorem gX1_join_X1_isPlace : GoodIn wsX1_join (va_wsS RX1 42 yX1_isPlace wsX1_isPlace) := goodIn_app (goodIn_of _ (by decide +kernel)) ggX1_join_X1_isPlace
set_option maxRecDepth 20000 in
theorem ggX1_join_X4_isCourse : GoodIn wsX1_join wsX4_isCourse := goodIn_r _ [8] (by decide +kernel) (by decide +kernel)
set_option maxRecDepth 20000 in
theorem gX1_join_X4_isCourse_n45 : GoodIn wsX1_join (wsX4_isCourse) := ggX1_join_X4_isCourse
set_option maxRecDepth 20000 in
theorem ggX1_join_X1_put : GoodIn wsX1_join wsX1_put := goodIn_r _ [12, 1, 13, 14, 15] (by decide +kernel) (by decide +kernel)
set_option maxRecDepth 20000 in
theorem gX1_join_X1_put : GoodIn wsX1_join (wsV RX1 49 RX1 yX1_put wsX1_put) := goodIn_app (goodIn_of _ (by decide +kernel)) ggX1_join_X1_put
theorem dX1_join_0 : decode cX1_join 0 = .ok (.iload_n 1, 1) := by decide +kernel
theorem dX1_join_1 : decode cX1_join 1 = .ok (.invokestatic 42, 3) := by decide +kernel
theorem dX1_join_4 : decode cX1_join 4 = .ok (.ifCond .eq 19, 3) := by decide +kernel
theorem dX1_join_7 : decode cX1_join 7 = .ok (.iload_n 2, 1) := by decide +kernel
theorem dX1_join_8 : decode cX1_join 8 = .ok (.invokestatic 42, 3) := by decide +kernel
theorem dX1_join_11 : decode cX1_join 11 = .ok (.ifCond .eq 12, 3) := by decide +kernel
theorem dX1_join_14 : decode cX1_join 14 = .ok (.iload_n 3, 1) := by decide +kernel
theorem dX1_join_15 : decode cX1_join 15 = .ok (.iload 4, 2) := by decide +kernel
theorem dX1_join_17 : decode cX1_join 17 = .ok (.invokestatic 45, 3) := by decide +kernel
theorem dX1_join_20 : decode cX1_join 20 = .ok (.ifCond .ne 7, 3) := by decide +kernel
theorem dX1_join_23 : decode cX1_join 23 = .ok (.sipush (-10002), 3) := by decide +kernel
theorem dX1_join_26 : decode cX1_join 26 = .ok (.ireturn, 1) := by decide +kernel
theorem dX1_join_27 : decode cX1_join 27 = .ok (.aload_n 0, 1) := by decide +kernel
theorem dX1_join_28 : decode cX1_join 28 = .ok (.getfield 11, 3) := by decide +kernel
theorem dX1_join_31 : decode cX1_join 31 = .ok (.bipush 35, 2) := by decide +kernel
theorem dX1_join_33 : decode cX1_join 33 = .ok (.iaload, 1) := by decide +kernel
theorem dX1_join_34 : decode cX1_join 34 = .ok (.iconst 1, 1) := by decide +kernel
theorem dX1_join_35 : decode cX1_join 35 = .ok (.iadd, 1) := by decide +kernel
theorem dX1_join_36 : decode cX1_join 36 = .ok (.bipush 7, 2) := by decide +kernel
theorem dX1_join_38 : decode cX1_join 38 = .ok (.if_icmp .lt 7, 3) := by decide +kernel
theorem dX1_join_41 : decode cX1_join 41 = .ok (.sipush (-10004), 3) := by decide +kernel
theorem dX1_join_44 : decode cX1_join 44 = .ok (.ireturn, 1) := by decide +kernel
theorem dX1_join_45 : decode cX1_join 45 = .ok (.aload_n 0, 1) := by decide +kernel
theorem dX1_join_46 : decode cX1_join 46 = .ok (.getfield 11, 3) := by decide +kernel
theorem dX1_join_49 : decode cX1_join 49 = .ok (.bipush 35, 2) := by decide +kernel
theorem dX1_join_51 : decode cX1_join 51 = .ok (.dup2, 1) := by decide +kernel
theorem dX1_join_52 : decode cX1_join 52 = .ok (.iaload, 1) := by decide +kernel
theorem dX1_join_53 : decode cX1_join 53 = .ok (.iconst 1, 1) := by decide +kernel
theorem dX1_join_54 : decode cX1_join 54 = .ok (.iadd, 1) := by decide +kernel
theorem dX1_join_55 : decode cX1_join 55 = .ok (.iastore, 1) := by decide +kernel
theorem dX1_join_56 : decode cX1_join 56 = .ok (.aload_n 0, 1) := by decide +kernel
theorem dX1_join_57 : decode cX1_join 57 = .ok (.aload_n 0, 1) := by decide +kernel
theorem dX1_join_58 : decode cX1_join 58 = .ok (.getfield 11, 3) := by decide +kernel
theorem dX1_join_61 : decode cX1_join 61 = .ok (.bipush 35, 2) := by decide +kernel
theorem dX1_join_63 : decode cX1_join 63 = .ok (.iaload, 1) := by decide +kernel
theorem dX1_join_64 : decode cX1_join 64 = .ok (.iload_n 1, 1) := by decide +kernel
theorem dX1_join_65 : decode cX1_join 65 = .ok (.iload_n 2, 1) := by decide +kernel
theorem dX1_join_66 : decode cX1_join 66 = .ok (.iload_n 3, 1) := by decide +kernel
theorem dX1_join_67 : decode cX1_join 67 = .ok (.iload 4, 2) := by decide +kernel
theorem dX1_join_69 : decode cX1_join 69 = .ok (.invokevirtual 49, 3) := by decide +kernel
theorem dX1_join_72 : decode cX1_join 72 = .ok (.aload_n 0, 1) := by decide +kernel
theorem dX1_join_73 : decode cX1_join 73 = .ok (.getfield 11, 3) := by decide +kernel
theorem dX1_join_76 : decode cX1_join 76 = .ok (.bipush 35, 2) := by decide +kernel
theorem dX1_join_78 : decode cX1_join 78 = .ok (.iaload, 1) := by decide +kernel
theorem dX1_join_79 : decode cX1_join 79 = .ok (.ireturn, 1) := by decide +kernel
set_option maxRecDepth 20000 in
theorem ggX1_placeOwn_X1_isPlace : GoodIn wsX1_placeOwn wsX1_isPlace := goodIn_r _ [5] (by decide +kernel) (by decide +kernel)
set_option maxRecDepth 20000 in
theorem gX1_placeOwn_X1_isPlace : GoodIn wsX1_placeOwn (va_wsS RX1 42 yX1_isPlace wsX1_isPlace) := goodIn_app (goodIn_of _ (by decide +kernel)) ggX1_placeOwn_X1_isPlace
set_option maxRecDepth 20000 in
theorem ggX1_placeOwn_X4_isCourse : GoodIn wsX1_placeOwn wsX4_isCourse := goodIn_r _ [8] (by decide +kernel) (by decide +kernel)
set_option maxRecDepth 20000 in
theorem gX1_placeOwn_X4_isCourse_n45 : GoodIn wsX1_placeOwn (wsX4_isCourse) := ggX1_placeOwn_X4_isCourse
set_option maxRecDepth 20000 in
theorem ggX1_placeOwn_X1_put : GoodIn wsX1_placeOwn wsX1_put := goodIn_r _ [12, 1, 13, 14, 15] (by decide +kernel) (by decide +kernel)
set_option maxRecDepth 20000 in
theorem gX1_placeOwn_X1_put : GoodIn wsX1_placeOwn (wsV RX1 49 RX1 yX1_put wsX1_put) := goodIn_app (goodIn_of _ (by decide +kernel)) ggX1_placeOwn_X1_put
theorem dX1_placeOwn_0 : decode cX1_placeOwn 0 = .ok (.iload_n 1, 1) := by decide +kernel
theorem dX1_placeOwn_1 : decode cX1_placeOwn 1 = .ok (.invokestatic 42, 3) := by decide +kernel
theorem dX1_placeOwn_4 : decode cX1_placeOwn 4 = .ok (.ifCond .eq 19, 3) := by decide +kernel
theorem dX1_placeOwn_7 : decode cX1_placeOwn 7 = .ok (.iload_n 2, 1) := by decide +kernel
theorem dX1_placeOwn_8 : decode cX1_placeOwn 8 = .ok (.invokestatic 42, 3) := by decide +kernel
theorem dX1_placeOwn_11 : decode cX1_placeOwn 11 = .ok (.ifCond .eq 12, 3) := by decide +kernel
theorem dX1_placeOwn_14 : decode cX1_placeOwn 14 = .ok (.iload_n 3, 1) := by decide +kernel
theorem dX1_placeOwn_15 : decode cX1_placeOwn 15 = .ok (.iload 4, 2) := by decide +kernel
theorem dX1_placeOwn_17 : decode cX1_placeOwn 17 = .ok (.invokestatic 45, 3) := by decide +kernel
theorem dX1_placeOwn_20 : decode cX1_placeOwn 20 = .ok (.ifCond .ne 7, 3) := by decide +kernel
theorem dX1_placeOwn_23 : decode cX1_placeOwn 23 = .ok (.sipush (-10002), 3) := by decide +kernel
theorem dX1_placeOwn_26 : decode cX1_placeOwn 26 = .ok (.ireturn, 1) := by decide +kernel
theorem dX1_placeOwn_27 : decode cX1_placeOwn 27 = .ok (.aload_n 0, 1) := by decide +kernel
theorem dX1_placeOwn_28 : decode cX1_placeOwn 28 = .ok (.iconst 0, 1) := by decide +kernel
theorem dX1_placeOwn_29 : decode cX1_placeOwn 29 = .ok (.iload_n 1, 1) := by decide +kernel
theorem dX1_placeOwn_30 : decode cX1_placeOwn 30 = .ok (.iload_n 2, 1) := by decide +kernel
theorem dX1_placeOwn_31 : decode cX1_placeOwn 31 = .ok (.iload_n 3, 1) := by decide +kernel
theorem dX1_placeOwn_32 : decode cX1_placeOwn 32 = .ok (.iload 4, 2) := by decide +kernel
theorem dX1_placeOwn_34 : decode cX1_placeOwn 34 = .ok (.invokevirtual 49, 3) := by decide +kernel
theorem dX1_placeOwn_37 : decode cX1_placeOwn 37 = .ok (.iconst 1, 1) := by decide +kernel
theorem dX1_placeOwn_38 : decode cX1_placeOwn 38 = .ok (.istore 5, 2) := by decide +kernel
theorem dX1_placeOwn_40 : decode cX1_placeOwn 40 = .ok (.iload 5, 2) := by decide +kernel
theorem dX1_placeOwn_42 : decode cX1_placeOwn 42 = .ok (.aload_n 0, 1) := by decide +kernel
theorem dX1_placeOwn_43 : decode cX1_placeOwn 43 = .ok (.getfield 11, 3) := by decide +kernel
theorem dX1_placeOwn_46 : decode cX1_placeOwn 46 = .ok (.bipush 35, 2) := by decide +kernel
theorem dX1_placeOwn_48 : decode cX1_placeOwn 48 = .ok (.iaload, 1) := by decide +kernel
theorem dX1_placeOwn_49 : decode cX1_placeOwn 49 = .ok (.if_icmp .gt 21, 3) := by decide +kernel
theorem dX1_placeOwn_52 : decode cX1_placeOwn 52 = .ok (.aload_n 0, 1) := by decide +kernel
theorem dX1_placeOwn_53 : decode cX1_placeOwn 53 = .ok (.getfield 11, 3) := by decide +kernel
theorem dX1_placeOwn_56 : decode cX1_placeOwn 56 = .ok (.iconst 5, 1) := by decide +kernel
theorem dX1_placeOwn_57 : decode cX1_placeOwn 57 = .ok (.iload 5, 2) := by decide +kernel
theorem dX1_placeOwn_59 : decode cX1_placeOwn 59 = .ok (.imul, 1) := by decide +kernel
theorem dX1_placeOwn_60 : decode cX1_placeOwn 60 = .ok (.iconst 4, 1) := by decide +kernel
theorem dX1_placeOwn_61 : decode cX1_placeOwn 61 = .ok (.iadd, 1) := by decide +kernel
theorem dX1_placeOwn_62 : decode cX1_placeOwn 62 = .ok (.iconst 0, 1) := by decide +kernel
theorem dX1_placeOwn_63 : decode cX1_placeOwn 63 = .ok (.iastore, 1) := by decide +kernel
theorem dX1_placeOwn_64 : decode cX1_placeOwn 64 = .ok (.iinc 5 1, 3) := by decide +kernel
theorem dX1_placeOwn_67 : decode cX1_placeOwn 67 = .ok (.goto (-27), 3) := by decide +kernel
theorem dX1_placeOwn_70 : decode cX1_placeOwn 70 = .ok (.aload_n 0, 1) := by decide +kernel
theorem dX1_placeOwn_71 : decode cX1_placeOwn 71 = .ok (.getfield 11, 3) := by decide +kernel
theorem dX1_placeOwn_74 : decode cX1_placeOwn 74 = .ok (.bipush 38, 2) := by decide +kernel
theorem dX1_placeOwn_76 : decode cX1_placeOwn 76 = .ok (.iconst 0, 1) := by decide +kernel
theorem dX1_placeOwn_77 : decode cX1_placeOwn 77 = .ok (.iastore, 1) := by decide +kernel
theorem dX1_placeOwn_78 : decode cX1_placeOwn 78 = .ok (.aload_n 0, 1) := by decide +kernel
theorem dX1_placeOwn_79 : decode cX1_placeOwn 79 = .ok (.getfield 11, 3) := by decide +kernel
theorem dX1_placeOwn_82 : decode cX1_placeOwn 82 = .ok (.bipush 35, 2) := by decide +kernel
theorem dX1_placeOwn_84 : decode cX1_placeOwn 84 = .ok (.iaload, 1) := by decide +kernel
theorem dX1_placeOwn_85 : decode cX1_placeOwn 85 = .ok (.ireturn, 1) := by decide +kernel
theorem dX1_put_0 : decode cX1_put 0 = .ok (.iconst 5, 1) := by decide +kernel
theorem dX1_put_1 : decode cX1_put 1 = .ok (.iload_n 1, 1) := by decide +kernel
theorem dX1_put_2 : decode cX1_put 2 = .ok (.imul, 1) := by decide +kernel
theorem dX1_put_3 : decode cX1_put 3 = .ok (.istore 6, 2) := by decide +kernel
theorem dX1_put_5 : decode cX1_put 5 = .ok (.aload_n 0, 1) := by decide +kernel
theorem dX1_put_6 : decode cX1_put 6 = .ok (.getfield 11, 3) := by decide +kernel
theorem dX1_put_9 : decode cX1_put 9 = .ok (.iload 6, 2) := by decide +kernel
theorem dX1_put_11 : decode cX1_put 11 = .ok (.iconst 0, 1) := by decide +kernel
theorem dX1_put_12 : decode cX1_put 12 = .ok (.iadd, 1) := by decide +kernel
theorem dX1_put_13 : decode cX1_put 13 = .ok (.iload_n 2, 1) := by decide +kernel
theorem dX1_put_14 : decode cX1_put 14 = .ok (.iastore, 1) := by decide +kernel
theorem dX1_put_15 : decode cX1_put 15 = .ok (.aload_n 0, 1) := by decide +kernel
theorem dX1_put_16 : decode cX1_put 16 = .ok (.getfield 11, 3) := by decide +kernel
theorem dX1_put_19 : decode cX1_put 19 = .ok (.iload 6, 2) := by decide +kernel
theorem dX1_put_21 : decode cX1_put 21 = .ok (.iconst 1, 1) := by decide +kernel
theorem dX1_put_22 : decode cX1_put 22 = .ok (.iadd, 1) := by decide +kernel
theorem dX1_put_23 : decode cX1_put 23 = .ok (.iload_n 3, 1) := by decide +kernel
theorem dX1_put_24 : decode cX1_put 24 = .ok (.iastore, 1) := by decide +kernel
theorem dX1_put_25 : decode cX1_put 25 = .ok (.aload_n 0, 1) := by decide +kernel
theorem dX1_put_26 : decode cX1_put 26 = .ok (.getfield 11, 3) := by decide +kernel
theorem dX1_put_29 : decode cX1_put 29 = .ok (.iload 6, 2) := by decide +kernel
theorem dX1_put_31 : decode cX1_put 31 = .ok (.iconst 2, 1) := by decide +kernel
theorem dX1_put_32 : decode cX1_put 32 = .ok (.iadd, 1) := by decide +kernel
theorem dX1_put_33 : decode cX1_put 33 = .ok (.iload 4, 2) := by decide +kernel
theorem dX1_put_35 : decode cX1_put 35 = .ok (.iastore, 1) := by decide +kernel
theorem dX1_put_36 : decode cX1_put 36 = .ok (.aload_n 0, 1) := by decide +kernel
theorem dX1_put_37 : decode cX1_put 37 = .ok (.getfield 11, 3) := by decide +kernel
theorem dX1_put_40 : decode cX1_put 40 = .ok (.iload 6, 2) := by decide +kernel
theorem dX1_put_42 : decode cX1_put 42 = .ok (.iconst 3, 1) := by decide +kernel
theorem dX1_put_43 : decode cX1_put 43 = .ok (.iadd, 1) := by decide +kernel
theorem dX1_put_44 : decode cX1_put 44 = .ok (.iload 5, 2) := by decide +kernel
theorem dX1_put_46 : decode cX1_put 46 = .ok (.iastore, 1) := by decide +kernel
theorem dX1_put_47 : decode cX1_put 47 = .ok (.aload_n 0, 1) := by decide +kernel
theorem dX1_put_48 : decode cX1_put 48 = .ok (.getfield 11, 3) := by decide +kernel
theorem dX1_put_51 : decode cX1_put 51 = .ok (.iload 6, 2) := by decide +kernel
theorem dX1_put_53 : decode cX1_put 53 = .ok (.iconst 4, 1) := by decide +kernel
theorem dX1_put_54 : decode cX1_put 54 = .ok (.iadd, 1) := by decide +kernel
theorem dX1_put_55 : decode cX1_put 55 = .ok (.iconst 0, 1) := by decide +kernel
theorem dX1_put_56 : decode cX1_put 56 = .ok (.iastore, 1) := by decide +kernel
theorem dX1_put_57 : decode cX1_put 57 = .ok (.return_, 1) := by decide +kernel
set_option maxRecDepth 20000 in
theorem ggX1_leave_X1_isOther : GoodIn wsX1_leave wsX1_isOther := goodIn_r _ [10, 1, 11, 12, 13] (by decide +kernel) (by decide +kernel)
set_option maxRecDepth 20000 in
theorem gX1_leave_X1_isOther : GoodIn wsX1_leave (wsV RX1 53 RX1 yX1_isOther wsX1_isOther) := goodIn_app (goodIn_of _ (by decide +kernel)) ggX1_leave_X1_isOther
theorem dX1_leave_0 : decode cX1_leave 0 = .ok (.aload_n 0, 1) := by decide +kernel
theorem dX1_leave_1 : decode cX1_leave 1 = .ok (.iload_n 1, 1) := by decide +kernel
theorem dX1_leave_2 : decode cX1_leave 2 = .ok (.invokevirtual 53, 3) := by decide +kernel
theorem dX1_leave_5 : decode cX1_leave 5 = .ok (.ifCond .ne 7, 3) := by decide +kernel
theorem dX1_leave_8 : decode cX1_leave 8 = .ok (.sipush (-10002), 3) := by decide +kernel
theorem dX1_leave_11 : decode cX1_leave 11 = .ok (.ireturn, 1) := by decide +kernel
theorem dX1_leave_12 : decode cX1_leave 12 = .ok (.aload_n 0, 1) := by decide +kernel
theorem dX1_leave_13 : decode cX1_leave 13 = .ok (.getfield 11, 3) := by decide +kernel
theorem dX1_leave_16 : decode cX1_leave 16 = .ok (.bipush 35, 2) := by decide +kernel
theorem dX1_leave_18 : decode cX1_leave 18 = .ok (.iaload, 1) := by decide +kernel
theorem dX1_leave_19 : decode cX1_leave 19 = .ok (.iload_n 1, 1) := by decide +kernel
theorem dX1_leave_20 : decode cX1_leave 20 = .ok (.isub, 1) := by decide +kernel
theorem dX1_leave_21 : decode cX1_leave 21 = .ok (.istore_n 2, 1) := by decide +kernel
theorem dX1_leave_22 : decode cX1_leave 22 = .ok (.aload_n 0, 1) := by decide +kernel
theorem dX1_leave_23 : decode cX1_leave 23 = .ok (.getfield 11, 3) := by decide +kernel
theorem dX1_leave_26 : decode cX1_leave 26 = .ok (.iconst 5, 1) := by decide +kernel
theorem dX1_leave_27 : decode cX1_leave 27 = .ok (.iload_n 1, 1) := by decide +kernel
theorem dX1_leave_28 : decode cX1_leave 28 = .ok (.iconst 1, 1) := by decide +kernel
theorem dX1_leave_29 : decode cX1_leave 29 = .ok (.iadd, 1) := by decide +kernel
theorem dX1_leave_30 : decode cX1_leave 30 = .ok (.imul, 1) := by decide +kernel
theorem dX1_leave_31 : decode cX1_leave 31 = .ok (.aload_n 0, 1) := by decide +kernel
theorem dX1_leave_32 : decode cX1_leave 32 = .ok (.getfield 11, 3) := by decide +kernel
theorem dX1_leave_35 : decode cX1_leave 35 = .ok (.iconst 5, 1) := by decide +kernel
theorem dX1_leave_36 : decode cX1_leave 36 = .ok (.iload_n 1, 1) := by decide +kernel
theorem dX1_leave_37 : decode cX1_leave 37 = .ok (.imul, 1) := by decide +kernel
theorem dX1_leave_38 : decode cX1_leave 38 = .ok (.iconst 5, 1) := by decide +kernel
theorem dX1_leave_39 : decode cX1_leave 39 = .ok (.iload_n 2, 1) := by decide +kernel
theorem dX1_leave_40 : decode cX1_leave 40 = .ok (.imul, 1) := by decide +kernel
theorem dX1_leave_41 : decode cX1_leave 41 = .ok (.invokestatic 56, 3) := by decide +kernel
theorem dX1_leave_44 : decode cX1_leave 44 = .ok (.aload_n 0, 1) := by decide +kernel
theorem dX1_leave_45 : decode cX1_leave 45 = .ok (.getfield 11, 3) := by decide +kernel
theorem dX1_leave_48 : decode cX1_leave 48 = .ok (.bipush 35, 2) := by decide +kernel
theorem dX1_leave_50 : decode cX1_leave 50 = .ok (.dup2, 1) := by decide +kernel
theorem dX1_leave_51 : decode cX1_leave 51 = .ok (.iaload, 1) := by decide +kernel
theorem dX1_leave_52 : decode cX1_leave 52 = .ok (.iconst 1, 1) := by decide +kernel
theorem dX1_leave_53 : decode cX1_leave 53 = .ok (.isub, 1) := by decide +kernel
theorem dX1_leave_54 : decode cX1_leave 54 = .ok (.iastore, 1) := by decide +kernel
theorem dX1_leave_55 : decode cX1_leave 55 = .ok (.aload_n 0, 1) := by decide +kernel
theorem dX1_leave_56 : decode cX1_leave 56 = .ok (.getfield 11, 3) := by decide +kernel
theorem dX1_leave_59 : decode cX1_leave 59 = .ok (.bipush 35, 2) := by decide +kernel
theorem dX1_leave_61 : decode cX1_leave 61 = .ok (.iaload, 1) := by decide +kernel
theorem dX1_leave_62 : decode cX1_leave 62 = .ok (.ireturn, 1) := by decide +kernel
set_option maxRecDepth 20000 in
theorem ggX1_steer_X1_isShip : GoodIn wsX1_steer wsX1_isShip := goodIn_r _ [6, 1, 10, 11, 12] (by decide +kernel) (by decide +kernel)
set_option maxRecDepth 20000 in
theorem gX1_steer_X1_isShip : GoodIn wsX1_steer (wsV RX1 25 RX1 yX1_isShip wsX1_isShip) := goodIn_app (goodIn_of _ (by decide +kernel)) ggX1_steer_X1_isShip
set_option maxRecDepth 20000 in
theorem ggX1_steer_X4_isCourse : GoodIn wsX1_steer wsX4_isCourse := goodIn_r _ [9] (by decide +kernel) (by decide +kernel)
set_option maxRecDepth 20000 in
theorem gX1_steer_X4_isCourse_n45 : GoodIn wsX1_steer (wsX4_isCourse) := ggX1_steer_X4_isCourse
theorem dX1_steer_0 : decode cX1_steer 0 = .ok (.aload_n 0, 1) := by decide +kernel
theorem dX1_steer_1 : decode cX1_steer 1 = .ok (.iload_n 1, 1) := by decide +kernel
theorem dX1_steer_2 : decode cX1_steer 2 = .ok (.invokevirtual 25, 3) := by decide +kernel
theorem dX1_steer_5 : decode cX1_steer 5 = .ok (.ifCond .eq 11, 3) := by decide +kernel
theorem dX1_steer_8 : decode cX1_steer 8 = .ok (.iload_n 2, 1) := by decide +kernel
theorem dX1_steer_9 : decode cX1_steer 9 = .ok (.iload_n 3, 1) := by decide +kernel
theorem dX1_steer_10 : decode cX1_steer 10 = .ok (.invokestatic 45, 3) := by decide +kernel
theorem dX1_steer_13 : decode cX1_steer 13 = .ok (.ifCond .ne 7, 3) := by decide +kernel
theorem dX1_steer_16 : decode cX1_steer 16 = .ok (.sipush (-10002), 3) := by decide +kernel
theorem dX1_steer_19 : decode cX1_steer 19 = .ok (.ireturn, 1) := by decide +kernel
theorem dX1_steer_20 : decode cX1_steer 20 = .ok (.bipush 16, 2) := by decide +kernel
theorem dX1_steer_22 : decode cX1_steer 22 = .ok (.aload_n 0, 1) := by decide +kernel
theorem dX1_steer_23 : decode cX1_steer 23 = .ok (.getfield 11, 3) := by decide +kernel
theorem dX1_steer_26 : decode cX1_steer 26 = .ok (.iconst 5, 1) := by decide +kernel
theorem dX1_steer_27 : decode cX1_steer 27 = .ok (.iload_n 1, 1) := by decide +kernel
theorem dX1_steer_28 : decode cX1_steer 28 = .ok (.imul, 1) := by decide +kernel
theorem dX1_steer_29 : decode cX1_steer 29 = .ok (.iconst 3, 1) := by decide +kernel
theorem dX1_steer_30 : decode cX1_steer 30 = .ok (.iadd, 1) := by decide +kernel
theorem dX1_steer_31 : decode cX1_steer 31 = .ok (.iaload, 1) := by decide +kernel
theorem dX1_steer_32 : decode cX1_steer 32 = .ok (.imul, 1) := by decide +kernel
theorem dX1_steer_33 : decode cX1_steer 33 = .ok (.aload_n 0, 1) := by decide +kernel
theorem dX1_steer_34 : decode cX1_steer 34 = .ok (.getfield 11, 3) := by decide +kernel
theorem dX1_steer_37 : decode cX1_steer 37 = .ok (.iconst 5, 1) := by decide +kernel
theorem dX1_steer_38 : decode cX1_steer 38 = .ok (.iload_n 1, 1) := by decide +kernel
theorem dX1_steer_39 : decode cX1_steer 39 = .ok (.imul, 1) := by decide +kernel
theorem dX1_steer_40 : decode cX1_steer 40 = .ok (.iconst 2, 1) := by decide +kernel
theorem dX1_steer_41 : decode cX1_steer 41 = .ok (.iadd, 1) := by decide +kernel
theorem dX1_steer_42 : decode cX1_steer 42 = .ok (.iaload, 1) := by decide +kernel
theorem dX1_steer_43 : decode cX1_steer 43 = .ok (.iadd, 1) := by decide +kernel
theorem dX1_steer_44 : decode cX1_steer 44 = .ok (.istore 4, 2) := by decide +kernel
theorem dX1_steer_46 : decode cX1_steer 46 = .ok (.aload_n 0, 1) := by decide +kernel
theorem dX1_steer_47 : decode cX1_steer 47 = .ok (.getfield 11, 3) := by decide +kernel
theorem dX1_steer_50 : decode cX1_steer 50 = .ok (.iconst 5, 1) := by decide +kernel
theorem dX1_steer_51 : decode cX1_steer 51 = .ok (.iload_n 1, 1) := by decide +kernel
theorem dX1_steer_52 : decode cX1_steer 52 = .ok (.imul, 1) := by decide +kernel
theorem dX1_steer_53 : decode cX1_steer 53 = .ok (.iconst 2, 1) := by decide +kernel
theorem dX1_steer_54 : decode cX1_steer 54 = .ok (.iadd, 1) := by decide +kernel
theorem dX1_steer_55 : decode cX1_steer 55 = .ok (.iload_n 2, 1) := by decide +kernel
theorem dX1_steer_56 : decode cX1_steer 56 = .ok (.iastore, 1) := by decide +kernel
theorem dX1_steer_57 : decode cX1_steer 57 = .ok (.aload_n 0, 1) := by decide +kernel
theorem dX1_steer_58 : decode cX1_steer 58 = .ok (.getfield 11, 3) := by decide +kernel
theorem dX1_steer_61 : decode cX1_steer 61 = .ok (.iconst 5, 1) := by decide +kernel
theorem dX1_steer_62 : decode cX1_steer 62 = .ok (.iload_n 1, 1) := by decide +kernel
theorem dX1_steer_63 : decode cX1_steer 63 = .ok (.imul, 1) := by decide +kernel
theorem dX1_steer_64 : decode cX1_steer 64 = .ok (.iconst 3, 1) := by decide +kernel
theorem dX1_steer_65 : decode cX1_steer 65 = .ok (.iadd, 1) := by decide +kernel
theorem dX1_steer_66 : decode cX1_steer 66 = .ok (.iload_n 3, 1) := by decide +kernel
theorem dX1_steer_67 : decode cX1_steer 67 = .ok (.iastore, 1) := by decide +kernel
theorem dX1_steer_68 : decode cX1_steer 68 = .ok (.iload 4, 2) := by decide +kernel
theorem dX1_steer_70 : decode cX1_steer 70 = .ok (.ireturn, 1) := by decide +kernel
theorem dX1_setRule_0 : decode cX1_setRule 0 = .ok (.iload_n 1, 1) := by decide +kernel
theorem dX1_setRule_1 : decode cX1_setRule 1 = .ok (.ifCond .lt 29, 3) := by decide +kernel
theorem dX1_setRule_4 : decode cX1_setRule 4 = .ok (.iload_n 1, 1) := by decide +kernel
theorem dX1_setRule_5 : decode cX1_setRule 5 = .ok (.iconst 1, 1) := by decide +kernel
theorem dX1_setRule_6 : decode cX1_setRule 6 = .ok (.if_icmp .gt 24, 3) := by decide +kernel
theorem dX1_setRule_9 : decode cX1_setRule 9 = .ok (.iload_n 2, 1) := by decide +kernel
theorem dX1_setRule_10 : decode cX1_setRule 10 = .ok (.iconst 1, 1) := by decide +kernel
theorem dX1_setRule_11 : decode cX1_setRule 11 = .ok (.if_icmp .lt 19, 3) := by decide +kernel
theorem dX1_setRule_14 : decode cX1_setRule 14 = .ok (.iload_n 2, 1) := by decide +kernel
theorem dX1_setRule_15 : decode cX1_setRule 15 = .ok (.iload_n 1, 1) := by decide +kernel
theorem dX1_setRule_16 : decode cX1_setRule 16 = .ok (.ifCond .ne 9, 3) := by decide +kernel
theorem dX1_setRule_19 : decode cX1_setRule 19 = .ok (.sipush 999, 3) := by decide +kernel
theorem dX1_setRule_22 : decode cX1_setRule 22 = .ok (.goto 5, 3) := by decide +kernel
theorem dX1_setRule_25 : decode cX1_setRule 25 = .ok (.bipush 99, 2) := by decide +kernel
theorem dX1_setRule_27 : decode cX1_setRule 27 = .ok (.if_icmp .le 7, 3) := by decide +kernel
theorem dX1_setRule_30 : decode cX1_setRule 30 = .ok (.sipush (-10002), 3) := by decide +kernel
theorem dX1_setRule_33 : decode cX1_setRule 33 = .ok (.ireturn, 1) := by decide +kernel
theorem dX1_setRule_34 : decode cX1_setRule 34 = .ok (.aload_n 0, 1) := by decide +kernel
theorem dX1_setRule_35 : decode cX1_setRule 35 = .ok (.getfield 11, 3) := by decide +kernel
theorem dX1_setRule_38 : decode cX1_setRule 38 = .ok (.bipush 36, 2) := by decide +kernel
theorem dX1_setRule_40 : decode cX1_setRule 40 = .ok (.iload_n 1, 1) := by decide +kernel
theorem dX1_setRule_41 : decode cX1_setRule 41 = .ok (.iadd, 1) := by decide +kernel
theorem dX1_setRule_42 : decode cX1_setRule 42 = .ok (.iaload, 1) := by decide +kernel
theorem dX1_setRule_43 : decode cX1_setRule 43 = .ok (.istore_n 3, 1) := by decide +kernel
theorem dX1_setRule_44 : decode cX1_setRule 44 = .ok (.aload_n 0, 1) := by decide +kernel
theorem dX1_setRule_45 : decode cX1_setRule 45 = .ok (.getfield 11, 3) := by decide +kernel
theorem dX1_setRule_48 : decode cX1_setRule 48 = .ok (.bipush 36, 2) := by decide +kernel
theorem dX1_setRule_50 : decode cX1_setRule 50 = .ok (.iload_n 1, 1) := by decide +kernel
theorem dX1_setRule_51 : decode cX1_setRule 51 = .ok (.iadd, 1) := by decide +kernel
theorem dX1_setRule_52 : decode cX1_setRule 52 = .ok (.iload_n 2, 1) := by decide +kernel
theorem dX1_setRule_53 : decode cX1_setRule 53 = .ok (.iastore, 1) := by decide +kernel
theorem dX1_setRule_54 : decode cX1_setRule 54 = .ok (.iload_n 3, 1) := by decide +kernel
theorem dX1_setRule_55 : decode cX1_setRule 55 = .ok (.ireturn, 1) := by decide +kernel
set_option maxRecDepth 20000 in
theorem ggX1_goOn_X1_staysInside : GoodIn wsX1_goOn wsX1_staysInside := goodIn_r _ [6, 1, 7, 8, 9, 5, 10, 11, 12, 13, 14, 15, 16, 17, 18, 19, 74, 75, 76] (by decide +kernel) (by decide +kernel)
set_option maxRecDepth 20000 in
theorem gX1_goOn_X1_staysInside : GoodIn wsX1_goOn (wsV RX1 62 RX1 yX1_staysInside wsX1_staysInside) := goodIn_app (goodIn_of _ (by decide +kernel)) ggX1_goOn_X1_staysInside
set_option maxRecDepth 20000 in
theorem ggX1_goOn_X1_moveAll : GoodIn wsX1_goOn wsX1_moveAll := goodIn_r _ [23, 1, 7, 8, 9, 5, 10, 11, 15, 16, 17, 18, 19, 74, 75, 76] (by decide +kernel) (by decide +kernel)
set_option maxRecDepth 20000 in
theorem gX1_goOn_X1_moveAll : GoodIn wsX1_goOn (wsV RX1 65 RX1 yX1_moveAll wsX1_moveAll) := goodIn_app (goodIn_of _ (by decide +kernel)) ggX1_goOn_X1_moveAll
set_option maxRecDepth 20000 in
theorem ggX1_goOn_X1_look : GoodIn wsX1_goOn wsX1_look := goodIn_r _ [27, 1, 28, 29, 30, 5, 31, 32, 33, 34, 35, 36, 37, 38, 39, 40, 11, 19, 41, 42, 43, 44, 45, 46, 47, 48, 49, 50, 51, 52, 53, 54, 55, 56, 57, 58, 59, 60, 61, 62, 63, 64, 65, 66, 67, 68, 69, 74, 75, 76, 77, 78, 79, 80] (by decide +kernel) (by decide +kernel)
set_option maxRecDepth 20000 in
theorem gX1_goOn_X1_look : GoodIn wsX1_goOn (wsV RX1 68 RX1 yX1_look wsX1_look) := goodIn_app (goodIn_of _ (by decide +kernel)) ggX1_goOn_X1_look
set_option maxRecDepth 20000 in
theorem ggX1_goOn_X1_givenWay : GoodIn wsX1_goOn wsX1_givenWay := goodIn_r _ [73, 1, 74, 75, 76] (by decide +kernel) (by decide +kernel)
set_option maxRecDepth 20000 in
theorem gX1_goOn_X1_givenWay : GoodIn wsX1_goOn (wsV RX1 71 RX1 yX1_givenWay wsX1_givenWay) := goodIn_app (goodIn_of _ (by decide +kernel)) ggX1_goOn_X1_givenWay
theorem dX1_goOn_0 : decode cX1_goOn 0 = .ok (.iload_n 1, 1) := by decide +kernel
theorem dX1_goOn_1 : decode cX1_goOn 1 = .ok (.iconst 1, 1) := by decide +kernel
theorem dX1_goOn_2 : decode cX1_goOn 2 = .ok (.if_icmp .lt 9, 3) := by decide +kernel
theorem dX1_goOn_5 : decode cX1_goOn 5 = .ok (.iload_n 1, 1) := by decide +kernel
theorem dX1_goOn_6 : decode cX1_goOn 6 = .ok (.bipush 60, 2) := by decide +kernel
theorem dX1_goOn_8 : decode cX1_goOn 8 = .ok (.if_icmp .le 7, 3) := by decide +kernel
theorem dX1_goOn_11 : decode cX1_goOn 11 = .ok (.sipush (-10002), 3) := by decide +kernel
theorem dX1_goOn_14 : decode cX1_goOn 14 = .ok (.ireturn, 1) := by decide +kernel
theorem dX1_goOn_15 : decode cX1_goOn 15 = .ok (.aload_n 0, 1) := by decide +kernel
theorem dX1_goOn_16 : decode cX1_goOn 16 = .ok (.iload_n 1, 1) := by decide +kernel
theorem dX1_goOn_17 : decode cX1_goOn 17 = .ok (.invokevirtual 62, 3) := by decide +kernel
theorem dX1_goOn_20 : decode cX1_goOn 20 = .ok (.ifCond .ne 7, 3) := by decide +kernel
theorem dX1_goOn_23 : decode cX1_goOn 23 = .ok (.sipush (-10003), 3) := by decide +kernel
theorem dX1_goOn_26 : decode cX1_goOn 26 = .ok (.ireturn, 1) := by decide +kernel
theorem dX1_goOn_27 : decode cX1_goOn 27 = .ok (.iconst 0, 1) := by decide +kernel
theorem dX1_goOn_28 : decode cX1_goOn 28 = .ok (.istore_n 2, 1) := by decide +kernel
theorem dX1_goOn_29 : decode cX1_goOn 29 = .ok (.iload_n 2, 1) := by decide +kernel
theorem dX1_goOn_30 : decode cX1_goOn 30 = .ok (.iload_n 1, 1) := by decide +kernel
theorem dX1_goOn_31 : decode cX1_goOn 31 = .ok (.if_icmp .ge 17, 3) := by decide +kernel
theorem dX1_goOn_34 : decode cX1_goOn 34 = .ok (.aload_n 0, 1) := by decide +kernel
theorem dX1_goOn_35 : decode cX1_goOn 35 = .ok (.invokevirtual 65, 3) := by decide +kernel
theorem dX1_goOn_38 : decode cX1_goOn 38 = .ok (.aload_n 0, 1) := by decide +kernel
theorem dX1_goOn_39 : decode cX1_goOn 39 = .ok (.invokevirtual 68, 3) := by decide +kernel
theorem dX1_goOn_42 : decode cX1_goOn 42 = .ok (.iinc 2 1, 3) := by decide +kernel
theorem dX1_goOn_45 : decode cX1_goOn 45 = .ok (.goto (-16), 3) := by decide +kernel
theorem dX1_goOn_48 : decode cX1_goOn 48 = .ok (.aload_n 0, 1) := by decide +kernel
theorem dX1_goOn_49 : decode cX1_goOn 49 = .ok (.getfield 11, 3) := by decide +kernel
theorem dX1_goOn_52 : decode cX1_goOn 52 = .ok (.bipush 38, 2) := by decide +kernel
theorem dX1_goOn_54 : decode cX1_goOn 54 = .ok (.dup2, 1) := by decide +kernel
theorem dX1_goOn_55 : decode cX1_goOn 55 = .ok (.iaload, 1) := by decide +kernel
theorem dX1_goOn_56 : decode cX1_goOn 56 = .ok (.iload_n 1, 1) := by decide +kernel
