theorem dX7_take_79 : decode cX7_take 79 = .ok (.iload_n 3, 1) := by decide +kernel
theorem dX7_take_80 : decode cX7_take 80 = .ok (.invokevirtual 49, 3) := by decide +kernel
theorem dX7_take_83 : decode cX7_take 83 = .ok (.iinc 4 1, 3) := by decide +kernel
theorem dX7_take_86 : decode cX7_take 86 = .ok (.goto (-44), 3) := by decide +kernel
theorem dX7_take_89 : decode cX7_take 89 = .ok (.return_, 1) := by decide +kernel
set_option maxRecDepth 20000 in
theorem ggX7_measure_X8_size : GoodIn wsX7_measure wsX8_size := goodIn_r _ [12, 13, 23, 24, 25] (by decide +kernel) (by decide +kernel)
set_option maxRecDepth 20000 in
theorem gX7_measure_X8_size : GoodIn wsX7_measure (wsV RX7 31 RX8 yX8_size wsX8_size) := goodIn_app (goodIn_of _ (by decide +kernel)) ggX7_measure_X8_size
set_option maxRecDepth 20000 in
theorem ggX7_measure_X8_difference : GoodIn wsX7_measure wsX8_difference := goodIn_r _ [17, 13, 18, 23, 24, 25] (by decide +kernel) (by decide +kernel)
set_option maxRecDepth 20000 in
theorem gX7_measure_X8_difference : GoodIn wsX7_measure (wsV RX7 36 RX8 yX8_difference wsX8_difference) := goodIn_app (goodIn_of _ (by decide +kernel)) ggX7_measure_X8_difference
theorem dX7_measure_0 : decode cX7_measure 0 = .ok (.aload_n 0, 1) := by decide +kernel
theorem dX7_measure_1 : decode cX7_measure 1 = .ok (.iconst 0, 1) := by decide +kernel
theorem dX7_measure_2 : decode cX7_measure 2 = .ok (.putfield 13, 3) := by decide +kernel
theorem dX7_measure_5 : decode cX7_measure 5 = .ok (.aload_n 0, 1) := by decide +kernel
theorem dX7_measure_6 : decode cX7_measure 6 = .ok (.iconst 0, 1) := by decide +kernel
theorem dX7_measure_7 : decode cX7_measure 7 = .ok (.putfield 17, 3) := by decide +kernel
theorem dX7_measure_10 : decode cX7_measure 10 = .ok (.aload_n 0, 1) := by decide +kernel
theorem dX7_measure_11 : decode cX7_measure 11 = .ok (.iconst 0, 1) := by decide +kernel
theorem dX7_measure_12 : decode cX7_measure 12 = .ok (.putfield 20, 3) := by decide +kernel
theorem dX7_measure_15 : decode cX7_measure 15 = .ok (.iconst 0, 1) := by decide +kernel
theorem dX7_measure_16 : decode cX7_measure 16 = .ok (.istore_n 2, 1) := by decide +kernel
theorem dX7_measure_17 : decode cX7_measure 17 = .ok (.iload_n 2, 1) := by decide +kernel
theorem dX7_measure_18 : decode cX7_measure 18 = .ok (.aload_n 1, 1) := by decide +kernel
theorem dX7_measure_19 : decode cX7_measure 19 = .ok (.invokevirtual 31, 3) := by decide +kernel
theorem dX7_measure_22 : decode cX7_measure 22 = .ok (.if_icmp .ge 58, 3) := by decide +kernel
theorem dX7_measure_25 : decode cX7_measure 25 = .ok (.aload_n 1, 1) := by decide +kernel
theorem dX7_measure_26 : decode cX7_measure 26 = .ok (.iload_n 2, 1) := by decide +kernel
theorem dX7_measure_27 : decode cX7_measure 27 = .ok (.invokevirtual 36, 3) := by decide +kernel
theorem dX7_measure_30 : decode cX7_measure 30 = .ok (.istore_n 3, 1) := by decide +kernel
theorem dX7_measure_31 : decode cX7_measure 31 = .ok (.iload_n 3, 1) := by decide +kernel
theorem dX7_measure_32 : decode cX7_measure 32 = .ok (.ifCond .eq 13, 3) := by decide +kernel
theorem dX7_measure_35 : decode cX7_measure 35 = .ok (.aload_n 0, 1) := by decide +kernel
theorem dX7_measure_36 : decode cX7_measure 36 = .ok (.dup, 1) := by decide +kernel
theorem dX7_measure_37 : decode cX7_measure 37 = .ok (.getfield 13, 3) := by decide +kernel
theorem dX7_measure_40 : decode cX7_measure 40 = .ok (.iconst 1, 1) := by decide +kernel
theorem dX7_measure_41 : decode cX7_measure 41 = .ok (.iadd, 1) := by decide +kernel
theorem dX7_measure_42 : decode cX7_measure 42 = .ok (.putfield 13, 3) := by decide +kernel
theorem dX7_measure_45 : decode cX7_measure 45 = .ok (.aload_n 0, 1) := by decide +kernel
theorem dX7_measure_46 : decode cX7_measure 46 = .ok (.dup, 1) := by decide +kernel
theorem dX7_measure_47 : decode cX7_measure 47 = .ok (.getfield 17, 3) := by decide +kernel
theorem dX7_measure_50 : decode cX7_measure 50 = .ok (.iload_n 3, 1) := by decide +kernel
theorem dX7_measure_51 : decode cX7_measure 51 = .ok (.iconst 0, 1) := by decide +kernel
theorem dX7_measure_52 : decode cX7_measure 52 = .ok (.invokestatic 53, 3) := by decide +kernel
theorem dX7_measure_55 : decode cX7_measure 55 = .ok (.iadd, 1) := by decide +kernel
theorem dX7_measure_56 : decode cX7_measure 56 = .ok (.putfield 17, 3) := by decide +kernel
theorem dX7_measure_59 : decode cX7_measure 59 = .ok (.aload_n 0, 1) := by decide +kernel
theorem dX7_measure_60 : decode cX7_measure 60 = .ok (.dup, 1) := by decide +kernel
theorem dX7_measure_61 : decode cX7_measure 61 = .ok (.getfield 20, 3) := by decide +kernel
theorem dX7_measure_64 : decode cX7_measure 64 = .ok (.iload_n 3, 1) := by decide +kernel
theorem dX7_measure_65 : decode cX7_measure 65 = .ok (.ineg, 1) := by decide +kernel
theorem dX7_measure_66 : decode cX7_measure 66 = .ok (.iconst 0, 1) := by decide +kernel
theorem dX7_measure_67 : decode cX7_measure 67 = .ok (.invokestatic 53, 3) := by decide +kernel
theorem dX7_measure_70 : decode cX7_measure 70 = .ok (.iadd, 1) := by decide +kernel
theorem dX7_measure_71 : decode cX7_measure 71 = .ok (.putfield 20, 3) := by decide +kernel
theorem dX7_measure_74 : decode cX7_measure 74 = .ok (.iinc 2 1, 3) := by decide +kernel
theorem dX7_measure_77 : decode cX7_measure 77 = .ok (.goto (-60), 3) := by decide +kernel
theorem dX7_measure_80 : decode cX7_measure 80 = .ok (.return_, 1) := by decide +kernel
theorem dX7_reach_0 : decode cX7_reach 0 = .ok (.aload_n 0, 1) := by decide +kernel
theorem dX7_reach_1 : decode cX7_reach 1 = .ok (.getfield 17, 3) := by decide +kernel
theorem dX7_reach_4 : decode cX7_reach 4 = .ok (.aload_n 0, 1) := by decide +kernel
theorem dX7_reach_5 : decode cX7_reach 5 = .ok (.getfield 20, 3) := by decide +kernel
theorem dX7_reach_8 : decode cX7_reach 8 = .ok (.invokestatic 45, 3) := by decide +kernel
theorem dX7_reach_11 : decode cX7_reach 11 = .ok (.sipush 1500, 3) := by decide +kernel
theorem dX7_reach_14 : decode cX7_reach 14 = .ok (.invokestatic 45, 3) := by decide +kernel
theorem dX7_reach_17 : decode cX7_reach 17 = .ok (.ireturn, 1) := by decide +kernel
theorem dX7_takeSign_0 : decode cX7_takeSign 0 = .ok (.iload_n 2, 1) := by decide +kernel
theorem dX7_takeSign_1 : decode cX7_takeSign 1 = .ok (.istore_n 3, 1) := by decide +kernel
theorem dX7_takeSign_2 : decode cX7_takeSign 2 = .ok (.iload_n 3, 1) := by decide +kernel
theorem dX7_takeSign_3 : decode cX7_takeSign 3 = .ok (.iload_n 1, 1) := by decide +kernel
theorem dX7_takeSign_4 : decode cX7_takeSign 4 = .ok (.if_icmp .lt 26, 3) := by decide +kernel
theorem dX7_takeSign_7 : decode cX7_takeSign 7 = .ok (.aload_n 0, 1) := by decide +kernel
theorem dX7_takeSign_8 : decode cX7_takeSign 8 = .ok (.getfield 9, 3) := by decide +kernel
theorem dX7_takeSign_11 : decode cX7_takeSign 11 = .ok (.iload_n 3, 1) := by decide +kernel
theorem dX7_takeSign_12 : decode cX7_takeSign 12 = .ok (.dup2, 1) := by decide +kernel
theorem dX7_takeSign_13 : decode cX7_takeSign 13 = .ok (.laload, 1) := by decide +kernel
theorem dX7_takeSign_14 : decode cX7_takeSign 14 = .ok (.aload_n 0, 1) := by decide +kernel
theorem dX7_takeSign_15 : decode cX7_takeSign 15 = .ok (.getfield 9, 3) := by decide +kernel
theorem dX7_takeSign_18 : decode cX7_takeSign 18 = .ok (.iload_n 3, 1) := by decide +kernel
theorem dX7_takeSign_19 : decode cX7_takeSign 19 = .ok (.iload_n 1, 1) := by decide +kernel
theorem dX7_takeSign_20 : decode cX7_takeSign 20 = .ok (.isub, 1) := by decide +kernel
theorem dX7_takeSign_21 : decode cX7_takeSign 21 = .ok (.laload, 1) := by decide +kernel
theorem dX7_takeSign_22 : decode cX7_takeSign 22 = .ok (.ladd, 1) := by decide +kernel
theorem dX7_takeSign_23 : decode cX7_takeSign 23 = .ok (.lastore, 1) := by decide +kernel
theorem dX7_takeSign_24 : decode cX7_takeSign 24 = .ok (.iinc 3 (-1), 3) := by decide +kernel
theorem dX7_takeSign_27 : decode cX7_takeSign 27 = .ok (.goto (-25), 3) := by decide +kernel
theorem dX7_takeSign_30 : decode cX7_takeSign 30 = .ok (.return_, 1) := by decide +kernel
theorem dX7_signs_0 : decode cX7_signs 0 = .ok (.aload_n 0, 1) := by decide +kernel
theorem dX7_signs_1 : decode cX7_signs 1 = .ok (.getfield 13, 3) := by decide +kernel
theorem dX7_signs_4 : decode cX7_signs 4 = .ok (.ireturn, 1) := by decide +kernel
set_option maxRecDepth 20000 in
theorem ggX7_waysAtLeast_X7_waysUpTo : GoodIn wsX7_waysAtLeast wsX7_waysUpTo := goodIn_r _ [7, 8, 9, 10, 11, 12, 18, 19, 20, 21] (by decide +kernel) (by decide +kernel)
set_option maxRecDepth 20000 in
theorem gX7_waysAtLeast_X7_waysUpTo : GoodIn wsX7_waysAtLeast (wsV RX7 56 RX7 yX7_waysUpTo wsX7_waysUpTo) := goodIn_app (goodIn_of _ (by decide +kernel)) ggX7_waysAtLeast_X7_waysUpTo
set_option maxRecDepth 20000 in
theorem ggX7_waysAtLeast_X7_allWays : GoodIn wsX7_waysAtLeast wsX7_allWays := goodIn_r _ [16, 17, 18, 19, 20, 21] (by decide +kernel) (by decide +kernel)
set_option maxRecDepth 20000 in
theorem gX7_waysAtLeast_X7_allWays : GoodIn wsX7_waysAtLeast (wsV RX7 60 RX7 yX7_allWays wsX7_allWays) := goodIn_app (goodIn_of _ (by decide +kernel)) ggX7_waysAtLeast_X7_allWays
theorem dX7_waysAtLeast_0 : decode cX7_waysAtLeast 0 = .ok (.aload_n 0, 1) := by decide +kernel
theorem dX7_waysAtLeast_1 : decode cX7_waysAtLeast 1 = .ok (.getfield 17, 3) := by decide +kernel
theorem dX7_waysAtLeast_4 : decode cX7_waysAtLeast 4 = .ok (.aload_n 0, 1) := by decide +kernel
theorem dX7_waysAtLeast_5 : decode cX7_waysAtLeast 5 = .ok (.getfield 20, 3) := by decide +kernel
theorem dX7_waysAtLeast_8 : decode cX7_waysAtLeast 8 = .ok (.if_icmp .lt 14, 3) := by decide +kernel
theorem dX7_waysAtLeast_11 : decode cX7_waysAtLeast 11 = .ok (.aload_n 0, 1) := by decide +kernel
theorem dX7_waysAtLeast_12 : decode cX7_waysAtLeast 12 = .ok (.aload_n 0, 1) := by decide +kernel
theorem dX7_waysAtLeast_13 : decode cX7_waysAtLeast 13 = .ok (.getfield 20, 3) := by decide +kernel
theorem dX7_waysAtLeast_16 : decode cX7_waysAtLeast 16 = .ok (.invokevirtual 56, 3) := by decide +kernel
theorem dX7_waysAtLeast_19 : decode cX7_waysAtLeast 19 = .ok (.goto 18, 3) := by decide +kernel
theorem dX7_waysAtLeast_22 : decode cX7_waysAtLeast 22 = .ok (.aload_n 0, 1) := by decide +kernel
theorem dX7_waysAtLeast_23 : decode cX7_waysAtLeast 23 = .ok (.invokevirtual 60, 3) := by decide +kernel
theorem dX7_waysAtLeast_26 : decode cX7_waysAtLeast 26 = .ok (.aload_n 0, 1) := by decide +kernel
theorem dX7_waysAtLeast_27 : decode cX7_waysAtLeast 27 = .ok (.aload_n 0, 1) := by decide +kernel
theorem dX7_waysAtLeast_28 : decode cX7_waysAtLeast 28 = .ok (.getfield 17, 3) := by decide +kernel
theorem dX7_waysAtLeast_31 : decode cX7_waysAtLeast 31 = .ok (.iconst 1, 1) := by decide +kernel
theorem dX7_waysAtLeast_32 : decode cX7_waysAtLeast 32 = .ok (.isub, 1) := by decide +kernel
theorem dX7_waysAtLeast_33 : decode cX7_waysAtLeast 33 = .ok (.invokevirtual 56, 3) := by decide +kernel
theorem dX7_waysAtLeast_36 : decode cX7_waysAtLeast 36 = .ok (.lsub, 1) := by decide +kernel
theorem dX7_waysAtLeast_37 : decode cX7_waysAtLeast 37 = .ok (.lreturn, 1) := by decide +kernel
set_option maxRecDepth 20000 in
theorem ggX7_waysAsFar_X7_allWays : GoodIn wsX7_waysAsFar wsX7_allWays := goodIn_r _ [8, 9, 23, 24, 25, 26] (by decide +kernel) (by decide +kernel)
set_option maxRecDepth 20000 in
theorem gX7_waysAsFar_X7_allWays : GoodIn wsX7_waysAsFar (wsV RX7 60 RX7 yX7_allWays wsX7_allWays) := goodIn_app (goodIn_of _ (by decide +kernel)) ggX7_waysAsFar_X7_allWays
set_option maxRecDepth 20000 in
theorem ggX7_waysAsFar_X7_reach : GoodIn wsX7_waysAsFar wsX7_reach := goodIn_r _ [13, 1, 2, 14, 15, 16, 17, 23, 24, 25, 26] (by decide +kernel) (by decide +kernel)
set_option maxRecDepth 20000 in
theorem gX7_waysAsFar_X7_reach : GoodIn wsX7_waysAsFar (wsV RX7 27 RX7 yX7_reach wsX7_reach) := goodIn_app (goodIn_of _ (by decide +kernel)) ggX7_waysAsFar_X7_reach
set_option maxRecDepth 20000 in
theorem ggX7_waysAsFar_X7_waysUpTo : GoodIn wsX7_waysAsFar wsX7_waysUpTo := goodIn_r _ [21, 14, 15, 16, 17, 22, 23, 24, 25, 26] (by decide +kernel) (by decide +kernel)
set_option maxRecDepth 20000 in
theorem gX7_waysAsFar_X7_waysUpTo : GoodIn wsX7_waysAsFar (wsV RX7 56 RX7 yX7_waysUpTo wsX7_waysUpTo) := goodIn_app (goodIn_of _ (by decide +kernel)) ggX7_waysAsFar_X7_waysUpTo
theorem dX7_waysAsFar_0 : decode cX7_waysAsFar 0 = .ok (.aload_n 0, 1) := by decide +kernel
theorem dX7_waysAsFar_1 : decode cX7_waysAsFar 1 = .ok (.getfield 17, 3) := by decide +kernel
theorem dX7_waysAsFar_4 : decode cX7_waysAsFar 4 = .ok (.aload_n 0, 1) := by decide +kernel
theorem dX7_waysAsFar_5 : decode cX7_waysAsFar 5 = .ok (.getfield 20, 3) := by decide +kernel
theorem dX7_waysAsFar_8 : decode cX7_waysAsFar 8 = .ok (.if_icmp .ne 10, 3) := by decide +kernel
theorem dX7_waysAsFar_11 : decode cX7_waysAsFar 11 = .ok (.aload_n 0, 1) := by decide +kernel
theorem dX7_waysAsFar_12 : decode cX7_waysAsFar 12 = .ok (.invokevirtual 60, 3) := by decide +kernel
theorem dX7_waysAsFar_15 : decode cX7_waysAsFar 15 = .ok (.goto 15, 3) := by decide +kernel
theorem dX7_waysAsFar_18 : decode cX7_waysAsFar 18 = .ok (.ldc2_w 64, 3) := by decide +kernel
theorem dX7_waysAsFar_21 : decode cX7_waysAsFar 21 = .ok (.aload_n 0, 1) := by decide +kernel
theorem dX7_waysAsFar_22 : decode cX7_waysAsFar 22 = .ok (.aload_n 0, 1) := by decide +kernel
theorem dX7_waysAsFar_23 : decode cX7_waysAsFar 23 = .ok (.invokevirtual 27, 3) := by decide +kernel
theorem dX7_waysAsFar_26 : decode cX7_waysAsFar 26 = .ok (.invokevirtual 56, 3) := by decide +kernel
theorem dX7_waysAsFar_29 : decode cX7_waysAsFar 29 = .ok (.lmul, 1) := by decide +kernel
theorem dX7_waysAsFar_30 : decode cX7_waysAsFar 30 = .ok (.lreturn, 1) := by decide +kernel
theorem dX7_allWays_0 : decode cX7_allWays 0 = .ok (.lconst 1, 1) := by decide +kernel
theorem dX7_allWays_1 : decode cX7_allWays 1 = .ok (.aload_n 0, 1) := by decide +kernel
theorem dX7_allWays_2 : decode cX7_allWays 2 = .ok (.getfield 13, 3) := by decide +kernel
theorem dX7_allWays_5 : decode cX7_allWays 5 = .ok (.lshl, 1) := by decide +kernel
theorem dX7_allWays_6 : decode cX7_allWays 6 = .ok (.lreturn, 1) := by decide +kernel
theorem dX7_waysUpTo_0 : decode cX7_waysUpTo 0 = .ok (.iload_n 1, 1) := by decide +kernel
theorem dX7_waysUpTo_1 : decode cX7_waysUpTo 1 = .ok (.sipush 1500, 3) := by decide +kernel
theorem dX7_waysUpTo_4 : decode cX7_waysUpTo 4 = .ok (.invokestatic 45, 3) := by decide +kernel
theorem dX7_waysUpTo_7 : decode cX7_waysUpTo 7 = .ok (.istore_n 2, 1) := by decide +kernel
theorem dX7_waysUpTo_8 : decode cX7_waysUpTo 8 = .ok (.lconst 0, 1) := by decide +kernel
theorem dX7_waysUpTo_9 : decode cX7_waysUpTo 9 = .ok (.lstore_n 3, 1) := by decide +kernel
theorem dX7_waysUpTo_10 : decode cX7_waysUpTo 10 = .ok (.iconst 0, 1) := by decide +kernel
theorem dX7_waysUpTo_11 : decode cX7_waysUpTo 11 = .ok (.istore 5, 2) := by decide +kernel
theorem dX7_waysUpTo_13 : decode cX7_waysUpTo 13 = .ok (.iload 5, 2) := by decide +kernel
theorem dX7_waysUpTo_15 : decode cX7_waysUpTo 15 = .ok (.iload_n 2, 1) := by decide +kernel
theorem dX7_waysUpTo_16 : decode cX7_waysUpTo 16 = .ok (.if_icmp .gt 19, 3) := by decide +kernel
theorem dX7_waysUpTo_19 : decode cX7_waysUpTo 19 = .ok (.lload_n 3, 1) := by decide +kernel
theorem dX7_waysUpTo_20 : decode cX7_waysUpTo 20 = .ok (.aload_n 0, 1) := by decide +kernel
theorem dX7_waysUpTo_21 : decode cX7_waysUpTo 21 = .ok (.getfield 9, 3) := by decide +kernel
theorem dX7_waysUpTo_24 : decode cX7_waysUpTo 24 = .ok (.iload 5, 2) := by decide +kernel
theorem dX7_waysUpTo_26 : decode cX7_waysUpTo 26 = .ok (.laload, 1) := by decide +kernel
theorem dX7_waysUpTo_27 : decode cX7_waysUpTo 27 = .ok (.ladd, 1) := by decide +kernel
theorem dX7_waysUpTo_28 : decode cX7_waysUpTo 28 = .ok (.lstore_n 3, 1) := by decide +kernel
theorem dX7_waysUpTo_29 : decode cX7_waysUpTo 29 = .ok (.iinc 5 1, 3) := by decide +kernel
theorem dX7_waysUpTo_32 : decode cX7_waysUpTo 32 = .ok (.goto (-19), 3) := by decide +kernel
theorem dX7_waysUpTo_35 : decode cX7_waysUpTo 35 = .ok (.lload_n 3, 1) := by decide +kernel
theorem dX7_waysUpTo_36 : decode cX7_waysUpTo 36 = .ok (.lreturn, 1) := by decide +kernel
theorem dX8_init_0 : decode cX8_init 0 = .ok (.aload_n 0, 1) := by decide +kernel
theorem dX8_init_1 : decode cX8_init 1 = .ok (.invokespecial 1, 3) := by decide +kernel
theorem dX8_init_4 : decode cX8_init 4 = .ok (.aload_n 0, 1) := by decide +kernel
theorem dX8_init_5 : decode cX8_init 5 = .ok (.bipush 30, 2) := by decide +kernel
theorem dX8_init_7 : decode cX8_init 7 = .ok (.newarray .int, 2) := by decide +kernel
theorem dX8_init_9 : decode cX8_init 9 = .ok (.putfield 9, 3) := by decide +kernel
theorem dX8_init_12 : decode cX8_init 12 = .ok (.aload_n 0, 1) := by decide +kernel
theorem dX8_init_13 : decode cX8_init 13 = .ok (.bipush 30, 2) := by decide +kernel
theorem dX8_init_15 : decode cX8_init 15 = .ok (.newarray .int, 2) := by decide +kernel
theorem dX8_init_17 : decode cX8_init 17 = .ok (.putfield 15, 3) := by decide +kernel
theorem dX8_init_20 : decode cX8_init 20 = .ok (.aload_n 0, 1) := by decide +kernel
theorem dX8_init_21 : decode cX8_init 21 = .ok (.iconst 0, 1) := by decide +kernel
theorem dX8_init_22 : decode cX8_init 22 = .ok (.putfield 18, 3) := by decide +kernel
theorem dX8_init_25 : decode cX8_init 25 = .ok (.return_, 1) := by decide +kernel
set_option maxRecDepth 20000 in
theorem ggX8_take_X8_takeGroups : GoodIn wsX8_take wsX8_takeGroups := goodIn_r _ [6, 7, 8, 9, 10, 11, 12, 13, 14, 15, 16, 17, 18, 19, 20, 21, 22, 5, 23, 1, 24, 25, 41, 42, 43, 44, 38, 39, 40] (by decide +kernel) (by decide +kernel)
set_option maxRecDepth 20000 in
theorem gX8_take_X8_takeGroups : GoodIn wsX8_take (wsV RX8 22 RX8 yX8_takeGroups wsX8_takeGroups) := goodIn_app (goodIn_of _ (by decide +kernel)) ggX8_take_X8_takeGroups
set_option maxRecDepth 20000 in
theorem ggX8_take_X8_takeRows : GoodIn wsX8_take wsX8_takeRows := goodIn_r _ [29, 30, 31, 32, 10, 33, 12, 34, 35, 36, 37, 18, 19, 20, 21, 22, 5, 23, 1, 24, 25, 41, 42, 43, 44, 38, 39, 40] (by decide +kernel) (by decide +kernel)
set_option maxRecDepth 20000 in
theorem gX8_take_X8_takeRows : GoodIn wsX8_take (wsV RX8 26 RX8 yX8_takeRows wsX8_takeRows) := goodIn_app (goodIn_of _ (by decide +kernel)) ggX8_take_X8_takeRows
theorem dX8_take_0 : decode cX8_take 0 = .ok (.aload_n 0, 1) := by decide +kernel
theorem dX8_take_1 : decode cX8_take 1 = .ok (.iconst 0, 1) := by decide +kernel
theorem dX8_take_2 : decode cX8_take 2 = .ok (.putfield 18, 3) := by decide +kernel
theorem dX8_take_5 : decode cX8_take 5 = .ok (.iload_n 2, 1) := by decide +kernel
theorem dX8_take_6 : decode cX8_take 6 = .ok (.ifCond .eq 11, 3) := by decide +kernel
theorem dX8_take_9 : decode cX8_take 9 = .ok (.aload_n 0, 1) := by decide +kernel
theorem dX8_take_10 : decode cX8_take 10 = .ok (.aload_n 1, 1) := by decide +kernel
theorem dX8_take_11 : decode cX8_take 11 = .ok (.invokevirtual 22, 3) := by decide +kernel
theorem dX8_take_14 : decode cX8_take 14 = .ok (.goto 8, 3) := by decide +kernel
theorem dX8_take_17 : decode cX8_take 17 = .ok (.aload_n 0, 1) := by decide +kernel
theorem dX8_take_18 : decode cX8_take 18 = .ok (.aload_n 1, 1) := by decide +kernel
theorem dX8_take_19 : decode cX8_take 19 = .ok (.invokevirtual 26, 3) := by decide +kernel
theorem dX8_take_22 : decode cX8_take 22 = .ok (.return_, 1) := by decide +kernel
set_option maxRecDepth 20000 in
theorem ggX8_takeRows_X5_size : GoodIn wsX8_takeRows wsX5_size := goodIn_r _ [5, 6, 21, 22, 23, 24] (by decide +kernel) (by decide +kernel)
set_option maxRecDepth 20000 in
theorem gX8_takeRows_X5_size : GoodIn wsX8_takeRows (wsV RX8 29 RX5 yX5_size wsX5_size) := goodIn_app (goodIn_of _ (by decide +kernel)) ggX8_takeRows_X5_size
set_option maxRecDepth 20000 in
theorem ggX8_takeRows_X5_difference : GoodIn wsX8_takeRows wsX5_difference := goodIn_r _ [10, 6, 11, 12, 21, 22, 23, 24] (by decide +kernel) (by decide +kernel)
set_option maxRecDepth 20000 in
theorem gX8_takeRows_X5_difference : GoodIn wsX8_takeRows (wsV RX8 33 RX5 yX5_difference wsX5_difference) := goodIn_app (goodIn_of _ (by decide +kernel)) ggX8_takeRows_X5_difference
set_option maxRecDepth 20000 in
theorem ggX8_takeRows_X8_add : GoodIn wsX8_takeRows wsX8_add := goodIn_r _ [17, 18, 19, 20, 25, 26, 27] (by decide +kernel) (by decide +kernel)
set_option maxRecDepth 20000 in
theorem gX8_takeRows_X8_add : GoodIn wsX8_takeRows (wsV RX8 37 RX8 yX8_add wsX8_add) := goodIn_app (goodIn_of _ (by decide +kernel)) ggX8_takeRows_X8_add
theorem dX8_takeRows_0 : decode cX8_takeRows 0 = .ok (.iconst 0, 1) := by decide +kernel
theorem dX8_takeRows_1 : decode cX8_takeRows 1 = .ok (.istore_n 2, 1) := by decide +kernel
theorem dX8_takeRows_2 : decode cX8_takeRows 2 = .ok (.iload_n 2, 1) := by decide +kernel
theorem dX8_takeRows_3 : decode cX8_takeRows 3 = .ok (.aload_n 1, 1) := by decide +kernel
theorem dX8_takeRows_4 : decode cX8_takeRows 4 = .ok (.invokevirtual 29, 3) := by decide +kernel
theorem dX8_takeRows_7 : decode cX8_takeRows 7 = .ok (.if_icmp .ge 19, 3) := by decide +kernel
theorem dX8_takeRows_10 : decode cX8_takeRows 10 = .ok (.aload_n 0, 1) := by decide +kernel
theorem dX8_takeRows_11 : decode cX8_takeRows 11 = .ok (.aload_n 1, 1) := by decide +kernel
theorem dX8_takeRows_12 : decode cX8_takeRows 12 = .ok (.iload_n 2, 1) := by decide +kernel
theorem dX8_takeRows_13 : decode cX8_takeRows 13 = .ok (.invokevirtual 33, 3) := by decide +kernel
theorem dX8_takeRows_16 : decode cX8_takeRows 16 = .ok (.iconst 1, 1) := by decide +kernel
theorem dX8_takeRows_17 : decode cX8_takeRows 17 = .ok (.invokevirtual 37, 3) := by decide +kernel
theorem dX8_takeRows_20 : decode cX8_takeRows 20 = .ok (.iinc 2 1, 3) := by decide +kernel
theorem dX8_takeRows_23 : decode cX8_takeRows 23 = .ok (.goto (-21), 3) := by decide +kernel
theorem dX8_takeRows_26 : decode cX8_takeRows 26 = .ok (.return_, 1) := by decide +kernel
set_option maxRecDepth 20000 in
theorem ggX8_takeGroups_X5_sizeOfGroup : GoodIn wsX8_takeGroups wsX5_sizeOfGroup := goodIn_r _ [5, 6, 7, 22, 23, 24, 25] (by decide +kernel) (by decide +kernel)
set_option maxRecDepth 20000 in
theorem gX8_takeGroups_X5_sizeOfGroup : GoodIn wsX8_takeGroups (wsV RX8 41 RX5 yX5_sizeOfGroup wsX5_sizeOfGroup) := goodIn_app (goodIn_of _ (by decide +kernel)) ggX8_takeGroups_X5_sizeOfGroup
set_option maxRecDepth 20000 in
theorem ggX8_takeGroups_X5_differenceOfGroup : GoodIn wsX8_takeGroups wsX5_differenceOfGroup := goodIn_r _ [11, 6, 7, 12, 13, 22, 23, 24, 25] (by decide +kernel) (by decide +kernel)
set_option maxRecDepth 20000 in
theorem gX8_takeGroups_X5_differenceOfGroup : GoodIn wsX8_takeGroups (wsV RX8 44 RX5 yX5_differenceOfGroup wsX5_differenceOfGroup) := goodIn_app (goodIn_of _ (by decide +kernel)) ggX8_takeGroups_X5_differenceOfGroup
set_option maxRecDepth 20000 in
theorem ggX8_takeGroups_X8_add : GoodIn wsX8_takeGroups wsX8_add := goodIn_r _ [18, 19, 20, 21, 26, 27, 28] (by decide +kernel) (by decide +kernel)
set_option maxRecDepth 20000 in
theorem gX8_takeGroups_X8_add : GoodIn wsX8_takeGroups (wsV RX8 37 RX8 yX8_add wsX8_add) := goodIn_app (goodIn_of _ (by decide +kernel)) ggX8_takeGroups_X8_add
theorem dX8_takeGroups_0 : decode cX8_takeGroups 0 = .ok (.iconst 0, 1) := by decide +kernel
theorem dX8_takeGroups_1 : decode cX8_takeGroups 1 = .ok (.istore_n 2, 1) := by decide +kernel
theorem dX8_takeGroups_2 : decode cX8_takeGroups 2 = .ok (.iload_n 2, 1) := by decide +kernel
theorem dX8_takeGroups_3 : decode cX8_takeGroups 3 = .ok (.bipush 8, 2) := by decide +kernel
theorem dX8_takeGroups_5 : decode cX8_takeGroups 5 = .ok (.if_icmp .ge 29, 3) := by decide +kernel
theorem dX8_takeGroups_8 : decode cX8_takeGroups 8 = .ok (.aload_n 1, 1) := by decide +kernel
theorem dX8_takeGroups_9 : decode cX8_takeGroups 9 = .ok (.iload_n 2, 1) := by decide +kernel
theorem dX8_takeGroups_10 : decode cX8_takeGroups 10 = .ok (.invokevirtual 41, 3) := by decide +kernel
theorem dX8_takeGroups_13 : decode cX8_takeGroups 13 = .ok (.istore_n 3, 1) := by decide +kernel
theorem dX8_takeGroups_14 : decode cX8_takeGroups 14 = .ok (.iload_n 3, 1) := by decide +kernel
theorem dX8_takeGroups_15 : decode cX8_takeGroups 15 = .ok (.ifCond .le 13, 3) := by decide +kernel
theorem dX8_takeGroups_18 : decode cX8_takeGroups 18 = .ok (.aload_n 0, 1) := by decide +kernel
theorem dX8_takeGroups_19 : decode cX8_takeGroups 19 = .ok (.aload_n 1, 1) := by decide +kernel
theorem dX8_takeGroups_20 : decode cX8_takeGroups 20 = .ok (.iload_n 2, 1) := by decide +kernel
theorem dX8_takeGroups_21 : decode cX8_takeGroups 21 = .ok (.invokevirtual 44, 3) := by decide +kernel
theorem dX8_takeGroups_24 : decode cX8_takeGroups 24 = .ok (.iload_n 3, 1) := by decide +kernel
theorem dX8_takeGroups_25 : decode cX8_takeGroups 25 = .ok (.invokevirtual 37, 3) := by decide +kernel
theorem dX8_takeGroups_28 : decode cX8_takeGroups 28 = .ok (.iinc 2 1, 3) := by decide +kernel
theorem dX8_takeGroups_31 : decode cX8_takeGroups 31 = .ok (.goto (-29), 3) := by decide +kernel
theorem dX8_takeGroups_34 : decode cX8_takeGroups 34 = .ok (.return_, 1) := by decide +kernel
theorem dX8_add_0 : decode cX8_add 0 = .ok (.aload_n 0, 1) := by decide +kernel
theorem dX8_add_1 : decode cX8_add 1 = .ok (.getfield 18, 3) := by decide +kernel
theorem dX8_add_4 : decode cX8_add 4 = .ok (.bipush 30, 2) := by decide +kernel
theorem dX8_add_6 : decode cX8_add 6 = .ok (.if_icmp .lt 4, 3) := by decide +kernel
theorem dX8_add_9 : decode cX8_add 9 = .ok (.return_, 1) := by decide +kernel
theorem dX8_add_10 : decode cX8_add 10 = .ok (.aload_n 0, 1) := by decide +kernel
theorem dX8_add_11 : decode cX8_add 11 = .ok (.getfield 9, 3) := by decide +kernel
theorem dX8_add_14 : decode cX8_add 14 = .ok (.aload_n 0, 1) := by decide +kernel
theorem dX8_add_15 : decode cX8_add 15 = .ok (.getfield 18, 3) := by decide +kernel
theorem dX8_add_18 : decode cX8_add 18 = .ok (.iload_n 1, 1) := by decide +kernel
theorem dX8_add_19 : decode cX8_add 19 = .ok (.iastore, 1) := by decide +kernel
theorem dX8_add_20 : decode cX8_add 20 = .ok (.aload_n 0, 1) := by decide +kernel
theorem dX8_add_21 : decode cX8_add 21 = .ok (.getfield 15, 3) := by decide +kernel
theorem dX8_add_24 : decode cX8_add 24 = .ok (.aload_n 0, 1) := by decide +kernel
theorem dX8_add_25 : decode cX8_add 25 = .ok (.getfield 18, 3) := by decide +kernel
theorem dX8_add_28 : decode cX8_add 28 = .ok (.iload_n 2, 1) := by decide +kernel
theorem dX8_add_29 : decode cX8_add 29 = .ok (.iastore, 1) := by decide +kernel
theorem dX8_add_30 : decode cX8_add 30 = .ok (.aload_n 0, 1) := by decide +kernel
theorem dX8_add_31 : decode cX8_add 31 = .ok (.dup, 1) := by decide +kernel
theorem dX8_add_32 : decode cX8_add 32 = .ok (.getfield 18, 3) := by decide +kernel
theorem dX8_add_35 : decode cX8_add 35 = .ok (.iconst 1, 1) := by decide +kernel
theorem dX8_add_36 : decode cX8_add 36 = .ok (.iadd, 1) := by decide +kernel
theorem dX8_add_37 : decode cX8_add 37 = .ok (.putfield 18, 3) := by decide +kernel
theorem dX8_add_40 : decode cX8_add 40 = .ok (.return_, 1) := by decide +kernel
theorem dX8_size_0 : decode cX8_size 0 = .ok (.aload_n 0, 1) := by decide +kernel
theorem dX8_size_1 : decode cX8_size 1 = .ok (.getfield 18, 3) := by decide +kernel
theorem dX8_size_4 : decode cX8_size 4 = .ok (.ireturn, 1) := by decide +kernel
theorem dX8_difference_0 : decode cX8_difference 0 = .ok (.iload_n 1, 1) := by decide +kernel
theorem dX8_difference_1 : decode cX8_difference 1 = .ok (.ifCond .lt 20, 3) := by decide +kernel
theorem dX8_difference_4 : decode cX8_difference 4 = .ok (.iload_n 1, 1) := by decide +kernel
theorem dX8_difference_5 : decode cX8_difference 5 = .ok (.aload_n 0, 1) := by decide +kernel
theorem dX8_difference_6 : decode cX8_difference 6 = .ok (.getfield 18, 3) := by decide +kernel
theorem dX8_difference_9 : decode cX8_difference 9 = .ok (.if_icmp .ge 12, 3) := by decide +kernel
theorem dX8_difference_12 : decode cX8_difference 12 = .ok (.aload_n 0, 1) := by decide +kernel
theorem dX8_difference_13 : decode cX8_difference 13 = .ok (.getfield 9, 3) := by decide +kernel
theorem dX8_difference_16 : decode cX8_difference 16 = .ok (.iload_n 1, 1) := by decide +kernel
theorem dX8_difference_17 : decode cX8_difference 17 = .ok (.iaload, 1) := by decide +kernel
theorem dX8_difference_18 : decode cX8_difference 18 = .ok (.goto 4, 3) := by decide +kernel
theorem dX8_difference_21 : decode cX8_difference 21 = .ok (.iconst 0, 1) := by decide +kernel
theorem dX8_difference_22 : decode cX8_difference 22 = .ok (.ireturn, 1) := by decide +kernel
theorem dX8_rowsOf_0 : decode cX8_rowsOf 0 = .ok (.iload_n 1, 1) := by decide +kernel
theorem dX8_rowsOf_1 : decode cX8_rowsOf 1 = .ok (.ifCond .lt 20, 3) := by decide +kernel
theorem dX8_rowsOf_4 : decode cX8_rowsOf 4 = .ok (.iload_n 1, 1) := by decide +kernel
theorem dX8_rowsOf_5 : decode cX8_rowsOf 5 = .ok (.aload_n 0, 1) := by decide +kernel
theorem dX8_rowsOf_6 : decode cX8_rowsOf 6 = .ok (.getfield 18, 3) := by decide +kernel
theorem dX8_rowsOf_9 : decode cX8_rowsOf 9 = .ok (.if_icmp .ge 12, 3) := by decide +kernel
theorem dX8_rowsOf_12 : decode cX8_rowsOf 12 = .ok (.aload_n 0, 1) := by decide +kernel
theorem dX8_rowsOf_13 : decode cX8_rowsOf 13 = .ok (.getfield 15, 3) := by decide +kernel
theorem dX8_rowsOf_16 : decode cX8_rowsOf 16 = .ok (.iload_n 1, 1) := by decide +kernel
theorem dX8_rowsOf_17 : decode cX8_rowsOf 17 = .ok (.iaload, 1) := by decide +kernel
theorem dX8_rowsOf_18 : decode cX8_rowsOf 18 = .ok (.goto 4, 3) := by decide +kernel
theorem dX8_rowsOf_21 : decode cX8_rowsOf 21 = .ok (.iconst 0, 1) := by decide +kernel
theorem dX8_rowsOf_22 : decode cX8_rowsOf 22 = .ok (.ireturn, 1) := by decide +kernel
theorem dX9_init_0 : decode cX9_init 0 = .ok (.aload_n 0, 1) := by decide +kernel
theorem dX9_init_1 : decode cX9_init 1 = .ok (.invokespecial 1, 3) := by decide +kernel
theorem dX9_init_4 : decode cX9_init 4 = .ok (.aload_n 0, 1) := by decide +kernel
theorem dX9_init_5 : decode cX9_init 5 = .ok (.bipush 14, 2) := by decide +kernel
theorem dX9_init_7 : decode cX9_init 7 = .ok (.newarray .long, 2) := by decide +kernel
theorem dX9_init_9 : decode cX9_init 9 = .ok (.putfield 9, 3) := by decide +kernel
theorem dX9_init_12 : decode cX9_init 12 = .ok (.aload_n 0, 1) := by decide +kernel
theorem dX9_init_13 : decode cX9_init 13 = .ok (.iconst 0, 1) := by decide +kernel
theorem dX9_init_14 : decode cX9_init 14 = .ok (.putfield 13, 3) := by decide +kernel
theorem dX9_init_17 : decode cX9_init 17 = .ok (.return_, 1) := by decide +kernel
theorem dX9_become_0 : decode cX9_become 0 = .ok (.iconst 0, 1) := by decide +kernel
theorem dX9_become_1 : decode cX9_become 1 = .ok (.istore_n 3, 1) := by decide +kernel
theorem dX9_become_2 : decode cX9_become 2 = .ok (.iload_n 3, 1) := by decide +kernel
theorem dX9_become_3 : decode cX9_become 3 = .ok (.bipush 14, 2) := by decide +kernel
theorem dX9_become_5 : decode cX9_become 5 = .ok (.if_icmp .ge 16, 3) := by decide +kernel
theorem dX9_become_8 : decode cX9_become 8 = .ok (.aload_n 0, 1) := by decide +kernel
theorem dX9_become_9 : decode cX9_become 9 = .ok (.getfield 9, 3) := by decide +kernel
theorem dX9_become_12 : decode cX9_become 12 = .ok (.iload_n 3, 1) := by decide +kernel
theorem dX9_become_13 : decode cX9_become 13 = .ok (.lconst 0, 1) := by decide +kernel
theorem dX9_become_14 : decode cX9_become 14 = .ok (.lastore, 1) := by decide +kernel
theorem dX9_become_15 : decode cX9_become 15 = .ok (.iinc 3 1, 3) := by decide +kernel
theorem dX9_become_18 : decode cX9_become 18 = .ok (.goto (-16), 3) := by decide +kernel
theorem dX9_become_21 : decode cX9_become 21 = .ok (.aload_n 0, 1) := by decide +kernel
theorem dX9_become_22 : decode cX9_become 22 = .ok (.getfield 9, 3) := by decide +kernel
theorem dX9_become_25 : decode cX9_become 25 = .ok (.iconst 0, 1) := by decide +kernel
theorem dX9_become_26 : decode cX9_become 26 = .ok (.lload_n 1, 1) := by decide +kernel
theorem dX9_become_27 : decode cX9_become 27 = .ok (.ldc2_w 17, 3) := by decide +kernel
theorem dX9_become_30 : decode cX9_become 30 = .ok (.land, 1) := by decide +kernel
theorem dX9_become_31 : decode cX9_become 31 = .ok (.lastore, 1) := by decide +kernel
theorem dX9_become_32 : decode cX9_become 32 = .ok (.aload_n 0, 1) := by decide +kernel
theorem dX9_become_33 : decode cX9_become 33 = .ok (.getfield 9, 3) := by decide +kernel
theorem dX9_become_36 : decode cX9_become 36 = .ok (.iconst 1, 1) := by decide +kernel
theorem dX9_become_37 : decode cX9_become 37 = .ok (.lload_n 1, 1) := by decide +kernel
theorem dX9_become_38 : decode cX9_become 38 = .ok (.bipush 32, 2) := by decide +kernel
theorem dX9_become_40 : decode cX9_become 40 = .ok (.lushr, 1) := by decide +kernel
theorem dX9_become_41 : decode cX9_become 41 = .ok (.lastore, 1) := by decide +kernel
theorem dX9_become_42 : decode cX9_become 42 = .ok (.aload_n 0, 1) := by decide +kernel
theorem dX9_become_43 : decode cX9_become 43 = .ok (.iconst 2, 1) := by decide +kernel
theorem dX9_become_44 : decode cX9_become 44 = .ok (.putfield 13, 3) := by decide +kernel
theorem dX9_become_47 : decode cX9_become 47 = .ok (.return_, 1) := by decide +kernel
theorem dX9_multiply_0 : decode cX9_multiply 0 = .ok (.lconst 0, 1) := by decide +kernel
theorem dX9_multiply_1 : decode cX9_multiply 1 = .ok (.lstore_n 3, 1) := by decide +kernel
theorem dX9_multiply_2 : decode cX9_multiply 2 = .ok (.iconst 0, 1) := by decide +kernel
theorem dX9_multiply_3 : decode cX9_multiply 3 = .ok (.istore 5, 2) := by decide +kernel
theorem dX9_multiply_5 : decode cX9_multiply 5 = .ok (.iload 5, 2) := by decide +kernel
theorem dX9_multiply_7 : decode cX9_multiply 7 = .ok (.aload_n 0, 1) := by decide +kernel
theorem dX9_multiply_8 : decode cX9_multiply 8 = .ok (.getfield 13, 3) := by decide +kernel
theorem dX9_multiply_11 : decode cX9_multiply 11 = .ok (.if_icmp .ge 41, 3) := by decide +kernel
theorem dX9_multiply_14 : decode cX9_multiply 14 = .ok (.aload_n 0, 1) := by decide +kernel
theorem dX9_multiply_15 : decode cX9_multiply 15 = .ok (.getfield 9, 3) := by decide +kernel
theorem dX9_multiply_18 : decode cX9_multiply 18 = .ok (.iload 5, 2) := by decide +kernel
theorem dX9_multiply_20 : decode cX9_multiply 20 = .ok (.laload, 1) := by decide +kernel
theorem dX9_multiply_21 : decode cX9_multiply 21 = .ok (.lload_n 1, 1) := by decide +kernel
theorem dX9_multiply_22 : decode cX9_multiply 22 = .ok (.lmul, 1) := by decide +kernel
theorem dX9_multiply_23 : decode cX9_multiply 23 = .ok (.lload_n 3, 1) := by decide +kernel
theorem dX9_multiply_24 : decode cX9_multiply 24 = .ok (.ladd, 1) := by decide +kernel
theorem dX9_multiply_25 : decode cX9_multiply 25 = .ok (.lstore 6, 2) := by decide +kernel
theorem dX9_multiply_27 : decode cX9_multiply 27 = .ok (.aload_n 0, 1) := by decide +kernel
theorem dX9_multiply_28 : decode cX9_multiply 28 = .ok (.getfield 9, 3) := by decide +kernel
theorem dX9_multiply_31 : decode cX9_multiply 31 = .ok (.iload 5, 2) := by decide +kernel
theorem dX9_multiply_33 : decode cX9_multiply 33 = .ok (.lload 6, 2) := by decide +kernel
theorem dX9_multiply_35 : decode cX9_multiply 35 = .ok (.ldc2_w 17, 3) := by decide +kernel
theorem dX9_multiply_38 : decode cX9_multiply 38 = .ok (.land, 1) := by decide +kernel
theorem dX9_multiply_39 : decode cX9_multiply 39 = .ok (.lastore, 1) := by decide +kernel
theorem dX9_multiply_40 : decode cX9_multiply 40 = .ok (.lload 6, 2) := by decide +kernel
theorem dX9_multiply_42 : decode cX9_multiply 42 = .ok (.bipush 32, 2) := by decide +kernel
theorem dX9_multiply_44 : decode cX9_multiply 44 = .ok (.lushr, 1) := by decide +kernel
theorem dX9_multiply_45 : decode cX9_multiply 45 = .ok (.lstore_n 3, 1) := by decide +kernel
theorem dX9_multiply_46 : decode cX9_multiply 46 = .ok (.iinc 5 1, 3) := by decide +kernel
theorem dX9_multiply_49 : decode cX9_multiply 49 = .ok (.goto (-44), 3) := by decide +kernel
theorem dX9_multiply_52 : decode cX9_multiply 52 = .ok (.lload_n 3, 1) := by decide +kernel
theorem dX9_multiply_53 : decode cX9_multiply 53 = .ok (.lconst 0, 1) := by decide +kernel
theorem dX9_multiply_54 : decode cX9_multiply 54 = .ok (.lcmp, 1) := by decide +kernel
theorem dX9_multiply_55 : decode cX9_multiply 55 = .ok (.ifCond .eq 32, 3) := by decide +kernel
theorem dX9_multiply_58 : decode cX9_multiply 58 = .ok (.aload_n 0, 1) := by decide +kernel
theorem dX9_multiply_59 : decode cX9_multiply 59 = .ok (.getfield 13, 3) := by decide +kernel
theorem dX9_multiply_62 : decode cX9_multiply 62 = .ok (.bipush 14, 2) := by decide +kernel
theorem dX9_multiply_64 : decode cX9_multiply 64 = .ok (.if_icmp .ge 23, 3) := by decide +kernel
theorem dX9_multiply_67 : decode cX9_multiply 67 = .ok (.aload_n 0, 1) := by decide +kernel
theorem dX9_multiply_68 : decode cX9_multiply 68 = .ok (.getfield 9, 3) := by decide +kernel
theorem dX9_multiply_71 : decode cX9_multiply 71 = .ok (.aload_n 0, 1) := by decide +kernel
theorem dX9_multiply_72 : decode cX9_multiply 72 = .ok (.getfield 13, 3) := by decide +kernel
theorem dX9_multiply_75 : decode cX9_multiply 75 = .ok (.lload_n 3, 1) := by decide +kernel
theorem dX9_multiply_76 : decode cX9_multiply 76 = .ok (.lastore, 1) := by decide +kernel
theorem dX9_multiply_77 : decode cX9_multiply 77 = .ok (.aload_n 0, 1) := by decide +kernel
theorem dX9_multiply_78 : decode cX9_multiply 78 = .ok (.dup, 1) := by decide +kernel
theorem dX9_multiply_79 : decode cX9_multiply 79 = .ok (.getfield 13, 3) := by decide +kernel
theorem dX9_multiply_82 : decode cX9_multiply 82 = .ok (.iconst 1, 1) := by decide +kernel
theorem dX9_multiply_83 : decode cX9_multiply 83 = .ok (.iadd, 1) := by decide +kernel
theorem dX9_multiply_84 : decode cX9_multiply 84 = .ok (.putfield 13, 3) := by decide +kernel
theorem dX9_multiply_87 : decode cX9_multiply 87 = .ok (.return_, 1) := by decide +kernel
set_option maxRecDepth 20000 in
theorem ggX9_multiplyOften_X9_multiply : GoodIn wsX9_multiplyOften wsX9_multiply := goodIn_r _ [5, 6, 7, 8, 9, 10] (by decide +kernel) (by decide +kernel)
set_option maxRecDepth 20000 in
theorem gX9_multiplyOften_X9_multiply : GoodIn wsX9_multiplyOften (wsV RX9 19 RX9 yX9_multiply wsX9_multiply) := goodIn_app (goodIn_of _ (by decide +kernel)) ggX9_multiplyOften_X9_multiply
theorem dX9_multiplyOften_0 : decode cX9_multiplyOften 0 = .ok (.iconst 0, 1) := by decide +kernel
theorem dX9_multiplyOften_1 : decode cX9_multiplyOften 1 = .ok (.istore 4, 2) := by decide +kernel
theorem dX9_multiplyOften_3 : decode cX9_multiplyOften 3 = .ok (.iload 4, 2) := by decide +kernel
theorem dX9_multiplyOften_5 : decode cX9_multiplyOften 5 = .ok (.iload_n 3, 1) := by decide +kernel
theorem dX9_multiplyOften_6 : decode cX9_multiplyOften 6 = .ok (.if_icmp .ge 14, 3) := by decide +kernel
theorem dX9_multiplyOften_9 : decode cX9_multiplyOften 9 = .ok (.aload_n 0, 1) := by decide +kernel
theorem dX9_multiplyOften_10 : decode cX9_multiplyOften 10 = .ok (.lload_n 1, 1) := by decide +kernel
theorem dX9_multiplyOften_11 : decode cX9_multiplyOften 11 = .ok (.invokevirtual 19, 3) := by decide +kernel
theorem dX9_multiplyOften_14 : decode cX9_multiplyOften 14 = .ok (.iinc 4 1, 3) := by decide +kernel
theorem dX9_multiplyOften_17 : decode cX9_multiplyOften 17 = .ok (.goto (-14), 3) := by decide +kernel
theorem dX9_multiplyOften_20 : decode cX9_multiplyOften 20 = .ok (.return_, 1) := by decide +kernel
theorem dX9_addTimes_0 : decode cX9_addTimes 0 = .ok (.aload_n 0, 1) := by decide +kernel
theorem dX9_addTimes_1 : decode cX9_addTimes 1 = .ok (.getfield 13, 3) := by decide +kernel
theorem dX9_addTimes_4 : decode cX9_addTimes 4 = .ok (.aload_n 1, 1) := by decide +kernel
theorem dX9_addTimes_5 : decode cX9_addTimes 5 = .ok (.getfield 13, 3) := by decide +kernel
theorem dX9_addTimes_8 : decode cX9_addTimes 8 = .ok (.invokestatic 23, 3) := by decide +kernel
theorem dX9_addTimes_11 : decode cX9_addTimes 11 = .ok (.iconst 1, 1) := by decide +kernel
theorem dX9_addTimes_12 : decode cX9_addTimes 12 = .ok (.iadd, 1) := by decide +kernel
theorem dX9_addTimes_13 : decode cX9_addTimes 13 = .ok (.bipush 14, 2) := by decide +kernel
theorem dX9_addTimes_15 : decode cX9_addTimes 15 = .ok (.invokestatic 29, 3) := by decide +kernel
theorem dX9_addTimes_18 : decode cX9_addTimes 18 = .ok (.istore 4, 2) := by decide +kernel
theorem dX9_addTimes_20 : decode cX9_addTimes 20 = .ok (.lconst 0, 1) := by decide +kernel
theorem dX9_addTimes_21 : decode cX9_addTimes 21 = .ok (.lstore 5, 2) := by decide +kernel
theorem dX9_addTimes_23 : decode cX9_addTimes 23 = .ok (.iconst 0, 1) := by decide +kernel
theorem dX9_addTimes_24 : decode cX9_addTimes 24 = .ok (.istore 7, 2) := by decide +kernel
theorem dX9_addTimes_26 : decode cX9_addTimes 26 = .ok (.iload 7, 2) := by decide +kernel
theorem dX9_addTimes_28 : decode cX9_addTimes 28 = .ok (.iload 4, 2) := by decide +kernel
theorem dX9_addTimes_30 : decode cX9_addTimes 30 = .ok (.if_icmp .ge 51, 3) := by decide +kernel
theorem dX9_addTimes_33 : decode cX9_addTimes 33 = .ok (.aload_n 0, 1) := by decide +kernel
theorem dX9_addTimes_34 : decode cX9_addTimes 34 = .ok (.getfield 9, 3) := by decide +kernel
theorem dX9_addTimes_37 : decode cX9_addTimes 37 = .ok (.iload 7, 2) := by decide +kernel
theorem dX9_addTimes_39 : decode cX9_addTimes 39 = .ok (.laload, 1) := by decide +kernel
theorem dX9_addTimes_40 : decode cX9_addTimes 40 = .ok (.aload_n 1, 1) := by decide +kernel
theorem dX9_addTimes_41 : decode cX9_addTimes 41 = .ok (.getfield 9, 3) := by decide +kernel
theorem dX9_addTimes_44 : decode cX9_addTimes 44 = .ok (.iload 7, 2) := by decide +kernel
theorem dX9_addTimes_46 : decode cX9_addTimes 46 = .ok (.laload, 1) := by decide +kernel
theorem dX9_addTimes_47 : decode cX9_addTimes 47 = .ok (.lload_n 2, 1) := by decide +kernel
theorem dX9_addTimes_48 : decode cX9_addTimes 48 = .ok (.lmul, 1) := by decide +kernel
theorem dX9_addTimes_49 : decode cX9_addTimes 49 = .ok (.ladd, 1) := by decide +kernel
theorem dX9_addTimes_50 : decode cX9_addTimes 50 = .ok (.lload 5, 2) := by decide +kernel
theorem dX9_addTimes_52 : decode cX9_addTimes 52 = .ok (.ladd, 1) := by decide +kernel
theorem dX9_addTimes_53 : decode cX9_addTimes 53 = .ok (.lstore 8, 2) := by decide +kernel
theorem dX9_addTimes_55 : decode cX9_addTimes 55 = .ok (.aload_n 0, 1) := by decide +kernel
theorem dX9_addTimes_56 : decode cX9_addTimes 56 = .ok (.getfield 9, 3) := by decide +kernel
theorem dX9_addTimes_59 : decode cX9_addTimes 59 = .ok (.iload 7, 2) := by decide +kernel
theorem dX9_addTimes_61 : decode cX9_addTimes 61 = .ok (.lload 8, 2) := by decide +kernel
theorem dX9_addTimes_63 : decode cX9_addTimes 63 = .ok (.ldc2_w 17, 3) := by decide +kernel
theorem dX9_addTimes_66 : decode cX9_addTimes 66 = .ok (.land, 1) := by decide +kernel
theorem dX9_addTimes_67 : decode cX9_addTimes 67 = .ok (.lastore, 1) := by decide +kernel
theorem dX9_addTimes_68 : decode cX9_addTimes 68 = .ok (.lload 8, 2) := by decide +kernel
theorem dX9_addTimes_70 : decode cX9_addTimes 70 = .ok (.bipush 32, 2) := by decide +kernel
theorem dX9_addTimes_72 : decode cX9_addTimes 72 = .ok (.lushr, 1) := by decide +kernel
theorem dX9_addTimes_73 : decode cX9_addTimes 73 = .ok (.lstore 5, 2) := by decide +kernel
theorem dX9_addTimes_75 : decode cX9_addTimes 75 = .ok (.iinc 7 1, 3) := by decide +kernel
theorem dX9_addTimes_78 : decode cX9_addTimes 78 = .ok (.goto (-52), 3) := by decide +kernel
theorem dX9_addTimes_81 : decode cX9_addTimes 81 = .ok (.aload_n 0, 1) := by decide +kernel
theorem dX9_addTimes_82 : decode cX9_addTimes 82 = .ok (.aload_n 0, 1) := by decide +kernel
theorem dX9_addTimes_83 : decode cX9_addTimes 83 = .ok (.getfield 9, 3) := by decide +kernel
theorem dX9_addTimes_86 : decode cX9_addTimes 86 = .ok (.iload 4, 2) := by decide +kernel
theorem dX9_addTimes_88 : decode cX9_addTimes 88 = .ok (.iconst 1, 1) := by decide +kernel
theorem dX9_addTimes_89 : decode cX9_addTimes 89 = .ok (.isub, 1) := by decide +kernel
theorem dX9_addTimes_90 : decode cX9_addTimes 90 = .ok (.laload, 1) := by decide +kernel
theorem dX9_addTimes_91 : decode cX9_addTimes 91 = .ok (.lconst 0, 1) := by decide +kernel
theorem dX9_addTimes_92 : decode cX9_addTimes 92 = .ok (.lcmp, 1) := by decide +kernel
theorem dX9_addTimes_93 : decode cX9_addTimes 93 = .ok (.ifCond .ne 10, 3) := by decide +kernel
theorem dX9_addTimes_96 : decode cX9_addTimes 96 = .ok (.iload 4, 2) := by decide +kernel
theorem dX9_addTimes_98 : decode cX9_addTimes 98 = .ok (.iconst 1, 1) := by decide +kernel
theorem dX9_addTimes_99 : decode cX9_addTimes 99 = .ok (.isub, 1) := by decide +kernel
theorem dX9_addTimes_100 : decode cX9_addTimes 100 = .ok (.goto 5, 3) := by decide +kernel
theorem dX9_addTimes_103 : decode cX9_addTimes 103 = .ok (.iload 4, 2) := by decide +kernel
theorem dX9_addTimes_105 : decode cX9_addTimes 105 = .ok (.putfield 13, 3) := by decide +kernel
theorem dX9_addTimes_108 : decode cX9_addTimes 108 = .ok (.return_, 1) := by decide +kernel
theorem dX9_against_0 : decode cX9_against 0 = .ok (.bipush 13, 2) := by decide +kernel
theorem dX9_against_2 : decode cX9_against 2 = .ok (.istore_n 2, 1) := by decide +kernel
theorem dX9_against_3 : decode cX9_against 3 = .ok (.iload_n 2, 1) := by decide +kernel
theorem dX9_against_4 : decode cX9_against 4 = .ok (.ifCond .lt 47, 3) := by decide +kernel
theorem dX9_against_7 : decode cX9_against 7 = .ok (.aload_n 0, 1) := by decide +kernel
theorem dX9_against_8 : decode cX9_against 8 = .ok (.getfield 9, 3) := by decide +kernel
theorem dX9_against_11 : decode cX9_against 11 = .ok (.iload_n 2, 1) := by decide +kernel
theorem dX9_against_12 : decode cX9_against 12 = .ok (.laload, 1) := by decide +kernel
theorem dX9_against_13 : decode cX9_against 13 = .ok (.aload_n 1, 1) := by decide +kernel
theorem dX9_against_14 : decode cX9_against 14 = .ok (.getfield 9, 3) := by decide +kernel
theorem dX9_against_17 : decode cX9_against 17 = .ok (.iload_n 2, 1) := by decide +kernel
theorem dX9_against_18 : decode cX9_against 18 = .ok (.laload, 1) := by decide +kernel
theorem dX9_against_19 : decode cX9_against 19 = .ok (.lcmp, 1) := by decide +kernel
theorem dX9_against_20 : decode cX9_against 20 = .ok (.ifCond .eq 25, 3) := by decide +kernel
theorem dX9_against_23 : decode cX9_against 23 = .ok (.aload_n 0, 1) := by decide +kernel
theorem dX9_against_24 : decode cX9_against 24 = .ok (.getfield 9, 3) := by decide +kernel
theorem dX9_against_27 : decode cX9_against 27 = .ok (.iload_n 2, 1) := by decide +kernel
theorem dX9_against_28 : decode cX9_against 28 = .ok (.laload, 1) := by decide +kernel
theorem dX9_against_29 : decode cX9_against 29 = .ok (.aload_n 1, 1) := by decide +kernel
theorem dX9_against_30 : decode cX9_against 30 = .ok (.getfield 9, 3) := by decide +kernel
theorem dX9_against_33 : decode cX9_against 33 = .ok (.iload_n 2, 1) := by decide +kernel
theorem dX9_against_34 : decode cX9_against 34 = .ok (.laload, 1) := by decide +kernel
theorem dX9_against_35 : decode cX9_against 35 = .ok (.lcmp, 1) := by decide +kernel
theorem dX9_against_36 : decode cX9_against 36 = .ok (.ifCond .ge 7, 3) := by decide +kernel
theorem dX9_against_39 : decode cX9_against 39 = .ok (.iconst (-1), 1) := by decide +kernel
theorem dX9_against_40 : decode cX9_against 40 = .ok (.goto 4, 3) := by decide +kernel
theorem dX9_against_43 : decode cX9_against 43 = .ok (.iconst 1, 1) := by decide +kernel
theorem dX9_against_44 : decode cX9_against 44 = .ok (.ireturn, 1) := by decide +kernel
theorem dX9_against_45 : decode cX9_against 45 = .ok (.iinc 2 (-1), 3) := by decide +kernel
theorem dX9_against_48 : decode cX9_against 48 = .ok (.goto (-45), 3) := by decide +kernel
theorem dX9_against_51 : decode cX9_against 51 = .ok (.iconst 0, 1) := by decide +kernel
theorem dX9_against_52 : decode cX9_against 52 = .ok (.ireturn, 1) := by decide +kernel
theorem dX9_limb_0 : decode cX9_limb 0 = .ok (.iload_n 1, 1) := by decide +kernel
theorem dX9_limb_1 : decode cX9_limb 1 = .ok (.ifCond .lt 18, 3) := by decide +kernel
theorem dX9_limb_4 : decode cX9_limb 4 = .ok (.iload_n 1, 1) := by decide +kernel
theorem dX9_limb_5 : decode cX9_limb 5 = .ok (.bipush 14, 2) := by decide +kernel
theorem dX9_limb_7 : decode cX9_limb 7 = .ok (.if_icmp .ge 12, 3) := by decide +kernel
theorem dX9_limb_10 : decode cX9_limb 10 = .ok (.aload_n 0, 1) := by decide +kernel
theorem dX9_limb_11 : decode cX9_limb 11 = .ok (.getfield 9, 3) := by decide +kernel
theorem dX9_limb_14 : decode cX9_limb 14 = .ok (.iload_n 1, 1) := by decide +kernel
theorem dX9_limb_15 : decode cX9_limb 15 = .ok (.laload, 1) := by decide +kernel
theorem dX9_limb_16 : decode cX9_limb 16 = .ok (.goto 4, 3) := by decide +kernel
theorem dX9_limb_19 : decode cX9_limb 19 = .ok (.lconst 0, 1) := by decide +kernel
theorem dX9_limb_20 : decode cX9_limb 20 = .ok (.lreturn, 1) := by decide +kernel
set_option maxRecDepth 20000 in
theorem ggX10_init_X1_init : GoodIn wsX10_init wsX1_init := goodIn_r _ [38, 39, 2, 3, 40, 41, 42, 43, 44, 45, 46, 47, 48, 49, 50, 51, 52, 149, 150, 108, 109, 110] (by decide +kernel) (by decide +kernel)
set_option maxRecDepth 20000 in
theorem gX10_init_X1_init : GoodIn wsX10_init (wsX1_init) := ggX10_init_X1_init
set_option maxRecDepth 20000 in
theorem ggX10_init_X5_init : GoodIn wsX10_init wsX5_init := goodIn_r _ [55, 56, 2, 3, 57, 58, 59, 60, 61, 119, 120, 121, 122] (by decide +kernel) (by decide +kernel)
set_option maxRecDepth 20000 in
theorem gX10_init_X5_init : GoodIn wsX10_init (wsX5_init) := ggX10_init_X5_init
set_option maxRecDepth 20000 in
theorem ggX10_init_X8_init : GoodIn wsX10_init wsX8_init := goodIn_r _ [64, 65, 2, 3, 57, 66, 67, 68, 123, 124, 125] (by decide +kernel) (by decide +kernel)
set_option maxRecDepth 20000 in
theorem gX10_init_X8_init : GoodIn wsX10_init (wsX8_init) := ggX10_init_X8_init
set_option maxRecDepth 20000 in
theorem ggX10_init_X7_init : GoodIn wsX10_init wsX7_init := goodIn_r _ [71, 72, 2, 3, 50, 73, 74, 75, 76, 126, 127, 128, 129] (by decide +kernel) (by decide +kernel)
set_option maxRecDepth 20000 in
theorem gX10_init_X7_init : GoodIn wsX10_init (wsX7_init) := ggX10_init_X7_init
set_option maxRecDepth 20000 in
theorem ggX10_init_X2_init : GoodIn wsX10_init wsX2_init := goodIn_r _ [79, 80, 2, 3, 50, 81, 82, 83, 33, 34, 84, 85, 86, 87, 88, 89, 90, 91, 130, 131, 132, 133, 147, 148] (by decide +kernel) (by decide +kernel)
set_option maxRecDepth 20000 in
theorem gX10_init_X2_init : GoodIn wsX10_init (wsX2_init) := ggX10_init_X2_init
set_option maxRecDepth 20000 in
theorem ggX10_init_X0_init : GoodIn wsX10_init wsX0_init := goodIn_r _ [94, 95, 2, 3, 57, 96, 97, 98, 134, 135, 136] (by decide +kernel) (by decide +kernel)
set_option maxRecDepth 20000 in
theorem gX10_init_X0_init : GoodIn wsX10_init (wsX0_init) := ggX10_init_X0_init
set_option maxRecDepth 20000 in
theorem ggX10_init_X6_init : GoodIn wsX10_init wsX6_init := goodIn_r _ [101, 102, 2, 3, 103, 41, 42, 104, 105, 106, 47, 48, 49, 50, 51, 52, 149, 150, 137, 138, 139, 140, 141, 142, 143, 144, 145, 146] (by decide +kernel) (by decide +kernel)
set_option maxRecDepth 20000 in
theorem gX10_init_X6_init : GoodIn wsX10_init (wsX6_init) := ggX10_init_X6_init
set_option maxRecDepth 20000 in
theorem ggX10_init_X4_init : GoodIn wsX10_init wsX4_init := goodIn_r _ [88, 89, 2, 3, 90, 91, 147, 148] (by decide +kernel) (by decide +kernel)
set_option maxRecDepth 20000 in
theorem gX10_init_X4_init : GoodIn wsX10_init (wsX4_init) := ggX10_init_X4_init
theorem dX10_init_0 : decode cX10_init 0 = .ok (.aload_n 0, 1) := by decide +kernel
theorem dX10_init_1 : decode cX10_init 1 = .ok (.invokespecial 1, 3) := by decide +kernel
theorem dX10_init_4 : decode cX10_init 4 = .ok (.aload_n 0, 1) := by decide +kernel
theorem dX10_init_5 : decode cX10_init 5 = .ok (.new 7, 3) := by decide +kernel
theorem dX10_init_8 : decode cX10_init 8 = .ok (.dup, 1) := by decide +kernel
theorem dX10_init_9 : decode cX10_init 9 = .ok (.invokespecial 9, 3) := by decide +kernel
theorem dX10_init_12 : decode cX10_init 12 = .ok (.putfield 10, 3) := by decide +kernel
theorem dX10_init_15 : decode cX10_init 15 = .ok (.aload_n 0, 1) := by decide +kernel
theorem dX10_init_16 : decode cX10_init 16 = .ok (.new 16, 3) := by decide +kernel
theorem dX10_init_19 : decode cX10_init 19 = .ok (.dup, 1) := by decide +kernel
theorem dX10_init_20 : decode cX10_init 20 = .ok (.invokespecial 18, 3) := by decide +kernel
theorem dX10_init_23 : decode cX10_init 23 = .ok (.putfield 19, 3) := by decide +kernel
theorem dX10_init_26 : decode cX10_init 26 = .ok (.aload_n 0, 1) := by decide +kernel
theorem dX10_init_27 : decode cX10_init 27 = .ok (.new 23, 3) := by decide +kernel
theorem dX10_init_30 : decode cX10_init 30 = .ok (.dup, 1) := by decide +kernel
theorem dX10_init_31 : decode cX10_init 31 = .ok (.invokespecial 25, 3) := by decide +kernel
theorem dX10_init_34 : decode cX10_init 34 = .ok (.putfield 26, 3) := by decide +kernel
theorem dX10_init_37 : decode cX10_init 37 = .ok (.aload_n 0, 1) := by decide +kernel
theorem dX10_init_38 : decode cX10_init 38 = .ok (.new 30, 3) := by decide +kernel
theorem dX10_init_41 : decode cX10_init 41 = .ok (.dup, 1) := by decide +kernel
theorem dX10_init_42 : decode cX10_init 42 = .ok (.invokespecial 32, 3) := by decide +kernel
theorem dX10_init_45 : decode cX10_init 45 = .ok (.putfield 33, 3) := by decide +kernel
theorem dX10_init_48 : decode cX10_init 48 = .ok (.aload_n 0, 1) := by decide +kernel
theorem dX10_init_49 : decode cX10_init 49 = .ok (.new 37, 3) := by decide +kernel
theorem dX10_init_52 : decode cX10_init 52 = .ok (.dup, 1) := by decide +kernel
theorem dX10_init_53 : decode cX10_init 53 = .ok (.invokespecial 39, 3) := by decide +kernel
theorem dX10_init_56 : decode cX10_init 56 = .ok (.putfield 40, 3) := by decide +kernel
theorem dX10_init_59 : decode cX10_init 59 = .ok (.aload_n 0, 1) := by decide +kernel
theorem dX10_init_60 : decode cX10_init 60 = .ok (.new 44, 3) := by decide +kernel
theorem dX10_init_63 : decode cX10_init 63 = .ok (.dup, 1) := by decide +kernel
theorem dX10_init_64 : decode cX10_init 64 = .ok (.invokespecial 46, 3) := by decide +kernel
theorem dX10_init_67 : decode cX10_init 67 = .ok (.putfield 47, 3) := by decide +kernel
theorem dX10_init_70 : decode cX10_init 70 = .ok (.aload_n 0, 1) := by decide +kernel
theorem dX10_init_71 : decode cX10_init 71 = .ok (.new 51, 3) := by decide +kernel
theorem dX10_init_74 : decode cX10_init 74 = .ok (.dup, 1) := by decide +kernel
theorem dX10_init_75 : decode cX10_init 75 = .ok (.invokespecial 53, 3) := by decide +kernel
