theorem dX10_init_78 : decode cX10_init 78 = .ok (.putfield 54, 3) := by decide +kernel
theorem dX10_init_81 : decode cX10_init 81 = .ok (.aload_n 0, 1) := by decide +kernel
theorem dX10_init_82 : decode cX10_init 82 = .ok (.new 58, 3) := by decide +kernel
theorem dX10_init_85 : decode cX10_init 85 = .ok (.dup, 1) := by decide +kernel
theorem dX10_init_86 : decode cX10_init 86 = .ok (.invokespecial 60, 3) := by decide +kernel
theorem dX10_init_89 : decode cX10_init 89 = .ok (.putfield 61, 3) := by decide +kernel
theorem dX10_init_92 : decode cX10_init 92 = .ok (.return_, 1) := by decide +kernel
set_option maxRecDepth 20000 in
theorem ggX10_above_X10_areHits : GoodIn wsX10_above wsX10_areHits := goodIn_r _ [6, 7, 8, 9, 10, 11, 12, 5, 13] (by decide +kernel) (by decide +kernel)
set_option maxRecDepth 20000 in
theorem gX10_above_X10_areHits : GoodIn wsX10_above (va_wsS RX10 65 yX10_areHits wsX10_areHits) := goodIn_app (goodIn_of _ (by decide +kernel)) ggX10_above_X10_areHits
set_option maxRecDepth 20000 in
theorem ggX10_above_X3_within : GoodIn wsX10_above wsX3_within := goodIn_r _ [10] (by decide +kernel) (by decide +kernel)
set_option maxRecDepth 20000 in
theorem gX10_above_X3_within : GoodIn wsX10_above (va_wsS RX10 69 yX3_within wsX3_within) := goodIn_app (goodIn_of _ (by decide +kernel)) ggX10_above_X3_within
set_option maxRecDepth 20000 in
theorem ggX10_above_X1_limbOfAbove : GoodIn wsX10_above wsX1_limbOfAbove := goodIn_r _ [18, 19, 20, 21, 22, 17, 23, 24, 25, 26, 27, 28, 29, 30, 31, 32, 33, 34, 35, 36, 37, 38, 39, 40, 41, 42, 43, 44, 45, 46, 47, 48, 49, 50, 51, 52, 53, 54, 55, 56, 57, 58, 59, 60, 69, 70, 71, 72, 73] (by decide +kernel) (by decide +kernel)
set_option maxRecDepth 20000 in
theorem gX10_above_X1_limbOfAbove : GoodIn wsX10_above (wsV RX10 77 RX1 yX1_limbOfAbove wsX1_limbOfAbove) := goodIn_app (goodIn_of _ (by decide +kernel)) ggX10_above_X1_limbOfAbove
theorem dX10_above_0 : decode cX10_above 0 = .ok (.iload_n 1, 1) := by decide +kernel
theorem dX10_above_1 : decode cX10_above 1 = .ok (.iload_n 2, 1) := by decide +kernel
theorem dX10_above_2 : decode cX10_above 2 = .ok (.iload_n 3, 1) := by decide +kernel
theorem dX10_above_3 : decode cX10_above 3 = .ok (.iload 4, 2) := by decide +kernel
theorem dX10_above_5 : decode cX10_above 5 = .ok (.iload 5, 2) := by decide +kernel
theorem dX10_above_7 : decode cX10_above 7 = .ok (.invokestatic 65, 3) := by decide +kernel
theorem dX10_above_10 : decode cX10_above 10 = .ok (.ifCond .eq 14, 3) := by decide +kernel
theorem dX10_above_13 : decode cX10_above 13 = .ok (.iload 6, 2) := by decide +kernel
theorem dX10_above_15 : decode cX10_above 15 = .ok (.iconst 0, 1) := by decide +kernel
theorem dX10_above_16 : decode cX10_above 16 = .ok (.bipush 10, 2) := by decide +kernel
theorem dX10_above_18 : decode cX10_above 18 = .ok (.invokestatic 69, 3) := by decide +kernel
theorem dX10_above_21 : decode cX10_above 21 = .ok (.ifCond .ne 7, 3) := by decide +kernel
theorem dX10_above_24 : decode cX10_above 24 = .ok (.ldc2_w 75, 3) := by decide +kernel
theorem dX10_above_27 : decode cX10_above 27 = .ok (.lreturn, 1) := by decide +kernel
theorem dX10_above_28 : decode cX10_above 28 = .ok (.aload_n 0, 1) := by decide +kernel
theorem dX10_above_29 : decode cX10_above 29 = .ok (.getfield 10, 3) := by decide +kernel
theorem dX10_above_32 : decode cX10_above 32 = .ok (.iload_n 1, 1) := by decide +kernel
theorem dX10_above_33 : decode cX10_above 33 = .ok (.iload_n 2, 1) := by decide +kernel
theorem dX10_above_34 : decode cX10_above 34 = .ok (.iload_n 3, 1) := by decide +kernel
theorem dX10_above_35 : decode cX10_above 35 = .ok (.iload 4, 2) := by decide +kernel
theorem dX10_above_37 : decode cX10_above 37 = .ok (.iload 5, 2) := by decide +kernel
theorem dX10_above_39 : decode cX10_above 39 = .ok (.iload 6, 2) := by decide +kernel
theorem dX10_above_41 : decode cX10_above 41 = .ok (.invokevirtual 77, 3) := by decide +kernel
theorem dX10_above_44 : decode cX10_above 44 = .ok (.lreturn, 1) := by decide +kernel
set_option maxRecDepth 20000 in
theorem ggX10_odds_X10_areHits : GoodIn wsX10_odds wsX10_areHits := goodIn_r _ [5, 6, 7, 8, 9, 10, 11, 4, 12] (by decide +kernel) (by decide +kernel)
set_option maxRecDepth 20000 in
theorem gX10_odds_X10_areHits : GoodIn wsX10_odds (va_wsS RX10 65 yX10_areHits wsX10_areHits) := goodIn_app (goodIn_of _ (by decide +kernel)) ggX10_odds_X10_areHits
set_option maxRecDepth 20000 in
theorem ggX10_odds_X3_within : GoodIn wsX10_odds wsX3_within := goodIn_r _ [9] (by decide +kernel) (by decide +kernel)
set_option maxRecDepth 20000 in
theorem gX10_odds_X3_within : GoodIn wsX10_odds (va_wsS RX10 69 yX3_within wsX3_within) := goodIn_app (goodIn_of _ (by decide +kernel)) ggX10_odds_X3_within
set_option maxRecDepth 20000 in
theorem ggX10_odds_X1_oddsAgainst : GoodIn wsX10_odds wsX1_oddsAgainst := goodIn_r _ [17, 18, 19, 20, 21, 22, 23, 24, 25, 26, 27, 28, 29, 30, 31, 32, 33, 34, 35, 36, 37, 38, 16, 39, 40, 41, 42, 43, 44, 45, 46, 47, 48, 49, 50, 51, 52, 53, 54, 55, 56, 57, 58, 59, 60, 69, 70, 71, 72, 73] (by decide +kernel) (by decide +kernel)
set_option maxRecDepth 20000 in
theorem gX10_odds_X1_oddsAgainst : GoodIn wsX10_odds (wsV RX10 81 RX1 yX1_oddsAgainst wsX1_oddsAgainst) := goodIn_app (goodIn_of _ (by decide +kernel)) ggX10_odds_X1_oddsAgainst
theorem dX10_odds_0 : decode cX10_odds 0 = .ok (.iload_n 1, 1) := by decide +kernel
theorem dX10_odds_1 : decode cX10_odds 1 = .ok (.iload_n 2, 1) := by decide +kernel
theorem dX10_odds_2 : decode cX10_odds 2 = .ok (.iload_n 3, 1) := by decide +kernel
theorem dX10_odds_3 : decode cX10_odds 3 = .ok (.iload 4, 2) := by decide +kernel
theorem dX10_odds_5 : decode cX10_odds 5 = .ok (.iload 5, 2) := by decide +kernel
theorem dX10_odds_7 : decode cX10_odds 7 = .ok (.invokestatic 65, 3) := by decide +kernel
theorem dX10_odds_10 : decode cX10_odds 10 = .ok (.ifCond .eq 26, 3) := by decide +kernel
theorem dX10_odds_13 : decode cX10_odds 13 = .ok (.iload 7, 2) := by decide +kernel
theorem dX10_odds_15 : decode cX10_odds 15 = .ok (.iconst 1, 1) := by decide +kernel
theorem dX10_odds_16 : decode cX10_odds 16 = .ok (.sipush 1000, 3) := by decide +kernel
theorem dX10_odds_19 : decode cX10_odds 19 = .ok (.invokestatic 69, 3) := by decide +kernel
theorem dX10_odds_22 : decode cX10_odds 22 = .ok (.ifCond .eq 14, 3) := by decide +kernel
theorem dX10_odds_25 : decode cX10_odds 25 = .ok (.iload 6, 2) := by decide +kernel
theorem dX10_odds_27 : decode cX10_odds 27 = .ok (.iconst 0, 1) := by decide +kernel
theorem dX10_odds_28 : decode cX10_odds 28 = .ok (.iload 7, 2) := by decide +kernel
theorem dX10_odds_30 : decode cX10_odds 30 = .ok (.invokestatic 69, 3) := by decide +kernel
theorem dX10_odds_33 : decode cX10_odds 33 = .ok (.ifCond .ne 5, 3) := by decide +kernel
theorem dX10_odds_36 : decode cX10_odds 36 = .ok (.iconst (-1), 1) := by decide +kernel
theorem dX10_odds_37 : decode cX10_odds 37 = .ok (.ireturn, 1) := by decide +kernel
theorem dX10_odds_38 : decode cX10_odds 38 = .ok (.iconst 1, 1) := by decide +kernel
theorem dX10_odds_39 : decode cX10_odds 39 = .ok (.aload_n 0, 1) := by decide +kernel
theorem dX10_odds_40 : decode cX10_odds 40 = .ok (.getfield 10, 3) := by decide +kernel
theorem dX10_odds_43 : decode cX10_odds 43 = .ok (.iload_n 1, 1) := by decide +kernel
theorem dX10_odds_44 : decode cX10_odds 44 = .ok (.iload_n 2, 1) := by decide +kernel
theorem dX10_odds_45 : decode cX10_odds 45 = .ok (.iload_n 3, 1) := by decide +kernel
theorem dX10_odds_46 : decode cX10_odds 46 = .ok (.iload 4, 2) := by decide +kernel
theorem dX10_odds_48 : decode cX10_odds 48 = .ok (.iload 5, 2) := by decide +kernel
theorem dX10_odds_50 : decode cX10_odds 50 = .ok (.iload 6, 2) := by decide +kernel
theorem dX10_odds_52 : decode cX10_odds 52 = .ok (.iload 7, 2) := by decide +kernel
theorem dX10_odds_54 : decode cX10_odds 54 = .ok (.invokevirtual 81, 3) := by decide +kernel
theorem dX10_odds_57 : decode cX10_odds 57 = .ok (.iadd, 1) := by decide +kernel
theorem dX10_odds_58 : decode cX10_odds 58 = .ok (.ireturn, 1) := by decide +kernel
set_option maxRecDepth 20000 in
theorem ggX10_bound_X3_within : GoodIn wsX10_bound wsX3_within := goodIn_r _ [7] (by decide +kernel) (by decide +kernel)
set_option maxRecDepth 20000 in
theorem gX10_bound_X3_within : GoodIn wsX10_bound (va_wsS RX10 69 yX3_within wsX3_within) := goodIn_app (goodIn_of _ (by decide +kernel)) ggX10_bound_X3_within
set_option maxRecDepth 20000 in
theorem ggX10_bound_X10_isSide : GoodIn wsX10_bound wsX10_isSide := goodIn_r _ [11] (by decide +kernel) (by decide +kernel)
set_option maxRecDepth 20000 in
theorem gX10_bound_X10_isSide : GoodIn wsX10_bound (va_wsS RX10 85 yX10_isSide wsX10_isSide) := goodIn_app (goodIn_of _ (by decide +kernel)) ggX10_bound_X10_isSide
set_option maxRecDepth 20000 in
theorem ggX10_bound_X10_isTrust : GoodIn wsX10_bound wsX10_isTrust := goodIn_r _ [14, 4, 5, 6, 7] (by decide +kernel) (by decide +kernel)
set_option maxRecDepth 20000 in
theorem gX10_bound_X10_isTrust : GoodIn wsX10_bound (va_wsS RX10 89 yX10_isTrust wsX10_isTrust) := goodIn_app (goodIn_of _ (by decide +kernel)) ggX10_bound_X10_isTrust
set_option maxRecDepth 20000 in
theorem ggX10_bound_X1_upper : GoodIn wsX10_bound wsX1_upper := goodIn_r _ [19, 20, 21, 22, 23, 24, 25, 26, 27, 28, 29, 30, 31, 32, 33, 34, 35, 36, 37, 38, 39, 40, 41, 18, 42, 43, 44, 45, 46, 47, 48, 49, 50, 51, 52, 53, 54, 55, 56, 57, 58, 59, 60, 61, 62, 63, 77, 78, 79, 80, 81] (by decide +kernel) (by decide +kernel)
set_option maxRecDepth 20000 in
theorem gX10_bound_X1_upper : GoodIn wsX10_bound (wsV RX10 100 RX1 yX1_upper wsX1_upper) := goodIn_app (goodIn_of _ (by decide +kernel)) ggX10_bound_X1_upper
set_option maxRecDepth 20000 in
theorem ggX10_bound_X1_lower : GoodIn wsX10_bound wsX1_lower := goodIn_r _ [67, 68, 16, 17, 18, 19, 20, 21, 22, 23, 24, 25, 26, 27, 28, 29, 30, 31, 32, 33, 34, 35, 36, 37, 38, 39, 40, 41, 42, 43, 44, 45, 46, 47, 48, 49, 50, 51, 52, 53, 54, 55, 56, 57, 58, 59, 60, 61, 62, 63, 77, 78, 79, 80, 81] (by decide +kernel) (by decide +kernel)
set_option maxRecDepth 20000 in
theorem gX10_bound_X1_lower : GoodIn wsX10_bound (wsV RX10 104 RX1 yX1_lower wsX1_lower) := goodIn_app (goodIn_of _ (by decide +kernel)) ggX10_bound_X1_lower
theorem dX10_bound_0 : decode cX10_bound 0 = .ok (.iload_n 1, 1) := by decide +kernel
theorem dX10_bound_1 : decode cX10_bound 1 = .ok (.iconst 1, 1) := by decide +kernel
theorem dX10_bound_2 : decode cX10_bound 2 = .ok (.bipush 30, 2) := by decide +kernel
theorem dX10_bound_4 : decode cX10_bound 4 = .ok (.invokestatic 69, 3) := by decide +kernel
theorem dX10_bound_7 : decode cX10_bound 7 = .ok (.ifCond .eq 19, 3) := by decide +kernel
theorem dX10_bound_10 : decode cX10_bound 10 = .ok (.iload_n 2, 1) := by decide +kernel
theorem dX10_bound_11 : decode cX10_bound 11 = .ok (.iconst 0, 1) := by decide +kernel
theorem dX10_bound_12 : decode cX10_bound 12 = .ok (.iload_n 1, 1) := by decide +kernel
theorem dX10_bound_13 : decode cX10_bound 13 = .ok (.invokestatic 69, 3) := by decide +kernel
theorem dX10_bound_16 : decode cX10_bound 16 = .ok (.ifCond .eq 10, 3) := by decide +kernel
theorem dX10_bound_19 : decode cX10_bound 19 = .ok (.iload_n 3, 1) := by decide +kernel
theorem dX10_bound_20 : decode cX10_bound 20 = .ok (.invokestatic 85, 3) := by decide +kernel
theorem dX10_bound_23 : decode cX10_bound 23 = .ok (.ifCond .ne 5, 3) := by decide +kernel
theorem dX10_bound_26 : decode cX10_bound 26 = .ok (.iconst (-1), 1) := by decide +kernel
theorem dX10_bound_27 : decode cX10_bound 27 = .ok (.ireturn, 1) := by decide +kernel
theorem dX10_bound_28 : decode cX10_bound 28 = .ok (.iload 4, 2) := by decide +kernel
theorem dX10_bound_30 : decode cX10_bound 30 = .ok (.iload 5, 2) := by decide +kernel
theorem dX10_bound_32 : decode cX10_bound 32 = .ok (.invokestatic 89, 3) := by decide +kernel
theorem dX10_bound_35 : decode cX10_bound 35 = .ok (.ifCond .ne 13, 3) := by decide +kernel
theorem dX10_bound_38 : decode cX10_bound 38 = .ok (.new 93, 3) := by decide +kernel
theorem dX10_bound_41 : decode cX10_bound 41 = .ok (.dup, 1) := by decide +kernel
theorem dX10_bound_42 : decode cX10_bound 42 = .ok (.ldc 95, 2) := by decide +kernel
theorem dX10_bound_44 : decode cX10_bound 44 = .ok (.invokespecial 97, 3) := by decide +kernel
theorem dX10_bound_47 : decode cX10_bound 47 = .ok (.athrow, 1) := by decide +kernel
theorem dX10_bound_48 : decode cX10_bound 48 = .ok (.iload_n 3, 1) := by decide +kernel
theorem dX10_bound_49 : decode cX10_bound 49 = .ok (.ifCond .ne 19, 3) := by decide +kernel
theorem dX10_bound_52 : decode cX10_bound 52 = .ok (.aload_n 0, 1) := by decide +kernel
theorem dX10_bound_53 : decode cX10_bound 53 = .ok (.getfield 10, 3) := by decide +kernel
theorem dX10_bound_56 : decode cX10_bound 56 = .ok (.iload_n 1, 1) := by decide +kernel
theorem dX10_bound_57 : decode cX10_bound 57 = .ok (.iload_n 2, 1) := by decide +kernel
theorem dX10_bound_58 : decode cX10_bound 58 = .ok (.iload 4, 2) := by decide +kernel
theorem dX10_bound_60 : decode cX10_bound 60 = .ok (.iload 5, 2) := by decide +kernel
theorem dX10_bound_62 : decode cX10_bound 62 = .ok (.invokevirtual 100, 3) := by decide +kernel
theorem dX10_bound_65 : decode cX10_bound 65 = .ok (.goto 16, 3) := by decide +kernel
theorem dX10_bound_68 : decode cX10_bound 68 = .ok (.aload_n 0, 1) := by decide +kernel
theorem dX10_bound_69 : decode cX10_bound 69 = .ok (.getfield 10, 3) := by decide +kernel
theorem dX10_bound_72 : decode cX10_bound 72 = .ok (.iload_n 1, 1) := by decide +kernel
theorem dX10_bound_73 : decode cX10_bound 73 = .ok (.iload_n 2, 1) := by decide +kernel
theorem dX10_bound_74 : decode cX10_bound 74 = .ok (.iload 4, 2) := by decide +kernel
theorem dX10_bound_76 : decode cX10_bound 76 = .ok (.iload 5, 2) := by decide +kernel
theorem dX10_bound_78 : decode cX10_bound 78 = .ok (.invokevirtual 104, 3) := by decide +kernel
theorem dX10_bound_81 : decode cX10_bound 81 = .ok (.ireturn, 1) := by decide +kernel
set_option maxRecDepth 20000 in
theorem ggX10_row_X3_within : GoodIn wsX10_row wsX3_within := goodIn_r _ [5] (by decide +kernel) (by decide +kernel)
set_option maxRecDepth 20000 in
theorem gX10_row_X3_within : GoodIn wsX10_row (va_wsS RX10 69 yX3_within wsX3_within) := goodIn_app (goodIn_of _ (by decide +kernel)) ggX10_row_X3_within
set_option maxRecDepth 20000 in
theorem ggX10_row_X5_isFull : GoodIn wsX10_row wsX5_isFull := goodIn_r _ [10, 11, 32, 33, 34, 35] (by decide +kernel) (by decide +kernel)
set_option maxRecDepth 20000 in
theorem gX10_row_X5_isFull : GoodIn wsX10_row (wsV RX10 107 RX5 yX5_isFull wsX5_isFull) := goodIn_app (goodIn_of _ (by decide +kernel)) ggX10_row_X5_isFull
set_option maxRecDepth 20000 in
theorem ggX10_row_X5_add : GoodIn wsX10_row wsX5_add := goodIn_r _ [15, 16, 11, 17, 18, 19, 7, 8, 9, 10, 32, 33, 34, 35] (by decide +kernel) (by decide +kernel)
set_option maxRecDepth 20000 in
theorem gX10_row_X5_add : GoodIn wsX10_row (wsV RX10 111 RX5 yX5_add wsX5_add) := goodIn_app (goodIn_of _ (by decide +kernel)) ggX10_row_X5_add
set_option maxRecDepth 20000 in
theorem ggX10_row_X5_size : GoodIn wsX10_row wsX5_size := goodIn_r _ [23, 11, 32, 33, 34, 35] (by decide +kernel) (by decide +kernel)
set_option maxRecDepth 20000 in
theorem gX10_row_X5_size : GoodIn wsX10_row (wsV RX10 115 RX5 yX5_size wsX5_size) := goodIn_app (goodIn_of _ (by decide +kernel)) ggX10_row_X5_size
theorem dX10_row_0 : decode cX10_row 0 = .ok (.iload_n 1, 1) := by decide +kernel
theorem dX10_row_1 : decode cX10_row 1 = .ok (.iconst 0, 1) := by decide +kernel
theorem dX10_row_2 : decode cX10_row 2 = .ok (.bipush 7, 2) := by decide +kernel
theorem dX10_row_4 : decode cX10_row 4 = .ok (.invokestatic 69, 3) := by decide +kernel
theorem dX10_row_7 : decode cX10_row 7 = .ok (.ifCond .eq 23, 3) := by decide +kernel
theorem dX10_row_10 : decode cX10_row 10 = .ok (.iload_n 2, 1) := by decide +kernel
theorem dX10_row_11 : decode cX10_row 11 = .ok (.iconst 0, 1) := by decide +kernel
theorem dX10_row_12 : decode cX10_row 12 = .ok (.bipush 100, 2) := by decide +kernel
theorem dX10_row_14 : decode cX10_row 14 = .ok (.invokestatic 69, 3) := by decide +kernel
theorem dX10_row_17 : decode cX10_row 17 = .ok (.ifCond .eq 13, 3) := by decide +kernel
theorem dX10_row_20 : decode cX10_row 20 = .ok (.iload_n 3, 1) := by decide +kernel
theorem dX10_row_21 : decode cX10_row 21 = .ok (.iconst 0, 1) := by decide +kernel
theorem dX10_row_22 : decode cX10_row 22 = .ok (.bipush 100, 2) := by decide +kernel
theorem dX10_row_24 : decode cX10_row 24 = .ok (.invokestatic 69, 3) := by decide +kernel
theorem dX10_row_27 : decode cX10_row 27 = .ok (.ifCond .ne 5, 3) := by decide +kernel
theorem dX10_row_30 : decode cX10_row 30 = .ok (.iconst (-1), 1) := by decide +kernel
theorem dX10_row_31 : decode cX10_row 31 = .ok (.ireturn, 1) := by decide +kernel
theorem dX10_row_32 : decode cX10_row 32 = .ok (.aload_n 0, 1) := by decide +kernel
theorem dX10_row_33 : decode cX10_row 33 = .ok (.getfield 19, 3) := by decide +kernel
theorem dX10_row_36 : decode cX10_row 36 = .ok (.invokevirtual 107, 3) := by decide +kernel
theorem dX10_row_39 : decode cX10_row 39 = .ok (.ifCond .eq 6, 3) := by decide +kernel
theorem dX10_row_42 : decode cX10_row 42 = .ok (.bipush (-2), 2) := by decide +kernel
theorem dX10_row_44 : decode cX10_row 44 = .ok (.ireturn, 1) := by decide +kernel
theorem dX10_row_45 : decode cX10_row 45 = .ok (.aload_n 0, 1) := by decide +kernel
theorem dX10_row_46 : decode cX10_row 46 = .ok (.getfield 19, 3) := by decide +kernel
theorem dX10_row_49 : decode cX10_row 49 = .ok (.iload_n 1, 1) := by decide +kernel
theorem dX10_row_50 : decode cX10_row 50 = .ok (.iload_n 2, 1) := by decide +kernel
theorem dX10_row_51 : decode cX10_row 51 = .ok (.iload_n 3, 1) := by decide +kernel
theorem dX10_row_52 : decode cX10_row 52 = .ok (.invokevirtual 111, 3) := by decide +kernel
theorem dX10_row_55 : decode cX10_row 55 = .ok (.aload_n 0, 1) := by decide +kernel
theorem dX10_row_56 : decode cX10_row 56 = .ok (.getfield 19, 3) := by decide +kernel
theorem dX10_row_59 : decode cX10_row 59 = .ok (.invokevirtual 115, 3) := by decide +kernel
theorem dX10_row_62 : decode cX10_row 62 = .ok (.ireturn, 1) := by decide +kernel
set_option maxRecDepth 20000 in
theorem ggX10_drop_X5_size : GoodIn wsX10_drop wsX5_size := goodIn_r _ [6, 7, 20, 21, 22, 23] (by decide +kernel) (by decide +kernel)
set_option maxRecDepth 20000 in
theorem gX10_drop_X5_size : GoodIn wsX10_drop (wsV RX10 115 RX5 yX5_size wsX5_size) := goodIn_app (goodIn_of _ (by decide +kernel)) ggX10_drop_X5_size
set_option maxRecDepth 20000 in
theorem ggX10_drop_X5_removeLast : GoodIn wsX10_drop wsX5_removeLast := goodIn_r _ [11, 7, 20, 21, 22, 23] (by decide +kernel) (by decide +kernel)
set_option maxRecDepth 20000 in
theorem gX10_drop_X5_removeLast : GoodIn wsX10_drop (wsV RX10 119 RX5 yX5_removeLast wsX5_removeLast) := goodIn_app (goodIn_of _ (by decide +kernel)) ggX10_drop_X5_removeLast
theorem dX10_drop_0 : decode cX10_drop 0 = .ok (.aload_n 0, 1) := by decide +kernel
theorem dX10_drop_1 : decode cX10_drop 1 = .ok (.getfield 19, 3) := by decide +kernel
theorem dX10_drop_4 : decode cX10_drop 4 = .ok (.invokevirtual 115, 3) := by decide +kernel
theorem dX10_drop_7 : decode cX10_drop 7 = .ok (.ifCond .ne 6, 3) := by decide +kernel
theorem dX10_drop_10 : decode cX10_drop 10 = .ok (.bipush (-3), 2) := by decide +kernel
theorem dX10_drop_12 : decode cX10_drop 12 = .ok (.ireturn, 1) := by decide +kernel
theorem dX10_drop_13 : decode cX10_drop 13 = .ok (.aload_n 0, 1) := by decide +kernel
theorem dX10_drop_14 : decode cX10_drop 14 = .ok (.getfield 19, 3) := by decide +kernel
theorem dX10_drop_17 : decode cX10_drop 17 = .ok (.invokevirtual 119, 3) := by decide +kernel
theorem dX10_drop_20 : decode cX10_drop 20 = .ok (.aload_n 0, 1) := by decide +kernel
theorem dX10_drop_21 : decode cX10_drop 21 = .ok (.getfield 19, 3) := by decide +kernel
theorem dX10_drop_24 : decode cX10_drop 24 = .ok (.invokevirtual 115, 3) := by decide +kernel
theorem dX10_drop_27 : decode cX10_drop 27 = .ok (.ireturn, 1) := by decide +kernel
set_option maxRecDepth 20000 in
theorem ggX10_turned_X3_within : GoodIn wsX10_turned wsX3_within := goodIn_r _ [8] (by decide +kernel) (by decide +kernel)
set_option maxRecDepth 20000 in
theorem gX10_turned_X3_within : GoodIn wsX10_turned (va_wsS RX10 69 yX3_within wsX3_within) := goodIn_app (goodIn_of _ (by decide +kernel)) ggX10_turned_X3_within
set_option maxRecDepth 20000 in
theorem ggX10_turned_X8_take : GoodIn wsX10_turned wsX8_take := goodIn_r _ [13, 14, 15, 16, 17, 12, 18, 19, 20, 21, 22, 23, 24, 25, 26, 27, 28, 29, 30, 31, 32, 33, 34, 35, 36, 37, 38, 39, 40, 41, 42, 43, 44, 45, 46, 47, 48, 49, 118, 119, 120, 121, 122, 123, 124] (by decide +kernel) (by decide +kernel)
set_option maxRecDepth 20000 in
theorem gX10_turned_X8_take : GoodIn wsX10_turned (wsV RX10 122 RX8 yX8_take wsX8_take) := goodIn_app (goodIn_of _ (by decide +kernel)) ggX10_turned_X8_take
set_option maxRecDepth 20000 in
theorem ggX10_turned_X7_take : GoodIn wsX10_turned wsX7_take := goodIn_r _ [54, 55, 56, 57, 58, 59, 60, 61, 62, 63, 64, 65, 53, 66, 67, 68, 69, 70, 71, 72, 73, 74, 75, 12, 76, 14, 77, 78, 79, 80, 36, 81, 82, 83, 84, 85, 86, 87, 88, 125, 126, 127, 128, 118, 119, 120] (by decide +kernel) (by decide +kernel)
set_option maxRecDepth 20000 in
theorem gX10_turned_X7_take : GoodIn wsX10_turned (wsV RX10 126 RX7 yX7_take wsX7_take) := goodIn_app (goodIn_of _ (by decide +kernel)) ggX10_turned_X7_take
set_option maxRecDepth 20000 in
theorem ggX10_turned_X7_signs : GoodIn wsX10_turned wsX7_signs := goodIn_r _ [92, 67, 125, 126, 127, 128] (by decide +kernel) (by decide +kernel)
set_option maxRecDepth 20000 in
theorem gX10_turned_X7_signs : GoodIn wsX10_turned (wsV RX10 129 RX7 yX7_signs wsX7_signs) := goodIn_app (goodIn_of _ (by decide +kernel)) ggX10_turned_X7_signs
set_option maxRecDepth 20000 in
theorem ggX10_turned_X7_waysAtLeast : GoodIn wsX10_turned wsX7_waysAtLeast := goodIn_r _ [96, 68, 69, 97, 98, 99, 53, 100, 60, 61, 58, 62, 55, 101, 102, 103, 104, 67, 125, 126, 127, 128] (by decide +kernel) (by decide +kernel)
set_option maxRecDepth 20000 in
theorem gX10_turned_X7_waysAtLeast : GoodIn wsX10_turned (wsV RX10 132 RX7 yX7_waysAtLeast wsX7_waysAtLeast) := goodIn_app (goodIn_of _ (by decide +kernel)) ggX10_turned_X7_waysAtLeast
set_option maxRecDepth 20000 in
theorem ggX10_turned_X7_waysAsFar : GoodIn wsX10_turned wsX7_waysAsFar := goodIn_r _ [108, 68, 69, 109, 101, 102, 103, 53, 104, 67, 81, 82, 83, 84, 60, 61, 58, 62, 97, 98, 99, 100, 55, 125, 126, 127, 128] (by decide +kernel) (by decide +kernel)
set_option maxRecDepth 20000 in
theorem gX10_turned_X7_waysAsFar : GoodIn wsX10_turned (wsV RX10 136 RX7 yX7_waysAsFar wsX7_waysAsFar) := goodIn_app (goodIn_of _ (by decide +kernel)) ggX10_turned_X7_waysAsFar
theorem dX10_turned_0 : decode cX10_turned 0 = .ok (.iload_n 2, 1) := by decide +kernel
theorem dX10_turned_1 : decode cX10_turned 1 = .ok (.iconst 0, 1) := by decide +kernel
theorem dX10_turned_2 : decode cX10_turned 2 = .ok (.iconst 2, 1) := by decide +kernel
theorem dX10_turned_3 : decode cX10_turned 3 = .ok (.invokestatic 69, 3) := by decide +kernel
theorem dX10_turned_6 : decode cX10_turned 6 = .ok (.ifCond .ne 7, 3) := by decide +kernel
theorem dX10_turned_9 : decode cX10_turned 9 = .ok (.ldc2_w 75, 3) := by decide +kernel
theorem dX10_turned_12 : decode cX10_turned 12 = .ok (.lreturn, 1) := by decide +kernel
theorem dX10_turned_13 : decode cX10_turned 13 = .ok (.aload_n 0, 1) := by decide +kernel
theorem dX10_turned_14 : decode cX10_turned 14 = .ok (.getfield 26, 3) := by decide +kernel
theorem dX10_turned_17 : decode cX10_turned 17 = .ok (.aload_n 0, 1) := by decide +kernel
theorem dX10_turned_18 : decode cX10_turned 18 = .ok (.getfield 19, 3) := by decide +kernel
theorem dX10_turned_21 : decode cX10_turned 21 = .ok (.iload_n 1, 1) := by decide +kernel
theorem dX10_turned_22 : decode cX10_turned 22 = .ok (.invokevirtual 122, 3) := by decide +kernel
theorem dX10_turned_25 : decode cX10_turned 25 = .ok (.aload_n 0, 1) := by decide +kernel
theorem dX10_turned_26 : decode cX10_turned 26 = .ok (.getfield 33, 3) := by decide +kernel
theorem dX10_turned_29 : decode cX10_turned 29 = .ok (.aload_n 0, 1) := by decide +kernel
theorem dX10_turned_30 : decode cX10_turned 30 = .ok (.getfield 26, 3) := by decide +kernel
theorem dX10_turned_33 : decode cX10_turned 33 = .ok (.invokevirtual 126, 3) := by decide +kernel
theorem dX10_turned_36 : decode cX10_turned 36 = .ok (.iload_n 2, 1) := by decide +kernel
theorem dX10_turned_37 : decode cX10_turned 37 = .ok (.ifCond .ne 12, 3) := by decide +kernel
theorem dX10_turned_40 : decode cX10_turned 40 = .ok (.aload_n 0, 1) := by decide +kernel
theorem dX10_turned_41 : decode cX10_turned 41 = .ok (.getfield 33, 3) := by decide +kernel
theorem dX10_turned_44 : decode cX10_turned 44 = .ok (.invokevirtual 129, 3) := by decide +kernel
theorem dX10_turned_47 : decode cX10_turned 47 = .ok (.i2l, 1) := by decide +kernel
theorem dX10_turned_48 : decode cX10_turned 48 = .ok (.lreturn, 1) := by decide +kernel
theorem dX10_turned_49 : decode cX10_turned 49 = .ok (.iload_n 2, 1) := by decide +kernel
theorem dX10_turned_50 : decode cX10_turned 50 = .ok (.iconst 1, 1) := by decide +kernel
theorem dX10_turned_51 : decode cX10_turned 51 = .ok (.if_icmp .ne 13, 3) := by decide +kernel
theorem dX10_turned_54 : decode cX10_turned 54 = .ok (.aload_n 0, 1) := by decide +kernel
theorem dX10_turned_55 : decode cX10_turned 55 = .ok (.getfield 33, 3) := by decide +kernel
theorem dX10_turned_58 : decode cX10_turned 58 = .ok (.invokevirtual 132, 3) := by decide +kernel
theorem dX10_turned_61 : decode cX10_turned 61 = .ok (.goto 10, 3) := by decide +kernel
theorem dX10_turned_64 : decode cX10_turned 64 = .ok (.aload_n 0, 1) := by decide +kernel
theorem dX10_turned_65 : decode cX10_turned 65 = .ok (.getfield 33, 3) := by decide +kernel
theorem dX10_turned_68 : decode cX10_turned 68 = .ok (.invokevirtual 136, 3) := by decide +kernel
theorem dX10_turned_71 : decode cX10_turned 71 = .ok (.lreturn, 1) := by decide +kernel
set_option maxRecDepth 20000 in
theorem ggX10_wins_X3_within : GoodIn wsX10_wins wsX3_within := goodIn_r _ [5] (by decide +kernel) (by decide +kernel)
set_option maxRecDepth 20000 in
theorem gX10_wins_X3_within : GoodIn wsX10_wins (va_wsS RX10 69 yX3_within wsX3_within) := goodIn_app (goodIn_of _ (by decide +kernel)) ggX10_wins_X3_within
set_option maxRecDepth 20000 in
theorem ggX10_wins_X5_winsBy : GoodIn wsX10_wins wsX5_winsBy := goodIn_r _ [10, 11, 12, 13, 14, 15, 9, 16, 17, 30, 31, 32, 33] (by decide +kernel) (by decide +kernel)
set_option maxRecDepth 20000 in
theorem gX10_wins_X5_winsBy : GoodIn wsX10_wins (wsV RX10 139 RX5 yX5_winsBy wsX5_winsBy) := goodIn_app (goodIn_of _ (by decide +kernel)) ggX10_wins_X5_winsBy
set_option maxRecDepth 20000 in
theorem ggX10_wins_X5_lossesBy : GoodIn wsX10_wins wsX5_lossesBy := goodIn_r _ [21, 12, 11, 13, 14, 15, 9, 16, 17, 30, 31, 32, 33] (by decide +kernel) (by decide +kernel)
set_option maxRecDepth 20000 in
theorem gX10_wins_X5_lossesBy : GoodIn wsX10_wins (wsV RX10 143 RX5 yX5_lossesBy wsX5_lossesBy) := goodIn_app (goodIn_of _ (by decide +kernel)) ggX10_wins_X5_lossesBy
theorem dX10_wins_0 : decode cX10_wins 0 = .ok (.iload_n 1, 1) := by decide +kernel
theorem dX10_wins_1 : decode cX10_wins 1 = .ok (.iconst 0, 1) := by decide +kernel
theorem dX10_wins_2 : decode cX10_wins 2 = .ok (.bipush 101, 2) := by decide +kernel
theorem dX10_wins_4 : decode cX10_wins 4 = .ok (.invokestatic 69, 3) := by decide +kernel
theorem dX10_wins_7 : decode cX10_wins 7 = .ok (.ifCond .eq 12, 3) := by decide +kernel
theorem dX10_wins_10 : decode cX10_wins 10 = .ok (.iload_n 2, 1) := by decide +kernel
theorem dX10_wins_11 : decode cX10_wins 11 = .ok (.iconst 0, 1) := by decide +kernel
theorem dX10_wins_12 : decode cX10_wins 12 = .ok (.iconst 1, 1) := by decide +kernel
theorem dX10_wins_13 : decode cX10_wins 13 = .ok (.invokestatic 69, 3) := by decide +kernel
theorem dX10_wins_16 : decode cX10_wins 16 = .ok (.ifCond .ne 5, 3) := by decide +kernel
theorem dX10_wins_19 : decode cX10_wins 19 = .ok (.iconst (-1), 1) := by decide +kernel
theorem dX10_wins_20 : decode cX10_wins 20 = .ok (.ireturn, 1) := by decide +kernel
theorem dX10_wins_21 : decode cX10_wins 21 = .ok (.iload_n 2, 1) := by decide +kernel
theorem dX10_wins_22 : decode cX10_wins 22 = .ok (.ifCond .ne 14, 3) := by decide +kernel
theorem dX10_wins_25 : decode cX10_wins 25 = .ok (.aload_n 0, 1) := by decide +kernel
theorem dX10_wins_26 : decode cX10_wins 26 = .ok (.getfield 19, 3) := by decide +kernel
theorem dX10_wins_29 : decode cX10_wins 29 = .ok (.iload_n 1, 1) := by decide +kernel
theorem dX10_wins_30 : decode cX10_wins 30 = .ok (.invokevirtual 139, 3) := by decide +kernel
theorem dX10_wins_33 : decode cX10_wins 33 = .ok (.goto 11, 3) := by decide +kernel
theorem dX10_wins_36 : decode cX10_wins 36 = .ok (.aload_n 0, 1) := by decide +kernel
theorem dX10_wins_37 : decode cX10_wins 37 = .ok (.getfield 19, 3) := by decide +kernel
theorem dX10_wins_40 : decode cX10_wins 40 = .ok (.iload_n 1, 1) := by decide +kernel
theorem dX10_wins_41 : decode cX10_wins 41 = .ok (.invokevirtual 143, 3) := by decide +kernel
theorem dX10_wins_44 : decode cX10_wins 44 = .ok (.ireturn, 1) := by decide +kernel
set_option maxRecDepth 20000 in
theorem ggX10_even_X3_within : GoodIn wsX10_even wsX3_within := goodIn_r _ [7] (by decide +kernel) (by decide +kernel)
set_option maxRecDepth 20000 in
theorem gX10_even_X3_within : GoodIn wsX10_even (va_wsS RX10 69 yX3_within wsX3_within) := goodIn_app (goodIn_of _ (by decide +kernel)) ggX10_even_X3_within
set_option maxRecDepth 20000 in
theorem ggX10_even_X10_isSide : GoodIn wsX10_even wsX10_isSide := goodIn_r _ [11] (by decide +kernel) (by decide +kernel)
set_option maxRecDepth 20000 in
theorem gX10_even_X10_isSide : GoodIn wsX10_even (va_wsS RX10 85 yX10_isSide wsX10_isSide) := goodIn_app (goodIn_of _ (by decide +kernel)) ggX10_even_X10_isSide
set_option maxRecDepth 20000 in
theorem ggX10_even_X5_winsBy : GoodIn wsX10_even wsX5_winsBy := goodIn_r _ [16, 17, 18, 19, 20, 21, 15, 22, 23, 70, 71, 72, 73] (by decide +kernel) (by decide +kernel)
set_option maxRecDepth 20000 in
theorem gX10_even_X5_winsBy : GoodIn wsX10_even (wsV RX10 139 RX5 yX5_winsBy wsX5_winsBy) := goodIn_app (goodIn_of _ (by decide +kernel)) ggX10_even_X5_winsBy
set_option maxRecDepth 20000 in
theorem ggX10_even_X5_lossesBy : GoodIn wsX10_even wsX5_lossesBy := goodIn_r _ [27, 18, 17, 19, 20, 21, 15, 22, 23, 70, 71, 72, 73] (by decide +kernel) (by decide +kernel)
set_option maxRecDepth 20000 in
theorem gX10_even_X5_lossesBy : GoodIn wsX10_even (wsV RX10 143 RX5 yX5_lossesBy wsX5_lossesBy) := goodIn_app (goodIn_of _ (by decide +kernel)) ggX10_even_X5_lossesBy
set_option maxRecDepth 20000 in
theorem ggX10_even_X10_takeOddsOf : GoodIn wsX10_even wsX10_takeOddsOf := goodIn_r _ [31, 32, 33, 34, 35, 3, 36, 37, 38, 6, 39, 40, 41, 42, 43, 44, 45, 46, 47, 48, 49, 50, 51, 52, 53, 54, 55, 56, 57, 62, 63, 64, 65, 66, 67, 68, 69, 74, 75] (by decide +kernel) (by decide +kernel)
set_option maxRecDepth 20000 in
theorem gX10_even_X10_takeOddsOf : GoodIn wsX10_even (wsV RX10 146 RX10 yX10_takeOddsOf wsX10_takeOddsOf) := goodIn_app (goodIn_of _ (by decide +kernel)) ggX10_even_X10_takeOddsOf
set_option maxRecDepth 20000 in
theorem ggX10_even_X4_told : GoodIn wsX10_even wsX4_told := goodIn_r _ [61, 48, 49, 74, 75] (by decide +kernel) (by decide +kernel)
set_option maxRecDepth 20000 in
theorem gX10_even_X4_told : GoodIn wsX10_even (wsV RX10 150 RX4 yX4_told wsX4_told) := goodIn_app (goodIn_of _ (by decide +kernel)) ggX10_even_X4_told
theorem dX10_even_0 : decode cX10_even 0 = .ok (.iload_n 1, 1) := by decide +kernel
theorem dX10_even_1 : decode cX10_even 1 = .ok (.iconst 0, 1) := by decide +kernel
theorem dX10_even_2 : decode cX10_even 2 = .ok (.bipush 101, 2) := by decide +kernel
theorem dX10_even_4 : decode cX10_even 4 = .ok (.invokestatic 69, 3) := by decide +kernel
theorem dX10_even_7 : decode cX10_even 7 = .ok (.ifCond .eq 10, 3) := by decide +kernel
theorem dX10_even_10 : decode cX10_even 10 = .ok (.iload_n 2, 1) := by decide +kernel
theorem dX10_even_11 : decode cX10_even 11 = .ok (.invokestatic 85, 3) := by decide +kernel
theorem dX10_even_14 : decode cX10_even 14 = .ok (.ifCond .ne 7, 3) := by decide +kernel
theorem dX10_even_17 : decode cX10_even 17 = .ok (.ldc2_w 75, 3) := by decide +kernel
theorem dX10_even_20 : decode cX10_even 20 = .ok (.lreturn, 1) := by decide +kernel
theorem dX10_even_21 : decode cX10_even 21 = .ok (.aload_n 0, 1) := by decide +kernel
theorem dX10_even_22 : decode cX10_even 22 = .ok (.aload_n 0, 1) := by decide +kernel
theorem dX10_even_23 : decode cX10_even 23 = .ok (.getfield 19, 3) := by decide +kernel
theorem dX10_even_26 : decode cX10_even 26 = .ok (.iload_n 1, 1) := by decide +kernel
theorem dX10_even_27 : decode cX10_even 27 = .ok (.invokevirtual 139, 3) := by decide +kernel
theorem dX10_even_30 : decode cX10_even 30 = .ok (.aload_n 0, 1) := by decide +kernel
theorem dX10_even_31 : decode cX10_even 31 = .ok (.getfield 19, 3) := by decide +kernel
theorem dX10_even_34 : decode cX10_even 34 = .ok (.iload_n 1, 1) := by decide +kernel
theorem dX10_even_35 : decode cX10_even 35 = .ok (.invokevirtual 143, 3) := by decide +kernel
theorem dX10_even_38 : decode cX10_even 38 = .ok (.invokevirtual 146, 3) := by decide +kernel
theorem dX10_even_41 : decode cX10_even 41 = .ok (.aload_n 0, 1) := by decide +kernel
theorem dX10_even_42 : decode cX10_even 42 = .ok (.getfield 61, 3) := by decide +kernel
theorem dX10_even_45 : decode cX10_even 45 = .ok (.iload_n 2, 1) := by decide +kernel
theorem dX10_even_46 : decode cX10_even 46 = .ok (.invokevirtual 150, 3) := by decide +kernel
theorem dX10_even_49 : decode cX10_even 49 = .ok (.lreturn, 1) := by decide +kernel
set_option maxRecDepth 20000 in
theorem ggX10_draw_X3_within : GoodIn wsX10_draw wsX3_within := goodIn_r _ [7] (by decide +kernel) (by decide +kernel)
set_option maxRecDepth 20000 in
theorem gX10_draw_X3_within : GoodIn wsX10_draw (va_wsS RX10 69 yX3_within wsX3_within) := goodIn_app (goodIn_of _ (by decide +kernel)) ggX10_draw_X3_within
set_option maxRecDepth 20000 in
theorem ggX10_draw_X5_size : GoodIn wsX10_draw wsX5_size := goodIn_r _ [12, 13, 108, 109, 110, 111] (by decide +kernel) (by decide +kernel)
set_option maxRecDepth 20000 in
theorem gX10_draw_X5_size : GoodIn wsX10_draw (wsV RX10 115 RX5 yX5_size wsX5_size) := goodIn_app (goodIn_of _ (by decide +kernel)) ggX10_draw_X5_size
set_option maxRecDepth 20000 in
theorem ggX10_draw_X8_take : GoodIn wsX10_draw wsX8_take := goodIn_r _ [18, 19, 20, 21, 22, 17, 23, 24, 25, 26, 11, 27, 13, 28, 29, 30, 31, 32, 33, 34, 35, 36, 37, 38, 39, 40, 41, 42, 43, 44, 45, 9, 10, 12, 46, 47, 48, 49, 112, 113, 114, 108, 109, 110, 111] (by decide +kernel) (by decide +kernel)
set_option maxRecDepth 20000 in
theorem gX10_draw_X8_take : GoodIn wsX10_draw (wsV RX10 122 RX8 yX8_take wsX8_take) := goodIn_app (goodIn_of _ (by decide +kernel)) ggX10_draw_X8_take
set_option maxRecDepth 20000 in
theorem ggX10_draw_X2_drawAnew : GoodIn wsX10_draw wsX2_drawAnew := goodIn_r _ [54, 55, 56, 57, 58, 59, 60, 61, 17, 62, 19, 63, 64, 65, 66, 39, 67, 68, 69, 70, 40, 71, 72, 73, 74, 75, 76, 77, 78, 79, 80, 81, 82, 83, 6, 84, 85, 86, 87, 53, 88, 89, 90, 91, 92, 93, 94, 95, 96, 97, 98, 115, 116, 117, 118, 112, 113, 114, 119, 120] (by decide +kernel) (by decide +kernel)
set_option maxRecDepth 20000 in
theorem gX10_draw_X2_drawAnew : GoodIn wsX10_draw (wsV RX10 154 RX2 yX2_drawAnew wsX2_drawAnew) := goodIn_app (goodIn_of _ (by decide +kernel)) ggX10_draw_X2_drawAnew
set_option maxRecDepth 20000 in
theorem ggX10_draw_X8_size : GoodIn wsX10_draw wsX8_size := goodIn_r _ [62, 19, 112, 113, 114] (by decide +kernel) (by decide +kernel)
set_option maxRecDepth 20000 in
theorem gX10_draw_X8_size : GoodIn wsX10_draw (wsV RX10 158 RX8 yX8_size wsX8_size) := goodIn_app (goodIn_of _ (by decide +kernel)) ggX10_draw_X8_size
theorem dX10_draw_0 : decode cX10_draw 0 = .ok (.iload_n 3, 1) := by decide +kernel
theorem dX10_draw_1 : decode cX10_draw 1 = .ok (.iconst 1, 1) := by decide +kernel
theorem dX10_draw_2 : decode cX10_draw 2 = .ok (.bipush 60, 2) := by decide +kernel
theorem dX10_draw_4 : decode cX10_draw 4 = .ok (.invokestatic 69, 3) := by decide +kernel
theorem dX10_draw_7 : decode cX10_draw 7 = .ok (.ifCond .ne 5, 3) := by decide +kernel
theorem dX10_draw_10 : decode cX10_draw 10 = .ok (.iconst (-1), 1) := by decide +kernel
theorem dX10_draw_11 : decode cX10_draw 11 = .ok (.ireturn, 1) := by decide +kernel
theorem dX10_draw_12 : decode cX10_draw 12 = .ok (.aload_n 0, 1) := by decide +kernel
theorem dX10_draw_13 : decode cX10_draw 13 = .ok (.getfield 19, 3) := by decide +kernel
theorem dX10_draw_16 : decode cX10_draw 16 = .ok (.invokevirtual 115, 3) := by decide +kernel
theorem dX10_draw_19 : decode cX10_draw 19 = .ok (.ifCond .ne 6, 3) := by decide +kernel
theorem dX10_draw_22 : decode cX10_draw 22 = .ok (.bipush (-3), 2) := by decide +kernel
theorem dX10_draw_24 : decode cX10_draw 24 = .ok (.ireturn, 1) := by decide +kernel
theorem dX10_draw_25 : decode cX10_draw 25 = .ok (.aload_n 0, 1) := by decide +kernel
theorem dX10_draw_26 : decode cX10_draw 26 = .ok (.getfield 26, 3) := by decide +kernel
theorem dX10_draw_29 : decode cX10_draw 29 = .ok (.aload_n 0, 1) := by decide +kernel
theorem dX10_draw_30 : decode cX10_draw 30 = .ok (.getfield 19, 3) := by decide +kernel
theorem dX10_draw_33 : decode cX10_draw 33 = .ok (.iload 4, 2) := by decide +kernel
theorem dX10_draw_35 : decode cX10_draw 35 = .ok (.invokevirtual 122, 3) := by decide +kernel
theorem dX10_draw_38 : decode cX10_draw 38 = .ok (.aload_n 0, 1) := by decide +kernel
theorem dX10_draw_39 : decode cX10_draw 39 = .ok (.getfield 40, 3) := by decide +kernel
theorem dX10_draw_42 : decode cX10_draw 42 = .ok (.lload_n 1, 1) := by decide +kernel
theorem dX10_draw_43 : decode cX10_draw 43 = .ok (.iload_n 3, 1) := by decide +kernel
theorem dX10_draw_44 : decode cX10_draw 44 = .ok (.aload_n 0, 1) := by decide +kernel
theorem dX10_draw_45 : decode cX10_draw 45 = .ok (.getfield 26, 3) := by decide +kernel
theorem dX10_draw_48 : decode cX10_draw 48 = .ok (.invokevirtual 154, 3) := by decide +kernel
theorem dX10_draw_51 : decode cX10_draw 51 = .ok (.aload_n 0, 1) := by decide +kernel
theorem dX10_draw_52 : decode cX10_draw 52 = .ok (.getfield 26, 3) := by decide +kernel
theorem dX10_draw_55 : decode cX10_draw 55 = .ok (.invokevirtual 158, 3) := by decide +kernel
theorem dX10_draw_58 : decode cX10_draw 58 = .ok (.ireturn, 1) := by decide +kernel
set_option maxRecDepth 20000 in
theorem ggX10_drawn_X10_isSide : GoodIn wsX10_drawn wsX10_isSide := goodIn_r _ [8] (by decide +kernel) (by decide +kernel)
set_option maxRecDepth 20000 in
theorem gX10_drawn_X10_isSide : GoodIn wsX10_drawn (va_wsS RX10 85 yX10_isSide wsX10_isSide) := goodIn_app (goodIn_of _ (by decide +kernel)) ggX10_drawn_X10_isSide
set_option maxRecDepth 20000 in
theorem ggX10_drawn_X2_size : GoodIn wsX10_drawn wsX2_size := goodIn_r _ [13, 14, 29, 30, 31, 32] (by decide +kernel) (by decide +kernel)
set_option maxRecDepth 20000 in
theorem gX10_drawn_X2_size : GoodIn wsX10_drawn (wsV RX10 159 RX2 yX2_size wsX2_size) := goodIn_app (goodIn_of _ (by decide +kernel)) ggX10_drawn_X2_size
set_option maxRecDepth 20000 in
theorem ggX10_drawn_X2_told : GoodIn wsX10_drawn wsX2_told := goodIn_r _ [18, 14, 19, 20, 29, 30, 31, 32] (by decide +kernel) (by decide +kernel)
set_option maxRecDepth 20000 in
theorem gX10_drawn_X2_told : GoodIn wsX10_drawn (wsV RX10 165 RX2 yX2_told wsX2_told) := goodIn_app (goodIn_of _ (by decide +kernel)) ggX10_drawn_X2_told
theorem dX10_drawn_0 : decode cX10_drawn 0 = .ok (.iload_n 2, 1) := by decide +kernel
theorem dX10_drawn_1 : decode cX10_drawn 1 = .ok (.invokestatic 85, 3) := by decide +kernel
theorem dX10_drawn_4 : decode cX10_drawn 4 = .ok (.ifCond .ne 7, 3) := by decide +kernel
theorem dX10_drawn_7 : decode cX10_drawn 7 = .ok (.ldc2_w 75, 3) := by decide +kernel
theorem dX10_drawn_10 : decode cX10_drawn 10 = .ok (.lreturn, 1) := by decide +kernel
theorem dX10_drawn_11 : decode cX10_drawn 11 = .ok (.iload_n 1, 1) := by decide +kernel
theorem dX10_drawn_12 : decode cX10_drawn 12 = .ok (.ifCond .lt 14, 3) := by decide +kernel
theorem dX10_drawn_15 : decode cX10_drawn 15 = .ok (.iload_n 1, 1) := by decide +kernel
theorem dX10_drawn_16 : decode cX10_drawn 16 = .ok (.aload_n 0, 1) := by decide +kernel
theorem dX10_drawn_17 : decode cX10_drawn 17 = .ok (.getfield 40, 3) := by decide +kernel
theorem dX10_drawn_20 : decode cX10_drawn 20 = .ok (.invokevirtual 159, 3) := by decide +kernel
theorem dX10_drawn_23 : decode cX10_drawn 23 = .ok (.if_icmp .lt 13, 3) := by decide +kernel
theorem dX10_drawn_26 : decode cX10_drawn 26 = .ok (.new 160, 3) := by decide +kernel
theorem dX10_drawn_29 : decode cX10_drawn 29 = .ok (.dup, 1) := by decide +kernel
theorem dX10_drawn_30 : decode cX10_drawn 30 = .ok (.ldc 162, 2) := by decide +kernel
theorem dX10_drawn_32 : decode cX10_drawn 32 = .ok (.invokespecial 164, 3) := by decide +kernel
theorem dX10_drawn_35 : decode cX10_drawn 35 = .ok (.athrow, 1) := by decide +kernel
theorem dX10_drawn_36 : decode cX10_drawn 36 = .ok (.aload_n 0, 1) := by decide +kernel
theorem dX10_drawn_37 : decode cX10_drawn 37 = .ok (.getfield 40, 3) := by decide +kernel
theorem dX10_drawn_40 : decode cX10_drawn 40 = .ok (.iload_n 1, 1) := by decide +kernel
theorem dX10_drawn_41 : decode cX10_drawn 41 = .ok (.iload_n 2, 1) := by decide +kernel
theorem dX10_drawn_42 : decode cX10_drawn 42 = .ok (.invokevirtual 165, 3) := by decide +kernel
theorem dX10_drawn_45 : decode cX10_drawn 45 = .ok (.lreturn, 1) := by decide +kernel
set_option maxRecDepth 20000 in
theorem ggX10_percentile_X3_within : GoodIn wsX10_percentile wsX3_within := goodIn_r _ [11] (by decide +kernel) (by decide +kernel)
set_option maxRecDepth 20000 in
theorem gX10_percentile_X3_within : GoodIn wsX10_percentile (va_wsS RX10 69 yX3_within wsX3_within) := goodIn_app (goodIn_of _ (by decide +kernel)) ggX10_percentile_X3_within
set_option maxRecDepth 20000 in
theorem ggX10_percentile_X10_isSide : GoodIn wsX10_percentile wsX10_isSide := goodIn_r _ [15] (by decide +kernel) (by decide +kernel)
set_option maxRecDepth 20000 in
theorem gX10_percentile_X10_isSide : GoodIn wsX10_percentile (va_wsS RX10 85 yX10_isSide wsX10_isSide) := goodIn_app (goodIn_of _ (by decide +kernel)) ggX10_percentile_X10_isSide
set_option maxRecDepth 20000 in
theorem ggX10_percentile_X2_size : GoodIn wsX10_percentile wsX2_size := goodIn_r _ [20, 21, 36, 37, 38, 39] (by decide +kernel) (by decide +kernel)
set_option maxRecDepth 20000 in
theorem gX10_percentile_X2_size : GoodIn wsX10_percentile (wsV RX10 159 RX2 yX2_size wsX2_size) := goodIn_app (goodIn_of _ (by decide +kernel)) ggX10_percentile_X2_size
set_option maxRecDepth 20000 in
theorem ggX10_percentile_X2_told : GoodIn wsX10_percentile wsX2_told := goodIn_r _ [25, 21, 26, 27, 36, 37, 38, 39] (by decide +kernel) (by decide +kernel)
set_option maxRecDepth 20000 in
theorem gX10_percentile_X2_told : GoodIn wsX10_percentile (wsV RX10 165 RX2 yX2_told wsX2_told) := goodIn_app (goodIn_of _ (by decide +kernel)) ggX10_percentile_X2_told
theorem dX10_percentile_0 : decode cX10_percentile 0 = .ok (.iload_n 2, 1) := by decide +kernel
theorem dX10_percentile_1 : decode cX10_percentile 1 = .ok (.iconst 1, 1) := by decide +kernel
theorem dX10_percentile_2 : decode cX10_percentile 2 = .ok (.sipush 1000, 3) := by decide +kernel
theorem dX10_percentile_5 : decode cX10_percentile 5 = .ok (.invokestatic 69, 3) := by decide +kernel
theorem dX10_percentile_8 : decode cX10_percentile 8 = .ok (.ifCond .eq 19, 3) := by decide +kernel
theorem dX10_percentile_11 : decode cX10_percentile 11 = .ok (.iload_n 1, 1) := by decide +kernel
theorem dX10_percentile_12 : decode cX10_percentile 12 = .ok (.iconst 0, 1) := by decide +kernel
theorem dX10_percentile_13 : decode cX10_percentile 13 = .ok (.iload_n 2, 1) := by decide +kernel
theorem dX10_percentile_14 : decode cX10_percentile 14 = .ok (.invokestatic 69, 3) := by decide +kernel
theorem dX10_percentile_17 : decode cX10_percentile 17 = .ok (.ifCond .eq 10, 3) := by decide +kernel
theorem dX10_percentile_20 : decode cX10_percentile 20 = .ok (.iload_n 3, 1) := by decide +kernel
theorem dX10_percentile_21 : decode cX10_percentile 21 = .ok (.invokestatic 85, 3) := by decide +kernel
theorem dX10_percentile_24 : decode cX10_percentile 24 = .ok (.ifCond .ne 7, 3) := by decide +kernel
theorem dX10_percentile_27 : decode cX10_percentile 27 = .ok (.ldc2_w 75, 3) := by decide +kernel
theorem dX10_percentile_30 : decode cX10_percentile 30 = .ok (.lreturn, 1) := by decide +kernel
theorem dX10_percentile_31 : decode cX10_percentile 31 = .ok (.aload_n 0, 1) := by decide +kernel
theorem dX10_percentile_32 : decode cX10_percentile 32 = .ok (.getfield 40, 3) := by decide +kernel
theorem dX10_percentile_35 : decode cX10_percentile 35 = .ok (.invokevirtual 159, 3) := by decide +kernel
theorem dX10_percentile_38 : decode cX10_percentile 38 = .ok (.ifCond .ne 7, 3) := by decide +kernel
theorem dX10_percentile_41 : decode cX10_percentile 41 = .ok (.ldc2_w 168, 3) := by decide +kernel
theorem dX10_percentile_44 : decode cX10_percentile 44 = .ok (.lreturn, 1) := by decide +kernel
theorem dX10_percentile_45 : decode cX10_percentile 45 = .ok (.aload_n 0, 1) := by decide +kernel
theorem dX10_percentile_46 : decode cX10_percentile 46 = .ok (.getfield 40, 3) := by decide +kernel
theorem dX10_percentile_49 : decode cX10_percentile 49 = .ok (.invokevirtual 159, 3) := by decide +kernel
theorem dX10_percentile_52 : decode cX10_percentile 52 = .ok (.iload_n 1, 1) := by decide +kernel
theorem dX10_percentile_53 : decode cX10_percentile 53 = .ok (.imul, 1) := by decide +kernel
theorem dX10_percentile_54 : decode cX10_percentile 54 = .ok (.iload_n 2, 1) := by decide +kernel
theorem dX10_percentile_55 : decode cX10_percentile 55 = .ok (.iadd, 1) := by decide +kernel
theorem dX10_percentile_56 : decode cX10_percentile 56 = .ok (.iconst 1, 1) := by decide +kernel
theorem dX10_percentile_57 : decode cX10_percentile 57 = .ok (.isub, 1) := by decide +kernel
theorem dX10_percentile_58 : decode cX10_percentile 58 = .ok (.iload_n 2, 1) := by decide +kernel
theorem dX10_percentile_59 : decode cX10_percentile 59 = .ok (.idiv, 1) := by decide +kernel
theorem dX10_percentile_60 : decode cX10_percentile 60 = .ok (.istore 4, 2) := by decide +kernel
theorem dX10_percentile_62 : decode cX10_percentile 62 = .ok (.aload_n 0, 1) := by decide +kernel
theorem dX10_percentile_63 : decode cX10_percentile 63 = .ok (.getfield 40, 3) := by decide +kernel
theorem dX10_percentile_66 : decode cX10_percentile 66 = .ok (.iload 4, 2) := by decide +kernel
theorem dX10_percentile_68 : decode cX10_percentile 68 = .ok (.iconst 1, 1) := by decide +kernel
theorem dX10_percentile_69 : decode cX10_percentile 69 = .ok (.isub, 1) := by decide +kernel
theorem dX10_percentile_70 : decode cX10_percentile 70 = .ok (.iconst 0, 1) := by decide +kernel
theorem dX10_percentile_71 : decode cX10_percentile 71 = .ok (.invokestatic 170, 3) := by decide +kernel
theorem dX10_percentile_74 : decode cX10_percentile 74 = .ok (.iload_n 3, 1) := by decide +kernel
theorem dX10_percentile_75 : decode cX10_percentile 75 = .ok (.invokevirtual 165, 3) := by decide +kernel
theorem dX10_percentile_78 : decode cX10_percentile 78 = .ok (.lreturn, 1) := by decide +kernel
set_option maxRecDepth 20000 in
theorem ggX10_share_X2_size : GoodIn wsX10_share wsX2_size := goodIn_r _ [8, 9, 23, 24, 25, 26] (by decide +kernel) (by decide +kernel)
set_option maxRecDepth 20000 in
theorem gX10_share_X2_size : GoodIn wsX10_share (wsV RX10 159 RX2 yX2_size wsX2_size) := goodIn_app (goodIn_of _ (by decide +kernel)) ggX10_share_X2_size
set_option maxRecDepth 20000 in
theorem ggX10_share_X2_aboveZero : GoodIn wsX10_share wsX2_aboveZero := goodIn_r _ [13, 9, 14, 23, 24, 25, 26] (by decide +kernel) (by decide +kernel)
set_option maxRecDepth 20000 in
theorem gX10_share_X2_aboveZero : GoodIn wsX10_share (wsV RX10 181 RX2 yX2_aboveZero wsX2_aboveZero) := goodIn_app (goodIn_of _ (by decide +kernel)) ggX10_share_X2_aboveZero
theorem dX10_share_0 : decode cX10_share 0 = .ok (.aload_n 0, 1) := by decide +kernel
theorem dX10_share_1 : decode cX10_share 1 = .ok (.getfield 40, 3) := by decide +kernel
theorem dX10_share_4 : decode cX10_share 4 = .ok (.invokevirtual 159, 3) := by decide +kernel
theorem dX10_share_7 : decode cX10_share 7 = .ok (.istore_n 1, 1) := by decide +kernel
theorem dX10_share_8 : decode cX10_share 8 = .ok (.iload_n 1, 1) := by decide +kernel
theorem dX10_share_9 : decode cX10_share 9 = .ok (.ifCond .ne 13, 3) := by decide +kernel
theorem dX10_share_12 : decode cX10_share 12 = .ok (.new 176, 3) := by decide +kernel
theorem dX10_share_15 : decode cX10_share 15 = .ok (.dup, 1) := by decide +kernel
theorem dX10_share_16 : decode cX10_share 16 = .ok (.ldc 178, 2) := by decide +kernel
theorem dX10_share_18 : decode cX10_share 18 = .ok (.invokespecial 180, 3) := by decide +kernel
theorem dX10_share_21 : decode cX10_share 21 = .ok (.athrow, 1) := by decide +kernel
theorem dX10_share_22 : decode cX10_share 22 = .ok (.sipush 1000, 3) := by decide +kernel
theorem dX10_share_25 : decode cX10_share 25 = .ok (.aload_n 0, 1) := by decide +kernel
theorem dX10_share_26 : decode cX10_share 26 = .ok (.getfield 40, 3) := by decide +kernel
theorem dX10_share_29 : decode cX10_share 29 = .ok (.invokevirtual 181, 3) := by decide +kernel
theorem dX10_share_32 : decode cX10_share 32 = .ok (.imul, 1) := by decide +kernel
theorem dX10_share_33 : decode cX10_share 33 = .ok (.iload_n 1, 1) := by decide +kernel
theorem dX10_share_34 : decode cX10_share 34 = .ok (.idiv, 1) := by decide +kernel
theorem dX10_share_35 : decode cX10_share 35 = .ok (.ireturn, 1) := by decide +kernel
set_option maxRecDepth 20000 in
theorem ggX10_compare_X3_within : GoodIn wsX10_compare wsX3_within := goodIn_r _ [6] (by decide +kernel) (by decide +kernel)
set_option maxRecDepth 20000 in
theorem gX10_compare_X3_within : GoodIn wsX10_compare (va_wsS RX10 69 yX3_within wsX3_within) := goodIn_app (goodIn_of _ (by decide +kernel)) ggX10_compare_X3_within
set_option maxRecDepth 20000 in
theorem ggX10_compare_X0_isFull : GoodIn wsX10_compare wsX0_isFull := goodIn_r _ [11, 12, 32, 33, 34] (by decide +kernel) (by decide +kernel)
set_option maxRecDepth 20000 in
theorem gX10_compare_X0_isFull : GoodIn wsX10_compare (wsV RX10 185 RX0 yX0_isFull wsX0_isFull) := goodIn_app (goodIn_of _ (by decide +kernel)) ggX10_compare_X0_isFull
set_option maxRecDepth 20000 in
theorem ggX10_compare_X0_add : GoodIn wsX10_compare wsX0_add := goodIn_r _ [16, 17, 12, 18, 19, 8, 9, 10, 11, 32, 33, 34] (by decide +kernel) (by decide +kernel)
set_option maxRecDepth 20000 in
theorem gX10_compare_X0_add : GoodIn wsX10_compare (wsV RX10 186 RX0 yX0_add wsX0_add) := goodIn_app (goodIn_of _ (by decide +kernel)) ggX10_compare_X0_add
set_option maxRecDepth 20000 in
theorem ggX10_compare_X0_size : GoodIn wsX10_compare wsX0_size := goodIn_r _ [23, 12, 32, 33, 34] (by decide +kernel) (by decide +kernel)
set_option maxRecDepth 20000 in
theorem gX10_compare_X0_size : GoodIn wsX10_compare (wsV RX10 188 RX0 yX0_size wsX0_size) := goodIn_app (goodIn_of _ (by decide +kernel)) ggX10_compare_X0_size
theorem dX10_compare_0 : decode cX10_compare 0 = .ok (.iload_n 2, 1) := by decide +kernel
theorem dX10_compare_1 : decode cX10_compare 1 = .ok (.iconst 1, 1) := by decide +kernel
theorem dX10_compare_2 : decode cX10_compare 2 = .ok (.ldc 184, 2) := by decide +kernel
theorem dX10_compare_4 : decode cX10_compare 4 = .ok (.invokestatic 69, 3) := by decide +kernel
theorem dX10_compare_7 : decode cX10_compare 7 = .ok (.ifCond .eq 12, 3) := by decide +kernel
theorem dX10_compare_10 : decode cX10_compare 10 = .ok (.iload_n 1, 1) := by decide +kernel
theorem dX10_compare_11 : decode cX10_compare 11 = .ok (.iconst 0, 1) := by decide +kernel
theorem dX10_compare_12 : decode cX10_compare 12 = .ok (.iload_n 2, 1) := by decide +kernel
theorem dX10_compare_13 : decode cX10_compare 13 = .ok (.invokestatic 69, 3) := by decide +kernel
theorem dX10_compare_16 : decode cX10_compare 16 = .ok (.ifCond .ne 5, 3) := by decide +kernel
theorem dX10_compare_19 : decode cX10_compare 19 = .ok (.iconst (-1), 1) := by decide +kernel
theorem dX10_compare_20 : decode cX10_compare 20 = .ok (.ireturn, 1) := by decide +kernel
theorem dX10_compare_21 : decode cX10_compare 21 = .ok (.aload_n 0, 1) := by decide +kernel
theorem dX10_compare_22 : decode cX10_compare 22 = .ok (.getfield 47, 3) := by decide +kernel
theorem dX10_compare_25 : decode cX10_compare 25 = .ok (.invokevirtual 185, 3) := by decide +kernel
theorem dX10_compare_28 : decode cX10_compare 28 = .ok (.ifCond .eq 6, 3) := by decide +kernel
theorem dX10_compare_31 : decode cX10_compare 31 = .ok (.bipush (-2), 2) := by decide +kernel
theorem dX10_compare_33 : decode cX10_compare 33 = .ok (.ireturn, 1) := by decide +kernel
theorem dX10_compare_34 : decode cX10_compare 34 = .ok (.aload_n 0, 1) := by decide +kernel
theorem dX10_compare_35 : decode cX10_compare 35 = .ok (.getfield 47, 3) := by decide +kernel
theorem dX10_compare_38 : decode cX10_compare 38 = .ok (.iload_n 1, 1) := by decide +kernel
theorem dX10_compare_39 : decode cX10_compare 39 = .ok (.iload_n 2, 1) := by decide +kernel
theorem dX10_compare_40 : decode cX10_compare 40 = .ok (.invokevirtual 186, 3) := by decide +kernel
theorem dX10_compare_43 : decode cX10_compare 43 = .ok (.aload_n 0, 1) := by decide +kernel
theorem dX10_compare_44 : decode cX10_compare 44 = .ok (.getfield 47, 3) := by decide +kernel
theorem dX10_compare_47 : decode cX10_compare 47 = .ok (.invokevirtual 188, 3) := by decide +kernel
theorem dX10_compare_50 : decode cX10_compare 50 = .ok (.iconst 1, 1) := by decide +kernel
theorem dX10_compare_51 : decode cX10_compare 51 = .ok (.isub, 1) := by decide +kernel
theorem dX10_compare_52 : decode cX10_compare 52 = .ok (.ireturn, 1) := by decide +kernel
set_option maxRecDepth 20000 in
theorem ggX10_raised_X3_within : GoodIn wsX10_raised wsX3_within := goodIn_r _ [8] (by decide +kernel) (by decide +kernel)
set_option maxRecDepth 20000 in
theorem gX10_raised_X3_within : GoodIn wsX10_raised (va_wsS RX10 69 yX3_within wsX3_within) := goodIn_app (goodIn_of _ (by decide +kernel)) ggX10_raised_X3_within
set_option maxRecDepth 20000 in
theorem ggX10_raised_X10_isSide : GoodIn wsX10_raised wsX10_isSide := goodIn_r _ [12] (by decide +kernel) (by decide +kernel)
set_option maxRecDepth 20000 in
theorem gX10_raised_X10_isSide : GoodIn wsX10_raised (va_wsS RX10 85 yX10_isSide wsX10_isSide) := goodIn_app (goodIn_of _ (by decide +kernel)) ggX10_raised_X10_isSide
set_option maxRecDepth 20000 in
theorem ggX10_raised_X0_size : GoodIn wsX10_raised wsX0_size := goodIn_r _ [17, 18, 80, 81, 82] (by decide +kernel) (by decide +kernel)
set_option maxRecDepth 20000 in
theorem gX10_raised_X0_size : GoodIn wsX10_raised (wsV RX10 188 RX0 yX0_size wsX0_size) := goodIn_app (goodIn_of _ (by decide +kernel)) ggX10_raised_X0_size
set_option maxRecDepth 20000 in
theorem ggX10_raised_X0_raise : GoodIn wsX10_raised wsX0_raise := goodIn_r _ [22, 18, 23, 24, 25, 26, 27, 28, 29, 30, 31, 32, 33, 34, 35, 36, 37, 7, 38, 39, 40, 41, 16, 42, 43, 44, 45, 46, 47, 48, 49, 50, 51, 52, 53, 54, 55, 56, 57, 58, 59, 60, 61, 62, 80, 81, 82, 83, 84] (by decide +kernel) (by decide +kernel)
set_option maxRecDepth 20000 in
theorem gX10_raised_X0_raise : GoodIn wsX10_raised (wsV RX10 189 RX0 yX0_raise wsX0_raise) := goodIn_app (goodIn_of _ (by decide +kernel)) ggX10_raised_X0_raise
set_option maxRecDepth 20000 in
theorem ggX10_raised_X4_capAtOne : GoodIn wsX10_raised wsX4_capAtOne := goodIn_r _ [66, 34, 35, 67, 26, 27, 28, 29, 30, 31, 32, 33, 36, 37, 7, 38, 83, 84] (by decide +kernel) (by decide +kernel)
set_option maxRecDepth 20000 in
theorem gX10_raised_X4_capAtOne : GoodIn wsX10_raised (wsV RX10 193 RX4 yX4_capAtOne wsX4_capAtOne) := goodIn_app (goodIn_of _ (by decide +kernel)) ggX10_raised_X4_capAtOne
