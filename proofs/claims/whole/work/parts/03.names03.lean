theorem dX0_placeOf_14 : decode cX0_placeOf 14 = .ok (.iload_n 1, 1) := by decide +kernel
theorem dX0_placeOf_15 : decode cX0_placeOf 15 = .ok (.invokevirtual 48, 3) := by decide +kernel
theorem dX0_placeOf_18 : decode cX0_placeOf 18 = .ok (.ifCond .eq 6, 3) := by decide +kernel
theorem dX0_placeOf_21 : decode cX0_placeOf 21 = .ok (.iinc 2 1, 3) := by decide +kernel
theorem dX0_placeOf_24 : decode cX0_placeOf 24 = .ok (.iinc 3 1, 3) := by decide +kernel
theorem dX0_placeOf_27 : decode cX0_placeOf 27 = .ok (.goto (-23), 3) := by decide +kernel
theorem dX0_placeOf_30 : decode cX0_placeOf 30 = .ok (.iload_n 2, 1) := by decide +kernel
theorem dX0_placeOf_31 : decode cX0_placeOf 31 = .ok (.ireturn, 1) := by decide +kernel
theorem dX0_standsAhead_0 : decode cX0_standsAhead 0 = .ok (.iload_n 1, 1) := by decide +kernel
theorem dX0_standsAhead_1 : decode cX0_standsAhead 1 = .ok (.ifCond .lt 23, 3) := by decide +kernel
theorem dX0_standsAhead_4 : decode cX0_standsAhead 4 = .ok (.iload_n 1, 1) := by decide +kernel
theorem dX0_standsAhead_5 : decode cX0_standsAhead 5 = .ok (.aload_n 0, 1) := by decide +kernel
theorem dX0_standsAhead_6 : decode cX0_standsAhead 6 = .ok (.getfield 16, 3) := by decide +kernel
theorem dX0_standsAhead_9 : decode cX0_standsAhead 9 = .ok (.if_icmp .ge 15, 3) := by decide +kernel
theorem dX0_standsAhead_12 : decode cX0_standsAhead 12 = .ok (.iload_n 2, 1) := by decide +kernel
theorem dX0_standsAhead_13 : decode cX0_standsAhead 13 = .ok (.ifCond .lt 11, 3) := by decide +kernel
theorem dX0_standsAhead_16 : decode cX0_standsAhead 16 = .ok (.iload_n 2, 1) := by decide +kernel
theorem dX0_standsAhead_17 : decode cX0_standsAhead 17 = .ok (.aload_n 0, 1) := by decide +kernel
theorem dX0_standsAhead_18 : decode cX0_standsAhead 18 = .ok (.getfield 16, 3) := by decide +kernel
theorem dX0_standsAhead_21 : decode cX0_standsAhead 21 = .ok (.if_icmp .lt 5, 3) := by decide +kernel
theorem dX0_standsAhead_24 : decode cX0_standsAhead 24 = .ok (.iconst 0, 1) := by decide +kernel
theorem dX0_standsAhead_25 : decode cX0_standsAhead 25 = .ok (.ireturn, 1) := by decide +kernel
theorem dX0_standsAhead_26 : decode cX0_standsAhead 26 = .ok (.aload_n 0, 1) := by decide +kernel
theorem dX0_standsAhead_27 : decode cX0_standsAhead 27 = .ok (.getfield 9, 3) := by decide +kernel
theorem dX0_standsAhead_30 : decode cX0_standsAhead 30 = .ok (.iload_n 1, 1) := by decide +kernel
theorem dX0_standsAhead_31 : decode cX0_standsAhead 31 = .ok (.iaload, 1) := by decide +kernel
theorem dX0_standsAhead_32 : decode cX0_standsAhead 32 = .ok (.i2l, 1) := by decide +kernel
theorem dX0_standsAhead_33 : decode cX0_standsAhead 33 = .ok (.aload_n 0, 1) := by decide +kernel
theorem dX0_standsAhead_34 : decode cX0_standsAhead 34 = .ok (.getfield 13, 3) := by decide +kernel
theorem dX0_standsAhead_37 : decode cX0_standsAhead 37 = .ok (.iload_n 2, 1) := by decide +kernel
theorem dX0_standsAhead_38 : decode cX0_standsAhead 38 = .ok (.iaload, 1) := by decide +kernel
theorem dX0_standsAhead_39 : decode cX0_standsAhead 39 = .ok (.i2l, 1) := by decide +kernel
theorem dX0_standsAhead_40 : decode cX0_standsAhead 40 = .ok (.lmul, 1) := by decide +kernel
theorem dX0_standsAhead_41 : decode cX0_standsAhead 41 = .ok (.lstore_n 3, 1) := by decide +kernel
theorem dX0_standsAhead_42 : decode cX0_standsAhead 42 = .ok (.aload_n 0, 1) := by decide +kernel
theorem dX0_standsAhead_43 : decode cX0_standsAhead 43 = .ok (.getfield 9, 3) := by decide +kernel
theorem dX0_standsAhead_46 : decode cX0_standsAhead 46 = .ok (.iload_n 2, 1) := by decide +kernel
theorem dX0_standsAhead_47 : decode cX0_standsAhead 47 = .ok (.iaload, 1) := by decide +kernel
theorem dX0_standsAhead_48 : decode cX0_standsAhead 48 = .ok (.i2l, 1) := by decide +kernel
theorem dX0_standsAhead_49 : decode cX0_standsAhead 49 = .ok (.aload_n 0, 1) := by decide +kernel
theorem dX0_standsAhead_50 : decode cX0_standsAhead 50 = .ok (.getfield 13, 3) := by decide +kernel
theorem dX0_standsAhead_53 : decode cX0_standsAhead 53 = .ok (.iload_n 1, 1) := by decide +kernel
theorem dX0_standsAhead_54 : decode cX0_standsAhead 54 = .ok (.iaload, 1) := by decide +kernel
theorem dX0_standsAhead_55 : decode cX0_standsAhead 55 = .ok (.i2l, 1) := by decide +kernel
theorem dX0_standsAhead_56 : decode cX0_standsAhead 56 = .ok (.lmul, 1) := by decide +kernel
theorem dX0_standsAhead_57 : decode cX0_standsAhead 57 = .ok (.lstore 5, 2) := by decide +kernel
theorem dX0_standsAhead_59 : decode cX0_standsAhead 59 = .ok (.lload_n 3, 1) := by decide +kernel
theorem dX0_standsAhead_60 : decode cX0_standsAhead 60 = .ok (.lload 5, 2) := by decide +kernel
theorem dX0_standsAhead_62 : decode cX0_standsAhead 62 = .ok (.lcmp, 1) := by decide +kernel
theorem dX0_standsAhead_63 : decode cX0_standsAhead 63 = .ok (.ifCond .lt 15, 3) := by decide +kernel
theorem dX0_standsAhead_66 : decode cX0_standsAhead 66 = .ok (.lload_n 3, 1) := by decide +kernel
theorem dX0_standsAhead_67 : decode cX0_standsAhead 67 = .ok (.lload 5, 2) := by decide +kernel
theorem dX0_standsAhead_69 : decode cX0_standsAhead 69 = .ok (.lcmp, 1) := by decide +kernel
theorem dX0_standsAhead_70 : decode cX0_standsAhead 70 = .ok (.ifCond .ne 12, 3) := by decide +kernel
theorem dX0_standsAhead_73 : decode cX0_standsAhead 73 = .ok (.iload_n 1, 1) := by decide +kernel
theorem dX0_standsAhead_74 : decode cX0_standsAhead 74 = .ok (.iload_n 2, 1) := by decide +kernel
theorem dX0_standsAhead_75 : decode cX0_standsAhead 75 = .ok (.if_icmp .ge 7, 3) := by decide +kernel
theorem dX0_standsAhead_78 : decode cX0_standsAhead 78 = .ok (.iconst 1, 1) := by decide +kernel
theorem dX0_standsAhead_79 : decode cX0_standsAhead 79 = .ok (.goto 4, 3) := by decide +kernel
theorem dX0_standsAhead_82 : decode cX0_standsAhead 82 = .ok (.iconst 0, 1) := by decide +kernel
theorem dX0_standsAhead_83 : decode cX0_standsAhead 83 = .ok (.ireturn, 1) := by decide +kernel
set_option maxRecDepth 20000 in
theorem ggX1_init_X9_init : GoodIn wsX1_init wsX9_init := goodIn_r _ [12, 13, 2, 3, 14, 15, 16, 17, 18] (by decide +kernel) (by decide +kernel)
set_option maxRecDepth 20000 in
theorem gX1_init_X9_init : GoodIn wsX1_init (wsX9_init) := ggX1_init_X9_init
theorem dX1_init_0 : decode cX1_init 0 = .ok (.aload_n 0, 1) := by decide +kernel
theorem dX1_init_1 : decode cX1_init 1 = .ok (.invokespecial 1, 3) := by decide +kernel
theorem dX1_init_4 : decode cX1_init 4 = .ok (.aload_n 0, 1) := by decide +kernel
theorem dX1_init_5 : decode cX1_init 5 = .ok (.new 7, 3) := by decide +kernel
theorem dX1_init_8 : decode cX1_init 8 = .ok (.dup, 1) := by decide +kernel
theorem dX1_init_9 : decode cX1_init 9 = .ok (.invokespecial 9, 3) := by decide +kernel
theorem dX1_init_12 : decode cX1_init 12 = .ok (.putfield 10, 3) := by decide +kernel
theorem dX1_init_15 : decode cX1_init 15 = .ok (.aload_n 0, 1) := by decide +kernel
theorem dX1_init_16 : decode cX1_init 16 = .ok (.new 7, 3) := by decide +kernel
theorem dX1_init_19 : decode cX1_init 19 = .ok (.dup, 1) := by decide +kernel
theorem dX1_init_20 : decode cX1_init 20 = .ok (.invokespecial 9, 3) := by decide +kernel
theorem dX1_init_23 : decode cX1_init 23 = .ok (.putfield 16, 3) := by decide +kernel
theorem dX1_init_26 : decode cX1_init 26 = .ok (.aload_n 0, 1) := by decide +kernel
theorem dX1_init_27 : decode cX1_init 27 = .ok (.new 7, 3) := by decide +kernel
theorem dX1_init_30 : decode cX1_init 30 = .ok (.dup, 1) := by decide +kernel
theorem dX1_init_31 : decode cX1_init 31 = .ok (.invokespecial 9, 3) := by decide +kernel
theorem dX1_init_34 : decode cX1_init 34 = .ok (.putfield 19, 3) := by decide +kernel
theorem dX1_init_37 : decode cX1_init 37 = .ok (.return_, 1) := by decide +kernel
set_option maxRecDepth 20000 in
theorem ggX1_limbOfAbove_X1_sumUp : GoodIn wsX1_limbOfAbove wsX1_sumUp := goodIn_r _ [6, 7, 8, 9, 5, 10, 1, 11, 12, 13, 14, 15, 16, 17, 18, 19, 20, 21, 22, 23, 24, 25, 26, 27, 28, 29, 30, 31, 32, 33, 34, 35, 36, 37, 38, 39, 44, 45, 46, 47, 48] (by decide +kernel) (by decide +kernel)
set_option maxRecDepth 20000 in
theorem gX1_limbOfAbove_X1_sumUp : GoodIn wsX1_limbOfAbove (wsV RX1 22 RX1 yX1_sumUp wsX1_sumUp) := goodIn_app (goodIn_of _ (by decide +kernel)) ggX1_limbOfAbove_X1_sumUp
set_option maxRecDepth 20000 in
theorem ggX1_limbOfAbove_X9_limb : GoodIn wsX1_limbOfAbove wsX9_limb := goodIn_r _ [43, 17, 47, 48] (by decide +kernel) (by decide +kernel)
set_option maxRecDepth 20000 in
theorem gX1_limbOfAbove_X9_limb : GoodIn wsX1_limbOfAbove (wsV RX1 26 RX9 yX9_limb wsX9_limb) := goodIn_app (goodIn_of _ (by decide +kernel)) ggX1_limbOfAbove_X9_limb
theorem dX1_limbOfAbove_0 : decode cX1_limbOfAbove 0 = .ok (.aload_n 0, 1) := by decide +kernel
theorem dX1_limbOfAbove_1 : decode cX1_limbOfAbove 1 = .ok (.iload_n 1, 1) := by decide +kernel
theorem dX1_limbOfAbove_2 : decode cX1_limbOfAbove 2 = .ok (.iload_n 2, 1) := by decide +kernel
theorem dX1_limbOfAbove_3 : decode cX1_limbOfAbove 3 = .ok (.iload_n 3, 1) := by decide +kernel
theorem dX1_limbOfAbove_4 : decode cX1_limbOfAbove 4 = .ok (.iload 4, 2) := by decide +kernel
theorem dX1_limbOfAbove_6 : decode cX1_limbOfAbove 6 = .ok (.iload 5, 2) := by decide +kernel
theorem dX1_limbOfAbove_8 : decode cX1_limbOfAbove 8 = .ok (.invokevirtual 22, 3) := by decide +kernel
theorem dX1_limbOfAbove_11 : decode cX1_limbOfAbove 11 = .ok (.aload_n 0, 1) := by decide +kernel
theorem dX1_limbOfAbove_12 : decode cX1_limbOfAbove 12 = .ok (.getfield 10, 3) := by decide +kernel
theorem dX1_limbOfAbove_15 : decode cX1_limbOfAbove 15 = .ok (.iload 6, 2) := by decide +kernel
theorem dX1_limbOfAbove_17 : decode cX1_limbOfAbove 17 = .ok (.invokevirtual 26, 3) := by decide +kernel
theorem dX1_limbOfAbove_20 : decode cX1_limbOfAbove 20 = .ok (.lreturn, 1) := by decide +kernel
set_option maxRecDepth 20000 in
theorem ggX1_oddsAgainst_X9_become : GoodIn wsX1_oddsAgainst wsX9_become := goodIn_r _ [7, 8, 9, 10, 48, 49] (by decide +kernel) (by decide +kernel)
set_option maxRecDepth 20000 in
theorem gX1_oddsAgainst_X9_become : GoodIn wsX1_oddsAgainst (wsV RX1 30 RX9 yX9_become wsX9_become) := goodIn_app (goodIn_of _ (by decide +kernel)) ggX1_oddsAgainst_X9_become
set_option maxRecDepth 20000 in
theorem ggX1_oddsAgainst_X9_multiplyOften : GoodIn wsX1_oddsAgainst wsX9_multiplyOften := goodIn_r _ [14, 15, 16, 17, 6, 18, 10, 8, 9, 48, 49] (by decide +kernel) (by decide +kernel)
set_option maxRecDepth 20000 in
theorem gX1_oddsAgainst_X9_multiplyOften : GoodIn wsX1_oddsAgainst (wsV RX1 34 RX9 yX9_multiplyOften wsX9_multiplyOften) := goodIn_app (goodIn_of _ (by decide +kernel)) ggX1_oddsAgainst_X9_multiplyOften
set_option maxRecDepth 20000 in
theorem ggX1_oddsAgainst_X1_sumUp : GoodIn wsX1_oddsAgainst wsX1_sumUp := goodIn_r _ [23, 24, 25, 26, 22, 27, 2, 28, 3, 4, 5, 6, 7, 8, 9, 10, 29, 16, 17, 18, 30, 31, 32, 33, 34, 35, 36, 37, 38, 39, 40, 11, 12, 13, 14, 15, 45, 46, 47, 48, 49] (by decide +kernel) (by decide +kernel)
set_option maxRecDepth 20000 in
theorem gX1_oddsAgainst_X1_sumUp : GoodIn wsX1_oddsAgainst (wsV RX1 22 RX1 yX1_sumUp wsX1_sumUp) := goodIn_app (goodIn_of _ (by decide +kernel)) ggX1_oddsAgainst_X1_sumUp
set_option maxRecDepth 20000 in
theorem ggX1_oddsAgainst_X9_multiply : GoodIn wsX1_oddsAgainst wsX9_multiply := goodIn_r _ [18, 10, 8, 9, 48, 49] (by decide +kernel) (by decide +kernel)
set_option maxRecDepth 20000 in
theorem gX1_oddsAgainst_X9_multiply : GoodIn wsX1_oddsAgainst (wsV RX1 38 RX9 yX9_multiply wsX9_multiply) := goodIn_app (goodIn_of _ (by decide +kernel)) ggX1_oddsAgainst_X9_multiply
set_option maxRecDepth 20000 in
theorem ggX1_oddsAgainst_X9_against : GoodIn wsX1_oddsAgainst wsX9_against := goodIn_r _ [44, 8, 48, 49] (by decide +kernel) (by decide +kernel)
set_option maxRecDepth 20000 in
theorem gX1_oddsAgainst_X9_against : GoodIn wsX1_oddsAgainst (wsV RX1 41 RX9 yX9_against wsX9_against) := goodIn_app (goodIn_of _ (by decide +kernel)) ggX1_oddsAgainst_X9_against
theorem dX1_oddsAgainst_0 : decode cX1_oddsAgainst 0 = .ok (.aload_n 0, 1) := by decide +kernel
theorem dX1_oddsAgainst_1 : decode cX1_oddsAgainst 1 = .ok (.getfield 19, 3) := by decide +kernel
theorem dX1_oddsAgainst_4 : decode cX1_oddsAgainst 4 = .ok (.iload 6, 2) := by decide +kernel
theorem dX1_oddsAgainst_6 : decode cX1_oddsAgainst 6 = .ok (.i2l, 1) := by decide +kernel
theorem dX1_oddsAgainst_7 : decode cX1_oddsAgainst 7 = .ok (.invokevirtual 30, 3) := by decide +kernel
theorem dX1_oddsAgainst_10 : decode cX1_oddsAgainst 10 = .ok (.aload_n 0, 1) := by decide +kernel
theorem dX1_oddsAgainst_11 : decode cX1_oddsAgainst 11 = .ok (.getfield 19, 3) := by decide +kernel
theorem dX1_oddsAgainst_14 : decode cX1_oddsAgainst 14 = .ok (.iload 4, 2) := by decide +kernel
theorem dX1_oddsAgainst_16 : decode cX1_oddsAgainst 16 = .ok (.i2l, 1) := by decide +kernel
theorem dX1_oddsAgainst_17 : decode cX1_oddsAgainst 17 = .ok (.iload_n 1, 1) := by decide +kernel
theorem dX1_oddsAgainst_18 : decode cX1_oddsAgainst 18 = .ok (.invokevirtual 34, 3) := by decide +kernel
theorem dX1_oddsAgainst_21 : decode cX1_oddsAgainst 21 = .ok (.aload_n 0, 1) := by decide +kernel
theorem dX1_oddsAgainst_22 : decode cX1_oddsAgainst 22 = .ok (.iload_n 1, 1) := by decide +kernel
theorem dX1_oddsAgainst_23 : decode cX1_oddsAgainst 23 = .ok (.iload_n 2, 1) := by decide +kernel
theorem dX1_oddsAgainst_24 : decode cX1_oddsAgainst 24 = .ok (.iload_n 3, 1) := by decide +kernel
theorem dX1_oddsAgainst_25 : decode cX1_oddsAgainst 25 = .ok (.iload 4, 2) := by decide +kernel
theorem dX1_oddsAgainst_27 : decode cX1_oddsAgainst 27 = .ok (.iload 5, 2) := by decide +kernel
theorem dX1_oddsAgainst_29 : decode cX1_oddsAgainst 29 = .ok (.invokevirtual 22, 3) := by decide +kernel
theorem dX1_oddsAgainst_32 : decode cX1_oddsAgainst 32 = .ok (.aload_n 0, 1) := by decide +kernel
theorem dX1_oddsAgainst_33 : decode cX1_oddsAgainst 33 = .ok (.getfield 10, 3) := by decide +kernel
theorem dX1_oddsAgainst_36 : decode cX1_oddsAgainst 36 = .ok (.iload 7, 2) := by decide +kernel
theorem dX1_oddsAgainst_38 : decode cX1_oddsAgainst 38 = .ok (.i2l, 1) := by decide +kernel
theorem dX1_oddsAgainst_39 : decode cX1_oddsAgainst 39 = .ok (.invokevirtual 38, 3) := by decide +kernel
theorem dX1_oddsAgainst_42 : decode cX1_oddsAgainst 42 = .ok (.aload_n 0, 1) := by decide +kernel
theorem dX1_oddsAgainst_43 : decode cX1_oddsAgainst 43 = .ok (.getfield 10, 3) := by decide +kernel
theorem dX1_oddsAgainst_46 : decode cX1_oddsAgainst 46 = .ok (.aload_n 0, 1) := by decide +kernel
theorem dX1_oddsAgainst_47 : decode cX1_oddsAgainst 47 = .ok (.getfield 19, 3) := by decide +kernel
theorem dX1_oddsAgainst_50 : decode cX1_oddsAgainst 50 = .ok (.invokevirtual 41, 3) := by decide +kernel
theorem dX1_oddsAgainst_53 : decode cX1_oddsAgainst 53 = .ok (.ireturn, 1) := by decide +kernel
set_option maxRecDepth 20000 in
theorem ggX1_upper_X9_become : GoodIn wsX1_upper wsX9_become := goodIn_r _ [8, 9, 10, 11, 49, 50] (by decide +kernel) (by decide +kernel)
set_option maxRecDepth 20000 in
theorem gX1_upper_X9_become : GoodIn wsX1_upper (wsV RX1 30 RX9 yX9_become wsX9_become) := goodIn_app (goodIn_of _ (by decide +kernel)) ggX1_upper_X9_become
set_option maxRecDepth 20000 in
theorem ggX1_upper_X9_multiplyOften : GoodIn wsX1_upper wsX9_multiplyOften := goodIn_r _ [15, 16, 17, 18, 7, 19, 11, 9, 10, 49, 50] (by decide +kernel) (by decide +kernel)
set_option maxRecDepth 20000 in
theorem gX1_upper_X9_multiplyOften : GoodIn wsX1_upper (wsV RX1 34 RX9 yX9_multiplyOften wsX9_multiplyOften) := goodIn_app (goodIn_of _ (by decide +kernel)) ggX1_upper_X9_multiplyOften
set_option maxRecDepth 20000 in
theorem ggX1_upper_X1_sumUp : GoodIn wsX1_upper wsX1_sumUp := goodIn_r _ [24, 25, 26, 27, 23, 28, 3, 29, 4, 5, 6, 7, 8, 9, 10, 11, 30, 17, 18, 19, 31, 32, 33, 34, 35, 36, 37, 38, 39, 40, 41, 12, 13, 14, 15, 16, 46, 47, 48, 49, 50] (by decide +kernel) (by decide +kernel)
set_option maxRecDepth 20000 in
theorem gX1_upper_X1_sumUp : GoodIn wsX1_upper (wsV RX1 22 RX1 yX1_sumUp wsX1_sumUp) := goodIn_app (goodIn_of _ (by decide +kernel)) ggX1_upper_X1_sumUp
set_option maxRecDepth 20000 in
theorem ggX1_upper_X9_multiply : GoodIn wsX1_upper wsX9_multiply := goodIn_r _ [19, 11, 9, 10, 49, 50] (by decide +kernel) (by decide +kernel)
set_option maxRecDepth 20000 in
theorem gX1_upper_X9_multiply : GoodIn wsX1_upper (wsV RX1 38 RX9 yX9_multiply wsX9_multiply) := goodIn_app (goodIn_of _ (by decide +kernel)) ggX1_upper_X9_multiply
set_option maxRecDepth 20000 in
theorem ggX1_upper_X9_against : GoodIn wsX1_upper wsX9_against := goodIn_r _ [45, 9, 49, 50] (by decide +kernel) (by decide +kernel)
set_option maxRecDepth 20000 in
theorem gX1_upper_X9_against : GoodIn wsX1_upper (wsV RX1 41 RX9 yX9_against wsX9_against) := goodIn_app (goodIn_of _ (by decide +kernel)) ggX1_upper_X9_against
theorem dX1_upper_0 : decode cX1_upper 0 = .ok (.aload_n 0, 1) := by decide +kernel
theorem dX1_upper_1 : decode cX1_upper 1 = .ok (.getfield 19, 3) := by decide +kernel
theorem dX1_upper_4 : decode cX1_upper 4 = .ok (.iload_n 3, 1) := by decide +kernel
theorem dX1_upper_5 : decode cX1_upper 5 = .ok (.i2l, 1) := by decide +kernel
theorem dX1_upper_6 : decode cX1_upper 6 = .ok (.invokevirtual 30, 3) := by decide +kernel
theorem dX1_upper_9 : decode cX1_upper 9 = .ok (.aload_n 0, 1) := by decide +kernel
theorem dX1_upper_10 : decode cX1_upper 10 = .ok (.getfield 19, 3) := by decide +kernel
theorem dX1_upper_13 : decode cX1_upper 13 = .ok (.ldc2_w 45, 3) := by decide +kernel
theorem dX1_upper_16 : decode cX1_upper 16 = .ok (.iload_n 1, 1) := by decide +kernel
theorem dX1_upper_17 : decode cX1_upper 17 = .ok (.invokevirtual 34, 3) := by decide +kernel
theorem dX1_upper_20 : decode cX1_upper 20 = .ok (.iconst 0, 1) := by decide +kernel
theorem dX1_upper_21 : decode cX1_upper 21 = .ok (.istore 5, 2) := by decide +kernel
theorem dX1_upper_23 : decode cX1_upper 23 = .ok (.sipush 1000, 3) := by decide +kernel
theorem dX1_upper_26 : decode cX1_upper 26 = .ok (.istore 6, 2) := by decide +kernel
theorem dX1_upper_28 : decode cX1_upper 28 = .ok (.iconst 0, 1) := by decide +kernel
theorem dX1_upper_29 : decode cX1_upper 29 = .ok (.istore 7, 2) := by decide +kernel
theorem dX1_upper_31 : decode cX1_upper 31 = .ok (.iload 5, 2) := by decide +kernel
theorem dX1_upper_33 : decode cX1_upper 33 = .ok (.iload 6, 2) := by decide +kernel
theorem dX1_upper_35 : decode cX1_upper 35 = .ok (.if_icmp .ge 75, 3) := by decide +kernel
theorem dX1_upper_38 : decode cX1_upper 38 = .ok (.iload 7, 2) := by decide +kernel
theorem dX1_upper_40 : decode cX1_upper 40 = .ok (.sipush 1000, 3) := by decide +kernel
theorem dX1_upper_43 : decode cX1_upper 43 = .ok (.if_icmp .ge 67, 3) := by decide +kernel
theorem dX1_upper_46 : decode cX1_upper 46 = .ok (.iload 5, 2) := by decide +kernel
theorem dX1_upper_48 : decode cX1_upper 48 = .ok (.iload 6, 2) := by decide +kernel
theorem dX1_upper_50 : decode cX1_upper 50 = .ok (.iadd, 1) := by decide +kernel
theorem dX1_upper_51 : decode cX1_upper 51 = .ok (.iconst 2, 1) := by decide +kernel
theorem dX1_upper_52 : decode cX1_upper 52 = .ok (.idiv, 1) := by decide +kernel
theorem dX1_upper_53 : decode cX1_upper 53 = .ok (.istore 8, 2) := by decide +kernel
theorem dX1_upper_55 : decode cX1_upper 55 = .ok (.aload_n 0, 1) := by decide +kernel
theorem dX1_upper_56 : decode cX1_upper 56 = .ok (.iload_n 1, 1) := by decide +kernel
theorem dX1_upper_57 : decode cX1_upper 57 = .ok (.iload_n 2, 1) := by decide +kernel
theorem dX1_upper_58 : decode cX1_upper 58 = .ok (.iload 8, 2) := by decide +kernel
theorem dX1_upper_60 : decode cX1_upper 60 = .ok (.sipush 1000, 3) := by decide +kernel
theorem dX1_upper_63 : decode cX1_upper 63 = .ok (.iconst 1, 1) := by decide +kernel
theorem dX1_upper_64 : decode cX1_upper 64 = .ok (.invokevirtual 22, 3) := by decide +kernel
theorem dX1_upper_67 : decode cX1_upper 67 = .ok (.aload_n 0, 1) := by decide +kernel
theorem dX1_upper_68 : decode cX1_upper 68 = .ok (.getfield 10, 3) := by decide +kernel
theorem dX1_upper_71 : decode cX1_upper 71 = .ok (.iload 4, 2) := by decide +kernel
theorem dX1_upper_73 : decode cX1_upper 73 = .ok (.i2l, 1) := by decide +kernel
theorem dX1_upper_74 : decode cX1_upper 74 = .ok (.invokevirtual 38, 3) := by decide +kernel
theorem dX1_upper_77 : decode cX1_upper 77 = .ok (.aload_n 0, 1) := by decide +kernel
theorem dX1_upper_78 : decode cX1_upper 78 = .ok (.getfield 10, 3) := by decide +kernel
theorem dX1_upper_81 : decode cX1_upper 81 = .ok (.aload_n 0, 1) := by decide +kernel
theorem dX1_upper_82 : decode cX1_upper 82 = .ok (.getfield 19, 3) := by decide +kernel
theorem dX1_upper_85 : decode cX1_upper 85 = .ok (.invokevirtual 41, 3) := by decide +kernel
theorem dX1_upper_88 : decode cX1_upper 88 = .ok (.ifCond .gt 10, 3) := by decide +kernel
theorem dX1_upper_91 : decode cX1_upper 91 = .ok (.iload 8, 2) := by decide +kernel
theorem dX1_upper_93 : decode cX1_upper 93 = .ok (.istore 6, 2) := by decide +kernel
theorem dX1_upper_95 : decode cX1_upper 95 = .ok (.goto 9, 3) := by decide +kernel
theorem dX1_upper_98 : decode cX1_upper 98 = .ok (.iload 8, 2) := by decide +kernel
theorem dX1_upper_100 : decode cX1_upper 100 = .ok (.iconst 1, 1) := by decide +kernel
theorem dX1_upper_101 : decode cX1_upper 101 = .ok (.iadd, 1) := by decide +kernel
theorem dX1_upper_102 : decode cX1_upper 102 = .ok (.istore 5, 2) := by decide +kernel
theorem dX1_upper_104 : decode cX1_upper 104 = .ok (.iinc 7 1, 3) := by decide +kernel
theorem dX1_upper_107 : decode cX1_upper 107 = .ok (.goto (-76), 3) := by decide +kernel
theorem dX1_upper_110 : decode cX1_upper 110 = .ok (.iload 5, 2) := by decide +kernel
theorem dX1_upper_112 : decode cX1_upper 112 = .ok (.ireturn, 1) := by decide +kernel
set_option maxRecDepth 20000 in
theorem ggX1_lower_X1_upper : GoodIn wsX1_lower wsX1_upper := goodIn_r _ [5, 6, 7, 8, 9, 10, 11, 12, 13, 14, 15, 16, 17, 18, 19, 20, 21, 22, 23, 24, 25, 26, 27, 4, 28, 29, 30, 31, 32, 33, 34, 35, 36, 37, 38, 39, 40, 41, 42, 43, 44, 45, 46, 47, 48, 49, 50, 51, 52, 53, 54] (by decide +kernel) (by decide +kernel)
set_option maxRecDepth 20000 in
theorem gX1_lower_X1_upper : GoodIn wsX1_lower (wsV RX1 47 RX1 yX1_upper wsX1_upper) := goodIn_app (goodIn_of _ (by decide +kernel)) ggX1_lower_X1_upper
theorem dX1_lower_0 : decode cX1_lower 0 = .ok (.sipush 1000, 3) := by decide +kernel
theorem dX1_lower_3 : decode cX1_lower 3 = .ok (.aload_n 0, 1) := by decide +kernel
theorem dX1_lower_4 : decode cX1_lower 4 = .ok (.iload_n 1, 1) := by decide +kernel
theorem dX1_lower_5 : decode cX1_lower 5 = .ok (.iload_n 1, 1) := by decide +kernel
theorem dX1_lower_6 : decode cX1_lower 6 = .ok (.iload_n 2, 1) := by decide +kernel
theorem dX1_lower_7 : decode cX1_lower 7 = .ok (.isub, 1) := by decide +kernel
theorem dX1_lower_8 : decode cX1_lower 8 = .ok (.iload_n 3, 1) := by decide +kernel
theorem dX1_lower_9 : decode cX1_lower 9 = .ok (.iload 4, 2) := by decide +kernel
theorem dX1_lower_11 : decode cX1_lower 11 = .ok (.invokevirtual 47, 3) := by decide +kernel
theorem dX1_lower_14 : decode cX1_lower 14 = .ok (.isub, 1) := by decide +kernel
theorem dX1_lower_15 : decode cX1_lower 15 = .ok (.ireturn, 1) := by decide +kernel
set_option maxRecDepth 20000 in
theorem ggX1_sumUp_X1_sumOfAtLeast : GoodIn wsX1_sumUp wsX1_sumOfAtLeast := goodIn_r _ [5, 6, 7, 8, 9, 10, 11, 12, 13, 14, 15, 16, 17, 18, 19, 20, 21, 22, 23, 24, 25, 26, 27, 28, 29, 30, 31, 32, 33, 34, 35, 36, 37, 38, 39, 40] (by decide +kernel) (by decide +kernel)
set_option maxRecDepth 20000 in
theorem gX1_sumUp_X1_sumOfAtLeast : GoodIn wsX1_sumUp (wsV RX1 51 RX1 yX1_sumOfAtLeast wsX1_sumOfAtLeast) := goodIn_app (goodIn_of _ (by decide +kernel)) ggX1_sumUp_X1_sumOfAtLeast
theorem dX1_sumUp_0 : decode cX1_sumUp 0 = .ok (.iload 5, 2) := by decide +kernel
theorem dX1_sumUp_2 : decode cX1_sumUp 2 = .ok (.ifCond .ne 17, 3) := by decide +kernel
theorem dX1_sumUp_5 : decode cX1_sumUp 5 = .ok (.aload_n 0, 1) := by decide +kernel
theorem dX1_sumUp_6 : decode cX1_sumUp 6 = .ok (.iload_n 1, 1) := by decide +kernel
theorem dX1_sumUp_7 : decode cX1_sumUp 7 = .ok (.iload_n 2, 1) := by decide +kernel
theorem dX1_sumUp_8 : decode cX1_sumUp 8 = .ok (.iload_n 3, 1) := by decide +kernel
theorem dX1_sumUp_9 : decode cX1_sumUp 9 = .ok (.iload 4, 2) := by decide +kernel
theorem dX1_sumUp_11 : decode cX1_sumUp 11 = .ok (.iload_n 3, 1) := by decide +kernel
theorem dX1_sumUp_12 : decode cX1_sumUp 12 = .ok (.isub, 1) := by decide +kernel
theorem dX1_sumUp_13 : decode cX1_sumUp 13 = .ok (.invokevirtual 51, 3) := by decide +kernel
theorem dX1_sumUp_16 : decode cX1_sumUp 16 = .ok (.goto 16, 3) := by decide +kernel
theorem dX1_sumUp_19 : decode cX1_sumUp 19 = .ok (.aload_n 0, 1) := by decide +kernel
theorem dX1_sumUp_20 : decode cX1_sumUp 20 = .ok (.iload_n 1, 1) := by decide +kernel
theorem dX1_sumUp_21 : decode cX1_sumUp 21 = .ok (.iload_n 1, 1) := by decide +kernel
theorem dX1_sumUp_22 : decode cX1_sumUp 22 = .ok (.iload_n 2, 1) := by decide +kernel
theorem dX1_sumUp_23 : decode cX1_sumUp 23 = .ok (.isub, 1) := by decide +kernel
theorem dX1_sumUp_24 : decode cX1_sumUp 24 = .ok (.iload 4, 2) := by decide +kernel
theorem dX1_sumUp_26 : decode cX1_sumUp 26 = .ok (.iload_n 3, 1) := by decide +kernel
theorem dX1_sumUp_27 : decode cX1_sumUp 27 = .ok (.isub, 1) := by decide +kernel
theorem dX1_sumUp_28 : decode cX1_sumUp 28 = .ok (.iload_n 3, 1) := by decide +kernel
theorem dX1_sumUp_29 : decode cX1_sumUp 29 = .ok (.invokevirtual 51, 3) := by decide +kernel
theorem dX1_sumUp_32 : decode cX1_sumUp 32 = .ok (.return_, 1) := by decide +kernel
set_option maxRecDepth 20000 in
theorem ggX1_sumOfAtLeast_X9_become : GoodIn wsX1_sumOfAtLeast wsX9_become := goodIn_r _ [7, 8, 9, 10, 34, 35] (by decide +kernel) (by decide +kernel)
set_option maxRecDepth 20000 in
theorem gX1_sumOfAtLeast_X9_become : GoodIn wsX1_sumOfAtLeast (wsV RX1 30 RX9 yX9_become wsX9_become) := goodIn_app (goodIn_of _ (by decide +kernel)) ggX1_sumOfAtLeast_X9_become
set_option maxRecDepth 20000 in
theorem ggX1_sumOfAtLeast_X9_multiply : GoodIn wsX1_sumOfAtLeast wsX9_multiply := goodIn_r _ [14, 10, 8, 9, 34, 35] (by decide +kernel) (by decide +kernel)
set_option maxRecDepth 20000 in
theorem gX1_sumOfAtLeast_X9_multiply : GoodIn wsX1_sumOfAtLeast (wsV RX1 38 RX9 yX9_multiply wsX9_multiply) := goodIn_app (goodIn_of _ (by decide +kernel)) ggX1_sumOfAtLeast_X9_multiply
set_option maxRecDepth 20000 in
theorem ggX1_sumOfAtLeast_X9_addTimes : GoodIn wsX1_sumOfAtLeast wsX9_addTimes := goodIn_r _ [18, 10, 19, 20, 21, 22, 23, 24, 25, 8, 9, 34, 35] (by decide +kernel) (by decide +kernel)
set_option maxRecDepth 20000 in
theorem gX1_sumOfAtLeast_X9_addTimes : GoodIn wsX1_sumOfAtLeast (wsV RX1 55 RX9 yX9_addTimes wsX9_addTimes) := goodIn_app (goodIn_of _ (by decide +kernel)) ggX1_sumOfAtLeast_X9_addTimes
set_option maxRecDepth 20000 in
theorem ggX1_sumOfAtLeast_X9_multiplyOften : GoodIn wsX1_sumOfAtLeast wsX9_multiplyOften := goodIn_r _ [29, 30, 12, 13, 6, 14, 10, 8, 9, 34, 35] (by decide +kernel) (by decide +kernel)
set_option maxRecDepth 20000 in
theorem gX1_sumOfAtLeast_X9_multiplyOften : GoodIn wsX1_sumOfAtLeast (wsV RX1 34 RX9 yX9_multiplyOften wsX9_multiplyOften) := goodIn_app (goodIn_of _ (by decide +kernel)) ggX1_sumOfAtLeast_X9_multiplyOften
theorem dX1_sumOfAtLeast_0 : decode cX1_sumOfAtLeast 0 = .ok (.aload_n 0, 1) := by decide +kernel
theorem dX1_sumOfAtLeast_1 : decode cX1_sumOfAtLeast 1 = .ok (.getfield 10, 3) := by decide +kernel
theorem dX1_sumOfAtLeast_4 : decode cX1_sumOfAtLeast 4 = .ok (.lconst 0, 1) := by decide +kernel
theorem dX1_sumOfAtLeast_5 : decode cX1_sumOfAtLeast 5 = .ok (.invokevirtual 30, 3) := by decide +kernel
theorem dX1_sumOfAtLeast_8 : decode cX1_sumOfAtLeast 8 = .ok (.aload_n 0, 1) := by decide +kernel
theorem dX1_sumOfAtLeast_9 : decode cX1_sumOfAtLeast 9 = .ok (.getfield 16, 3) := by decide +kernel
theorem dX1_sumOfAtLeast_12 : decode cX1_sumOfAtLeast 12 = .ok (.lconst 1, 1) := by decide +kernel
theorem dX1_sumOfAtLeast_13 : decode cX1_sumOfAtLeast 13 = .ok (.invokevirtual 30, 3) := by decide +kernel
theorem dX1_sumOfAtLeast_16 : decode cX1_sumOfAtLeast 16 = .ok (.lconst 1, 1) := by decide +kernel
theorem dX1_sumOfAtLeast_17 : decode cX1_sumOfAtLeast 17 = .ok (.lstore 5, 2) := by decide +kernel
theorem dX1_sumOfAtLeast_19 : decode cX1_sumOfAtLeast 19 = .ok (.iconst 0, 1) := by decide +kernel
theorem dX1_sumOfAtLeast_20 : decode cX1_sumOfAtLeast 20 = .ok (.istore 7, 2) := by decide +kernel
theorem dX1_sumOfAtLeast_22 : decode cX1_sumOfAtLeast 22 = .ok (.iload 7, 2) := by decide +kernel
theorem dX1_sumOfAtLeast_24 : decode cX1_sumOfAtLeast 24 = .ok (.iload_n 1, 1) := by decide +kernel
theorem dX1_sumOfAtLeast_25 : decode cX1_sumOfAtLeast 25 = .ok (.iload_n 2, 1) := by decide +kernel
theorem dX1_sumOfAtLeast_26 : decode cX1_sumOfAtLeast 26 = .ok (.isub, 1) := by decide +kernel
theorem dX1_sumOfAtLeast_27 : decode cX1_sumOfAtLeast 27 = .ok (.if_icmp .gt 57, 3) := by decide +kernel
theorem dX1_sumOfAtLeast_30 : decode cX1_sumOfAtLeast 30 = .ok (.aload_n 0, 1) := by decide +kernel
theorem dX1_sumOfAtLeast_31 : decode cX1_sumOfAtLeast 31 = .ok (.getfield 10, 3) := by decide +kernel
theorem dX1_sumOfAtLeast_34 : decode cX1_sumOfAtLeast 34 = .ok (.iload_n 3, 1) := by decide +kernel
theorem dX1_sumOfAtLeast_35 : decode cX1_sumOfAtLeast 35 = .ok (.i2l, 1) := by decide +kernel
theorem dX1_sumOfAtLeast_36 : decode cX1_sumOfAtLeast 36 = .ok (.invokevirtual 38, 3) := by decide +kernel
theorem dX1_sumOfAtLeast_39 : decode cX1_sumOfAtLeast 39 = .ok (.aload_n 0, 1) := by decide +kernel
theorem dX1_sumOfAtLeast_40 : decode cX1_sumOfAtLeast 40 = .ok (.getfield 10, 3) := by decide +kernel
theorem dX1_sumOfAtLeast_43 : decode cX1_sumOfAtLeast 43 = .ok (.aload_n 0, 1) := by decide +kernel
theorem dX1_sumOfAtLeast_44 : decode cX1_sumOfAtLeast 44 = .ok (.getfield 16, 3) := by decide +kernel
theorem dX1_sumOfAtLeast_47 : decode cX1_sumOfAtLeast 47 = .ok (.lload 5, 2) := by decide +kernel
theorem dX1_sumOfAtLeast_49 : decode cX1_sumOfAtLeast 49 = .ok (.invokevirtual 55, 3) := by decide +kernel
theorem dX1_sumOfAtLeast_52 : decode cX1_sumOfAtLeast 52 = .ok (.aload_n 0, 1) := by decide +kernel
theorem dX1_sumOfAtLeast_53 : decode cX1_sumOfAtLeast 53 = .ok (.getfield 16, 3) := by decide +kernel
theorem dX1_sumOfAtLeast_56 : decode cX1_sumOfAtLeast 56 = .ok (.iload 4, 2) := by decide +kernel
theorem dX1_sumOfAtLeast_58 : decode cX1_sumOfAtLeast 58 = .ok (.i2l, 1) := by decide +kernel
theorem dX1_sumOfAtLeast_59 : decode cX1_sumOfAtLeast 59 = .ok (.invokevirtual 38, 3) := by decide +kernel
theorem dX1_sumOfAtLeast_62 : decode cX1_sumOfAtLeast 62 = .ok (.lload 5, 2) := by decide +kernel
theorem dX1_sumOfAtLeast_64 : decode cX1_sumOfAtLeast 64 = .ok (.iload_n 1, 1) := by decide +kernel
theorem dX1_sumOfAtLeast_65 : decode cX1_sumOfAtLeast 65 = .ok (.iload 7, 2) := by decide +kernel
theorem dX1_sumOfAtLeast_67 : decode cX1_sumOfAtLeast 67 = .ok (.isub, 1) := by decide +kernel
theorem dX1_sumOfAtLeast_68 : decode cX1_sumOfAtLeast 68 = .ok (.i2l, 1) := by decide +kernel
theorem dX1_sumOfAtLeast_69 : decode cX1_sumOfAtLeast 69 = .ok (.lmul, 1) := by decide +kernel
theorem dX1_sumOfAtLeast_70 : decode cX1_sumOfAtLeast 70 = .ok (.iload 7, 2) := by decide +kernel
theorem dX1_sumOfAtLeast_72 : decode cX1_sumOfAtLeast 72 = .ok (.iconst 1, 1) := by decide +kernel
theorem dX1_sumOfAtLeast_73 : decode cX1_sumOfAtLeast 73 = .ok (.iadd, 1) := by decide +kernel
theorem dX1_sumOfAtLeast_74 : decode cX1_sumOfAtLeast 74 = .ok (.i2l, 1) := by decide +kernel
theorem dX1_sumOfAtLeast_75 : decode cX1_sumOfAtLeast 75 = .ok (.ldiv, 1) := by decide +kernel
theorem dX1_sumOfAtLeast_76 : decode cX1_sumOfAtLeast 76 = .ok (.lstore 5, 2) := by decide +kernel
theorem dX1_sumOfAtLeast_78 : decode cX1_sumOfAtLeast 78 = .ok (.iinc 7 1, 3) := by decide +kernel
theorem dX1_sumOfAtLeast_81 : decode cX1_sumOfAtLeast 81 = .ok (.goto (-59), 3) := by decide +kernel
theorem dX1_sumOfAtLeast_84 : decode cX1_sumOfAtLeast 84 = .ok (.aload_n 0, 1) := by decide +kernel
theorem dX1_sumOfAtLeast_85 : decode cX1_sumOfAtLeast 85 = .ok (.getfield 10, 3) := by decide +kernel
theorem dX1_sumOfAtLeast_88 : decode cX1_sumOfAtLeast 88 = .ok (.iload_n 3, 1) := by decide +kernel
theorem dX1_sumOfAtLeast_89 : decode cX1_sumOfAtLeast 89 = .ok (.i2l, 1) := by decide +kernel
theorem dX1_sumOfAtLeast_90 : decode cX1_sumOfAtLeast 90 = .ok (.iload_n 2, 1) := by decide +kernel
theorem dX1_sumOfAtLeast_91 : decode cX1_sumOfAtLeast 91 = .ok (.invokevirtual 34, 3) := by decide +kernel
theorem dX1_sumOfAtLeast_94 : decode cX1_sumOfAtLeast 94 = .ok (.return_, 1) := by decide +kernel
set_option maxRecDepth 20000 in
theorem ggX2_init_X4_init : GoodIn wsX2_init wsX4_init := goodIn_r _ [14, 15, 2, 3, 16, 17, 22, 23] (by decide +kernel) (by decide +kernel)
set_option maxRecDepth 20000 in
theorem gX2_init_X4_init : GoodIn wsX2_init (wsX4_init) := ggX2_init_X4_init
theorem dX2_init_0 : decode cX2_init 0 = .ok (.aload_n 0, 1) := by decide +kernel
theorem dX2_init_1 : decode cX2_init 1 = .ok (.invokespecial 1, 3) := by decide +kernel
theorem dX2_init_4 : decode cX2_init 4 = .ok (.aload_n 0, 1) := by decide +kernel
theorem dX2_init_5 : decode cX2_init 5 = .ok (.bipush 60, 2) := by decide +kernel
theorem dX2_init_7 : decode cX2_init 7 = .ok (.newarray .long, 2) := by decide +kernel
theorem dX2_init_9 : decode cX2_init 9 = .ok (.putfield 9, 3) := by decide +kernel
theorem dX2_init_12 : decode cX2_init 12 = .ok (.aload_n 0, 1) := by decide +kernel
theorem dX2_init_13 : decode cX2_init 13 = .ok (.bipush 60, 2) := by decide +kernel
theorem dX2_init_15 : decode cX2_init 15 = .ok (.newarray .long, 2) := by decide +kernel
theorem dX2_init_17 : decode cX2_init 17 = .ok (.putfield 13, 3) := by decide +kernel
theorem dX2_init_20 : decode cX2_init 20 = .ok (.aload_n 0, 1) := by decide +kernel
theorem dX2_init_21 : decode cX2_init 21 = .ok (.new 16, 3) := by decide +kernel
theorem dX2_init_24 : decode cX2_init 24 = .ok (.dup, 1) := by decide +kernel
theorem dX2_init_25 : decode cX2_init 25 = .ok (.invokespecial 18, 3) := by decide +kernel
theorem dX2_init_28 : decode cX2_init 28 = .ok (.putfield 19, 3) := by decide +kernel
theorem dX2_init_31 : decode cX2_init 31 = .ok (.aload_n 0, 1) := by decide +kernel
theorem dX2_init_32 : decode cX2_init 32 = .ok (.iconst 0, 1) := by decide +kernel
theorem dX2_init_33 : decode cX2_init 33 = .ok (.putfield 23, 3) := by decide +kernel
theorem dX2_init_36 : decode cX2_init 36 = .ok (.return_, 1) := by decide +kernel
theorem dX2_size_0 : decode cX2_size 0 = .ok (.aload_n 0, 1) := by decide +kernel
theorem dX2_size_1 : decode cX2_size 1 = .ok (.getfield 23, 3) := by decide +kernel
theorem dX2_size_4 : decode cX2_size 4 = .ok (.ireturn, 1) := by decide +kernel
theorem dX2_empty_0 : decode cX2_empty 0 = .ok (.aload_n 0, 1) := by decide +kernel
theorem dX2_empty_1 : decode cX2_empty 1 = .ok (.iconst 0, 1) := by decide +kernel
theorem dX2_empty_2 : decode cX2_empty 2 = .ok (.putfield 23, 3) := by decide +kernel
theorem dX2_empty_5 : decode cX2_empty 5 = .ok (.return_, 1) := by decide +kernel
set_option maxRecDepth 20000 in
theorem ggX2_drawAnew_X8_size : GoodIn wsX2_drawAnew wsX8_size := goodIn_r _ [9, 10, 55, 56, 57] (by decide +kernel) (by decide +kernel)
set_option maxRecDepth 20000 in
theorem gX2_drawAnew_X8_size : GoodIn wsX2_drawAnew (wsV RX2 27 RX8 yX8_size wsX8_size) := goodIn_app (goodIn_of _ (by decide +kernel)) ggX2_drawAnew_X8_size
set_option maxRecDepth 20000 in
theorem ggX2_drawAnew_X8_difference : GoodIn wsX2_drawAnew wsX8_difference := goodIn_r _ [14, 10, 15, 55, 56, 57] (by decide +kernel) (by decide +kernel)
set_option maxRecDepth 20000 in
theorem gX2_drawAnew_X8_difference : GoodIn wsX2_drawAnew (wsV RX2 37 RX8 yX8_difference wsX8_difference) := goodIn_app (goodIn_of _ (by decide +kernel)) ggX2_drawAnew_X8_difference
set_option maxRecDepth 20000 in
theorem ggX2_drawAnew_X8_rowsOf : GoodIn wsX2_drawAnew wsX8_rowsOf := goodIn_r _ [19, 10, 20, 55, 56, 57] (by decide +kernel) (by decide +kernel)
set_option maxRecDepth 20000 in
theorem gX2_drawAnew_X8_rowsOf : GoodIn wsX2_drawAnew (wsV RX2 41 RX8 yX8_rowsOf wsX8_rowsOf) := goodIn_app (goodIn_of _ (by decide +kernel)) ggX2_drawAnew_X8_rowsOf
set_option maxRecDepth 20000 in
theorem ggX2_drawAnew_X4_become : GoodIn wsX2_drawAnew wsX4_become := goodIn_r _ [25, 26, 27, 28, 29, 30, 31, 32, 33, 34, 35, 58, 59] (by decide +kernel) (by decide +kernel)
set_option maxRecDepth 20000 in
theorem gX2_drawAnew_X4_become : GoodIn wsX2_drawAnew (wsV RX2 44 RX4 yX4_become wsX4_become) := goodIn_app (goodIn_of _ (by decide +kernel)) ggX2_drawAnew_X4_become
set_option maxRecDepth 20000 in
theorem ggX2_drawAnew_X2_insertMean : GoodIn wsX2_drawAnew wsX2_insertMean := goodIn_r _ [40, 1, 4, 41, 42, 43, 44, 45, 24, 46, 30, 31, 47, 48, 49, 50, 51, 52, 53, 54, 58, 59] (by decide +kernel) (by decide +kernel)
set_option maxRecDepth 20000 in
theorem gX2_drawAnew_X2_insertMean : GoodIn wsX2_drawAnew (wsV RX2 48 RX2 yX2_insertMean wsX2_insertMean) := goodIn_app (goodIn_of _ (by decide +kernel)) ggX2_drawAnew_X2_insertMean
theorem dX2_drawAnew_0 : decode cX2_drawAnew 0 = .ok (.aload 4, 2) := by decide +kernel
theorem dX2_drawAnew_2 : decode cX2_drawAnew 2 = .ok (.invokevirtual 27, 3) := by decide +kernel
theorem dX2_drawAnew_5 : decode cX2_drawAnew 5 = .ok (.istore 5, 2) := by decide +kernel
theorem dX2_drawAnew_7 : decode cX2_drawAnew 7 = .ok (.iload 5, 2) := by decide +kernel
theorem dX2_drawAnew_9 : decode cX2_drawAnew 9 = .ok (.ifCond .gt 4, 3) := by decide +kernel
theorem dX2_drawAnew_12 : decode cX2_drawAnew 12 = .ok (.return_, 1) := by decide +kernel
theorem dX2_drawAnew_13 : decode cX2_drawAnew 13 = .ok (.aload_n 0, 1) := by decide +kernel
theorem dX2_drawAnew_14 : decode cX2_drawAnew 14 = .ok (.iconst 0, 1) := by decide +kernel
theorem dX2_drawAnew_15 : decode cX2_drawAnew 15 = .ok (.putfield 23, 3) := by decide +kernel
theorem dX2_drawAnew_18 : decode cX2_drawAnew 18 = .ok (.lload_n 1, 1) := by decide +kernel
theorem dX2_drawAnew_19 : decode cX2_drawAnew 19 = .ok (.lstore 6, 2) := by decide +kernel
theorem dX2_drawAnew_21 : decode cX2_drawAnew 21 = .ok (.iconst 0, 1) := by decide +kernel
theorem dX2_drawAnew_22 : decode cX2_drawAnew 22 = .ok (.istore 8, 2) := by decide +kernel
theorem dX2_drawAnew_24 : decode cX2_drawAnew 24 = .ok (.iload 8, 2) := by decide +kernel
theorem dX2_drawAnew_26 : decode cX2_drawAnew 26 = .ok (.iload_n 3, 1) := by decide +kernel
theorem dX2_drawAnew_27 : decode cX2_drawAnew 27 = .ok (.if_icmp .ge 96, 3) := by decide +kernel
theorem dX2_drawAnew_30 : decode cX2_drawAnew 30 = .ok (.lconst 0, 1) := by decide +kernel
theorem dX2_drawAnew_31 : decode cX2_drawAnew 31 = .ok (.lstore 9, 2) := by decide +kernel
theorem dX2_drawAnew_33 : decode cX2_drawAnew 33 = .ok (.lconst 0, 1) := by decide +kernel
theorem dX2_drawAnew_34 : decode cX2_drawAnew 34 = .ok (.lstore 11, 2) := by decide +kernel
theorem dX2_drawAnew_36 : decode cX2_drawAnew 36 = .ok (.iconst 0, 1) := by decide +kernel
theorem dX2_drawAnew_37 : decode cX2_drawAnew 37 = .ok (.istore 13, 2) := by decide +kernel
theorem dX2_drawAnew_39 : decode cX2_drawAnew 39 = .ok (.iload 13, 2) := by decide +kernel
theorem dX2_drawAnew_41 : decode cX2_drawAnew 41 = .ok (.iload 5, 2) := by decide +kernel
theorem dX2_drawAnew_43 : decode cX2_drawAnew 43 = .ok (.if_icmp .ge 59, 3) := by decide +kernel
theorem dX2_drawAnew_46 : decode cX2_drawAnew 46 = .ok (.lload 6, 2) := by decide +kernel
theorem dX2_drawAnew_48 : decode cX2_drawAnew 48 = .ok (.ldc2_w 33, 3) := by decide +kernel
theorem dX2_drawAnew_51 : decode cX2_drawAnew 51 = .ok (.lmul, 1) := by decide +kernel
theorem dX2_drawAnew_52 : decode cX2_drawAnew 52 = .ok (.ldc2_w 35, 3) := by decide +kernel
theorem dX2_drawAnew_55 : decode cX2_drawAnew 55 = .ok (.ladd, 1) := by decide +kernel
theorem dX2_drawAnew_56 : decode cX2_drawAnew 56 = .ok (.lstore 6, 2) := by decide +kernel
theorem dX2_drawAnew_58 : decode cX2_drawAnew 58 = .ok (.lload 6, 2) := by decide +kernel
theorem dX2_drawAnew_60 : decode cX2_drawAnew 60 = .ok (.bipush 33, 2) := by decide +kernel
theorem dX2_drawAnew_62 : decode cX2_drawAnew 62 = .ok (.lushr, 1) := by decide +kernel
theorem dX2_drawAnew_63 : decode cX2_drawAnew 63 = .ok (.iload 5, 2) := by decide +kernel
theorem dX2_drawAnew_65 : decode cX2_drawAnew 65 = .ok (.i2l, 1) := by decide +kernel
theorem dX2_drawAnew_66 : decode cX2_drawAnew 66 = .ok (.lrem, 1) := by decide +kernel
theorem dX2_drawAnew_67 : decode cX2_drawAnew 67 = .ok (.l2i, 1) := by decide +kernel
theorem dX2_drawAnew_68 : decode cX2_drawAnew 68 = .ok (.istore 14, 2) := by decide +kernel
theorem dX2_drawAnew_70 : decode cX2_drawAnew 70 = .ok (.lload 9, 2) := by decide +kernel
theorem dX2_drawAnew_72 : decode cX2_drawAnew 72 = .ok (.aload 4, 2) := by decide +kernel
theorem dX2_drawAnew_74 : decode cX2_drawAnew 74 = .ok (.iload 14, 2) := by decide +kernel
theorem dX2_drawAnew_76 : decode cX2_drawAnew 76 = .ok (.invokevirtual 37, 3) := by decide +kernel
theorem dX2_drawAnew_79 : decode cX2_drawAnew 79 = .ok (.i2l, 1) := by decide +kernel
theorem dX2_drawAnew_80 : decode cX2_drawAnew 80 = .ok (.ladd, 1) := by decide +kernel
theorem dX2_drawAnew_81 : decode cX2_drawAnew 81 = .ok (.lstore 9, 2) := by decide +kernel
theorem dX2_drawAnew_83 : decode cX2_drawAnew 83 = .ok (.lload 11, 2) := by decide +kernel
theorem dX2_drawAnew_85 : decode cX2_drawAnew 85 = .ok (.aload 4, 2) := by decide +kernel
theorem dX2_drawAnew_87 : decode cX2_drawAnew 87 = .ok (.iload 14, 2) := by decide +kernel
theorem dX2_drawAnew_89 : decode cX2_drawAnew 89 = .ok (.invokevirtual 41, 3) := by decide +kernel
theorem dX2_drawAnew_92 : decode cX2_drawAnew 92 = .ok (.i2l, 1) := by decide +kernel
theorem dX2_drawAnew_93 : decode cX2_drawAnew 93 = .ok (.ladd, 1) := by decide +kernel
theorem dX2_drawAnew_94 : decode cX2_drawAnew 94 = .ok (.lstore 11, 2) := by decide +kernel
theorem dX2_drawAnew_96 : decode cX2_drawAnew 96 = .ok (.iinc 13 1, 3) := by decide +kernel
theorem dX2_drawAnew_99 : decode cX2_drawAnew 99 = .ok (.goto (-60), 3) := by decide +kernel
theorem dX2_drawAnew_102 : decode cX2_drawAnew 102 = .ok (.aload_n 0, 1) := by decide +kernel
theorem dX2_drawAnew_103 : decode cX2_drawAnew 103 = .ok (.getfield 19, 3) := by decide +kernel
theorem dX2_drawAnew_106 : decode cX2_drawAnew 106 = .ok (.lload 9, 2) := by decide +kernel
theorem dX2_drawAnew_108 : decode cX2_drawAnew 108 = .ok (.lload 11, 2) := by decide +kernel
theorem dX2_drawAnew_110 : decode cX2_drawAnew 110 = .ok (.invokevirtual 44, 3) := by decide +kernel
theorem dX2_drawAnew_113 : decode cX2_drawAnew 113 = .ok (.aload_n 0, 1) := by decide +kernel
theorem dX2_drawAnew_114 : decode cX2_drawAnew 114 = .ok (.invokevirtual 48, 3) := by decide +kernel
theorem dX2_drawAnew_117 : decode cX2_drawAnew 117 = .ok (.iinc 8 1, 3) := by decide +kernel
theorem dX2_drawAnew_120 : decode cX2_drawAnew 120 = .ok (.goto (-96), 3) := by decide +kernel
theorem dX2_drawAnew_123 : decode cX2_drawAnew 123 = .ok (.return_, 1) := by decide +kernel
set_option maxRecDepth 20000 in
theorem ggX2_insertMean_X4_isBelow : GoodIn wsX2_insertMean wsX4_isBelow := goodIn_r _ [9, 10, 11, 20, 21] (by decide +kernel) (by decide +kernel)
set_option maxRecDepth 20000 in
theorem gX2_insertMean_X4_isBelow : GoodIn wsX2_insertMean (wsV RX2 51 RX4 yX4_isBelow wsX4_isBelow) := goodIn_app (goodIn_of _ (by decide +kernel)) ggX2_insertMean_X4_isBelow
set_option maxRecDepth 20000 in
theorem ggX2_insertMean_X4_told : GoodIn wsX2_insertMean wsX4_told := goodIn_r _ [15, 10, 11, 20, 21] (by decide +kernel) (by decide +kernel)
set_option maxRecDepth 20000 in
theorem gX2_insertMean_X4_told : GoodIn wsX2_insertMean (wsV RX2 55 RX4 yX4_told wsX4_told) := goodIn_app (goodIn_of _ (by decide +kernel)) ggX2_insertMean_X4_told
theorem dX2_insertMean_0 : decode cX2_insertMean 0 = .ok (.aload_n 0, 1) := by decide +kernel
theorem dX2_insertMean_1 : decode cX2_insertMean 1 = .ok (.getfield 23, 3) := by decide +kernel
theorem dX2_insertMean_4 : decode cX2_insertMean 4 = .ok (.bipush 60, 2) := by decide +kernel
theorem dX2_insertMean_6 : decode cX2_insertMean 6 = .ok (.if_icmp .lt 4, 3) := by decide +kernel
theorem dX2_insertMean_9 : decode cX2_insertMean 9 = .ok (.return_, 1) := by decide +kernel
theorem dX2_insertMean_10 : decode cX2_insertMean 10 = .ok (.aload_n 0, 1) := by decide +kernel
theorem dX2_insertMean_11 : decode cX2_insertMean 11 = .ok (.getfield 23, 3) := by decide +kernel
theorem dX2_insertMean_14 : decode cX2_insertMean 14 = .ok (.istore_n 1, 1) := by decide +kernel
theorem dX2_insertMean_15 : decode cX2_insertMean 15 = .ok (.iload_n 1, 1) := by decide +kernel
theorem dX2_insertMean_16 : decode cX2_insertMean 16 = .ok (.ifCond .le 63, 3) := by decide +kernel
theorem dX2_insertMean_19 : decode cX2_insertMean 19 = .ok (.aload_n 0, 1) := by decide +kernel
theorem dX2_insertMean_20 : decode cX2_insertMean 20 = .ok (.getfield 19, 3) := by decide +kernel
theorem dX2_insertMean_23 : decode cX2_insertMean 23 = .ok (.aload_n 0, 1) := by decide +kernel
theorem dX2_insertMean_24 : decode cX2_insertMean 24 = .ok (.getfield 9, 3) := by decide +kernel
theorem dX2_insertMean_27 : decode cX2_insertMean 27 = .ok (.iload_n 1, 1) := by decide +kernel
theorem dX2_insertMean_28 : decode cX2_insertMean 28 = .ok (.iconst 1, 1) := by decide +kernel
theorem dX2_insertMean_29 : decode cX2_insertMean 29 = .ok (.isub, 1) := by decide +kernel
theorem dX2_insertMean_30 : decode cX2_insertMean 30 = .ok (.laload, 1) := by decide +kernel
theorem dX2_insertMean_31 : decode cX2_insertMean 31 = .ok (.aload_n 0, 1) := by decide +kernel
theorem dX2_insertMean_32 : decode cX2_insertMean 32 = .ok (.getfield 13, 3) := by decide +kernel
theorem dX2_insertMean_35 : decode cX2_insertMean 35 = .ok (.iload_n 1, 1) := by decide +kernel
theorem dX2_insertMean_36 : decode cX2_insertMean 36 = .ok (.iconst 1, 1) := by decide +kernel
theorem dX2_insertMean_37 : decode cX2_insertMean 37 = .ok (.isub, 1) := by decide +kernel
theorem dX2_insertMean_38 : decode cX2_insertMean 38 = .ok (.laload, 1) := by decide +kernel
theorem dX2_insertMean_39 : decode cX2_insertMean 39 = .ok (.invokevirtual 51, 3) := by decide +kernel
theorem dX2_insertMean_42 : decode cX2_insertMean 42 = .ok (.ifCond .eq 37, 3) := by decide +kernel
theorem dX2_insertMean_45 : decode cX2_insertMean 45 = .ok (.aload_n 0, 1) := by decide +kernel
theorem dX2_insertMean_46 : decode cX2_insertMean 46 = .ok (.getfield 9, 3) := by decide +kernel
theorem dX2_insertMean_49 : decode cX2_insertMean 49 = .ok (.iload_n 1, 1) := by decide +kernel
theorem dX2_insertMean_50 : decode cX2_insertMean 50 = .ok (.aload_n 0, 1) := by decide +kernel
theorem dX2_insertMean_51 : decode cX2_insertMean 51 = .ok (.getfield 9, 3) := by decide +kernel
theorem dX2_insertMean_54 : decode cX2_insertMean 54 = .ok (.iload_n 1, 1) := by decide +kernel
theorem dX2_insertMean_55 : decode cX2_insertMean 55 = .ok (.iconst 1, 1) := by decide +kernel
theorem dX2_insertMean_56 : decode cX2_insertMean 56 = .ok (.isub, 1) := by decide +kernel
theorem dX2_insertMean_57 : decode cX2_insertMean 57 = .ok (.laload, 1) := by decide +kernel
theorem dX2_insertMean_58 : decode cX2_insertMean 58 = .ok (.lastore, 1) := by decide +kernel
theorem dX2_insertMean_59 : decode cX2_insertMean 59 = .ok (.aload_n 0, 1) := by decide +kernel
theorem dX2_insertMean_60 : decode cX2_insertMean 60 = .ok (.getfield 13, 3) := by decide +kernel
theorem dX2_insertMean_63 : decode cX2_insertMean 63 = .ok (.iload_n 1, 1) := by decide +kernel
theorem dX2_insertMean_64 : decode cX2_insertMean 64 = .ok (.aload_n 0, 1) := by decide +kernel
theorem dX2_insertMean_65 : decode cX2_insertMean 65 = .ok (.getfield 13, 3) := by decide +kernel
theorem dX2_insertMean_68 : decode cX2_insertMean 68 = .ok (.iload_n 1, 1) := by decide +kernel
theorem dX2_insertMean_69 : decode cX2_insertMean 69 = .ok (.iconst 1, 1) := by decide +kernel
theorem dX2_insertMean_70 : decode cX2_insertMean 70 = .ok (.isub, 1) := by decide +kernel
theorem dX2_insertMean_71 : decode cX2_insertMean 71 = .ok (.laload, 1) := by decide +kernel
theorem dX2_insertMean_72 : decode cX2_insertMean 72 = .ok (.lastore, 1) := by decide +kernel
theorem dX2_insertMean_73 : decode cX2_insertMean 73 = .ok (.iinc 1 (-1), 3) := by decide +kernel
theorem dX2_insertMean_76 : decode cX2_insertMean 76 = .ok (.goto (-61), 3) := by decide +kernel
theorem dX2_insertMean_79 : decode cX2_insertMean 79 = .ok (.aload_n 0, 1) := by decide +kernel
theorem dX2_insertMean_80 : decode cX2_insertMean 80 = .ok (.getfield 9, 3) := by decide +kernel
theorem dX2_insertMean_83 : decode cX2_insertMean 83 = .ok (.iload_n 1, 1) := by decide +kernel
theorem dX2_insertMean_84 : decode cX2_insertMean 84 = .ok (.aload_n 0, 1) := by decide +kernel
theorem dX2_insertMean_85 : decode cX2_insertMean 85 = .ok (.getfield 19, 3) := by decide +kernel
theorem dX2_insertMean_88 : decode cX2_insertMean 88 = .ok (.iconst 0, 1) := by decide +kernel
theorem dX2_insertMean_89 : decode cX2_insertMean 89 = .ok (.invokevirtual 55, 3) := by decide +kernel
theorem dX2_insertMean_92 : decode cX2_insertMean 92 = .ok (.lastore, 1) := by decide +kernel
theorem dX2_insertMean_93 : decode cX2_insertMean 93 = .ok (.aload_n 0, 1) := by decide +kernel
theorem dX2_insertMean_94 : decode cX2_insertMean 94 = .ok (.getfield 13, 3) := by decide +kernel
theorem dX2_insertMean_97 : decode cX2_insertMean 97 = .ok (.iload_n 1, 1) := by decide +kernel
theorem dX2_insertMean_98 : decode cX2_insertMean 98 = .ok (.aload_n 0, 1) := by decide +kernel
theorem dX2_insertMean_99 : decode cX2_insertMean 99 = .ok (.getfield 19, 3) := by decide +kernel
theorem dX2_insertMean_102 : decode cX2_insertMean 102 = .ok (.iconst 1, 1) := by decide +kernel
theorem dX2_insertMean_103 : decode cX2_insertMean 103 = .ok (.invokevirtual 55, 3) := by decide +kernel
theorem dX2_insertMean_106 : decode cX2_insertMean 106 = .ok (.lastore, 1) := by decide +kernel
theorem dX2_insertMean_107 : decode cX2_insertMean 107 = .ok (.aload_n 0, 1) := by decide +kernel
theorem dX2_insertMean_108 : decode cX2_insertMean 108 = .ok (.dup, 1) := by decide +kernel
theorem dX2_insertMean_109 : decode cX2_insertMean 109 = .ok (.getfield 23, 3) := by decide +kernel
theorem dX2_insertMean_112 : decode cX2_insertMean 112 = .ok (.iconst 1, 1) := by decide +kernel
theorem dX2_insertMean_113 : decode cX2_insertMean 113 = .ok (.iadd, 1) := by decide +kernel
theorem dX2_insertMean_114 : decode cX2_insertMean 114 = .ok (.putfield 23, 3) := by decide +kernel
theorem dX2_insertMean_117 : decode cX2_insertMean 117 = .ok (.return_, 1) := by decide +kernel
theorem dX2_told_0 : decode cX2_told 0 = .ok (.iload_n 1, 1) := by decide +kernel
theorem dX2_told_1 : decode cX2_told 1 = .ok (.ifCond .lt 11, 3) := by decide +kernel
theorem dX2_told_4 : decode cX2_told 4 = .ok (.iload_n 1, 1) := by decide +kernel
theorem dX2_told_5 : decode cX2_told 5 = .ok (.aload_n 0, 1) := by decide +kernel
theorem dX2_told_6 : decode cX2_told 6 = .ok (.getfield 23, 3) := by decide +kernel
theorem dX2_told_9 : decode cX2_told 9 = .ok (.if_icmp .lt 5, 3) := by decide +kernel
theorem dX2_told_12 : decode cX2_told 12 = .ok (.lconst 0, 1) := by decide +kernel
theorem dX2_told_13 : decode cX2_told 13 = .ok (.lreturn, 1) := by decide +kernel
theorem dX2_told_14 : decode cX2_told 14 = .ok (.iload_n 2, 1) := by decide +kernel
theorem dX2_told_15 : decode cX2_told 15 = .ok (.ifCond .ne 12, 3) := by decide +kernel
theorem dX2_told_18 : decode cX2_told 18 = .ok (.aload_n 0, 1) := by decide +kernel
theorem dX2_told_19 : decode cX2_told 19 = .ok (.getfield 9, 3) := by decide +kernel
theorem dX2_told_22 : decode cX2_told 22 = .ok (.iload_n 1, 1) := by decide +kernel
theorem dX2_told_23 : decode cX2_told 23 = .ok (.laload, 1) := by decide +kernel
theorem dX2_told_24 : decode cX2_told 24 = .ok (.goto 9, 3) := by decide +kernel
theorem dX2_told_27 : decode cX2_told 27 = .ok (.aload_n 0, 1) := by decide +kernel
theorem dX2_told_28 : decode cX2_told 28 = .ok (.getfield 13, 3) := by decide +kernel
theorem dX2_told_31 : decode cX2_told 31 = .ok (.iload_n 1, 1) := by decide +kernel
theorem dX2_told_32 : decode cX2_told 32 = .ok (.laload, 1) := by decide +kernel
theorem dX2_told_33 : decode cX2_told 33 = .ok (.lreturn, 1) := by decide +kernel
theorem dX2_aboveZero_0 : decode cX2_aboveZero 0 = .ok (.iconst 0, 1) := by decide +kernel
theorem dX2_aboveZero_1 : decode cX2_aboveZero 1 = .ok (.istore_n 1, 1) := by decide +kernel
theorem dX2_aboveZero_2 : decode cX2_aboveZero 2 = .ok (.iconst 0, 1) := by decide +kernel
theorem dX2_aboveZero_3 : decode cX2_aboveZero 3 = .ok (.istore_n 2, 1) := by decide +kernel
theorem dX2_aboveZero_4 : decode cX2_aboveZero 4 = .ok (.iload_n 2, 1) := by decide +kernel
theorem dX2_aboveZero_5 : decode cX2_aboveZero 5 = .ok (.aload_n 0, 1) := by decide +kernel
theorem dX2_aboveZero_6 : decode cX2_aboveZero 6 = .ok (.getfield 23, 3) := by decide +kernel
theorem dX2_aboveZero_9 : decode cX2_aboveZero 9 = .ok (.if_icmp .ge 23, 3) := by decide +kernel
theorem dX2_aboveZero_12 : decode cX2_aboveZero 12 = .ok (.aload_n 0, 1) := by decide +kernel
theorem dX2_aboveZero_13 : decode cX2_aboveZero 13 = .ok (.getfield 9, 3) := by decide +kernel
theorem dX2_aboveZero_16 : decode cX2_aboveZero 16 = .ok (.iload_n 2, 1) := by decide +kernel
theorem dX2_aboveZero_17 : decode cX2_aboveZero 17 = .ok (.laload, 1) := by decide +kernel
theorem dX2_aboveZero_18 : decode cX2_aboveZero 18 = .ok (.lconst 0, 1) := by decide +kernel
theorem dX2_aboveZero_19 : decode cX2_aboveZero 19 = .ok (.lcmp, 1) := by decide +kernel
theorem dX2_aboveZero_20 : decode cX2_aboveZero 20 = .ok (.ifCond .le 6, 3) := by decide +kernel
theorem dX2_aboveZero_23 : decode cX2_aboveZero 23 = .ok (.iinc 1 1, 3) := by decide +kernel
theorem dX2_aboveZero_26 : decode cX2_aboveZero 26 = .ok (.iinc 2 1, 3) := by decide +kernel
theorem dX2_aboveZero_29 : decode cX2_aboveZero 29 = .ok (.goto (-25), 3) := by decide +kernel
theorem dX2_aboveZero_32 : decode cX2_aboveZero 32 = .ok (.iload_n 1, 1) := by decide +kernel
theorem dX2_aboveZero_33 : decode cX2_aboveZero 33 = .ok (.ireturn, 1) := by decide +kernel
theorem dX3_within_0 : decode cX3_within 0 = .ok (.iload_n 0, 1) := by decide +kernel
theorem dX3_within_1 : decode cX3_within 1 = .ok (.iload_n 1, 1) := by decide +kernel
theorem dX3_within_2 : decode cX3_within 2 = .ok (.if_icmp .lt 12, 3) := by decide +kernel
theorem dX3_within_5 : decode cX3_within 5 = .ok (.iload_n 0, 1) := by decide +kernel
theorem dX3_within_6 : decode cX3_within 6 = .ok (.iload_n 2, 1) := by decide +kernel
theorem dX3_within_7 : decode cX3_within 7 = .ok (.if_icmp .gt 7, 3) := by decide +kernel
theorem dX3_within_10 : decode cX3_within 10 = .ok (.iconst 1, 1) := by decide +kernel
theorem dX3_within_11 : decode cX3_within 11 = .ok (.goto 4, 3) := by decide +kernel
theorem dX3_within_14 : decode cX3_within 14 = .ok (.iconst 0, 1) := by decide +kernel
theorem dX3_within_15 : decode cX3_within 15 = .ok (.ireturn, 1) := by decide +kernel
theorem dX3_setsOutOf_0 : decode cX3_setsOutOf 0 = .ok (.lconst 1, 1) := by decide +kernel
theorem dX3_setsOutOf_1 : decode cX3_setsOutOf 1 = .ok (.lstore_n 2, 1) := by decide +kernel
theorem dX3_setsOutOf_2 : decode cX3_setsOutOf 2 = .ok (.iconst 1, 1) := by decide +kernel
theorem dX3_setsOutOf_3 : decode cX3_setsOutOf 3 = .ok (.istore 4, 2) := by decide +kernel
theorem dX3_setsOutOf_5 : decode cX3_setsOutOf 5 = .ok (.iload 4, 2) := by decide +kernel
theorem dX3_setsOutOf_7 : decode cX3_setsOutOf 7 = .ok (.iload_n 1, 1) := by decide +kernel
theorem dX3_setsOutOf_8 : decode cX3_setsOutOf 8 = .ok (.if_icmp .gt 23, 3) := by decide +kernel
theorem dX3_setsOutOf_11 : decode cX3_setsOutOf 11 = .ok (.lload_n 2, 1) := by decide +kernel
theorem dX3_setsOutOf_12 : decode cX3_setsOutOf 12 = .ok (.iload_n 0, 1) := by decide +kernel
theorem dX3_setsOutOf_13 : decode cX3_setsOutOf 13 = .ok (.iload 4, 2) := by decide +kernel
theorem dX3_setsOutOf_15 : decode cX3_setsOutOf 15 = .ok (.isub, 1) := by decide +kernel
theorem dX3_setsOutOf_16 : decode cX3_setsOutOf 16 = .ok (.iconst 1, 1) := by decide +kernel
theorem dX3_setsOutOf_17 : decode cX3_setsOutOf 17 = .ok (.iadd, 1) := by decide +kernel
theorem dX3_setsOutOf_18 : decode cX3_setsOutOf 18 = .ok (.i2l, 1) := by decide +kernel
theorem dX3_setsOutOf_19 : decode cX3_setsOutOf 19 = .ok (.lmul, 1) := by decide +kernel
theorem dX3_setsOutOf_20 : decode cX3_setsOutOf 20 = .ok (.iload 4, 2) := by decide +kernel
