set_option maxRecDepth 20000 in
theorem ggX10_raised_X4_told : GoodIn wsX10_raised wsX4_told := goodIn_r _ [71, 34, 35, 83, 84] (by decide +kernel) (by decide +kernel)
set_option maxRecDepth 20000 in
theorem gX10_raised_X4_told : GoodIn wsX10_raised (wsV RX10 150 RX4 yX4_told wsX4_told) := goodIn_app (goodIn_of _ (by decide +kernel)) ggX10_raised_X4_told
theorem dX10_raised_0 : decode cX10_raised 0 = .ok (.iload_n 1, 1) := by decide +kernel
theorem dX10_raised_1 : decode cX10_raised 1 = .ok (.iconst 0, 1) := by decide +kernel
theorem dX10_raised_2 : decode cX10_raised 2 = .ok (.iconst 2, 1) := by decide +kernel
theorem dX10_raised_3 : decode cX10_raised 3 = .ok (.invokestatic 69, 3) := by decide +kernel
theorem dX10_raised_6 : decode cX10_raised 6 = .ok (.ifCond .eq 10, 3) := by decide +kernel
theorem dX10_raised_9 : decode cX10_raised 9 = .ok (.iload_n 3, 1) := by decide +kernel
theorem dX10_raised_10 : decode cX10_raised 10 = .ok (.invokestatic 85, 3) := by decide +kernel
theorem dX10_raised_13 : decode cX10_raised 13 = .ok (.ifCond .ne 7, 3) := by decide +kernel
theorem dX10_raised_16 : decode cX10_raised 16 = .ok (.ldc2_w 75, 3) := by decide +kernel
theorem dX10_raised_19 : decode cX10_raised 19 = .ok (.lreturn, 1) := by decide +kernel
theorem dX10_raised_20 : decode cX10_raised 20 = .ok (.iload_n 2, 1) := by decide +kernel
theorem dX10_raised_21 : decode cX10_raised 21 = .ok (.ifCond .lt 14, 3) := by decide +kernel
theorem dX10_raised_24 : decode cX10_raised 24 = .ok (.iload_n 2, 1) := by decide +kernel
theorem dX10_raised_25 : decode cX10_raised 25 = .ok (.aload_n 0, 1) := by decide +kernel
theorem dX10_raised_26 : decode cX10_raised 26 = .ok (.getfield 47, 3) := by decide +kernel
theorem dX10_raised_29 : decode cX10_raised 29 = .ok (.invokevirtual 188, 3) := by decide +kernel
theorem dX10_raised_32 : decode cX10_raised 32 = .ok (.if_icmp .lt 7, 3) := by decide +kernel
theorem dX10_raised_35 : decode cX10_raised 35 = .ok (.ldc2_w 168, 3) := by decide +kernel
theorem dX10_raised_38 : decode cX10_raised 38 = .ok (.lreturn, 1) := by decide +kernel
theorem dX10_raised_39 : decode cX10_raised 39 = .ok (.aload_n 0, 1) := by decide +kernel
theorem dX10_raised_40 : decode cX10_raised 40 = .ok (.getfield 47, 3) := by decide +kernel
theorem dX10_raised_43 : decode cX10_raised 43 = .ok (.iload_n 1, 1) := by decide +kernel
theorem dX10_raised_44 : decode cX10_raised 44 = .ok (.iload_n 2, 1) := by decide +kernel
theorem dX10_raised_45 : decode cX10_raised 45 = .ok (.aload_n 0, 1) := by decide +kernel
theorem dX10_raised_46 : decode cX10_raised 46 = .ok (.getfield 61, 3) := by decide +kernel
theorem dX10_raised_49 : decode cX10_raised 49 = .ok (.invokevirtual 189, 3) := by decide +kernel
theorem dX10_raised_52 : decode cX10_raised 52 = .ok (.aload_n 0, 1) := by decide +kernel
theorem dX10_raised_53 : decode cX10_raised 53 = .ok (.getfield 61, 3) := by decide +kernel
theorem dX10_raised_56 : decode cX10_raised 56 = .ok (.invokevirtual 193, 3) := by decide +kernel
theorem dX10_raised_59 : decode cX10_raised 59 = .ok (.aload_n 0, 1) := by decide +kernel
theorem dX10_raised_60 : decode cX10_raised 60 = .ok (.getfield 61, 3) := by decide +kernel
theorem dX10_raised_63 : decode cX10_raised 63 = .ok (.iload_n 3, 1) := by decide +kernel
theorem dX10_raised_64 : decode cX10_raised 64 = .ok (.invokevirtual 150, 3) := by decide +kernel
theorem dX10_raised_67 : decode cX10_raised 67 = .ok (.lreturn, 1) := by decide +kernel
set_option maxRecDepth 20000 in
theorem ggX10_forget_X0_size : GoodIn wsX10_forget wsX0_size := goodIn_r _ [6, 7, 20, 21, 22] (by decide +kernel) (by decide +kernel)
set_option maxRecDepth 20000 in
theorem gX10_forget_X0_size : GoodIn wsX10_forget (wsV RX10 188 RX0 yX0_size wsX0_size) := goodIn_app (goodIn_of _ (by decide +kernel)) ggX10_forget_X0_size
set_option maxRecDepth 20000 in
theorem ggX10_forget_X0_empty : GoodIn wsX10_forget wsX0_empty := goodIn_r _ [11, 7, 20, 21, 22] (by decide +kernel) (by decide +kernel)
set_option maxRecDepth 20000 in
theorem gX10_forget_X0_empty : GoodIn wsX10_forget (wsV RX10 196 RX0 yX0_empty wsX0_empty) := goodIn_app (goodIn_of _ (by decide +kernel)) ggX10_forget_X0_empty
theorem dX10_forget_0 : decode cX10_forget 0 = .ok (.aload_n 0, 1) := by decide +kernel
theorem dX10_forget_1 : decode cX10_forget 1 = .ok (.getfield 47, 3) := by decide +kernel
theorem dX10_forget_4 : decode cX10_forget 4 = .ok (.invokevirtual 188, 3) := by decide +kernel
theorem dX10_forget_7 : decode cX10_forget 7 = .ok (.istore_n 1, 1) := by decide +kernel
theorem dX10_forget_8 : decode cX10_forget 8 = .ok (.aload_n 0, 1) := by decide +kernel
theorem dX10_forget_9 : decode cX10_forget 9 = .ok (.getfield 47, 3) := by decide +kernel
theorem dX10_forget_12 : decode cX10_forget 12 = .ok (.invokevirtual 196, 3) := by decide +kernel
theorem dX10_forget_15 : decode cX10_forget 15 = .ok (.iload_n 1, 1) := by decide +kernel
theorem dX10_forget_16 : decode cX10_forget 16 = .ok (.ireturn, 1) := by decide +kernel
set_option maxRecDepth 20000 in
theorem ggX10_begin_X3_within : GoodIn wsX10_begin wsX3_within := goodIn_r _ [7] (by decide +kernel) (by decide +kernel)
set_option maxRecDepth 20000 in
theorem gX10_begin_X3_within : GoodIn wsX10_begin (va_wsS RX10 69 yX3_within wsX3_within) := goodIn_app (goodIn_of _ (by decide +kernel)) ggX10_begin_X3_within
set_option maxRecDepth 20000 in
theorem ggX10_begin_X10_isTrust : GoodIn wsX10_begin wsX10_isTrust := goodIn_r _ [11, 4, 5, 6, 7] (by decide +kernel) (by decide +kernel)
set_option maxRecDepth 20000 in
theorem gX10_begin_X10_isTrust : GoodIn wsX10_begin (va_wsS RX10 89 yX10_isTrust wsX10_isTrust) := goodIn_app (goodIn_of _ (by decide +kernel)) ggX10_begin_X10_isTrust
set_option maxRecDepth 20000 in
theorem ggX10_begin_X6_start : GoodIn wsX10_begin wsX6_start := goodIn_r _ [16, 17, 18, 19, 20, 21, 22, 23, 24, 33, 34, 35, 36, 37, 38, 39, 40, 41, 42] (by decide +kernel) (by decide +kernel)
set_option maxRecDepth 20000 in
theorem gX10_begin_X6_start : GoodIn wsX10_begin (wsV RX10 199 RX6 yX6_start wsX6_start) := goodIn_app (goodIn_of _ (by decide +kernel)) ggX10_begin_X6_start
theorem dX10_begin_0 : decode cX10_begin 0 = .ok (.iload_n 2, 1) := by decide +kernel
theorem dX10_begin_1 : decode cX10_begin 1 = .ok (.iconst 2, 1) := by decide +kernel
theorem dX10_begin_2 : decode cX10_begin 2 = .ok (.bipush 100, 2) := by decide +kernel
theorem dX10_begin_4 : decode cX10_begin 4 = .ok (.invokestatic 69, 3) := by decide +kernel
theorem dX10_begin_7 : decode cX10_begin 7 = .ok (.ifCond .eq 14, 3) := by decide +kernel
theorem dX10_begin_10 : decode cX10_begin 10 = .ok (.iload_n 1, 1) := by decide +kernel
theorem dX10_begin_11 : decode cX10_begin 11 = .ok (.iconst 1, 1) := by decide +kernel
theorem dX10_begin_12 : decode cX10_begin 12 = .ok (.iload_n 2, 1) := by decide +kernel
theorem dX10_begin_13 : decode cX10_begin 13 = .ok (.iconst 1, 1) := by decide +kernel
theorem dX10_begin_14 : decode cX10_begin 14 = .ok (.isub, 1) := by decide +kernel
theorem dX10_begin_15 : decode cX10_begin 15 = .ok (.invokestatic 69, 3) := by decide +kernel
theorem dX10_begin_18 : decode cX10_begin 18 = .ok (.ifCond .ne 5, 3) := by decide +kernel
theorem dX10_begin_21 : decode cX10_begin 21 = .ok (.iconst (-1), 1) := by decide +kernel
theorem dX10_begin_22 : decode cX10_begin 22 = .ok (.ireturn, 1) := by decide +kernel
theorem dX10_begin_23 : decode cX10_begin 23 = .ok (.iload_n 3, 1) := by decide +kernel
theorem dX10_begin_24 : decode cX10_begin 24 = .ok (.iload 4, 2) := by decide +kernel
theorem dX10_begin_26 : decode cX10_begin 26 = .ok (.invokestatic 89, 3) := by decide +kernel
theorem dX10_begin_29 : decode cX10_begin 29 = .ok (.ifCond .ne 13, 3) := by decide +kernel
theorem dX10_begin_32 : decode cX10_begin 32 = .ok (.new 93, 3) := by decide +kernel
theorem dX10_begin_35 : decode cX10_begin 35 = .ok (.dup, 1) := by decide +kernel
theorem dX10_begin_36 : decode cX10_begin 36 = .ok (.ldc 95, 2) := by decide +kernel
theorem dX10_begin_38 : decode cX10_begin 38 = .ok (.invokespecial 97, 3) := by decide +kernel
theorem dX10_begin_41 : decode cX10_begin 41 = .ok (.athrow, 1) := by decide +kernel
theorem dX10_begin_42 : decode cX10_begin 42 = .ok (.aload_n 0, 1) := by decide +kernel
theorem dX10_begin_43 : decode cX10_begin 43 = .ok (.getfield 54, 3) := by decide +kernel
theorem dX10_begin_46 : decode cX10_begin 46 = .ok (.iload_n 1, 1) := by decide +kernel
theorem dX10_begin_47 : decode cX10_begin 47 = .ok (.iload_n 2, 1) := by decide +kernel
theorem dX10_begin_48 : decode cX10_begin 48 = .ok (.iload_n 3, 1) := by decide +kernel
theorem dX10_begin_49 : decode cX10_begin 49 = .ok (.iload 4, 2) := by decide +kernel
theorem dX10_begin_51 : decode cX10_begin 51 = .ok (.invokevirtual 199, 3) := by decide +kernel
theorem dX10_begin_54 : decode cX10_begin 54 = .ok (.iconst 1, 1) := by decide +kernel
theorem dX10_begin_55 : decode cX10_begin 55 = .ok (.ireturn, 1) := by decide +kernel
set_option maxRecDepth 20000 in
theorem ggX10_hit_X6_isOn : GoodIn wsX10_hit wsX6_isOn := goodIn_r _ [6, 7, 67, 68, 69, 70, 71, 72, 73, 74, 75, 76] (by decide +kernel) (by decide +kernel)
set_option maxRecDepth 20000 in
theorem gX10_hit_X6_isOn : GoodIn wsX10_hit (wsV RX10 203 RX6 yX6_isOn wsX6_isOn) := goodIn_app (goodIn_of _ (by decide +kernel)) ggX10_hit_X6_isOn
set_option maxRecDepth 20000 in
theorem ggX10_hit_X6_isFull : GoodIn wsX10_hit wsX6_isFull := goodIn_r _ [11, 12, 67, 68, 69, 70, 71, 72, 73, 74, 75, 76] (by decide +kernel) (by decide +kernel)
set_option maxRecDepth 20000 in
theorem gX10_hit_X6_isFull : GoodIn wsX10_hit (wsV RX10 206 RX6 yX6_isFull wsX6_isFull) := goodIn_app (goodIn_of _ (by decide +kernel)) ggX10_hit_X6_isFull
set_option maxRecDepth 20000 in
theorem ggX10_hit_X6_take : GoodIn wsX10_hit wsX6_take := goodIn_r _ [16, 12, 17, 18, 19, 9, 10, 5, 11, 20, 21, 22, 23, 24, 25, 26, 27, 28, 29, 30, 31, 32, 33, 34, 35, 36, 37, 38, 39, 40, 41, 42, 43, 44, 45, 46, 47, 48, 49, 50, 51, 52, 53, 54, 67, 68, 69, 70, 71, 72, 73, 74, 75, 76, 77, 78] (by decide +kernel) (by decide +kernel)
set_option maxRecDepth 20000 in
theorem gX10_hit_X6_take : GoodIn wsX10_hit (wsV RX10 207 RX6 yX6_take wsX6_take) := goodIn_app (goodIn_of _ (by decide +kernel)) ggX10_hit_X6_take
set_option maxRecDepth 20000 in
theorem ggX10_hit_X6_rejectedBehind : GoodIn wsX10_hit wsX6_rejectedBehind := goodIn_r _ [58, 18, 67, 68, 69, 70, 71, 72, 73, 74, 75, 76] (by decide +kernel) (by decide +kernel)
set_option maxRecDepth 20000 in
theorem gX10_hit_X6_rejectedBehind : GoodIn wsX10_hit (wsV RX10 210 RX6 yX6_rejectedBehind wsX6_rejectedBehind) := goodIn_app (goodIn_of _ (by decide +kernel)) ggX10_hit_X6_rejectedBehind
theorem dX10_hit_0 : decode cX10_hit 0 = .ok (.aload_n 0, 1) := by decide +kernel
theorem dX10_hit_1 : decode cX10_hit 1 = .ok (.getfield 54, 3) := by decide +kernel
theorem dX10_hit_4 : decode cX10_hit 4 = .ok (.invokevirtual 203, 3) := by decide +kernel
theorem dX10_hit_7 : decode cX10_hit 7 = .ok (.ifCond .ne 6, 3) := by decide +kernel
theorem dX10_hit_10 : decode cX10_hit 10 = .ok (.bipush (-3), 2) := by decide +kernel
theorem dX10_hit_12 : decode cX10_hit 12 = .ok (.ireturn, 1) := by decide +kernel
theorem dX10_hit_13 : decode cX10_hit 13 = .ok (.aload_n 0, 1) := by decide +kernel
theorem dX10_hit_14 : decode cX10_hit 14 = .ok (.getfield 54, 3) := by decide +kernel
theorem dX10_hit_17 : decode cX10_hit 17 = .ok (.invokevirtual 206, 3) := by decide +kernel
theorem dX10_hit_20 : decode cX10_hit 20 = .ok (.ifCond .eq 6, 3) := by decide +kernel
theorem dX10_hit_23 : decode cX10_hit 23 = .ok (.bipush (-2), 2) := by decide +kernel
theorem dX10_hit_25 : decode cX10_hit 25 = .ok (.ireturn, 1) := by decide +kernel
theorem dX10_hit_26 : decode cX10_hit 26 = .ok (.aload_n 0, 1) := by decide +kernel
theorem dX10_hit_27 : decode cX10_hit 27 = .ok (.getfield 54, 3) := by decide +kernel
theorem dX10_hit_30 : decode cX10_hit 30 = .ok (.iload_n 1, 1) := by decide +kernel
theorem dX10_hit_31 : decode cX10_hit 31 = .ok (.invokevirtual 207, 3) := by decide +kernel
theorem dX10_hit_34 : decode cX10_hit 34 = .ok (.aload_n 0, 1) := by decide +kernel
theorem dX10_hit_35 : decode cX10_hit 35 = .ok (.getfield 54, 3) := by decide +kernel
theorem dX10_hit_38 : decode cX10_hit 38 = .ok (.invokevirtual 210, 3) := by decide +kernel
theorem dX10_hit_41 : decode cX10_hit 41 = .ok (.ifCond .le 7, 3) := by decide +kernel
theorem dX10_hit_44 : decode cX10_hit 44 = .ok (.iconst 1, 1) := by decide +kernel
theorem dX10_hit_45 : decode cX10_hit 45 = .ok (.goto 4, 3) := by decide +kernel
theorem dX10_hit_48 : decode cX10_hit 48 = .ok (.iconst 0, 1) := by decide +kernel
theorem dX10_hit_49 : decode cX10_hit 49 = .ok (.ireturn, 1) := by decide +kernel
set_option maxRecDepth 20000 in
theorem ggX10_test_X6_isOn : GoodIn wsX10_test wsX6_isOn := goodIn_r _ [6, 7, 66, 67, 68, 69, 70, 71, 72, 73, 74, 75] (by decide +kernel) (by decide +kernel)
set_option maxRecDepth 20000 in
theorem gX10_test_X6_isOn : GoodIn wsX10_test (wsV RX10 203 RX6 yX6_isOn wsX6_isOn) := goodIn_app (goodIn_of _ (by decide +kernel)) ggX10_test_X6_isOn
set_option maxRecDepth 20000 in
theorem ggX10_test_X6_tries : GoodIn wsX10_test wsX6_tries := goodIn_r _ [11, 12, 66, 67, 68, 69, 70, 71, 72, 73, 74, 75] (by decide +kernel) (by decide +kernel)
set_option maxRecDepth 20000 in
theorem gX10_test_X6_tries : GoodIn wsX10_test (wsV RX10 213 RX6 yX6_tries wsX6_tries) := goodIn_app (goodIn_of _ (by decide +kernel)) ggX10_test_X6_tries
set_option maxRecDepth 20000 in
theorem ggX10_test_X6_hits : GoodIn wsX10_test wsX6_hits := goodIn_r _ [16, 17, 66, 67, 68, 69, 70, 71, 72, 73, 74, 75] (by decide +kernel) (by decide +kernel)
set_option maxRecDepth 20000 in
theorem gX10_test_X6_hits : GoodIn wsX10_test (wsV RX10 216 RX6 yX6_hits wsX6_hits) := goodIn_app (goodIn_of _ (by decide +kernel)) ggX10_test_X6_hits
set_option maxRecDepth 20000 in
theorem ggX10_test_X6_rejectedBehind : GoodIn wsX10_test wsX6_rejectedBehind := goodIn_r _ [21, 22, 66, 67, 68, 69, 70, 71, 72, 73, 74, 75] (by decide +kernel) (by decide +kernel)
set_option maxRecDepth 20000 in
theorem gX10_test_X6_rejectedBehind : GoodIn wsX10_test (wsV RX10 210 RX6 yX6_rejectedBehind wsX6_rejectedBehind) := goodIn_app (goodIn_of _ (by decide +kernel)) ggX10_test_X6_rejectedBehind
set_option maxRecDepth 20000 in
theorem ggX10_test_X6_isRich : GoodIn wsX10_test wsX6_isRich := goodIn_r _ [26, 27, 28, 29, 12, 30, 17, 31, 32, 33, 34, 35, 36, 37, 38, 39, 40, 41, 42, 43, 44, 45, 46, 47, 48, 49, 50, 51, 52, 53, 54, 55, 56, 57, 66, 67, 68, 69, 70, 71, 72, 73, 74, 75, 76, 77] (by decide +kernel) (by decide +kernel)
set_option maxRecDepth 20000 in
theorem gX10_test_X6_isRich : GoodIn wsX10_test (wsV RX10 218 RX6 yX6_isRich wsX6_isRich) := goodIn_app (goodIn_of _ (by decide +kernel)) ggX10_test_X6_isRich
theorem dX10_test_0 : decode cX10_test 0 = .ok (.aload_n 0, 1) := by decide +kernel
theorem dX10_test_1 : decode cX10_test 1 = .ok (.getfield 54, 3) := by decide +kernel
theorem dX10_test_4 : decode cX10_test 4 = .ok (.invokevirtual 203, 3) := by decide +kernel
theorem dX10_test_7 : decode cX10_test 7 = .ok (.ifCond .ne 6, 3) := by decide +kernel
theorem dX10_test_10 : decode cX10_test 10 = .ok (.bipush (-3), 2) := by decide +kernel
theorem dX10_test_12 : decode cX10_test 12 = .ok (.ireturn, 1) := by decide +kernel
theorem dX10_test_13 : decode cX10_test 13 = .ok (.iload_n 1, 1) := by decide +kernel
theorem dX10_test_14 : decode cX10_test 14 = .ok (.tableswitch 70 0 3 #[30, 38, 46, 54], 30) := by decide +kernel
theorem dX10_test_44 : decode cX10_test 44 = .ok (.aload_n 0, 1) := by decide +kernel
theorem dX10_test_45 : decode cX10_test 45 = .ok (.getfield 54, 3) := by decide +kernel
theorem dX10_test_48 : decode cX10_test 48 = .ok (.invokevirtual 213, 3) := by decide +kernel
theorem dX10_test_51 : decode cX10_test 51 = .ok (.ireturn, 1) := by decide +kernel
theorem dX10_test_52 : decode cX10_test 52 = .ok (.aload_n 0, 1) := by decide +kernel
theorem dX10_test_53 : decode cX10_test 53 = .ok (.getfield 54, 3) := by decide +kernel
theorem dX10_test_56 : decode cX10_test 56 = .ok (.invokevirtual 216, 3) := by decide +kernel
theorem dX10_test_59 : decode cX10_test 59 = .ok (.ireturn, 1) := by decide +kernel
theorem dX10_test_60 : decode cX10_test 60 = .ok (.aload_n 0, 1) := by decide +kernel
theorem dX10_test_61 : decode cX10_test 61 = .ok (.getfield 54, 3) := by decide +kernel
theorem dX10_test_64 : decode cX10_test 64 = .ok (.invokevirtual 210, 3) := by decide +kernel
theorem dX10_test_67 : decode cX10_test 67 = .ok (.ireturn, 1) := by decide +kernel
theorem dX10_test_68 : decode cX10_test 68 = .ok (.aload_n 0, 1) := by decide +kernel
theorem dX10_test_69 : decode cX10_test 69 = .ok (.getfield 54, 3) := by decide +kernel
theorem dX10_test_72 : decode cX10_test 72 = .ok (.invokevirtual 218, 3) := by decide +kernel
theorem dX10_test_75 : decode cX10_test 75 = .ok (.ifCond .eq 7, 3) := by decide +kernel
theorem dX10_test_78 : decode cX10_test 78 = .ok (.iconst 1, 1) := by decide +kernel
theorem dX10_test_79 : decode cX10_test 79 = .ok (.goto 4, 3) := by decide +kernel
theorem dX10_test_82 : decode cX10_test 82 = .ok (.iconst 0, 1) := by decide +kernel
theorem dX10_test_83 : decode cX10_test 83 = .ok (.ireturn, 1) := by decide +kernel
theorem dX10_test_84 : decode cX10_test 84 = .ok (.iconst (-1), 1) := by decide +kernel
theorem dX10_test_85 : decode cX10_test 85 = .ok (.ireturn, 1) := by decide +kernel
set_option maxRecDepth 20000 in
theorem ggX10_count_X5_size : GoodIn wsX10_count wsX5_size := goodIn_r _ [8, 9, 39, 40, 41, 42] (by decide +kernel) (by decide +kernel)
set_option maxRecDepth 20000 in
theorem gX10_count_X5_size : GoodIn wsX10_count (wsV RX10 115 RX5 yX5_size wsX5_size) := goodIn_app (goodIn_of _ (by decide +kernel)) ggX10_count_X5_size
set_option maxRecDepth 20000 in
theorem ggX10_count_X5_groupsWithRows : GoodIn wsX10_count wsX5_groupsWithRows := goodIn_r _ [13, 14, 15, 16, 7, 17, 9, 18, 39, 40, 41, 42] (by decide +kernel) (by decide +kernel)
set_option maxRecDepth 20000 in
theorem gX10_count_X5_groupsWithRows : GoodIn wsX10_count (wsV RX10 221 RX5 yX5_groupsWithRows wsX5_groupsWithRows) := goodIn_app (goodIn_of _ (by decide +kernel)) ggX10_count_X5_groupsWithRows
set_option maxRecDepth 20000 in
theorem ggX10_count_X2_size : GoodIn wsX10_count wsX2_size := goodIn_r _ [23, 24, 43, 44, 45, 46] (by decide +kernel) (by decide +kernel)
set_option maxRecDepth 20000 in
theorem gX10_count_X2_size : GoodIn wsX10_count (wsV RX10 159 RX2 yX2_size wsX2_size) := goodIn_app (goodIn_of _ (by decide +kernel)) ggX10_count_X2_size
set_option maxRecDepth 20000 in
theorem ggX10_count_X0_size : GoodIn wsX10_count wsX0_size := goodIn_r _ [29, 30, 47, 48, 49] (by decide +kernel) (by decide +kernel)
set_option maxRecDepth 20000 in
theorem gX10_count_X0_size : GoodIn wsX10_count (wsV RX10 188 RX0 yX0_size wsX0_size) := goodIn_app (goodIn_of _ (by decide +kernel)) ggX10_count_X0_size
theorem dX10_count_0 : decode cX10_count 0 = .ok (.iload_n 1, 1) := by decide +kernel
theorem dX10_count_1 : decode cX10_count 1 = .ok (.tableswitch 63 0 3 #[31, 39, 47, 55], 31) := by decide +kernel
theorem dX10_count_32 : decode cX10_count 32 = .ok (.aload_n 0, 1) := by decide +kernel
theorem dX10_count_33 : decode cX10_count 33 = .ok (.getfield 19, 3) := by decide +kernel
theorem dX10_count_36 : decode cX10_count 36 = .ok (.invokevirtual 115, 3) := by decide +kernel
theorem dX10_count_39 : decode cX10_count 39 = .ok (.ireturn, 1) := by decide +kernel
theorem dX10_count_40 : decode cX10_count 40 = .ok (.aload_n 0, 1) := by decide +kernel
theorem dX10_count_41 : decode cX10_count 41 = .ok (.getfield 19, 3) := by decide +kernel
theorem dX10_count_44 : decode cX10_count 44 = .ok (.invokevirtual 221, 3) := by decide +kernel
theorem dX10_count_47 : decode cX10_count 47 = .ok (.ireturn, 1) := by decide +kernel
theorem dX10_count_48 : decode cX10_count 48 = .ok (.aload_n 0, 1) := by decide +kernel
theorem dX10_count_49 : decode cX10_count 49 = .ok (.getfield 40, 3) := by decide +kernel
theorem dX10_count_52 : decode cX10_count 52 = .ok (.invokevirtual 159, 3) := by decide +kernel
theorem dX10_count_55 : decode cX10_count 55 = .ok (.ireturn, 1) := by decide +kernel
theorem dX10_count_56 : decode cX10_count 56 = .ok (.aload_n 0, 1) := by decide +kernel
theorem dX10_count_57 : decode cX10_count 57 = .ok (.getfield 47, 3) := by decide +kernel
theorem dX10_count_60 : decode cX10_count 60 = .ok (.invokevirtual 188, 3) := by decide +kernel
theorem dX10_count_63 : decode cX10_count 63 = .ok (.ireturn, 1) := by decide +kernel
theorem dX10_count_64 : decode cX10_count 64 = .ok (.iconst (-1), 1) := by decide +kernel
theorem dX10_count_65 : decode cX10_count 65 = .ok (.ireturn, 1) := by decide +kernel
set_option maxRecDepth 20000 in
theorem ggX10_clear_X5_size : GoodIn wsX10_clear wsX5_size := goodIn_r _ [9, 10, 41, 42, 43, 44] (by decide +kernel) (by decide +kernel)
set_option maxRecDepth 20000 in
theorem gX10_clear_X5_size : GoodIn wsX10_clear (wsV RX10 115 RX5 yX5_size wsX5_size) := goodIn_app (goodIn_of _ (by decide +kernel)) ggX10_clear_X5_size
set_option maxRecDepth 20000 in
theorem ggX10_clear_X5_empty : GoodIn wsX10_clear wsX5_empty := goodIn_r _ [14, 10, 41, 42, 43, 44] (by decide +kernel) (by decide +kernel)
set_option maxRecDepth 20000 in
theorem gX10_clear_X5_empty : GoodIn wsX10_clear (wsV RX10 224 RX5 yX5_empty wsX5_empty) := goodIn_app (goodIn_of _ (by decide +kernel)) ggX10_clear_X5_empty
set_option maxRecDepth 20000 in
theorem ggX10_clear_X2_empty : GoodIn wsX10_clear wsX2_empty := goodIn_r _ [19, 20, 45, 46, 47, 48] (by decide +kernel) (by decide +kernel)
set_option maxRecDepth 20000 in
theorem gX10_clear_X2_empty : GoodIn wsX10_clear (wsV RX10 225 RX2 yX2_empty wsX2_empty) := goodIn_app (goodIn_of _ (by decide +kernel)) ggX10_clear_X2_empty
set_option maxRecDepth 20000 in
theorem ggX10_clear_X0_empty : GoodIn wsX10_clear wsX0_empty := goodIn_r _ [25, 26, 49, 50, 51] (by decide +kernel) (by decide +kernel)
set_option maxRecDepth 20000 in
theorem gX10_clear_X0_empty : GoodIn wsX10_clear (wsV RX10 196 RX0 yX0_empty wsX0_empty) := goodIn_app (goodIn_of _ (by decide +kernel)) ggX10_clear_X0_empty
set_option maxRecDepth 20000 in
theorem ggX10_clear_X6_stop : GoodIn wsX10_clear wsX6_stop := goodIn_r _ [31, 32, 52, 53, 54, 55, 56, 57, 58, 59, 60, 61] (by decide +kernel) (by decide +kernel)
set_option maxRecDepth 20000 in
theorem gX10_clear_X6_stop : GoodIn wsX10_clear (wsV RX10 226 RX6 yX6_stop wsX6_stop) := goodIn_app (goodIn_of _ (by decide +kernel)) ggX10_clear_X6_stop
theorem dX10_clear_0 : decode cX10_clear 0 = .ok (.aload_n 0, 1) := by decide +kernel
theorem dX10_clear_1 : decode cX10_clear 1 = .ok (.getfield 19, 3) := by decide +kernel
theorem dX10_clear_4 : decode cX10_clear 4 = .ok (.invokevirtual 115, 3) := by decide +kernel
theorem dX10_clear_7 : decode cX10_clear 7 = .ok (.istore_n 1, 1) := by decide +kernel
theorem dX10_clear_8 : decode cX10_clear 8 = .ok (.aload_n 0, 1) := by decide +kernel
theorem dX10_clear_9 : decode cX10_clear 9 = .ok (.getfield 19, 3) := by decide +kernel
theorem dX10_clear_12 : decode cX10_clear 12 = .ok (.invokevirtual 224, 3) := by decide +kernel
theorem dX10_clear_15 : decode cX10_clear 15 = .ok (.aload_n 0, 1) := by decide +kernel
theorem dX10_clear_16 : decode cX10_clear 16 = .ok (.getfield 40, 3) := by decide +kernel
theorem dX10_clear_19 : decode cX10_clear 19 = .ok (.invokevirtual 225, 3) := by decide +kernel
theorem dX10_clear_22 : decode cX10_clear 22 = .ok (.aload_n 0, 1) := by decide +kernel
theorem dX10_clear_23 : decode cX10_clear 23 = .ok (.getfield 47, 3) := by decide +kernel
theorem dX10_clear_26 : decode cX10_clear 26 = .ok (.invokevirtual 196, 3) := by decide +kernel
theorem dX10_clear_29 : decode cX10_clear 29 = .ok (.aload_n 0, 1) := by decide +kernel
theorem dX10_clear_30 : decode cX10_clear 30 = .ok (.getfield 54, 3) := by decide +kernel
theorem dX10_clear_33 : decode cX10_clear 33 = .ok (.invokevirtual 226, 3) := by decide +kernel
theorem dX10_clear_36 : decode cX10_clear 36 = .ok (.iload_n 1, 1) := by decide +kernel
theorem dX10_clear_37 : decode cX10_clear 37 = .ok (.ireturn, 1) := by decide +kernel
set_option maxRecDepth 20000 in
theorem ggX10_areHits_X3_within : GoodIn wsX10_areHits wsX3_within := goodIn_r _ [4] (by decide +kernel) (by decide +kernel)
set_option maxRecDepth 20000 in
theorem gX10_areHits_X3_within : GoodIn wsX10_areHits (va_wsS RX10 69 yX3_within wsX3_within) := goodIn_app (goodIn_of _ (by decide +kernel)) ggX10_areHits_X3_within
set_option maxRecDepth 20000 in
theorem ggX10_areHits_X10_isSide : GoodIn wsX10_areHits wsX10_isSide := goodIn_r _ [8] (by decide +kernel) (by decide +kernel)
set_option maxRecDepth 20000 in
theorem gX10_areHits_X10_isSide : GoodIn wsX10_areHits (va_wsS RX10 85 yX10_isSide wsX10_isSide) := goodIn_app (goodIn_of _ (by decide +kernel)) ggX10_areHits_X10_isSide
theorem dX10_areHits_0 : decode cX10_areHits 0 = .ok (.iload_n 0, 1) := by decide +kernel
theorem dX10_areHits_1 : decode cX10_areHits 1 = .ok (.iconst 0, 1) := by decide +kernel
theorem dX10_areHits_2 : decode cX10_areHits 2 = .ok (.bipush 30, 2) := by decide +kernel
theorem dX10_areHits_4 : decode cX10_areHits 4 = .ok (.invokestatic 69, 3) := by decide +kernel
theorem dX10_areHits_7 : decode cX10_areHits 7 = .ok (.ifCond .eq 44, 3) := by decide +kernel
theorem dX10_areHits_10 : decode cX10_areHits 10 = .ok (.iload_n 1, 1) := by decide +kernel
theorem dX10_areHits_11 : decode cX10_areHits 11 = .ok (.iconst 0, 1) := by decide +kernel
theorem dX10_areHits_12 : decode cX10_areHits 12 = .ok (.iload_n 0, 1) := by decide +kernel
theorem dX10_areHits_13 : decode cX10_areHits 13 = .ok (.invokestatic 69, 3) := by decide +kernel
theorem dX10_areHits_16 : decode cX10_areHits 16 = .ok (.ifCond .eq 35, 3) := by decide +kernel
theorem dX10_areHits_19 : decode cX10_areHits 19 = .ok (.iload_n 3, 1) := by decide +kernel
theorem dX10_areHits_20 : decode cX10_areHits 20 = .ok (.iconst 1, 1) := by decide +kernel
theorem dX10_areHits_21 : decode cX10_areHits 21 = .ok (.sipush 1000, 3) := by decide +kernel
theorem dX10_areHits_24 : decode cX10_areHits 24 = .ok (.invokestatic 69, 3) := by decide +kernel
theorem dX10_areHits_27 : decode cX10_areHits 27 = .ok (.ifCond .eq 24, 3) := by decide +kernel
theorem dX10_areHits_30 : decode cX10_areHits 30 = .ok (.iload_n 2, 1) := by decide +kernel
theorem dX10_areHits_31 : decode cX10_areHits 31 = .ok (.iconst 0, 1) := by decide +kernel
theorem dX10_areHits_32 : decode cX10_areHits 32 = .ok (.iload_n 3, 1) := by decide +kernel
theorem dX10_areHits_33 : decode cX10_areHits 33 = .ok (.invokestatic 69, 3) := by decide +kernel
theorem dX10_areHits_36 : decode cX10_areHits 36 = .ok (.ifCond .eq 15, 3) := by decide +kernel
theorem dX10_areHits_39 : decode cX10_areHits 39 = .ok (.iload 4, 2) := by decide +kernel
theorem dX10_areHits_41 : decode cX10_areHits 41 = .ok (.invokestatic 85, 3) := by decide +kernel
theorem dX10_areHits_44 : decode cX10_areHits 44 = .ok (.ifCond .eq 7, 3) := by decide +kernel
theorem dX10_areHits_47 : decode cX10_areHits 47 = .ok (.iconst 1, 1) := by decide +kernel
theorem dX10_areHits_48 : decode cX10_areHits 48 = .ok (.goto 4, 3) := by decide +kernel
theorem dX10_areHits_51 : decode cX10_areHits 51 = .ok (.iconst 0, 1) := by decide +kernel
theorem dX10_areHits_52 : decode cX10_areHits 52 = .ok (.ireturn, 1) := by decide +kernel
theorem dX10_isSide_0 : decode cX10_isSide 0 = .ok (.iload_n 0, 1) := by decide +kernel
theorem dX10_isSide_1 : decode cX10_isSide 1 = .ok (.ifCond .eq 8, 3) := by decide +kernel
theorem dX10_isSide_4 : decode cX10_isSide 4 = .ok (.iload_n 0, 1) := by decide +kernel
theorem dX10_isSide_5 : decode cX10_isSide 5 = .ok (.iconst 1, 1) := by decide +kernel
theorem dX10_isSide_6 : decode cX10_isSide 6 = .ok (.if_icmp .ne 7, 3) := by decide +kernel
theorem dX10_isSide_9 : decode cX10_isSide 9 = .ok (.iconst 1, 1) := by decide +kernel
theorem dX10_isSide_10 : decode cX10_isSide 10 = .ok (.goto 4, 3) := by decide +kernel
theorem dX10_isSide_13 : decode cX10_isSide 13 = .ok (.iconst 0, 1) := by decide +kernel
theorem dX10_isSide_14 : decode cX10_isSide 14 = .ok (.ireturn, 1) := by decide +kernel
set_option maxRecDepth 20000 in
theorem ggX10_isTrust_X3_within : GoodIn wsX10_isTrust wsX3_within := goodIn_r _ [4] (by decide +kernel) (by decide +kernel)
set_option maxRecDepth 20000 in
theorem gX10_isTrust_X3_within : GoodIn wsX10_isTrust (va_wsS RX10 69 yX3_within wsX3_within) := goodIn_app (goodIn_of _ (by decide +kernel)) ggX10_isTrust_X3_within
theorem dX10_isTrust_0 : decode cX10_isTrust 0 = .ok (.iload_n 1, 1) := by decide +kernel
theorem dX10_isTrust_1 : decode cX10_isTrust 1 = .ok (.iconst 2, 1) := by decide +kernel
theorem dX10_isTrust_2 : decode cX10_isTrust 2 = .ok (.sipush 1000, 3) := by decide +kernel
theorem dX10_isTrust_5 : decode cX10_isTrust 5 = .ok (.invokestatic 69, 3) := by decide +kernel
theorem dX10_isTrust_8 : decode cX10_isTrust 8 = .ok (.ifCond .eq 18, 3) := by decide +kernel
theorem dX10_isTrust_11 : decode cX10_isTrust 11 = .ok (.iload_n 0, 1) := by decide +kernel
theorem dX10_isTrust_12 : decode cX10_isTrust 12 = .ok (.iconst 1, 1) := by decide +kernel
theorem dX10_isTrust_13 : decode cX10_isTrust 13 = .ok (.iload_n 1, 1) := by decide +kernel
theorem dX10_isTrust_14 : decode cX10_isTrust 14 = .ok (.iconst 1, 1) := by decide +kernel
theorem dX10_isTrust_15 : decode cX10_isTrust 15 = .ok (.isub, 1) := by decide +kernel
theorem dX10_isTrust_16 : decode cX10_isTrust 16 = .ok (.invokestatic 69, 3) := by decide +kernel
theorem dX10_isTrust_19 : decode cX10_isTrust 19 = .ok (.ifCond .eq 7, 3) := by decide +kernel
theorem dX10_isTrust_22 : decode cX10_isTrust 22 = .ok (.iconst 1, 1) := by decide +kernel
theorem dX10_isTrust_23 : decode cX10_isTrust 23 = .ok (.goto 4, 3) := by decide +kernel
theorem dX10_isTrust_26 : decode cX10_isTrust 26 = .ok (.iconst 0, 1) := by decide +kernel
theorem dX10_isTrust_27 : decode cX10_isTrust 27 = .ok (.ireturn, 1) := by decide +kernel
set_option maxRecDepth 20000 in
theorem ggX10_takeOddsOf_X3_setsOutOf : GoodIn wsX10_takeOddsOf wsX3_setsOutOf := goodIn_r _ [10] (by decide +kernel) (by decide +kernel)
set_option maxRecDepth 20000 in
theorem gX10_takeOddsOf_X3_setsOutOf : GoodIn wsX10_takeOddsOf (va_wsS RX10 232 yX3_setsOutOf wsX3_setsOutOf) := goodIn_app (goodIn_of _ (by decide +kernel)) ggX10_takeOddsOf_X3_setsOutOf
set_option maxRecDepth 20000 in
theorem ggX10_takeOddsOf_X4_become : GoodIn wsX10_takeOddsOf wsX4_become := goodIn_r _ [15, 16, 17, 3, 18, 19, 20, 21, 22, 9, 23, 37, 38] (by decide +kernel) (by decide +kernel)
set_option maxRecDepth 20000 in
theorem gX10_takeOddsOf_X4_become : GoodIn wsX10_takeOddsOf (wsV RX10 237 RX4 yX4_become wsX4_become) := goodIn_app (goodIn_of _ (by decide +kernel)) ggX10_takeOddsOf_X4_become
set_option maxRecDepth 20000 in
theorem ggX10_takeOddsOf_X4_capAtOne : GoodIn wsX10_takeOddsOf wsX4_capAtOne := goodIn_r _ [27, 19, 20, 28, 12, 13, 14, 15, 16, 17, 3, 18, 21, 22, 9, 23, 37, 38] (by decide +kernel) (by decide +kernel)
set_option maxRecDepth 20000 in
theorem gX10_takeOddsOf_X4_capAtOne : GoodIn wsX10_takeOddsOf (wsV RX10 193 RX4 yX4_capAtOne wsX4_capAtOne) := goodIn_app (goodIn_of _ (by decide +kernel)) ggX10_takeOddsOf_X4_capAtOne
theorem dX10_takeOddsOf_0 : decode cX10_takeOddsOf 0 = .ok (.iload_n 1, 1) := by decide +kernel
theorem dX10_takeOddsOf_1 : decode cX10_takeOddsOf 1 = .ok (.iload_n 2, 1) := by decide +kernel
theorem dX10_takeOddsOf_2 : decode cX10_takeOddsOf 2 = .ok (.iadd, 1) := by decide +kernel
theorem dX10_takeOddsOf_3 : decode cX10_takeOddsOf 3 = .ok (.istore_n 3, 1) := by decide +kernel
theorem dX10_takeOddsOf_4 : decode cX10_takeOddsOf 4 = .ok (.iload_n 1, 1) := by decide +kernel
theorem dX10_takeOddsOf_5 : decode cX10_takeOddsOf 5 = .ok (.iload_n 2, 1) := by decide +kernel
theorem dX10_takeOddsOf_6 : decode cX10_takeOddsOf 6 = .ok (.invokestatic 229, 3) := by decide +kernel
theorem dX10_takeOddsOf_9 : decode cX10_takeOddsOf 9 = .ok (.istore 4, 2) := by decide +kernel
theorem dX10_takeOddsOf_11 : decode cX10_takeOddsOf 11 = .ok (.lconst 0, 1) := by decide +kernel
theorem dX10_takeOddsOf_12 : decode cX10_takeOddsOf 12 = .ok (.lstore 5, 2) := by decide +kernel
theorem dX10_takeOddsOf_14 : decode cX10_takeOddsOf 14 = .ok (.iconst 0, 1) := by decide +kernel
theorem dX10_takeOddsOf_15 : decode cX10_takeOddsOf 15 = .ok (.istore 7, 2) := by decide +kernel
theorem dX10_takeOddsOf_17 : decode cX10_takeOddsOf 17 = .ok (.iload 7, 2) := by decide +kernel
theorem dX10_takeOddsOf_19 : decode cX10_takeOddsOf 19 = .ok (.iload 4, 2) := by decide +kernel
theorem dX10_takeOddsOf_21 : decode cX10_takeOddsOf 21 = .ok (.if_icmp .gt 20, 3) := by decide +kernel
theorem dX10_takeOddsOf_24 : decode cX10_takeOddsOf 24 = .ok (.lload 5, 2) := by decide +kernel
theorem dX10_takeOddsOf_26 : decode cX10_takeOddsOf 26 = .ok (.iload_n 3, 1) := by decide +kernel
theorem dX10_takeOddsOf_27 : decode cX10_takeOddsOf 27 = .ok (.iload 7, 2) := by decide +kernel
theorem dX10_takeOddsOf_29 : decode cX10_takeOddsOf 29 = .ok (.invokestatic 232, 3) := by decide +kernel
theorem dX10_takeOddsOf_32 : decode cX10_takeOddsOf 32 = .ok (.ladd, 1) := by decide +kernel
theorem dX10_takeOddsOf_33 : decode cX10_takeOddsOf 33 = .ok (.lstore 5, 2) := by decide +kernel
theorem dX10_takeOddsOf_35 : decode cX10_takeOddsOf 35 = .ok (.iinc 7 1, 3) := by decide +kernel
theorem dX10_takeOddsOf_38 : decode cX10_takeOddsOf 38 = .ok (.goto (-21), 3) := by decide +kernel
theorem dX10_takeOddsOf_41 : decode cX10_takeOddsOf 41 = .ok (.aload_n 0, 1) := by decide +kernel
theorem dX10_takeOddsOf_42 : decode cX10_takeOddsOf 42 = .ok (.getfield 61, 3) := by decide +kernel
theorem dX10_takeOddsOf_45 : decode cX10_takeOddsOf 45 = .ok (.ldc2_w 235, 3) := by decide +kernel
theorem dX10_takeOddsOf_48 : decode cX10_takeOddsOf 48 = .ok (.lload 5, 2) := by decide +kernel
theorem dX10_takeOddsOf_50 : decode cX10_takeOddsOf 50 = .ok (.lmul, 1) := by decide +kernel
theorem dX10_takeOddsOf_51 : decode cX10_takeOddsOf 51 = .ok (.lconst 1, 1) := by decide +kernel
theorem dX10_takeOddsOf_52 : decode cX10_takeOddsOf 52 = .ok (.iload_n 3, 1) := by decide +kernel
theorem dX10_takeOddsOf_53 : decode cX10_takeOddsOf 53 = .ok (.lshl, 1) := by decide +kernel
theorem dX10_takeOddsOf_54 : decode cX10_takeOddsOf 54 = .ok (.invokevirtual 237, 3) := by decide +kernel
theorem dX10_takeOddsOf_57 : decode cX10_takeOddsOf 57 = .ok (.aload_n 0, 1) := by decide +kernel
theorem dX10_takeOddsOf_58 : decode cX10_takeOddsOf 58 = .ok (.getfield 61, 3) := by decide +kernel
theorem dX10_takeOddsOf_61 : decode cX10_takeOddsOf 61 = .ok (.invokevirtual 193, 3) := by decide +kernel
theorem dX10_takeOddsOf_64 : decode cX10_takeOddsOf 64 = .ok (.return_, 1) := by decide +kernel
theorem dX11_init_0 : decode cX11_init 0 = .ok (.aload_n 0, 1) := by decide +kernel
theorem dX11_init_1 : decode cX11_init 1 = .ok (.invokespecial 1, 3) := by decide +kernel
theorem dX11_init_4 : decode cX11_init 4 = .ok (.aload_n 0, 1) := by decide +kernel
theorem dX11_init_5 : decode cX11_init 5 = .ok (.bipush 32, 2) := by decide +kernel
theorem dX11_init_7 : decode cX11_init 7 = .ok (.newarray .int, 2) := by decide +kernel
theorem dX11_init_9 : decode cX11_init 9 = .ok (.putfield 7, 3) := by decide +kernel
theorem dX11_init_12 : decode cX11_init 12 = .ok (.aload_n 0, 1) := by decide +kernel
theorem dX11_init_13 : decode cX11_init 13 = .ok (.bipush 32, 2) := by decide +kernel
theorem dX11_init_15 : decode cX11_init 15 = .ok (.newarray .int, 2) := by decide +kernel
theorem dX11_init_17 : decode cX11_init 17 = .ok (.putfield 13, 3) := by decide +kernel
theorem dX11_init_20 : decode cX11_init 20 = .ok (.aload_n 0, 1) := by decide +kernel
theorem dX11_init_21 : decode cX11_init 21 = .ok (.bipush 30, 2) := by decide +kernel
theorem dX11_init_23 : decode cX11_init 23 = .ok (.newarray .int, 2) := by decide +kernel
theorem dX11_init_25 : decode cX11_init 25 = .ok (.putfield 16, 3) := by decide +kernel
theorem dX11_init_28 : decode cX11_init 28 = .ok (.aload_n 0, 1) := by decide +kernel
theorem dX11_init_29 : decode cX11_init 29 = .ok (.bipush 30, 2) := by decide +kernel
theorem dX11_init_31 : decode cX11_init 31 = .ok (.newarray .int, 2) := by decide +kernel
theorem dX11_init_33 : decode cX11_init 33 = .ok (.putfield 19, 3) := by decide +kernel
theorem dX11_init_36 : decode cX11_init 36 = .ok (.aload_n 0, 1) := by decide +kernel
theorem dX11_init_37 : decode cX11_init 37 = .ok (.bipush 30, 2) := by decide +kernel
theorem dX11_init_39 : decode cX11_init 39 = .ok (.newarray .int, 2) := by decide +kernel
theorem dX11_init_41 : decode cX11_init 41 = .ok (.putfield 22, 3) := by decide +kernel
theorem dX11_init_44 : decode cX11_init 44 = .ok (.aload_n 0, 1) := by decide +kernel
theorem dX11_init_45 : decode cX11_init 45 = .ok (.bipush 30, 2) := by decide +kernel
theorem dX11_init_47 : decode cX11_init 47 = .ok (.newarray .int, 2) := by decide +kernel
theorem dX11_init_49 : decode cX11_init 49 = .ok (.putfield 25, 3) := by decide +kernel
theorem dX11_init_52 : decode cX11_init 52 = .ok (.aload_n 0, 1) := by decide +kernel
theorem dX11_init_53 : decode cX11_init 53 = .ok (.bipush 30, 2) := by decide +kernel
theorem dX11_init_55 : decode cX11_init 55 = .ok (.newarray .int, 2) := by decide +kernel
theorem dX11_init_57 : decode cX11_init 57 = .ok (.putfield 28, 3) := by decide +kernel
theorem dX11_init_60 : decode cX11_init 60 = .ok (.aload_n 0, 1) := by decide +kernel
theorem dX11_init_61 : decode cX11_init 61 = .ok (.sipush 6001, 3) := by decide +kernel
theorem dX11_init_64 : decode cX11_init 64 = .ok (.newarray .long, 2) := by decide +kernel
theorem dX11_init_66 : decode cX11_init 66 = .ok (.putfield 31, 3) := by decide +kernel
theorem dX11_init_69 : decode cX11_init 69 = .ok (.aload_n 0, 1) := by decide +kernel
theorem dX11_init_70 : decode cX11_init 70 = .ok (.sipush 6001, 3) := by decide +kernel
theorem dX11_init_73 : decode cX11_init 73 = .ok (.newarray .long, 2) := by decide +kernel
theorem dX11_init_75 : decode cX11_init 75 = .ok (.putfield 35, 3) := by decide +kernel
theorem dX11_init_78 : decode cX11_init 78 = .ok (.aload_n 0, 1) := by decide +kernel
theorem dX11_init_79 : decode cX11_init 79 = .ok (.bipush 60, 2) := by decide +kernel
theorem dX11_init_81 : decode cX11_init 81 = .ok (.newarray .int, 2) := by decide +kernel
theorem dX11_init_83 : decode cX11_init 83 = .ok (.putfield 38, 3) := by decide +kernel
theorem dX11_init_86 : decode cX11_init 86 = .ok (.aload_n 0, 1) := by decide +kernel
theorem dX11_init_87 : decode cX11_init 87 = .ok (.bipush 60, 2) := by decide +kernel
theorem dX11_init_89 : decode cX11_init 89 = .ok (.newarray .int, 2) := by decide +kernel
theorem dX11_init_91 : decode cX11_init 91 = .ok (.putfield 41, 3) := by decide +kernel
theorem dX11_init_94 : decode cX11_init 94 = .ok (.aload_n 0, 1) := by decide +kernel
theorem dX11_init_95 : decode cX11_init 95 = .ok (.bipush 10, 2) := by decide +kernel
theorem dX11_init_97 : decode cX11_init 97 = .ok (.newarray .int, 2) := by decide +kernel
theorem dX11_init_99 : decode cX11_init 99 = .ok (.putfield 44, 3) := by decide +kernel
theorem dX11_init_102 : decode cX11_init 102 = .ok (.aload_n 0, 1) := by decide +kernel
theorem dX11_init_103 : decode cX11_init 103 = .ok (.bipush 10, 2) := by decide +kernel
theorem dX11_init_105 : decode cX11_init 105 = .ok (.newarray .int, 2) := by decide +kernel
theorem dX11_init_107 : decode cX11_init 107 = .ok (.putfield 47, 3) := by decide +kernel
theorem dX11_init_110 : decode cX11_init 110 = .ok (.return_, 1) := by decide +kernel
theorem dX11_thrown_0 : decode cX11_thrown 0 = .ok (.aload_n 0, 1) := by decide +kernel
theorem dX11_thrown_1 : decode cX11_thrown 1 = .ok (.getfield 50, 3) := by decide +kernel
theorem dX11_thrown_4 : decode cX11_thrown 4 = .ok (.ireturn, 1) := by decide +kernel
theorem dX11_in_0 : decode cX11_in 0 = .ok (.lload_n 0, 1) := by decide +kernel
theorem dX11_in_1 : decode cX11_in 1 = .ok (.lload_n 2, 1) := by decide +kernel
theorem dX11_in_2 : decode cX11_in 2 = .ok (.lcmp, 1) := by decide +kernel
theorem dX11_in_3 : decode cX11_in 3 = .ok (.ifCond .lt 14, 3) := by decide +kernel
theorem dX11_in_6 : decode cX11_in 6 = .ok (.lload_n 0, 1) := by decide +kernel
theorem dX11_in_7 : decode cX11_in 7 = .ok (.lload 4, 2) := by decide +kernel
theorem dX11_in_9 : decode cX11_in 9 = .ok (.lcmp, 1) := by decide +kernel
theorem dX11_in_10 : decode cX11_in 10 = .ok (.ifCond .gt 7, 3) := by decide +kernel
theorem dX11_in_13 : decode cX11_in 13 = .ok (.iconst 1, 1) := by decide +kernel
theorem dX11_in_14 : decode cX11_in 14 = .ok (.goto 4, 3) := by decide +kernel
theorem dX11_in_17 : decode cX11_in 17 = .ok (.iconst 0, 1) := by decide +kernel
theorem dX11_in_18 : decode cX11_in 18 = .ok (.ireturn, 1) := by decide +kernel
theorem dX11_small_0 : decode cX11_small 0 = .ok (.iconst 0, 1) := by decide +kernel
theorem dX11_small_1 : decode cX11_small 1 = .ok (.istore_n 2, 1) := by decide +kernel
theorem dX11_small_2 : decode cX11_small 2 = .ok (.iload_n 2, 1) := by decide +kernel
theorem dX11_small_3 : decode cX11_small 3 = .ok (.bipush 32, 2) := by decide +kernel
theorem dX11_small_5 : decode cX11_small 5 = .ok (.if_icmp .ge 13, 3) := by decide +kernel
theorem dX11_small_8 : decode cX11_small 8 = .ok (.aload_n 0, 1) := by decide +kernel
theorem dX11_small_9 : decode cX11_small 9 = .ok (.iload_n 2, 1) := by decide +kernel
theorem dX11_small_10 : decode cX11_small 10 = .ok (.iconst 0, 1) := by decide +kernel
theorem dX11_small_11 : decode cX11_small 11 = .ok (.iastore, 1) := by decide +kernel
theorem dX11_small_12 : decode cX11_small 12 = .ok (.iinc 2 1, 3) := by decide +kernel
theorem dX11_small_15 : decode cX11_small 15 = .ok (.goto (-13), 3) := by decide +kernel
theorem dX11_small_18 : decode cX11_small 18 = .ok (.aload_n 0, 1) := by decide +kernel
theorem dX11_small_19 : decode cX11_small 19 = .ok (.iconst 0, 1) := by decide +kernel
theorem dX11_small_20 : decode cX11_small 20 = .ok (.iload_n 1, 1) := by decide +kernel
theorem dX11_small_21 : decode cX11_small 21 = .ok (.ldc 54, 2) := by decide +kernel
theorem dX11_small_23 : decode cX11_small 23 = .ok (.iand, 1) := by decide +kernel
theorem dX11_small_24 : decode cX11_small 24 = .ok (.iastore, 1) := by decide +kernel
theorem dX11_small_25 : decode cX11_small 25 = .ok (.aload_n 0, 1) := by decide +kernel
theorem dX11_small_26 : decode cX11_small 26 = .ok (.iconst 1, 1) := by decide +kernel
theorem dX11_small_27 : decode cX11_small 27 = .ok (.iload_n 1, 1) := by decide +kernel
theorem dX11_small_28 : decode cX11_small 28 = .ok (.bipush 16, 2) := by decide +kernel
theorem dX11_small_30 : decode cX11_small 30 = .ok (.iushr, 1) := by decide +kernel
theorem dX11_small_31 : decode cX11_small 31 = .ok (.iastore, 1) := by decide +kernel
theorem dX11_small_32 : decode cX11_small 32 = .ok (.return_, 1) := by decide +kernel
theorem dX11_times_0 : decode cX11_times 0 = .ok (.lconst 0, 1) := by decide +kernel
theorem dX11_times_1 : decode cX11_times 1 = .ok (.lstore_n 3, 1) := by decide +kernel
theorem dX11_times_2 : decode cX11_times 2 = .ok (.iconst 0, 1) := by decide +kernel
theorem dX11_times_3 : decode cX11_times 3 = .ok (.istore 5, 2) := by decide +kernel
theorem dX11_times_5 : decode cX11_times 5 = .ok (.iload 5, 2) := by decide +kernel
theorem dX11_times_7 : decode cX11_times 7 = .ok (.bipush 32, 2) := by decide +kernel
theorem dX11_times_9 : decode cX11_times 9 = .ok (.if_icmp .ge 34, 3) := by decide +kernel
theorem dX11_times_12 : decode cX11_times 12 = .ok (.lload_n 3, 1) := by decide +kernel
theorem dX11_times_13 : decode cX11_times 13 = .ok (.aload_n 0, 1) := by decide +kernel
theorem dX11_times_14 : decode cX11_times 14 = .ok (.iload 5, 2) := by decide +kernel
theorem dX11_times_16 : decode cX11_times 16 = .ok (.iaload, 1) := by decide +kernel
theorem dX11_times_17 : decode cX11_times 17 = .ok (.i2l, 1) := by decide +kernel
theorem dX11_times_18 : decode cX11_times 18 = .ok (.lload_n 1, 1) := by decide +kernel
theorem dX11_times_19 : decode cX11_times 19 = .ok (.lmul, 1) := by decide +kernel
theorem dX11_times_20 : decode cX11_times 20 = .ok (.ladd, 1) := by decide +kernel
theorem dX11_times_21 : decode cX11_times 21 = .ok (.lstore_n 3, 1) := by decide +kernel
theorem dX11_times_22 : decode cX11_times 22 = .ok (.aload_n 0, 1) := by decide +kernel
theorem dX11_times_23 : decode cX11_times 23 = .ok (.iload 5, 2) := by decide +kernel
theorem dX11_times_25 : decode cX11_times 25 = .ok (.lload_n 3, 1) := by decide +kernel
theorem dX11_times_26 : decode cX11_times 26 = .ok (.ldc2_w 55, 3) := by decide +kernel
theorem dX11_times_29 : decode cX11_times 29 = .ok (.land, 1) := by decide +kernel
theorem dX11_times_30 : decode cX11_times 30 = .ok (.l2i, 1) := by decide +kernel
theorem dX11_times_31 : decode cX11_times 31 = .ok (.iastore, 1) := by decide +kernel
theorem dX11_times_32 : decode cX11_times 32 = .ok (.lload_n 3, 1) := by decide +kernel
theorem dX11_times_33 : decode cX11_times 33 = .ok (.bipush 16, 2) := by decide +kernel
theorem dX11_times_35 : decode cX11_times 35 = .ok (.lushr, 1) := by decide +kernel
theorem dX11_times_36 : decode cX11_times 36 = .ok (.lstore_n 3, 1) := by decide +kernel
theorem dX11_times_37 : decode cX11_times 37 = .ok (.iinc 5 1, 3) := by decide +kernel
theorem dX11_times_40 : decode cX11_times 40 = .ok (.goto (-35), 3) := by decide +kernel
theorem dX11_times_43 : decode cX11_times 43 = .ok (.return_, 1) := by decide +kernel
theorem dX11_over_0 : decode cX11_over 0 = .ok (.lconst 0, 1) := by decide +kernel
theorem dX11_over_1 : decode cX11_over 1 = .ok (.lstore_n 2, 1) := by decide +kernel
theorem dX11_over_2 : decode cX11_over 2 = .ok (.bipush 31, 2) := by decide +kernel
theorem dX11_over_4 : decode cX11_over 4 = .ok (.istore 4, 2) := by decide +kernel
theorem dX11_over_6 : decode cX11_over 6 = .ok (.iload 4, 2) := by decide +kernel
theorem dX11_over_8 : decode cX11_over 8 = .ok (.ifCond .lt 34, 3) := by decide +kernel
theorem dX11_over_11 : decode cX11_over 11 = .ok (.lload_n 2, 1) := by decide +kernel
theorem dX11_over_12 : decode cX11_over 12 = .ok (.bipush 16, 2) := by decide +kernel
theorem dX11_over_14 : decode cX11_over 14 = .ok (.lshl, 1) := by decide +kernel
theorem dX11_over_15 : decode cX11_over 15 = .ok (.aload_n 0, 1) := by decide +kernel
theorem dX11_over_16 : decode cX11_over 16 = .ok (.iload 4, 2) := by decide +kernel
theorem dX11_over_18 : decode cX11_over 18 = .ok (.iaload, 1) := by decide +kernel
theorem dX11_over_19 : decode cX11_over 19 = .ok (.i2l, 1) := by decide +kernel
theorem dX11_over_20 : decode cX11_over 20 = .ok (.lor, 1) := by decide +kernel
theorem dX11_over_21 : decode cX11_over 21 = .ok (.lstore_n 2, 1) := by decide +kernel
theorem dX11_over_22 : decode cX11_over 22 = .ok (.aload_n 0, 1) := by decide +kernel
theorem dX11_over_23 : decode cX11_over 23 = .ok (.iload 4, 2) := by decide +kernel
theorem dX11_over_25 : decode cX11_over 25 = .ok (.lload_n 2, 1) := by decide +kernel
theorem dX11_over_26 : decode cX11_over 26 = .ok (.iload_n 1, 1) := by decide +kernel
theorem dX11_over_27 : decode cX11_over 27 = .ok (.i2l, 1) := by decide +kernel
theorem dX11_over_28 : decode cX11_over 28 = .ok (.ldiv, 1) := by decide +kernel
theorem dX11_over_29 : decode cX11_over 29 = .ok (.l2i, 1) := by decide +kernel
theorem dX11_over_30 : decode cX11_over 30 = .ok (.iastore, 1) := by decide +kernel
theorem dX11_over_31 : decode cX11_over 31 = .ok (.lload_n 2, 1) := by decide +kernel
theorem dX11_over_32 : decode cX11_over 32 = .ok (.iload_n 1, 1) := by decide +kernel
theorem dX11_over_33 : decode cX11_over 33 = .ok (.i2l, 1) := by decide +kernel
theorem dX11_over_34 : decode cX11_over 34 = .ok (.lrem, 1) := by decide +kernel
theorem dX11_over_35 : decode cX11_over 35 = .ok (.lstore_n 2, 1) := by decide +kernel
theorem dX11_over_36 : decode cX11_over 36 = .ok (.iinc 4 (-1), 3) := by decide +kernel
theorem dX11_over_39 : decode cX11_over 39 = .ok (.goto (-33), 3) := by decide +kernel
theorem dX11_over_42 : decode cX11_over 42 = .ok (.return_, 1) := by decide +kernel
theorem dX11_plus_0 : decode cX11_plus 0 = .ok (.iconst 0, 1) := by decide +kernel
theorem dX11_plus_1 : decode cX11_plus 1 = .ok (.istore_n 2, 1) := by decide +kernel
theorem dX11_plus_2 : decode cX11_plus 2 = .ok (.iconst 0, 1) := by decide +kernel
theorem dX11_plus_3 : decode cX11_plus 3 = .ok (.istore_n 3, 1) := by decide +kernel
theorem dX11_plus_4 : decode cX11_plus 4 = .ok (.iload_n 3, 1) := by decide +kernel
theorem dX11_plus_5 : decode cX11_plus 5 = .ok (.bipush 32, 2) := by decide +kernel
theorem dX11_plus_7 : decode cX11_plus 7 = .ok (.if_icmp .ge 31, 3) := by decide +kernel
theorem dX11_plus_10 : decode cX11_plus 10 = .ok (.iload_n 2, 1) := by decide +kernel
theorem dX11_plus_11 : decode cX11_plus 11 = .ok (.aload_n 0, 1) := by decide +kernel
theorem dX11_plus_12 : decode cX11_plus 12 = .ok (.iload_n 3, 1) := by decide +kernel
theorem dX11_plus_13 : decode cX11_plus 13 = .ok (.iaload, 1) := by decide +kernel
theorem dX11_plus_14 : decode cX11_plus 14 = .ok (.aload_n 1, 1) := by decide +kernel
theorem dX11_plus_15 : decode cX11_plus 15 = .ok (.iload_n 3, 1) := by decide +kernel
theorem dX11_plus_16 : decode cX11_plus 16 = .ok (.iaload, 1) := by decide +kernel
theorem dX11_plus_17 : decode cX11_plus 17 = .ok (.iadd, 1) := by decide +kernel
theorem dX11_plus_18 : decode cX11_plus 18 = .ok (.iadd, 1) := by decide +kernel
theorem dX11_plus_19 : decode cX11_plus 19 = .ok (.istore_n 2, 1) := by decide +kernel
theorem dX11_plus_20 : decode cX11_plus 20 = .ok (.aload_n 0, 1) := by decide +kernel
theorem dX11_plus_21 : decode cX11_plus 21 = .ok (.iload_n 3, 1) := by decide +kernel
theorem dX11_plus_22 : decode cX11_plus 22 = .ok (.iload_n 2, 1) := by decide +kernel
theorem dX11_plus_23 : decode cX11_plus 23 = .ok (.ldc 54, 2) := by decide +kernel
theorem dX11_plus_25 : decode cX11_plus 25 = .ok (.iand, 1) := by decide +kernel
theorem dX11_plus_26 : decode cX11_plus 26 = .ok (.iastore, 1) := by decide +kernel
theorem dX11_plus_27 : decode cX11_plus 27 = .ok (.iload_n 2, 1) := by decide +kernel
theorem dX11_plus_28 : decode cX11_plus 28 = .ok (.bipush 16, 2) := by decide +kernel
theorem dX11_plus_30 : decode cX11_plus 30 = .ok (.ishr, 1) := by decide +kernel
theorem dX11_plus_31 : decode cX11_plus 31 = .ok (.istore_n 2, 1) := by decide +kernel
theorem dX11_plus_32 : decode cX11_plus 32 = .ok (.iinc 3 1, 3) := by decide +kernel
theorem dX11_plus_35 : decode cX11_plus 35 = .ok (.goto (-31), 3) := by decide +kernel
theorem dX11_plus_38 : decode cX11_plus 38 = .ok (.return_, 1) := by decide +kernel
theorem dX11_compared_0 : decode cX11_compared 0 = .ok (.bipush 31, 2) := by decide +kernel
theorem dX11_compared_2 : decode cX11_compared 2 = .ok (.istore_n 2, 1) := by decide +kernel
theorem dX11_compared_3 : decode cX11_compared 3 = .ok (.iload_n 2, 1) := by decide +kernel
theorem dX11_compared_4 : decode cX11_compared 4 = .ok (.ifCond .lt 33, 3) := by decide +kernel
theorem dX11_compared_7 : decode cX11_compared 7 = .ok (.aload_n 0, 1) := by decide +kernel
theorem dX11_compared_8 : decode cX11_compared 8 = .ok (.iload_n 2, 1) := by decide +kernel
theorem dX11_compared_9 : decode cX11_compared 9 = .ok (.iaload, 1) := by decide +kernel
theorem dX11_compared_10 : decode cX11_compared 10 = .ok (.aload_n 1, 1) := by decide +kernel
theorem dX11_compared_11 : decode cX11_compared 11 = .ok (.iload_n 2, 1) := by decide +kernel
theorem dX11_compared_12 : decode cX11_compared 12 = .ok (.iaload, 1) := by decide +kernel
theorem dX11_compared_13 : decode cX11_compared 13 = .ok (.if_icmp .eq 18, 3) := by decide +kernel
theorem dX11_compared_16 : decode cX11_compared 16 = .ok (.aload_n 0, 1) := by decide +kernel
theorem dX11_compared_17 : decode cX11_compared 17 = .ok (.iload_n 2, 1) := by decide +kernel
theorem dX11_compared_18 : decode cX11_compared 18 = .ok (.iaload, 1) := by decide +kernel
theorem dX11_compared_19 : decode cX11_compared 19 = .ok (.aload_n 1, 1) := by decide +kernel
theorem dX11_compared_20 : decode cX11_compared 20 = .ok (.iload_n 2, 1) := by decide +kernel
theorem dX11_compared_21 : decode cX11_compared 21 = .ok (.iaload, 1) := by decide +kernel
theorem dX11_compared_22 : decode cX11_compared 22 = .ok (.if_icmp .ge 7, 3) := by decide +kernel
theorem dX11_compared_25 : decode cX11_compared 25 = .ok (.iconst (-1), 1) := by decide +kernel
theorem dX11_compared_26 : decode cX11_compared 26 = .ok (.goto 4, 3) := by decide +kernel
theorem dX11_compared_29 : decode cX11_compared 29 = .ok (.iconst 1, 1) := by decide +kernel
theorem dX11_compared_30 : decode cX11_compared 30 = .ok (.ireturn, 1) := by decide +kernel
theorem dX11_compared_31 : decode cX11_compared 31 = .ok (.iinc 2 (-1), 3) := by decide +kernel
theorem dX11_compared_34 : decode cX11_compared 34 = .ok (.goto (-31), 3) := by decide +kernel
theorem dX11_compared_37 : decode cX11_compared 37 = .ok (.iconst 0, 1) := by decide +kernel
theorem dX11_compared_38 : decode cX11_compared 38 = .ok (.ireturn, 1) := by decide +kernel
set_option maxRecDepth 20000 in
theorem ggX11_term_X11_small : GoodIn wsX11_term wsX11_small := goodIn_r _ [4, 5] (by decide +kernel) (by decide +kernel)
set_option maxRecDepth 20000 in
theorem gX11_term_X11_small : GoodIn wsX11_term (va_wsS RX11 57 yX11_small wsX11_small) := goodIn_app (goodIn_of _ (by decide +kernel)) ggX11_term_X11_small
set_option maxRecDepth 20000 in
theorem ggX11_term_X11_times : GoodIn wsX11_term wsX11_times := goodIn_r _ [8, 9] (by decide +kernel) (by decide +kernel)
set_option maxRecDepth 20000 in
theorem gX11_term_X11_times : GoodIn wsX11_term (va_wsS RX11 61 yX11_times wsX11_times) := goodIn_app (goodIn_of _ (by decide +kernel)) ggX11_term_X11_times
set_option maxRecDepth 20000 in
theorem ggX11_term_X11_over : GoodIn wsX11_term wsX11_over := goodIn_r _ [12] (by decide +kernel) (by decide +kernel)
set_option maxRecDepth 20000 in
theorem gX11_term_X11_over : GoodIn wsX11_term (va_wsS RX11 65 yX11_over wsX11_over) := goodIn_app (goodIn_of _ (by decide +kernel)) ggX11_term_X11_over
theorem dX11_term_0 : decode cX11_term 0 = .ok (.aload_n 0, 1) := by decide +kernel
theorem dX11_term_1 : decode cX11_term 1 = .ok (.iconst 1, 1) := by decide +kernel
