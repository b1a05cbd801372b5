theorem dX3_setsOutOf_22 : decode cX3_setsOutOf 22 = .ok (.i2l, 1) := by decide +kernel
theorem dX3_setsOutOf_23 : decode cX3_setsOutOf 23 = .ok (.ldiv, 1) := by decide +kernel
theorem dX3_setsOutOf_24 : decode cX3_setsOutOf 24 = .ok (.lstore_n 2, 1) := by decide +kernel
theorem dX3_setsOutOf_25 : decode cX3_setsOutOf 25 = .ok (.iinc 4 1, 3) := by decide +kernel
theorem dX3_setsOutOf_28 : decode cX3_setsOutOf 28 = .ok (.goto (-23), 3) := by decide +kernel
theorem dX3_setsOutOf_31 : decode cX3_setsOutOf 31 = .ok (.lload_n 2, 1) := by decide +kernel
theorem dX3_setsOutOf_32 : decode cX3_setsOutOf 32 = .ok (.lreturn, 1) := by decide +kernel
theorem dX3_commonDivisor_0 : decode cX3_commonDivisor 0 = .ok (.lload_n 0, 1) := by decide +kernel
theorem dX3_commonDivisor_1 : decode cX3_commonDivisor 1 = .ok (.lstore 4, 2) := by decide +kernel
theorem dX3_commonDivisor_3 : decode cX3_commonDivisor 3 = .ok (.lload_n 2, 1) := by decide +kernel
theorem dX3_commonDivisor_4 : decode cX3_commonDivisor 4 = .ok (.lstore 6, 2) := by decide +kernel
theorem dX3_commonDivisor_6 : decode cX3_commonDivisor 6 = .ok (.iconst 0, 1) := by decide +kernel
theorem dX3_commonDivisor_7 : decode cX3_commonDivisor 7 = .ok (.istore 8, 2) := by decide +kernel
theorem dX3_commonDivisor_9 : decode cX3_commonDivisor 9 = .ok (.lload 6, 2) := by decide +kernel
theorem dX3_commonDivisor_11 : decode cX3_commonDivisor 11 = .ok (.lconst 0, 1) := by decide +kernel
theorem dX3_commonDivisor_12 : decode cX3_commonDivisor 12 = .ok (.lcmp, 1) := by decide +kernel
theorem dX3_commonDivisor_13 : decode cX3_commonDivisor 13 = .ok (.ifCond .eq 32, 3) := by decide +kernel
theorem dX3_commonDivisor_16 : decode cX3_commonDivisor 16 = .ok (.iload 8, 2) := by decide +kernel
theorem dX3_commonDivisor_18 : decode cX3_commonDivisor 18 = .ok (.sipush 1000, 3) := by decide +kernel
theorem dX3_commonDivisor_21 : decode cX3_commonDivisor 21 = .ok (.if_icmp .ge 24, 3) := by decide +kernel
theorem dX3_commonDivisor_24 : decode cX3_commonDivisor 24 = .ok (.lload 4, 2) := by decide +kernel
theorem dX3_commonDivisor_26 : decode cX3_commonDivisor 26 = .ok (.lload 6, 2) := by decide +kernel
theorem dX3_commonDivisor_28 : decode cX3_commonDivisor 28 = .ok (.lrem, 1) := by decide +kernel
theorem dX3_commonDivisor_29 : decode cX3_commonDivisor 29 = .ok (.lstore 9, 2) := by decide +kernel
theorem dX3_commonDivisor_31 : decode cX3_commonDivisor 31 = .ok (.lload 6, 2) := by decide +kernel
theorem dX3_commonDivisor_33 : decode cX3_commonDivisor 33 = .ok (.lstore 4, 2) := by decide +kernel
theorem dX3_commonDivisor_35 : decode cX3_commonDivisor 35 = .ok (.lload 9, 2) := by decide +kernel
theorem dX3_commonDivisor_37 : decode cX3_commonDivisor 37 = .ok (.lstore 6, 2) := by decide +kernel
theorem dX3_commonDivisor_39 : decode cX3_commonDivisor 39 = .ok (.iinc 8 1, 3) := by decide +kernel
theorem dX3_commonDivisor_42 : decode cX3_commonDivisor 42 = .ok (.goto (-33), 3) := by decide +kernel
theorem dX3_commonDivisor_45 : decode cX3_commonDivisor 45 = .ok (.lload 4, 2) := by decide +kernel
theorem dX3_commonDivisor_47 : decode cX3_commonDivisor 47 = .ok (.lreturn, 1) := by decide +kernel
theorem dX4_init_0 : decode cX4_init 0 = .ok (.aload_n 0, 1) := by decide +kernel
theorem dX4_init_1 : decode cX4_init 1 = .ok (.invokespecial 1, 3) := by decide +kernel
theorem dX4_init_4 : decode cX4_init 4 = .ok (.aload_n 0, 1) := by decide +kernel
theorem dX4_init_5 : decode cX4_init 5 = .ok (.lconst 0, 1) := by decide +kernel
theorem dX4_init_6 : decode cX4_init 6 = .ok (.putfield 7, 3) := by decide +kernel
theorem dX4_init_9 : decode cX4_init 9 = .ok (.aload_n 0, 1) := by decide +kernel
theorem dX4_init_10 : decode cX4_init 10 = .ok (.lconst 1, 1) := by decide +kernel
theorem dX4_init_11 : decode cX4_init 11 = .ok (.putfield 13, 3) := by decide +kernel
theorem dX4_init_14 : decode cX4_init 14 = .ok (.return_, 1) := by decide +kernel
set_option maxRecDepth 20000 in
theorem ggX4_become_X3_commonDivisor : GoodIn wsX4_become wsX3_commonDivisor := goodIn_r _ [10] (by decide +kernel) (by decide +kernel)
set_option maxRecDepth 20000 in
theorem gX4_become_X3_commonDivisor : GoodIn wsX4_become (va_wsS RX4 22 yX3_commonDivisor wsX3_commonDivisor) := goodIn_app (goodIn_of _ (by decide +kernel)) ggX4_become_X3_commonDivisor
theorem dX4_become_0 : decode cX4_become 0 = .ok (.lload_n 1, 1) := by decide +kernel
theorem dX4_become_1 : decode cX4_become 1 = .ok (.invokestatic 16, 3) := by decide +kernel
theorem dX4_become_4 : decode cX4_become 4 = .ok (.lload_n 3, 1) := by decide +kernel
theorem dX4_become_5 : decode cX4_become 5 = .ok (.invokestatic 22, 3) := by decide +kernel
theorem dX4_become_8 : decode cX4_become 8 = .ok (.lstore 5, 2) := by decide +kernel
theorem dX4_become_10 : decode cX4_become 10 = .ok (.lload 5, 2) := by decide +kernel
theorem dX4_become_12 : decode cX4_become 12 = .ok (.lconst 0, 1) := by decide +kernel
theorem dX4_become_13 : decode cX4_become 13 = .ok (.lcmp, 1) := by decide +kernel
theorem dX4_become_14 : decode cX4_become 14 = .ok (.ifCond .gt 4, 3) := by decide +kernel
theorem dX4_become_17 : decode cX4_become 17 = .ok (.return_, 1) := by decide +kernel
theorem dX4_become_18 : decode cX4_become 18 = .ok (.aload_n 0, 1) := by decide +kernel
theorem dX4_become_19 : decode cX4_become 19 = .ok (.lload_n 1, 1) := by decide +kernel
theorem dX4_become_20 : decode cX4_become 20 = .ok (.lload 5, 2) := by decide +kernel
theorem dX4_become_22 : decode cX4_become 22 = .ok (.ldiv, 1) := by decide +kernel
theorem dX4_become_23 : decode cX4_become 23 = .ok (.putfield 7, 3) := by decide +kernel
theorem dX4_become_26 : decode cX4_become 26 = .ok (.aload_n 0, 1) := by decide +kernel
theorem dX4_become_27 : decode cX4_become 27 = .ok (.lload_n 3, 1) := by decide +kernel
theorem dX4_become_28 : decode cX4_become 28 = .ok (.lload 5, 2) := by decide +kernel
theorem dX4_become_30 : decode cX4_become 30 = .ok (.ldiv, 1) := by decide +kernel
theorem dX4_become_31 : decode cX4_become 31 = .ok (.putfield 13, 3) := by decide +kernel
theorem dX4_become_34 : decode cX4_become 34 = .ok (.return_, 1) := by decide +kernel
theorem dX4_isAbove_0 : decode cX4_isAbove 0 = .ok (.aload_n 0, 1) := by decide +kernel
theorem dX4_isAbove_1 : decode cX4_isAbove 1 = .ok (.getfield 7, 3) := by decide +kernel
theorem dX4_isAbove_4 : decode cX4_isAbove 4 = .ok (.lload_n 3, 1) := by decide +kernel
theorem dX4_isAbove_5 : decode cX4_isAbove 5 = .ok (.lmul, 1) := by decide +kernel
theorem dX4_isAbove_6 : decode cX4_isAbove 6 = .ok (.lload_n 1, 1) := by decide +kernel
theorem dX4_isAbove_7 : decode cX4_isAbove 7 = .ok (.aload_n 0, 1) := by decide +kernel
theorem dX4_isAbove_8 : decode cX4_isAbove 8 = .ok (.getfield 13, 3) := by decide +kernel
theorem dX4_isAbove_11 : decode cX4_isAbove 11 = .ok (.lmul, 1) := by decide +kernel
theorem dX4_isAbove_12 : decode cX4_isAbove 12 = .ok (.lcmp, 1) := by decide +kernel
theorem dX4_isAbove_13 : decode cX4_isAbove 13 = .ok (.ifCond .le 7, 3) := by decide +kernel
theorem dX4_isAbove_16 : decode cX4_isAbove 16 = .ok (.iconst 1, 1) := by decide +kernel
theorem dX4_isAbove_17 : decode cX4_isAbove 17 = .ok (.goto 4, 3) := by decide +kernel
theorem dX4_isAbove_20 : decode cX4_isAbove 20 = .ok (.iconst 0, 1) := by decide +kernel
theorem dX4_isAbove_21 : decode cX4_isAbove 21 = .ok (.ireturn, 1) := by decide +kernel
theorem dX4_isBelow_0 : decode cX4_isBelow 0 = .ok (.aload_n 0, 1) := by decide +kernel
theorem dX4_isBelow_1 : decode cX4_isBelow 1 = .ok (.getfield 7, 3) := by decide +kernel
theorem dX4_isBelow_4 : decode cX4_isBelow 4 = .ok (.lload_n 3, 1) := by decide +kernel
theorem dX4_isBelow_5 : decode cX4_isBelow 5 = .ok (.lmul, 1) := by decide +kernel
theorem dX4_isBelow_6 : decode cX4_isBelow 6 = .ok (.lload_n 1, 1) := by decide +kernel
theorem dX4_isBelow_7 : decode cX4_isBelow 7 = .ok (.aload_n 0, 1) := by decide +kernel
theorem dX4_isBelow_8 : decode cX4_isBelow 8 = .ok (.getfield 13, 3) := by decide +kernel
theorem dX4_isBelow_11 : decode cX4_isBelow 11 = .ok (.lmul, 1) := by decide +kernel
theorem dX4_isBelow_12 : decode cX4_isBelow 12 = .ok (.lcmp, 1) := by decide +kernel
theorem dX4_isBelow_13 : decode cX4_isBelow 13 = .ok (.ifCond .ge 7, 3) := by decide +kernel
theorem dX4_isBelow_16 : decode cX4_isBelow 16 = .ok (.iconst 1, 1) := by decide +kernel
theorem dX4_isBelow_17 : decode cX4_isBelow 17 = .ok (.goto 4, 3) := by decide +kernel
theorem dX4_isBelow_20 : decode cX4_isBelow 20 = .ok (.iconst 0, 1) := by decide +kernel
theorem dX4_isBelow_21 : decode cX4_isBelow 21 = .ok (.ireturn, 1) := by decide +kernel
set_option maxRecDepth 20000 in
theorem ggX4_capAtOne_X4_become : GoodIn wsX4_capAtOne wsX4_become := goodIn_r _ [7, 8, 9, 10, 11, 1, 2, 12, 13, 14, 15, 16, 17] (by decide +kernel) (by decide +kernel)
set_option maxRecDepth 20000 in
theorem gX4_capAtOne_X4_become : GoodIn wsX4_capAtOne (wsV RX4 28 RX4 yX4_become wsX4_become) := goodIn_app (goodIn_of _ (by decide +kernel)) ggX4_capAtOne_X4_become
theorem dX4_capAtOne_0 : decode cX4_capAtOne 0 = .ok (.aload_n 0, 1) := by decide +kernel
theorem dX4_capAtOne_1 : decode cX4_capAtOne 1 = .ok (.getfield 7, 3) := by decide +kernel
theorem dX4_capAtOne_4 : decode cX4_capAtOne 4 = .ok (.aload_n 0, 1) := by decide +kernel
theorem dX4_capAtOne_5 : decode cX4_capAtOne 5 = .ok (.getfield 13, 3) := by decide +kernel
theorem dX4_capAtOne_8 : decode cX4_capAtOne 8 = .ok (.lcmp, 1) := by decide +kernel
theorem dX4_capAtOne_9 : decode cX4_capAtOne 9 = .ok (.ifCond .le 9, 3) := by decide +kernel
theorem dX4_capAtOne_12 : decode cX4_capAtOne 12 = .ok (.aload_n 0, 1) := by decide +kernel
theorem dX4_capAtOne_13 : decode cX4_capAtOne 13 = .ok (.lconst 1, 1) := by decide +kernel
theorem dX4_capAtOne_14 : decode cX4_capAtOne 14 = .ok (.lconst 1, 1) := by decide +kernel
theorem dX4_capAtOne_15 : decode cX4_capAtOne 15 = .ok (.invokevirtual 28, 3) := by decide +kernel
theorem dX4_capAtOne_18 : decode cX4_capAtOne 18 = .ok (.return_, 1) := by decide +kernel
theorem dX4_told_0 : decode cX4_told 0 = .ok (.iload_n 1, 1) := by decide +kernel
theorem dX4_told_1 : decode cX4_told 1 = .ok (.ifCond .ne 10, 3) := by decide +kernel
theorem dX4_told_4 : decode cX4_told 4 = .ok (.aload_n 0, 1) := by decide +kernel
theorem dX4_told_5 : decode cX4_told 5 = .ok (.getfield 7, 3) := by decide +kernel
theorem dX4_told_8 : decode cX4_told 8 = .ok (.goto 7, 3) := by decide +kernel
theorem dX4_told_11 : decode cX4_told 11 = .ok (.aload_n 0, 1) := by decide +kernel
theorem dX4_told_12 : decode cX4_told 12 = .ok (.getfield 13, 3) := by decide +kernel
theorem dX4_told_15 : decode cX4_told 15 = .ok (.lreturn, 1) := by decide +kernel
theorem dX5_init_0 : decode cX5_init 0 = .ok (.aload_n 0, 1) := by decide +kernel
theorem dX5_init_1 : decode cX5_init 1 = .ok (.invokespecial 1, 3) := by decide +kernel
theorem dX5_init_4 : decode cX5_init 4 = .ok (.aload_n 0, 1) := by decide +kernel
theorem dX5_init_5 : decode cX5_init 5 = .ok (.bipush 30, 2) := by decide +kernel
theorem dX5_init_7 : decode cX5_init 7 = .ok (.newarray .int, 2) := by decide +kernel
theorem dX5_init_9 : decode cX5_init 9 = .ok (.putfield 9, 3) := by decide +kernel
theorem dX5_init_12 : decode cX5_init 12 = .ok (.aload_n 0, 1) := by decide +kernel
theorem dX5_init_13 : decode cX5_init 13 = .ok (.bipush 30, 2) := by decide +kernel
theorem dX5_init_15 : decode cX5_init 15 = .ok (.newarray .int, 2) := by decide +kernel
theorem dX5_init_17 : decode cX5_init 17 = .ok (.putfield 13, 3) := by decide +kernel
theorem dX5_init_20 : decode cX5_init 20 = .ok (.aload_n 0, 1) := by decide +kernel
theorem dX5_init_21 : decode cX5_init 21 = .ok (.bipush 30, 2) := by decide +kernel
theorem dX5_init_23 : decode cX5_init 23 = .ok (.newarray .int, 2) := by decide +kernel
theorem dX5_init_25 : decode cX5_init 25 = .ok (.putfield 16, 3) := by decide +kernel
theorem dX5_init_28 : decode cX5_init 28 = .ok (.aload_n 0, 1) := by decide +kernel
theorem dX5_init_29 : decode cX5_init 29 = .ok (.iconst 0, 1) := by decide +kernel
theorem dX5_init_30 : decode cX5_init 30 = .ok (.putfield 19, 3) := by decide +kernel
theorem dX5_init_33 : decode cX5_init 33 = .ok (.return_, 1) := by decide +kernel
theorem dX5_size_0 : decode cX5_size 0 = .ok (.aload_n 0, 1) := by decide +kernel
theorem dX5_size_1 : decode cX5_size 1 = .ok (.getfield 19, 3) := by decide +kernel
theorem dX5_size_4 : decode cX5_size 4 = .ok (.ireturn, 1) := by decide +kernel
theorem dX5_isFull_0 : decode cX5_isFull 0 = .ok (.aload_n 0, 1) := by decide +kernel
theorem dX5_isFull_1 : decode cX5_isFull 1 = .ok (.getfield 19, 3) := by decide +kernel
theorem dX5_isFull_4 : decode cX5_isFull 4 = .ok (.bipush 30, 2) := by decide +kernel
theorem dX5_isFull_6 : decode cX5_isFull 6 = .ok (.if_icmp .lt 7, 3) := by decide +kernel
theorem dX5_isFull_9 : decode cX5_isFull 9 = .ok (.iconst 1, 1) := by decide +kernel
theorem dX5_isFull_10 : decode cX5_isFull 10 = .ok (.goto 4, 3) := by decide +kernel
theorem dX5_isFull_13 : decode cX5_isFull 13 = .ok (.iconst 0, 1) := by decide +kernel
theorem dX5_isFull_14 : decode cX5_isFull 14 = .ok (.ireturn, 1) := by decide +kernel
set_option maxRecDepth 20000 in
theorem ggX5_add_X5_isFull : GoodIn wsX5_add wsX5_isFull := goodIn_r _ [9, 2, 10, 11, 12, 13] (by decide +kernel) (by decide +kernel)
set_option maxRecDepth 20000 in
theorem gX5_add_X5_isFull : GoodIn wsX5_add (wsV RX5 23 RX5 yX5_isFull wsX5_isFull) := goodIn_app (goodIn_of _ (by decide +kernel)) ggX5_add_X5_isFull
theorem dX5_add_0 : decode cX5_add 0 = .ok (.aload_n 0, 1) := by decide +kernel
theorem dX5_add_1 : decode cX5_add 1 = .ok (.invokevirtual 23, 3) := by decide +kernel
theorem dX5_add_4 : decode cX5_add 4 = .ok (.ifCond .eq 4, 3) := by decide +kernel
theorem dX5_add_7 : decode cX5_add 7 = .ok (.return_, 1) := by decide +kernel
theorem dX5_add_8 : decode cX5_add 8 = .ok (.aload_n 0, 1) := by decide +kernel
theorem dX5_add_9 : decode cX5_add 9 = .ok (.getfield 9, 3) := by decide +kernel
theorem dX5_add_12 : decode cX5_add 12 = .ok (.aload_n 0, 1) := by decide +kernel
theorem dX5_add_13 : decode cX5_add 13 = .ok (.getfield 19, 3) := by decide +kernel
theorem dX5_add_16 : decode cX5_add 16 = .ok (.iload_n 1, 1) := by decide +kernel
theorem dX5_add_17 : decode cX5_add 17 = .ok (.iastore, 1) := by decide +kernel
theorem dX5_add_18 : decode cX5_add 18 = .ok (.aload_n 0, 1) := by decide +kernel
theorem dX5_add_19 : decode cX5_add 19 = .ok (.getfield 13, 3) := by decide +kernel
theorem dX5_add_22 : decode cX5_add 22 = .ok (.aload_n 0, 1) := by decide +kernel
theorem dX5_add_23 : decode cX5_add 23 = .ok (.getfield 19, 3) := by decide +kernel
theorem dX5_add_26 : decode cX5_add 26 = .ok (.iload_n 2, 1) := by decide +kernel
theorem dX5_add_27 : decode cX5_add 27 = .ok (.iastore, 1) := by decide +kernel
theorem dX5_add_28 : decode cX5_add 28 = .ok (.aload_n 0, 1) := by decide +kernel
theorem dX5_add_29 : decode cX5_add 29 = .ok (.getfield 16, 3) := by decide +kernel
theorem dX5_add_32 : decode cX5_add 32 = .ok (.aload_n 0, 1) := by decide +kernel
theorem dX5_add_33 : decode cX5_add 33 = .ok (.getfield 19, 3) := by decide +kernel
theorem dX5_add_36 : decode cX5_add 36 = .ok (.iload_n 3, 1) := by decide +kernel
theorem dX5_add_37 : decode cX5_add 37 = .ok (.iastore, 1) := by decide +kernel
theorem dX5_add_38 : decode cX5_add 38 = .ok (.aload_n 0, 1) := by decide +kernel
theorem dX5_add_39 : decode cX5_add 39 = .ok (.dup, 1) := by decide +kernel
theorem dX5_add_40 : decode cX5_add 40 = .ok (.getfield 19, 3) := by decide +kernel
theorem dX5_add_43 : decode cX5_add 43 = .ok (.iconst 1, 1) := by decide +kernel
theorem dX5_add_44 : decode cX5_add 44 = .ok (.iadd, 1) := by decide +kernel
theorem dX5_add_45 : decode cX5_add 45 = .ok (.putfield 19, 3) := by decide +kernel
theorem dX5_add_48 : decode cX5_add 48 = .ok (.return_, 1) := by decide +kernel
theorem dX5_removeLast_0 : decode cX5_removeLast 0 = .ok (.aload_n 0, 1) := by decide +kernel
theorem dX5_removeLast_1 : decode cX5_removeLast 1 = .ok (.getfield 19, 3) := by decide +kernel
theorem dX5_removeLast_4 : decode cX5_removeLast 4 = .ok (.ifCond .le 13, 3) := by decide +kernel
theorem dX5_removeLast_7 : decode cX5_removeLast 7 = .ok (.aload_n 0, 1) := by decide +kernel
theorem dX5_removeLast_8 : decode cX5_removeLast 8 = .ok (.dup, 1) := by decide +kernel
theorem dX5_removeLast_9 : decode cX5_removeLast 9 = .ok (.getfield 19, 3) := by decide +kernel
theorem dX5_removeLast_12 : decode cX5_removeLast 12 = .ok (.iconst 1, 1) := by decide +kernel
theorem dX5_removeLast_13 : decode cX5_removeLast 13 = .ok (.isub, 1) := by decide +kernel
theorem dX5_removeLast_14 : decode cX5_removeLast 14 = .ok (.putfield 19, 3) := by decide +kernel
theorem dX5_removeLast_17 : decode cX5_removeLast 17 = .ok (.return_, 1) := by decide +kernel
theorem dX5_empty_0 : decode cX5_empty 0 = .ok (.aload_n 0, 1) := by decide +kernel
theorem dX5_empty_1 : decode cX5_empty 1 = .ok (.iconst 0, 1) := by decide +kernel
theorem dX5_empty_2 : decode cX5_empty 2 = .ok (.putfield 19, 3) := by decide +kernel
theorem dX5_empty_5 : decode cX5_empty 5 = .ok (.return_, 1) := by decide +kernel
theorem dX5_difference_0 : decode cX5_difference 0 = .ok (.iload_n 1, 1) := by decide +kernel
theorem dX5_difference_1 : decode cX5_difference 1 = .ok (.ifCond .lt 27, 3) := by decide +kernel
theorem dX5_difference_4 : decode cX5_difference 4 = .ok (.iload_n 1, 1) := by decide +kernel
theorem dX5_difference_5 : decode cX5_difference 5 = .ok (.aload_n 0, 1) := by decide +kernel
theorem dX5_difference_6 : decode cX5_difference 6 = .ok (.getfield 19, 3) := by decide +kernel
theorem dX5_difference_9 : decode cX5_difference 9 = .ok (.if_icmp .ge 19, 3) := by decide +kernel
theorem dX5_difference_12 : decode cX5_difference 12 = .ok (.aload_n 0, 1) := by decide +kernel
theorem dX5_difference_13 : decode cX5_difference 13 = .ok (.getfield 13, 3) := by decide +kernel
theorem dX5_difference_16 : decode cX5_difference 16 = .ok (.iload_n 1, 1) := by decide +kernel
theorem dX5_difference_17 : decode cX5_difference 17 = .ok (.iaload, 1) := by decide +kernel
theorem dX5_difference_18 : decode cX5_difference 18 = .ok (.aload_n 0, 1) := by decide +kernel
theorem dX5_difference_19 : decode cX5_difference 19 = .ok (.getfield 16, 3) := by decide +kernel
theorem dX5_difference_22 : decode cX5_difference 22 = .ok (.iload_n 1, 1) := by decide +kernel
theorem dX5_difference_23 : decode cX5_difference 23 = .ok (.iaload, 1) := by decide +kernel
theorem dX5_difference_24 : decode cX5_difference 24 = .ok (.isub, 1) := by decide +kernel
theorem dX5_difference_25 : decode cX5_difference 25 = .ok (.goto 4, 3) := by decide +kernel
theorem dX5_difference_28 : decode cX5_difference 28 = .ok (.iconst 0, 1) := by decide +kernel
theorem dX5_difference_29 : decode cX5_difference 29 = .ok (.ireturn, 1) := by decide +kernel
theorem dX5_sizeOfGroup_0 : decode cX5_sizeOfGroup 0 = .ok (.iconst 0, 1) := by decide +kernel
theorem dX5_sizeOfGroup_1 : decode cX5_sizeOfGroup 1 = .ok (.istore_n 2, 1) := by decide +kernel
theorem dX5_sizeOfGroup_2 : decode cX5_sizeOfGroup 2 = .ok (.iconst 0, 1) := by decide +kernel
theorem dX5_sizeOfGroup_3 : decode cX5_sizeOfGroup 3 = .ok (.istore_n 3, 1) := by decide +kernel
theorem dX5_sizeOfGroup_4 : decode cX5_sizeOfGroup 4 = .ok (.iload_n 3, 1) := by decide +kernel
theorem dX5_sizeOfGroup_5 : decode cX5_sizeOfGroup 5 = .ok (.aload_n 0, 1) := by decide +kernel
theorem dX5_sizeOfGroup_6 : decode cX5_sizeOfGroup 6 = .ok (.getfield 19, 3) := by decide +kernel
theorem dX5_sizeOfGroup_9 : decode cX5_sizeOfGroup 9 = .ok (.if_icmp .ge 22, 3) := by decide +kernel
theorem dX5_sizeOfGroup_12 : decode cX5_sizeOfGroup 12 = .ok (.aload_n 0, 1) := by decide +kernel
theorem dX5_sizeOfGroup_13 : decode cX5_sizeOfGroup 13 = .ok (.getfield 9, 3) := by decide +kernel
theorem dX5_sizeOfGroup_16 : decode cX5_sizeOfGroup 16 = .ok (.iload_n 3, 1) := by decide +kernel
theorem dX5_sizeOfGroup_17 : decode cX5_sizeOfGroup 17 = .ok (.iaload, 1) := by decide +kernel
theorem dX5_sizeOfGroup_18 : decode cX5_sizeOfGroup 18 = .ok (.iload_n 1, 1) := by decide +kernel
theorem dX5_sizeOfGroup_19 : decode cX5_sizeOfGroup 19 = .ok (.if_icmp .ne 6, 3) := by decide +kernel
theorem dX5_sizeOfGroup_22 : decode cX5_sizeOfGroup 22 = .ok (.iinc 2 1, 3) := by decide +kernel
theorem dX5_sizeOfGroup_25 : decode cX5_sizeOfGroup 25 = .ok (.iinc 3 1, 3) := by decide +kernel
theorem dX5_sizeOfGroup_28 : decode cX5_sizeOfGroup 28 = .ok (.goto (-24), 3) := by decide +kernel
theorem dX5_sizeOfGroup_31 : decode cX5_sizeOfGroup 31 = .ok (.iload_n 2, 1) := by decide +kernel
theorem dX5_sizeOfGroup_32 : decode cX5_sizeOfGroup 32 = .ok (.ireturn, 1) := by decide +kernel
theorem dX5_differenceOfGroup_0 : decode cX5_differenceOfGroup 0 = .ok (.iconst 0, 1) := by decide +kernel
theorem dX5_differenceOfGroup_1 : decode cX5_differenceOfGroup 1 = .ok (.istore_n 2, 1) := by decide +kernel
theorem dX5_differenceOfGroup_2 : decode cX5_differenceOfGroup 2 = .ok (.iconst 0, 1) := by decide +kernel
theorem dX5_differenceOfGroup_3 : decode cX5_differenceOfGroup 3 = .ok (.istore_n 3, 1) := by decide +kernel
theorem dX5_differenceOfGroup_4 : decode cX5_differenceOfGroup 4 = .ok (.iload_n 3, 1) := by decide +kernel
theorem dX5_differenceOfGroup_5 : decode cX5_differenceOfGroup 5 = .ok (.aload_n 0, 1) := by decide +kernel
theorem dX5_differenceOfGroup_6 : decode cX5_differenceOfGroup 6 = .ok (.getfield 19, 3) := by decide +kernel
theorem dX5_differenceOfGroup_9 : decode cX5_differenceOfGroup 9 = .ok (.if_icmp .ge 35, 3) := by decide +kernel
theorem dX5_differenceOfGroup_12 : decode cX5_differenceOfGroup 12 = .ok (.aload_n 0, 1) := by decide +kernel
theorem dX5_differenceOfGroup_13 : decode cX5_differenceOfGroup 13 = .ok (.getfield 9, 3) := by decide +kernel
theorem dX5_differenceOfGroup_16 : decode cX5_differenceOfGroup 16 = .ok (.iload_n 3, 1) := by decide +kernel
theorem dX5_differenceOfGroup_17 : decode cX5_differenceOfGroup 17 = .ok (.iaload, 1) := by decide +kernel
theorem dX5_differenceOfGroup_18 : decode cX5_differenceOfGroup 18 = .ok (.iload_n 1, 1) := by decide +kernel
theorem dX5_differenceOfGroup_19 : decode cX5_differenceOfGroup 19 = .ok (.if_icmp .ne 19, 3) := by decide +kernel
theorem dX5_differenceOfGroup_22 : decode cX5_differenceOfGroup 22 = .ok (.iload_n 2, 1) := by decide +kernel
theorem dX5_differenceOfGroup_23 : decode cX5_differenceOfGroup 23 = .ok (.aload_n 0, 1) := by decide +kernel
theorem dX5_differenceOfGroup_24 : decode cX5_differenceOfGroup 24 = .ok (.getfield 13, 3) := by decide +kernel
theorem dX5_differenceOfGroup_27 : decode cX5_differenceOfGroup 27 = .ok (.iload_n 3, 1) := by decide +kernel
theorem dX5_differenceOfGroup_28 : decode cX5_differenceOfGroup 28 = .ok (.iaload, 1) := by decide +kernel
theorem dX5_differenceOfGroup_29 : decode cX5_differenceOfGroup 29 = .ok (.aload_n 0, 1) := by decide +kernel
theorem dX5_differenceOfGroup_30 : decode cX5_differenceOfGroup 30 = .ok (.getfield 16, 3) := by decide +kernel
theorem dX5_differenceOfGroup_33 : decode cX5_differenceOfGroup 33 = .ok (.iload_n 3, 1) := by decide +kernel
theorem dX5_differenceOfGroup_34 : decode cX5_differenceOfGroup 34 = .ok (.iaload, 1) := by decide +kernel
theorem dX5_differenceOfGroup_35 : decode cX5_differenceOfGroup 35 = .ok (.isub, 1) := by decide +kernel
theorem dX5_differenceOfGroup_36 : decode cX5_differenceOfGroup 36 = .ok (.iadd, 1) := by decide +kernel
theorem dX5_differenceOfGroup_37 : decode cX5_differenceOfGroup 37 = .ok (.istore_n 2, 1) := by decide +kernel
theorem dX5_differenceOfGroup_38 : decode cX5_differenceOfGroup 38 = .ok (.iinc 3 1, 3) := by decide +kernel
theorem dX5_differenceOfGroup_41 : decode cX5_differenceOfGroup 41 = .ok (.goto (-37), 3) := by decide +kernel
theorem dX5_differenceOfGroup_44 : decode cX5_differenceOfGroup 44 = .ok (.iload_n 2, 1) := by decide +kernel
theorem dX5_differenceOfGroup_45 : decode cX5_differenceOfGroup 45 = .ok (.ireturn, 1) := by decide +kernel
set_option maxRecDepth 20000 in
theorem ggX5_groupsWithRows_X5_sizeOfGroup : GoodIn wsX5_groupsWithRows wsX5_sizeOfGroup := goodIn_r _ [5, 6, 7, 8, 9, 10, 11] (by decide +kernel) (by decide +kernel)
set_option maxRecDepth 20000 in
theorem gX5_groupsWithRows_X5_sizeOfGroup : GoodIn wsX5_groupsWithRows (wsV RX5 27 RX5 yX5_sizeOfGroup wsX5_sizeOfGroup) := goodIn_app (goodIn_of _ (by decide +kernel)) ggX5_groupsWithRows_X5_sizeOfGroup
theorem dX5_groupsWithRows_0 : decode cX5_groupsWithRows 0 = .ok (.iconst 0, 1) := by decide +kernel
theorem dX5_groupsWithRows_1 : decode cX5_groupsWithRows 1 = .ok (.istore_n 1, 1) := by decide +kernel
theorem dX5_groupsWithRows_2 : decode cX5_groupsWithRows 2 = .ok (.iconst 0, 1) := by decide +kernel
theorem dX5_groupsWithRows_3 : decode cX5_groupsWithRows 3 = .ok (.istore_n 2, 1) := by decide +kernel
theorem dX5_groupsWithRows_4 : decode cX5_groupsWithRows 4 = .ok (.iload_n 2, 1) := by decide +kernel
theorem dX5_groupsWithRows_5 : decode cX5_groupsWithRows 5 = .ok (.bipush 8, 2) := by decide +kernel
theorem dX5_groupsWithRows_7 : decode cX5_groupsWithRows 7 = .ok (.if_icmp .ge 20, 3) := by decide +kernel
theorem dX5_groupsWithRows_10 : decode cX5_groupsWithRows 10 = .ok (.aload_n 0, 1) := by decide +kernel
theorem dX5_groupsWithRows_11 : decode cX5_groupsWithRows 11 = .ok (.iload_n 2, 1) := by decide +kernel
theorem dX5_groupsWithRows_12 : decode cX5_groupsWithRows 12 = .ok (.invokevirtual 27, 3) := by decide +kernel
theorem dX5_groupsWithRows_15 : decode cX5_groupsWithRows 15 = .ok (.ifCond .le 6, 3) := by decide +kernel
theorem dX5_groupsWithRows_18 : decode cX5_groupsWithRows 18 = .ok (.iinc 1 1, 3) := by decide +kernel
theorem dX5_groupsWithRows_21 : decode cX5_groupsWithRows 21 = .ok (.iinc 2 1, 3) := by decide +kernel
theorem dX5_groupsWithRows_24 : decode cX5_groupsWithRows 24 = .ok (.goto (-20), 3) := by decide +kernel
theorem dX5_groupsWithRows_27 : decode cX5_groupsWithRows 27 = .ok (.iload_n 1, 1) := by decide +kernel
theorem dX5_groupsWithRows_28 : decode cX5_groupsWithRows 28 = .ok (.ireturn, 1) := by decide +kernel
set_option maxRecDepth 20000 in
theorem ggX5_winsBy_X5_reachedAlone : GoodIn wsX5_winsBy wsX5_reachedAlone := goodIn_r _ [7, 8, 9, 10, 11, 12] (by decide +kernel) (by decide +kernel)
set_option maxRecDepth 20000 in
theorem gX5_winsBy_X5_reachedAlone : GoodIn wsX5_winsBy (wsV RX5 31 RX5 yX5_reachedAlone wsX5_reachedAlone) := goodIn_app (goodIn_of _ (by decide +kernel)) ggX5_winsBy_X5_reachedAlone
theorem dX5_winsBy_0 : decode cX5_winsBy 0 = .ok (.aload_n 0, 1) := by decide +kernel
theorem dX5_winsBy_1 : decode cX5_winsBy 1 = .ok (.aload_n 0, 1) := by decide +kernel
theorem dX5_winsBy_2 : decode cX5_winsBy 2 = .ok (.getfield 13, 3) := by decide +kernel
theorem dX5_winsBy_5 : decode cX5_winsBy 5 = .ok (.aload_n 0, 1) := by decide +kernel
theorem dX5_winsBy_6 : decode cX5_winsBy 6 = .ok (.getfield 16, 3) := by decide +kernel
theorem dX5_winsBy_9 : decode cX5_winsBy 9 = .ok (.iload_n 1, 1) := by decide +kernel
theorem dX5_winsBy_10 : decode cX5_winsBy 10 = .ok (.invokevirtual 31, 3) := by decide +kernel
theorem dX5_winsBy_13 : decode cX5_winsBy 13 = .ok (.ireturn, 1) := by decide +kernel
set_option maxRecDepth 20000 in
theorem ggX5_lossesBy_X5_reachedAlone : GoodIn wsX5_lossesBy wsX5_reachedAlone := goodIn_r _ [7, 8, 9, 10, 11, 12] (by decide +kernel) (by decide +kernel)
set_option maxRecDepth 20000 in
theorem gX5_lossesBy_X5_reachedAlone : GoodIn wsX5_lossesBy (wsV RX5 31 RX5 yX5_reachedAlone wsX5_reachedAlone) := goodIn_app (goodIn_of _ (by decide +kernel)) ggX5_lossesBy_X5_reachedAlone
theorem dX5_lossesBy_0 : decode cX5_lossesBy 0 = .ok (.aload_n 0, 1) := by decide +kernel
theorem dX5_lossesBy_1 : decode cX5_lossesBy 1 = .ok (.aload_n 0, 1) := by decide +kernel
theorem dX5_lossesBy_2 : decode cX5_lossesBy 2 = .ok (.getfield 16, 3) := by decide +kernel
theorem dX5_lossesBy_5 : decode cX5_lossesBy 5 = .ok (.aload_n 0, 1) := by decide +kernel
theorem dX5_lossesBy_6 : decode cX5_lossesBy 6 = .ok (.getfield 13, 3) := by decide +kernel
theorem dX5_lossesBy_9 : decode cX5_lossesBy 9 = .ok (.iload_n 1, 1) := by decide +kernel
theorem dX5_lossesBy_10 : decode cX5_lossesBy 10 = .ok (.invokevirtual 31, 3) := by decide +kernel
theorem dX5_lossesBy_13 : decode cX5_lossesBy 13 = .ok (.ireturn, 1) := by decide +kernel
theorem dX5_reachedAlone_0 : decode cX5_reachedAlone 0 = .ok (.iconst 0, 1) := by decide +kernel
theorem dX5_reachedAlone_1 : decode cX5_reachedAlone 1 = .ok (.istore 4, 2) := by decide +kernel
theorem dX5_reachedAlone_3 : decode cX5_reachedAlone 3 = .ok (.iconst 0, 1) := by decide +kernel
theorem dX5_reachedAlone_4 : decode cX5_reachedAlone 4 = .ok (.istore 5, 2) := by decide +kernel
theorem dX5_reachedAlone_6 : decode cX5_reachedAlone 6 = .ok (.iload 5, 2) := by decide +kernel
theorem dX5_reachedAlone_8 : decode cX5_reachedAlone 8 = .ok (.aload_n 0, 1) := by decide +kernel
theorem dX5_reachedAlone_9 : decode cX5_reachedAlone 9 = .ok (.getfield 19, 3) := by decide +kernel
theorem dX5_reachedAlone_12 : decode cX5_reachedAlone 12 = .ok (.if_icmp .ge 28, 3) := by decide +kernel
theorem dX5_reachedAlone_15 : decode cX5_reachedAlone 15 = .ok (.aload_n 1, 1) := by decide +kernel
theorem dX5_reachedAlone_16 : decode cX5_reachedAlone 16 = .ok (.iload 5, 2) := by decide +kernel
theorem dX5_reachedAlone_18 : decode cX5_reachedAlone 18 = .ok (.iaload, 1) := by decide +kernel
theorem dX5_reachedAlone_19 : decode cX5_reachedAlone 19 = .ok (.iload_n 3, 1) := by decide +kernel
theorem dX5_reachedAlone_20 : decode cX5_reachedAlone 20 = .ok (.if_icmp .lt 14, 3) := by decide +kernel
theorem dX5_reachedAlone_23 : decode cX5_reachedAlone 23 = .ok (.aload_n 2, 1) := by decide +kernel
theorem dX5_reachedAlone_24 : decode cX5_reachedAlone 24 = .ok (.iload 5, 2) := by decide +kernel
theorem dX5_reachedAlone_26 : decode cX5_reachedAlone 26 = .ok (.iaload, 1) := by decide +kernel
theorem dX5_reachedAlone_27 : decode cX5_reachedAlone 27 = .ok (.iload_n 3, 1) := by decide +kernel
theorem dX5_reachedAlone_28 : decode cX5_reachedAlone 28 = .ok (.if_icmp .ge 6, 3) := by decide +kernel
theorem dX5_reachedAlone_31 : decode cX5_reachedAlone 31 = .ok (.iinc 4 1, 3) := by decide +kernel
theorem dX5_reachedAlone_34 : decode cX5_reachedAlone 34 = .ok (.iinc 5 1, 3) := by decide +kernel
theorem dX5_reachedAlone_37 : decode cX5_reachedAlone 37 = .ok (.goto (-31), 3) := by decide +kernel
theorem dX5_reachedAlone_40 : decode cX5_reachedAlone 40 = .ok (.iload 4, 2) := by decide +kernel
theorem dX5_reachedAlone_42 : decode cX5_reachedAlone 42 = .ok (.ireturn, 1) := by decide +kernel
set_option maxRecDepth 20000 in
theorem ggX6_init_X9_init : GoodIn wsX6_init wsX9_init := goodIn_r _ [11, 12, 2, 3, 13, 14, 15, 16, 17] (by decide +kernel) (by decide +kernel)
set_option maxRecDepth 20000 in
theorem gX6_init_X9_init : GoodIn wsX6_init (wsX9_init) := ggX6_init_X9_init
theorem dX6_init_0 : decode cX6_init 0 = .ok (.aload_n 0, 1) := by decide +kernel
theorem dX6_init_1 : decode cX6_init 1 = .ok (.invokespecial 1, 3) := by decide +kernel
theorem dX6_init_4 : decode cX6_init 4 = .ok (.aload_n 0, 1) := by decide +kernel
theorem dX6_init_5 : decode cX6_init 5 = .ok (.new 7, 3) := by decide +kernel
theorem dX6_init_8 : decode cX6_init 8 = .ok (.dup, 1) := by decide +kernel
theorem dX6_init_9 : decode cX6_init 9 = .ok (.invokespecial 9, 3) := by decide +kernel
theorem dX6_init_12 : decode cX6_init 12 = .ok (.putfield 10, 3) := by decide +kernel
theorem dX6_init_15 : decode cX6_init 15 = .ok (.aload_n 0, 1) := by decide +kernel
theorem dX6_init_16 : decode cX6_init 16 = .ok (.new 7, 3) := by decide +kernel
theorem dX6_init_19 : decode cX6_init 19 = .ok (.dup, 1) := by decide +kernel
theorem dX6_init_20 : decode cX6_init 20 = .ok (.invokespecial 9, 3) := by decide +kernel
theorem dX6_init_23 : decode cX6_init 23 = .ok (.putfield 16, 3) := by decide +kernel
theorem dX6_init_26 : decode cX6_init 26 = .ok (.return_, 1) := by decide +kernel
theorem dX6_start_0 : decode cX6_start 0 = .ok (.aload_n 0, 1) := by decide +kernel
theorem dX6_start_1 : decode cX6_start 1 = .ok (.iconst 1, 1) := by decide +kernel
theorem dX6_start_2 : decode cX6_start 2 = .ok (.putfield 19, 3) := by decide +kernel
theorem dX6_start_5 : decode cX6_start 5 = .ok (.aload_n 0, 1) := by decide +kernel
theorem dX6_start_6 : decode cX6_start 6 = .ok (.iload_n 1, 1) := by decide +kernel
theorem dX6_start_7 : decode cX6_start 7 = .ok (.putfield 23, 3) := by decide +kernel
theorem dX6_start_10 : decode cX6_start 10 = .ok (.aload_n 0, 1) := by decide +kernel
theorem dX6_start_11 : decode cX6_start 11 = .ok (.iload_n 2, 1) := by decide +kernel
theorem dX6_start_12 : decode cX6_start 12 = .ok (.putfield 27, 3) := by decide +kernel
theorem dX6_start_15 : decode cX6_start 15 = .ok (.aload_n 0, 1) := by decide +kernel
theorem dX6_start_16 : decode cX6_start 16 = .ok (.iload_n 3, 1) := by decide +kernel
theorem dX6_start_17 : decode cX6_start 17 = .ok (.putfield 30, 3) := by decide +kernel
theorem dX6_start_20 : decode cX6_start 20 = .ok (.aload_n 0, 1) := by decide +kernel
theorem dX6_start_21 : decode cX6_start 21 = .ok (.iload 4, 2) := by decide +kernel
theorem dX6_start_23 : decode cX6_start 23 = .ok (.putfield 33, 3) := by decide +kernel
theorem dX6_start_26 : decode cX6_start 26 = .ok (.aload_n 0, 1) := by decide +kernel
theorem dX6_start_27 : decode cX6_start 27 = .ok (.iconst 0, 1) := by decide +kernel
theorem dX6_start_28 : decode cX6_start 28 = .ok (.putfield 36, 3) := by decide +kernel
theorem dX6_start_31 : decode cX6_start 31 = .ok (.aload_n 0, 1) := by decide +kernel
theorem dX6_start_32 : decode cX6_start 32 = .ok (.iconst 0, 1) := by decide +kernel
theorem dX6_start_33 : decode cX6_start 33 = .ok (.putfield 39, 3) := by decide +kernel
theorem dX6_start_36 : decode cX6_start 36 = .ok (.aload_n 0, 1) := by decide +kernel
theorem dX6_start_37 : decode cX6_start 37 = .ok (.iconst 0, 1) := by decide +kernel
theorem dX6_start_38 : decode cX6_start 38 = .ok (.putfield 42, 3) := by decide +kernel
theorem dX6_start_41 : decode cX6_start 41 = .ok (.return_, 1) := by decide +kernel
theorem dX6_stop_0 : decode cX6_stop 0 = .ok (.aload_n 0, 1) := by decide +kernel
theorem dX6_stop_1 : decode cX6_stop 1 = .ok (.iconst 0, 1) := by decide +kernel
theorem dX6_stop_2 : decode cX6_stop 2 = .ok (.putfield 19, 3) := by decide +kernel
theorem dX6_stop_5 : decode cX6_stop 5 = .ok (.return_, 1) := by decide +kernel
theorem dX6_isOn_0 : decode cX6_isOn 0 = .ok (.aload_n 0, 1) := by decide +kernel
theorem dX6_isOn_1 : decode cX6_isOn 1 = .ok (.getfield 19, 3) := by decide +kernel
theorem dX6_isOn_4 : decode cX6_isOn 4 = .ok (.ireturn, 1) := by decide +kernel
theorem dX6_isFull_0 : decode cX6_isFull 0 = .ok (.aload_n 0, 1) := by decide +kernel
theorem dX6_isFull_1 : decode cX6_isFull 1 = .ok (.getfield 36, 3) := by decide +kernel
theorem dX6_isFull_4 : decode cX6_isFull 4 = .ok (.bipush 60, 2) := by decide +kernel
theorem dX6_isFull_6 : decode cX6_isFull 6 = .ok (.if_icmp .lt 7, 3) := by decide +kernel
theorem dX6_isFull_9 : decode cX6_isFull 9 = .ok (.iconst 1, 1) := by decide +kernel
theorem dX6_isFull_10 : decode cX6_isFull 10 = .ok (.goto 4, 3) := by decide +kernel
theorem dX6_isFull_13 : decode cX6_isFull 13 = .ok (.iconst 0, 1) := by decide +kernel
theorem dX6_isFull_14 : decode cX6_isFull 14 = .ok (.ireturn, 1) := by decide +kernel
set_option maxRecDepth 20000 in
theorem ggX6_take_X6_isFull : GoodIn wsX6_take wsX6_isFull := goodIn_r _ [8, 1, 44, 45, 46, 47, 48, 49, 50, 51, 52, 53] (by decide +kernel) (by decide +kernel)
set_option maxRecDepth 20000 in
theorem gX6_take_X6_isFull : GoodIn wsX6_take (wsV RX6 45 RX6 yX6_isFull wsX6_isFull) := goodIn_app (goodIn_of _ (by decide +kernel)) ggX6_take_X6_isFull
set_option maxRecDepth 20000 in
theorem ggX6_take_X6_isRich : GoodIn wsX6_take wsX6_isRich := goodIn_r _ [12, 13, 14, 15, 1, 16, 2, 17, 18, 19, 20, 21, 22, 23, 24, 25, 26, 27, 28, 29, 30, 31, 32, 33, 34, 35, 36, 37, 38, 39, 40, 41, 42, 43, 44, 45, 46, 47, 48, 49, 50, 51, 52, 53, 54, 55] (by decide +kernel) (by decide +kernel)
set_option maxRecDepth 20000 in
theorem gX6_take_X6_isRich : GoodIn wsX6_take (wsV RX6 49 RX6 yX6_isRich wsX6_isRich) := goodIn_app (goodIn_of _ (by decide +kernel)) ggX6_take_X6_isRich
theorem dX6_take_0 : decode cX6_take 0 = .ok (.aload_n 0, 1) := by decide +kernel
theorem dX6_take_1 : decode cX6_take 1 = .ok (.invokevirtual 45, 3) := by decide +kernel
theorem dX6_take_4 : decode cX6_take 4 = .ok (.ifCond .eq 4, 3) := by decide +kernel
theorem dX6_take_7 : decode cX6_take 7 = .ok (.return_, 1) := by decide +kernel
theorem dX6_take_8 : decode cX6_take 8 = .ok (.aload_n 0, 1) := by decide +kernel
theorem dX6_take_9 : decode cX6_take 9 = .ok (.dup, 1) := by decide +kernel
theorem dX6_take_10 : decode cX6_take 10 = .ok (.getfield 36, 3) := by decide +kernel
theorem dX6_take_13 : decode cX6_take 13 = .ok (.iconst 1, 1) := by decide +kernel
theorem dX6_take_14 : decode cX6_take 14 = .ok (.iadd, 1) := by decide +kernel
theorem dX6_take_15 : decode cX6_take 15 = .ok (.putfield 36, 3) := by decide +kernel
theorem dX6_take_18 : decode cX6_take 18 = .ok (.iload_n 1, 1) := by decide +kernel
theorem dX6_take_19 : decode cX6_take 19 = .ok (.ifCond .eq 13, 3) := by decide +kernel
theorem dX6_take_22 : decode cX6_take 22 = .ok (.aload_n 0, 1) := by decide +kernel
theorem dX6_take_23 : decode cX6_take 23 = .ok (.dup, 1) := by decide +kernel
theorem dX6_take_24 : decode cX6_take 24 = .ok (.getfield 39, 3) := by decide +kernel
theorem dX6_take_27 : decode cX6_take 27 = .ok (.iconst 1, 1) := by decide +kernel
theorem dX6_take_28 : decode cX6_take 28 = .ok (.iadd, 1) := by decide +kernel
theorem dX6_take_29 : decode cX6_take 29 = .ok (.putfield 39, 3) := by decide +kernel
theorem dX6_take_32 : decode cX6_take 32 = .ok (.aload_n 0, 1) := by decide +kernel
theorem dX6_take_33 : decode cX6_take 33 = .ok (.getfield 42, 3) := by decide +kernel
theorem dX6_take_36 : decode cX6_take 36 = .ok (.ifCond .ne 18, 3) := by decide +kernel
theorem dX6_take_39 : decode cX6_take 39 = .ok (.aload_n 0, 1) := by decide +kernel
theorem dX6_take_40 : decode cX6_take 40 = .ok (.invokevirtual 49, 3) := by decide +kernel
theorem dX6_take_43 : decode cX6_take 43 = .ok (.ifCond .eq 11, 3) := by decide +kernel
theorem dX6_take_46 : decode cX6_take 46 = .ok (.aload_n 0, 1) := by decide +kernel
theorem dX6_take_47 : decode cX6_take 47 = .ok (.aload_n 0, 1) := by decide +kernel
theorem dX6_take_48 : decode cX6_take 48 = .ok (.getfield 36, 3) := by decide +kernel
theorem dX6_take_51 : decode cX6_take 51 = .ok (.putfield 42, 3) := by decide +kernel
theorem dX6_take_54 : decode cX6_take 54 = .ok (.return_, 1) := by decide +kernel
theorem dX6_tries_0 : decode cX6_tries 0 = .ok (.aload_n 0, 1) := by decide +kernel
theorem dX6_tries_1 : decode cX6_tries 1 = .ok (.getfield 36, 3) := by decide +kernel
theorem dX6_tries_4 : decode cX6_tries 4 = .ok (.ireturn, 1) := by decide +kernel
theorem dX6_hits_0 : decode cX6_hits 0 = .ok (.aload_n 0, 1) := by decide +kernel
theorem dX6_hits_1 : decode cX6_hits 1 = .ok (.getfield 39, 3) := by decide +kernel
theorem dX6_hits_4 : decode cX6_hits 4 = .ok (.ireturn, 1) := by decide +kernel
theorem dX6_rejectedBehind_0 : decode cX6_rejectedBehind 0 = .ok (.aload_n 0, 1) := by decide +kernel
theorem dX6_rejectedBehind_1 : decode cX6_rejectedBehind 1 = .ok (.getfield 42, 3) := by decide +kernel
theorem dX6_rejectedBehind_4 : decode cX6_rejectedBehind 4 = .ok (.ireturn, 1) := by decide +kernel
set_option maxRecDepth 20000 in
theorem ggX6_isRich_X9_become : GoodIn wsX6_isRich wsX9_become := goodIn_r _ [13, 14, 15, 16, 44, 45] (by decide +kernel) (by decide +kernel)
set_option maxRecDepth 20000 in
theorem gX6_isRich_X9_become : GoodIn wsX6_isRich (wsV RX6 52 RX9 yX9_become wsX9_become) := goodIn_app (goodIn_of _ (by decide +kernel)) ggX6_isRich_X9_become
set_option maxRecDepth 20000 in
theorem ggX6_isRich_X9_multiplyOften : GoodIn wsX6_isRich wsX9_multiplyOften := goodIn_r _ [20, 21, 22, 23, 12, 24, 16, 14, 15, 44, 45] (by decide +kernel) (by decide +kernel)
set_option maxRecDepth 20000 in
theorem gX6_isRich_X9_multiplyOften : GoodIn wsX6_isRich (wsV RX6 56 RX9 yX9_multiplyOften wsX9_multiplyOften) := goodIn_app (goodIn_of _ (by decide +kernel)) ggX6_isRich_X9_multiplyOften
set_option maxRecDepth 20000 in
theorem ggX6_isRich_X3_setsOutOf : GoodIn wsX6_isRich wsX3_setsOutOf := goodIn_r _ [28] (by decide +kernel) (by decide +kernel)
set_option maxRecDepth 20000 in
theorem gX6_isRich_X3_setsOutOf : GoodIn wsX6_isRich (va_wsS RX6 60 yX3_setsOutOf wsX3_setsOutOf) := goodIn_app (goodIn_of _ (by decide +kernel)) ggX6_isRich_X3_setsOutOf
set_option maxRecDepth 20000 in
theorem ggX6_isRich_X9_multiply : GoodIn wsX6_isRich wsX9_multiply := goodIn_r _ [24, 16, 14, 15, 44, 45] (by decide +kernel) (by decide +kernel)
set_option maxRecDepth 20000 in
theorem gX6_isRich_X9_multiply : GoodIn wsX6_isRich (wsV RX6 66 RX9 yX9_multiply wsX9_multiply) := goodIn_app (goodIn_of _ (by decide +kernel)) ggX6_isRich_X9_multiply
set_option maxRecDepth 20000 in
theorem ggX6_isRich_X9_against : GoodIn wsX6_isRich wsX9_against := goodIn_r _ [33, 14, 44, 45] (by decide +kernel) (by decide +kernel)
set_option maxRecDepth 20000 in
theorem gX6_isRich_X9_against : GoodIn wsX6_isRich (wsV RX6 69 RX9 yX9_against wsX9_against) := goodIn_app (goodIn_of _ (by decide +kernel)) ggX6_isRich_X9_against
theorem dX6_isRich_0 : decode cX6_isRich 0 = .ok (.aload_n 0, 1) := by decide +kernel
theorem dX6_isRich_1 : decode cX6_isRich 1 = .ok (.getfield 10, 3) := by decide +kernel
theorem dX6_isRich_4 : decode cX6_isRich 4 = .ok (.aload_n 0, 1) := by decide +kernel
theorem dX6_isRich_5 : decode cX6_isRich 5 = .ok (.getfield 30, 3) := by decide +kernel
theorem dX6_isRich_8 : decode cX6_isRich 8 = .ok (.i2l, 1) := by decide +kernel
theorem dX6_isRich_9 : decode cX6_isRich 9 = .ok (.invokevirtual 52, 3) := by decide +kernel
theorem dX6_isRich_12 : decode cX6_isRich 12 = .ok (.aload_n 0, 1) := by decide +kernel
theorem dX6_isRich_13 : decode cX6_isRich 13 = .ok (.getfield 10, 3) := by decide +kernel
theorem dX6_isRich_16 : decode cX6_isRich 16 = .ok (.aload_n 0, 1) := by decide +kernel
theorem dX6_isRich_17 : decode cX6_isRich 17 = .ok (.getfield 27, 3) := by decide +kernel
theorem dX6_isRich_20 : decode cX6_isRich 20 = .ok (.i2l, 1) := by decide +kernel
theorem dX6_isRich_21 : decode cX6_isRich 21 = .ok (.aload_n 0, 1) := by decide +kernel
theorem dX6_isRich_22 : decode cX6_isRich 22 = .ok (.getfield 36, 3) := by decide +kernel
theorem dX6_isRich_25 : decode cX6_isRich 25 = .ok (.invokevirtual 56, 3) := by decide +kernel
theorem dX6_isRich_28 : decode cX6_isRich 28 = .ok (.aload_n 0, 1) := by decide +kernel
theorem dX6_isRich_29 : decode cX6_isRich 29 = .ok (.getfield 16, 3) := by decide +kernel
theorem dX6_isRich_32 : decode cX6_isRich 32 = .ok (.aload_n 0, 1) := by decide +kernel
theorem dX6_isRich_33 : decode cX6_isRich 33 = .ok (.getfield 36, 3) := by decide +kernel
theorem dX6_isRich_36 : decode cX6_isRich 36 = .ok (.aload_n 0, 1) := by decide +kernel
theorem dX6_isRich_37 : decode cX6_isRich 37 = .ok (.getfield 39, 3) := by decide +kernel
theorem dX6_isRich_40 : decode cX6_isRich 40 = .ok (.invokestatic 60, 3) := by decide +kernel
theorem dX6_isRich_43 : decode cX6_isRich 43 = .ok (.invokevirtual 52, 3) := by decide +kernel
theorem dX6_isRich_46 : decode cX6_isRich 46 = .ok (.aload_n 0, 1) := by decide +kernel
theorem dX6_isRich_47 : decode cX6_isRich 47 = .ok (.getfield 16, 3) := by decide +kernel
theorem dX6_isRich_50 : decode cX6_isRich 50 = .ok (.aload_n 0, 1) := by decide +kernel
theorem dX6_isRich_51 : decode cX6_isRich 51 = .ok (.getfield 36, 3) := by decide +kernel
theorem dX6_isRich_54 : decode cX6_isRich 54 = .ok (.iconst 1, 1) := by decide +kernel
theorem dX6_isRich_55 : decode cX6_isRich 55 = .ok (.iadd, 1) := by decide +kernel
theorem dX6_isRich_56 : decode cX6_isRich 56 = .ok (.i2l, 1) := by decide +kernel
theorem dX6_isRich_57 : decode cX6_isRich 57 = .ok (.invokevirtual 66, 3) := by decide +kernel
theorem dX6_isRich_60 : decode cX6_isRich 60 = .ok (.aload_n 0, 1) := by decide +kernel
theorem dX6_isRich_61 : decode cX6_isRich 61 = .ok (.getfield 16, 3) := by decide +kernel
theorem dX6_isRich_64 : decode cX6_isRich 64 = .ok (.aload_n 0, 1) := by decide +kernel
theorem dX6_isRich_65 : decode cX6_isRich 65 = .ok (.getfield 33, 3) := by decide +kernel
theorem dX6_isRich_68 : decode cX6_isRich 68 = .ok (.i2l, 1) := by decide +kernel
theorem dX6_isRich_69 : decode cX6_isRich 69 = .ok (.invokevirtual 66, 3) := by decide +kernel
theorem dX6_isRich_72 : decode cX6_isRich 72 = .ok (.aload_n 0, 1) := by decide +kernel
theorem dX6_isRich_73 : decode cX6_isRich 73 = .ok (.getfield 16, 3) := by decide +kernel
theorem dX6_isRich_76 : decode cX6_isRich 76 = .ok (.aload_n 0, 1) := by decide +kernel
theorem dX6_isRich_77 : decode cX6_isRich 77 = .ok (.getfield 23, 3) := by decide +kernel
theorem dX6_isRich_80 : decode cX6_isRich 80 = .ok (.i2l, 1) := by decide +kernel
theorem dX6_isRich_81 : decode cX6_isRich 81 = .ok (.aload_n 0, 1) := by decide +kernel
theorem dX6_isRich_82 : decode cX6_isRich 82 = .ok (.getfield 39, 3) := by decide +kernel
theorem dX6_isRich_85 : decode cX6_isRich 85 = .ok (.invokevirtual 56, 3) := by decide +kernel
theorem dX6_isRich_88 : decode cX6_isRich 88 = .ok (.aload_n 0, 1) := by decide +kernel
theorem dX6_isRich_89 : decode cX6_isRich 89 = .ok (.getfield 16, 3) := by decide +kernel
theorem dX6_isRich_92 : decode cX6_isRich 92 = .ok (.aload_n 0, 1) := by decide +kernel
theorem dX6_isRich_93 : decode cX6_isRich 93 = .ok (.getfield 27, 3) := by decide +kernel
theorem dX6_isRich_96 : decode cX6_isRich 96 = .ok (.aload_n 0, 1) := by decide +kernel
theorem dX6_isRich_97 : decode cX6_isRich 97 = .ok (.getfield 23, 3) := by decide +kernel
theorem dX6_isRich_100 : decode cX6_isRich 100 = .ok (.isub, 1) := by decide +kernel
theorem dX6_isRich_101 : decode cX6_isRich 101 = .ok (.i2l, 1) := by decide +kernel
theorem dX6_isRich_102 : decode cX6_isRich 102 = .ok (.aload_n 0, 1) := by decide +kernel
theorem dX6_isRich_103 : decode cX6_isRich 103 = .ok (.getfield 36, 3) := by decide +kernel
theorem dX6_isRich_106 : decode cX6_isRich 106 = .ok (.aload_n 0, 1) := by decide +kernel
theorem dX6_isRich_107 : decode cX6_isRich 107 = .ok (.getfield 39, 3) := by decide +kernel
theorem dX6_isRich_110 : decode cX6_isRich 110 = .ok (.isub, 1) := by decide +kernel
theorem dX6_isRich_111 : decode cX6_isRich 111 = .ok (.invokevirtual 56, 3) := by decide +kernel
theorem dX6_isRich_114 : decode cX6_isRich 114 = .ok (.aload_n 0, 1) := by decide +kernel
theorem dX6_isRich_115 : decode cX6_isRich 115 = .ok (.getfield 10, 3) := by decide +kernel
theorem dX6_isRich_118 : decode cX6_isRich 118 = .ok (.aload_n 0, 1) := by decide +kernel
theorem dX6_isRich_119 : decode cX6_isRich 119 = .ok (.getfield 16, 3) := by decide +kernel
theorem dX6_isRich_122 : decode cX6_isRich 122 = .ok (.invokevirtual 69, 3) := by decide +kernel
theorem dX6_isRich_125 : decode cX6_isRich 125 = .ok (.ifCond .lt 7, 3) := by decide +kernel
theorem dX6_isRich_128 : decode cX6_isRich 128 = .ok (.iconst 1, 1) := by decide +kernel
theorem dX6_isRich_129 : decode cX6_isRich 129 = .ok (.goto 4, 3) := by decide +kernel
theorem dX6_isRich_132 : decode cX6_isRich 132 = .ok (.iconst 0, 1) := by decide +kernel
theorem dX6_isRich_133 : decode cX6_isRich 133 = .ok (.ireturn, 1) := by decide +kernel
theorem dX7_init_0 : decode cX7_init 0 = .ok (.aload_n 0, 1) := by decide +kernel
theorem dX7_init_1 : decode cX7_init 1 = .ok (.invokespecial 1, 3) := by decide +kernel
theorem dX7_init_4 : decode cX7_init 4 = .ok (.aload_n 0, 1) := by decide +kernel
theorem dX7_init_5 : decode cX7_init 5 = .ok (.sipush 1501, 3) := by decide +kernel
theorem dX7_init_8 : decode cX7_init 8 = .ok (.newarray .long, 2) := by decide +kernel
theorem dX7_init_10 : decode cX7_init 10 = .ok (.putfield 9, 3) := by decide +kernel
theorem dX7_init_13 : decode cX7_init 13 = .ok (.aload_n 0, 1) := by decide +kernel
theorem dX7_init_14 : decode cX7_init 14 = .ok (.iconst 0, 1) := by decide +kernel
theorem dX7_init_15 : decode cX7_init 15 = .ok (.putfield 13, 3) := by decide +kernel
theorem dX7_init_18 : decode cX7_init 18 = .ok (.aload_n 0, 1) := by decide +kernel
theorem dX7_init_19 : decode cX7_init 19 = .ok (.iconst 0, 1) := by decide +kernel
theorem dX7_init_20 : decode cX7_init 20 = .ok (.putfield 17, 3) := by decide +kernel
theorem dX7_init_23 : decode cX7_init 23 = .ok (.aload_n 0, 1) := by decide +kernel
theorem dX7_init_24 : decode cX7_init 24 = .ok (.iconst 0, 1) := by decide +kernel
theorem dX7_init_25 : decode cX7_init 25 = .ok (.putfield 20, 3) := by decide +kernel
theorem dX7_init_28 : decode cX7_init 28 = .ok (.return_, 1) := by decide +kernel
set_option maxRecDepth 20000 in
theorem ggX7_take_X7_measure : GoodIn wsX7_take wsX7_measure := goodIn_r _ [13, 14, 15, 16, 17, 18, 4, 19, 20, 21, 22, 23, 24, 25, 26, 27, 28, 29, 30, 39, 40, 41, 42, 43, 44, 45] (by decide +kernel) (by decide +kernel)
set_option maxRecDepth 20000 in
theorem gX7_take_X7_measure : GoodIn wsX7_take (wsV RX7 23 RX7 yX7_measure wsX7_measure) := goodIn_app (goodIn_of _ (by decide +kernel)) ggX7_take_X7_measure
set_option maxRecDepth 20000 in
theorem ggX7_take_X7_reach : GoodIn wsX7_take wsX7_reach := goodIn_r _ [34, 15, 16, 6, 7, 4, 8, 39, 40, 41, 42] (by decide +kernel) (by decide +kernel)
set_option maxRecDepth 20000 in
theorem gX7_take_X7_reach : GoodIn wsX7_take (wsV RX7 27 RX7 yX7_reach wsX7_reach) := goodIn_app (goodIn_of _ (by decide +kernel)) ggX7_take_X7_reach
set_option maxRecDepth 20000 in
theorem ggX7_take_X8_size : GoodIn wsX7_take wsX8_size := goodIn_r _ [24, 25, 43, 44, 45] (by decide +kernel) (by decide +kernel)
set_option maxRecDepth 20000 in
theorem gX7_take_X8_size : GoodIn wsX7_take (wsV RX7 31 RX8 yX8_size wsX8_size) := goodIn_app (goodIn_of _ (by decide +kernel)) ggX7_take_X8_size
set_option maxRecDepth 20000 in
theorem ggX7_take_X8_difference : GoodIn wsX7_take wsX8_difference := goodIn_r _ [29, 25, 30, 43, 44, 45] (by decide +kernel) (by decide +kernel)
set_option maxRecDepth 20000 in
theorem gX7_take_X8_difference : GoodIn wsX7_take (wsV RX7 36 RX8 yX8_difference wsX8_difference) := goodIn_app (goodIn_of _ (by decide +kernel)) ggX7_take_X8_difference
set_option maxRecDepth 20000 in
theorem ggX7_take_X7_takeSign : GoodIn wsX7_take wsX7_takeSign := goodIn_r _ [38, 1, 39, 40, 41, 42] (by decide +kernel) (by decide +kernel)
set_option maxRecDepth 20000 in
theorem gX7_take_X7_takeSign : GoodIn wsX7_take (wsV RX7 49 RX7 yX7_takeSign wsX7_takeSign) := goodIn_app (goodIn_of _ (by decide +kernel)) ggX7_take_X7_takeSign
theorem dX7_take_0 : decode cX7_take 0 = .ok (.aload_n 0, 1) := by decide +kernel
theorem dX7_take_1 : decode cX7_take 1 = .ok (.aload_n 1, 1) := by decide +kernel
theorem dX7_take_2 : decode cX7_take 2 = .ok (.invokevirtual 23, 3) := by decide +kernel
theorem dX7_take_5 : decode cX7_take 5 = .ok (.aload_n 0, 1) := by decide +kernel
theorem dX7_take_6 : decode cX7_take 6 = .ok (.invokevirtual 27, 3) := by decide +kernel
theorem dX7_take_9 : decode cX7_take 9 = .ok (.istore_n 2, 1) := by decide +kernel
theorem dX7_take_10 : decode cX7_take 10 = .ok (.iconst 0, 1) := by decide +kernel
theorem dX7_take_11 : decode cX7_take 11 = .ok (.istore_n 3, 1) := by decide +kernel
theorem dX7_take_12 : decode cX7_take 12 = .ok (.iload_n 3, 1) := by decide +kernel
theorem dX7_take_13 : decode cX7_take 13 = .ok (.iload_n 2, 1) := by decide +kernel
theorem dX7_take_14 : decode cX7_take 14 = .ok (.if_icmp .gt 16, 3) := by decide +kernel
theorem dX7_take_17 : decode cX7_take 17 = .ok (.aload_n 0, 1) := by decide +kernel
theorem dX7_take_18 : decode cX7_take 18 = .ok (.getfield 9, 3) := by decide +kernel
theorem dX7_take_21 : decode cX7_take 21 = .ok (.iload_n 3, 1) := by decide +kernel
theorem dX7_take_22 : decode cX7_take 22 = .ok (.lconst 0, 1) := by decide +kernel
theorem dX7_take_23 : decode cX7_take 23 = .ok (.lastore, 1) := by decide +kernel
theorem dX7_take_24 : decode cX7_take 24 = .ok (.iinc 3 1, 3) := by decide +kernel
theorem dX7_take_27 : decode cX7_take 27 = .ok (.goto (-15), 3) := by decide +kernel
theorem dX7_take_30 : decode cX7_take 30 = .ok (.aload_n 0, 1) := by decide +kernel
theorem dX7_take_31 : decode cX7_take 31 = .ok (.getfield 9, 3) := by decide +kernel
theorem dX7_take_34 : decode cX7_take 34 = .ok (.iconst 0, 1) := by decide +kernel
theorem dX7_take_35 : decode cX7_take 35 = .ok (.lconst 1, 1) := by decide +kernel
theorem dX7_take_36 : decode cX7_take 36 = .ok (.lastore, 1) := by decide +kernel
theorem dX7_take_37 : decode cX7_take 37 = .ok (.iconst 0, 1) := by decide +kernel
theorem dX7_take_38 : decode cX7_take 38 = .ok (.istore_n 3, 1) := by decide +kernel
theorem dX7_take_39 : decode cX7_take 39 = .ok (.iconst 0, 1) := by decide +kernel
theorem dX7_take_40 : decode cX7_take 40 = .ok (.istore 4, 2) := by decide +kernel
theorem dX7_take_42 : decode cX7_take 42 = .ok (.iload 4, 2) := by decide +kernel
theorem dX7_take_44 : decode cX7_take 44 = .ok (.aload_n 1, 1) := by decide +kernel
theorem dX7_take_45 : decode cX7_take 45 = .ok (.invokevirtual 31, 3) := by decide +kernel
theorem dX7_take_48 : decode cX7_take 48 = .ok (.if_icmp .ge 41, 3) := by decide +kernel
theorem dX7_take_51 : decode cX7_take 51 = .ok (.aload_n 1, 1) := by decide +kernel
theorem dX7_take_52 : decode cX7_take 52 = .ok (.iload 4, 2) := by decide +kernel
theorem dX7_take_54 : decode cX7_take 54 = .ok (.invokevirtual 36, 3) := by decide +kernel
theorem dX7_take_57 : decode cX7_take 57 = .ok (.invokestatic 40, 3) := by decide +kernel
theorem dX7_take_60 : decode cX7_take 60 = .ok (.istore 5, 2) := by decide +kernel
theorem dX7_take_62 : decode cX7_take 62 = .ok (.iload 5, 2) := by decide +kernel
theorem dX7_take_64 : decode cX7_take 64 = .ok (.ifCond .le 19, 3) := by decide +kernel
theorem dX7_take_67 : decode cX7_take 67 = .ok (.iload_n 3, 1) := by decide +kernel
theorem dX7_take_68 : decode cX7_take 68 = .ok (.iload 5, 2) := by decide +kernel
theorem dX7_take_70 : decode cX7_take 70 = .ok (.iadd, 1) := by decide +kernel
theorem dX7_take_71 : decode cX7_take 71 = .ok (.iload_n 2, 1) := by decide +kernel
theorem dX7_take_72 : decode cX7_take 72 = .ok (.invokestatic 45, 3) := by decide +kernel
theorem dX7_take_75 : decode cX7_take 75 = .ok (.istore_n 3, 1) := by decide +kernel
theorem dX7_take_76 : decode cX7_take 76 = .ok (.aload_n 0, 1) := by decide +kernel
theorem dX7_take_77 : decode cX7_take 77 = .ok (.iload 5, 2) := by decide +kernel
