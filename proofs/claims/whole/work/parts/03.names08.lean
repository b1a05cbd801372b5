theorem dX11_term_2 : decode cX11_term 2 = .ok (.invokestatic 57, 3) := by decide +kernel
theorem dX11_term_5 : decode cX11_term 5 = .ok (.iconst 0, 1) := by decide +kernel
theorem dX11_term_6 : decode cX11_term 6 = .ok (.istore 5, 2) := by decide +kernel
theorem dX11_term_8 : decode cX11_term 8 = .ok (.iload 5, 2) := by decide +kernel
theorem dX11_term_10 : decode cX11_term 10 = .ok (.iload_n 2, 1) := by decide +kernel
theorem dX11_term_11 : decode cX11_term 11 = .ok (.if_icmp .ge 26, 3) := by decide +kernel
theorem dX11_term_14 : decode cX11_term 14 = .ok (.aload_n 0, 1) := by decide +kernel
theorem dX11_term_15 : decode cX11_term 15 = .ok (.iload_n 1, 1) := by decide +kernel
theorem dX11_term_16 : decode cX11_term 16 = .ok (.iload 5, 2) := by decide +kernel
theorem dX11_term_18 : decode cX11_term 18 = .ok (.isub, 1) := by decide +kernel
theorem dX11_term_19 : decode cX11_term 19 = .ok (.i2l, 1) := by decide +kernel
theorem dX11_term_20 : decode cX11_term 20 = .ok (.invokestatic 61, 3) := by decide +kernel
theorem dX11_term_23 : decode cX11_term 23 = .ok (.aload_n 0, 1) := by decide +kernel
theorem dX11_term_24 : decode cX11_term 24 = .ok (.iload 5, 2) := by decide +kernel
theorem dX11_term_26 : decode cX11_term 26 = .ok (.iconst 1, 1) := by decide +kernel
theorem dX11_term_27 : decode cX11_term 27 = .ok (.iadd, 1) := by decide +kernel
theorem dX11_term_28 : decode cX11_term 28 = .ok (.invokestatic 65, 3) := by decide +kernel
theorem dX11_term_31 : decode cX11_term 31 = .ok (.iinc 5 1, 3) := by decide +kernel
theorem dX11_term_34 : decode cX11_term 34 = .ok (.goto (-26), 3) := by decide +kernel
theorem dX11_term_37 : decode cX11_term 37 = .ok (.iconst 0, 1) := by decide +kernel
theorem dX11_term_38 : decode cX11_term 38 = .ok (.istore 5, 2) := by decide +kernel
theorem dX11_term_40 : decode cX11_term 40 = .ok (.iload 5, 2) := by decide +kernel
theorem dX11_term_42 : decode cX11_term 42 = .ok (.iload_n 1, 1) := by decide +kernel
theorem dX11_term_43 : decode cX11_term 43 = .ok (.if_icmp .ge 27, 3) := by decide +kernel
theorem dX11_term_46 : decode cX11_term 46 = .ok (.aload_n 0, 1) := by decide +kernel
theorem dX11_term_47 : decode cX11_term 47 = .ok (.iload 5, 2) := by decide +kernel
theorem dX11_term_49 : decode cX11_term 49 = .ok (.iload_n 2, 1) := by decide +kernel
theorem dX11_term_50 : decode cX11_term 50 = .ok (.if_icmp .ge 8, 3) := by decide +kernel
theorem dX11_term_53 : decode cX11_term 53 = .ok (.iload_n 3, 1) := by decide +kernel
theorem dX11_term_54 : decode cX11_term 54 = .ok (.i2l, 1) := by decide +kernel
theorem dX11_term_55 : decode cX11_term 55 = .ok (.goto 6, 3) := by decide +kernel
theorem dX11_term_58 : decode cX11_term 58 = .ok (.iload 4, 2) := by decide +kernel
theorem dX11_term_60 : decode cX11_term 60 = .ok (.i2l, 1) := by decide +kernel
theorem dX11_term_61 : decode cX11_term 61 = .ok (.invokestatic 61, 3) := by decide +kernel
theorem dX11_term_64 : decode cX11_term 64 = .ok (.iinc 5 1, 3) := by decide +kernel
theorem dX11_term_67 : decode cX11_term 67 = .ok (.goto (-27), 3) := by decide +kernel
theorem dX11_term_70 : decode cX11_term 70 = .ok (.return_, 1) := by decide +kernel
set_option maxRecDepth 20000 in
theorem ggX11_power_X11_small : GoodIn wsX11_power wsX11_small := goodIn_r _ [4, 5] (by decide +kernel) (by decide +kernel)
set_option maxRecDepth 20000 in
theorem gX11_power_X11_small : GoodIn wsX11_power (va_wsS RX11 57 yX11_small wsX11_small) := goodIn_app (goodIn_of _ (by decide +kernel)) ggX11_power_X11_small
set_option maxRecDepth 20000 in
theorem ggX11_power_X11_times : GoodIn wsX11_power wsX11_times := goodIn_r _ [8, 9] (by decide +kernel) (by decide +kernel)
set_option maxRecDepth 20000 in
theorem gX11_power_X11_times : GoodIn wsX11_power (va_wsS RX11 61 yX11_times wsX11_times) := goodIn_app (goodIn_of _ (by decide +kernel)) ggX11_power_X11_times
theorem dX11_power_0 : decode cX11_power 0 = .ok (.aload_n 0, 1) := by decide +kernel
theorem dX11_power_1 : decode cX11_power 1 = .ok (.iconst 1, 1) := by decide +kernel
theorem dX11_power_2 : decode cX11_power 2 = .ok (.invokestatic 57, 3) := by decide +kernel
theorem dX11_power_5 : decode cX11_power 5 = .ok (.iconst 0, 1) := by decide +kernel
theorem dX11_power_6 : decode cX11_power 6 = .ok (.istore_n 3, 1) := by decide +kernel
theorem dX11_power_7 : decode cX11_power 7 = .ok (.iload_n 3, 1) := by decide +kernel
theorem dX11_power_8 : decode cX11_power 8 = .ok (.iload_n 2, 1) := by decide +kernel
theorem dX11_power_9 : decode cX11_power 9 = .ok (.if_icmp .ge 15, 3) := by decide +kernel
theorem dX11_power_12 : decode cX11_power 12 = .ok (.aload_n 0, 1) := by decide +kernel
theorem dX11_power_13 : decode cX11_power 13 = .ok (.iload_n 1, 1) := by decide +kernel
theorem dX11_power_14 : decode cX11_power 14 = .ok (.i2l, 1) := by decide +kernel
theorem dX11_power_15 : decode cX11_power 15 = .ok (.invokestatic 61, 3) := by decide +kernel
theorem dX11_power_18 : decode cX11_power 18 = .ok (.iinc 3 1, 3) := by decide +kernel
theorem dX11_power_21 : decode cX11_power 21 = .ok (.goto (-14), 3) := by decide +kernel
theorem dX11_power_24 : decode cX11_power 24 = .ok (.return_, 1) := by decide +kernel
set_option maxRecDepth 20000 in
theorem ggX11_sumUp_X11_small : GoodIn wsX11_sumUp wsX11_small := goodIn_r _ [6, 7] (by decide +kernel) (by decide +kernel)
set_option maxRecDepth 20000 in
theorem gX11_sumUp_X11_small : GoodIn wsX11_sumUp (va_wsS RX11 57 yX11_small wsX11_small) := goodIn_app (goodIn_of _ (by decide +kernel)) ggX11_sumUp_X11_small
set_option maxRecDepth 20000 in
theorem ggX11_sumUp_X11_term : GoodIn wsX11_sumUp wsX11_term := goodIn_r _ [10, 3, 4, 5, 6, 7, 11, 12, 13, 14, 15, 16, 17] (by decide +kernel) (by decide +kernel)
set_option maxRecDepth 20000 in
theorem gX11_sumUp_X11_term : GoodIn wsX11_sumUp (va_wsS RX11 68 yX11_term wsX11_term) := goodIn_app (goodIn_of _ (by decide +kernel)) ggX11_sumUp_X11_term
set_option maxRecDepth 20000 in
theorem ggX11_sumUp_X11_plus : GoodIn wsX11_sumUp wsX11_plus := goodIn_r _ [20, 7] (by decide +kernel) (by decide +kernel)
set_option maxRecDepth 20000 in
theorem gX11_sumUp_X11_plus : GoodIn wsX11_sumUp (va_wsS RX11 72 yX11_plus wsX11_plus) := goodIn_app (goodIn_of _ (by decide +kernel)) ggX11_sumUp_X11_plus
theorem dX11_sumUp_0 : decode cX11_sumUp 0 = .ok (.aload_n 0, 1) := by decide +kernel
theorem dX11_sumUp_1 : decode cX11_sumUp 1 = .ok (.getfield 7, 3) := by decide +kernel
theorem dX11_sumUp_4 : decode cX11_sumUp 4 = .ok (.iconst 0, 1) := by decide +kernel
theorem dX11_sumUp_5 : decode cX11_sumUp 5 = .ok (.invokestatic 57, 3) := by decide +kernel
theorem dX11_sumUp_8 : decode cX11_sumUp 8 = .ok (.iload 5, 2) := by decide +kernel
theorem dX11_sumUp_10 : decode cX11_sumUp 10 = .ok (.ifCond .ne 7, 3) := by decide +kernel
theorem dX11_sumUp_13 : decode cX11_sumUp 13 = .ok (.iload_n 2, 1) := by decide +kernel
theorem dX11_sumUp_14 : decode cX11_sumUp 14 = .ok (.goto 4, 3) := by decide +kernel
theorem dX11_sumUp_17 : decode cX11_sumUp 17 = .ok (.iconst 0, 1) := by decide +kernel
theorem dX11_sumUp_18 : decode cX11_sumUp 18 = .ok (.istore 6, 2) := by decide +kernel
theorem dX11_sumUp_20 : decode cX11_sumUp 20 = .ok (.iload 5, 2) := by decide +kernel
theorem dX11_sumUp_22 : decode cX11_sumUp 22 = .ok (.ifCond .ne 7, 3) := by decide +kernel
theorem dX11_sumUp_25 : decode cX11_sumUp 25 = .ok (.iload_n 1, 1) := by decide +kernel
theorem dX11_sumUp_26 : decode cX11_sumUp 26 = .ok (.goto 4, 3) := by decide +kernel
theorem dX11_sumUp_29 : decode cX11_sumUp 29 = .ok (.iload_n 2, 1) := by decide +kernel
theorem dX11_sumUp_30 : decode cX11_sumUp 30 = .ok (.istore 7, 2) := by decide +kernel
theorem dX11_sumUp_32 : decode cX11_sumUp 32 = .ok (.iload 6, 2) := by decide +kernel
theorem dX11_sumUp_34 : decode cX11_sumUp 34 = .ok (.istore 8, 2) := by decide +kernel
theorem dX11_sumUp_36 : decode cX11_sumUp 36 = .ok (.iload 8, 2) := by decide +kernel
theorem dX11_sumUp_38 : decode cX11_sumUp 38 = .ok (.iload 7, 2) := by decide +kernel
theorem dX11_sumUp_40 : decode cX11_sumUp 40 = .ok (.if_icmp .gt 35, 3) := by decide +kernel
theorem dX11_sumUp_43 : decode cX11_sumUp 43 = .ok (.aload_n 0, 1) := by decide +kernel
theorem dX11_sumUp_44 : decode cX11_sumUp 44 = .ok (.getfield 13, 3) := by decide +kernel
theorem dX11_sumUp_47 : decode cX11_sumUp 47 = .ok (.iload_n 1, 1) := by decide +kernel
theorem dX11_sumUp_48 : decode cX11_sumUp 48 = .ok (.iload 8, 2) := by decide +kernel
theorem dX11_sumUp_50 : decode cX11_sumUp 50 = .ok (.iload_n 3, 1) := by decide +kernel
theorem dX11_sumUp_51 : decode cX11_sumUp 51 = .ok (.iload 4, 2) := by decide +kernel
theorem dX11_sumUp_53 : decode cX11_sumUp 53 = .ok (.iload_n 3, 1) := by decide +kernel
theorem dX11_sumUp_54 : decode cX11_sumUp 54 = .ok (.isub, 1) := by decide +kernel
theorem dX11_sumUp_55 : decode cX11_sumUp 55 = .ok (.invokestatic 68, 3) := by decide +kernel
theorem dX11_sumUp_58 : decode cX11_sumUp 58 = .ok (.aload_n 0, 1) := by decide +kernel
theorem dX11_sumUp_59 : decode cX11_sumUp 59 = .ok (.getfield 7, 3) := by decide +kernel
theorem dX11_sumUp_62 : decode cX11_sumUp 62 = .ok (.aload_n 0, 1) := by decide +kernel
theorem dX11_sumUp_63 : decode cX11_sumUp 63 = .ok (.getfield 13, 3) := by decide +kernel
theorem dX11_sumUp_66 : decode cX11_sumUp 66 = .ok (.invokestatic 72, 3) := by decide +kernel
theorem dX11_sumUp_69 : decode cX11_sumUp 69 = .ok (.iinc 8 1, 3) := by decide +kernel
theorem dX11_sumUp_72 : decode cX11_sumUp 72 = .ok (.goto (-36), 3) := by decide +kernel
theorem dX11_sumUp_75 : decode cX11_sumUp 75 = .ok (.return_, 1) := by decide +kernel
set_option maxRecDepth 20000 in
theorem ggX11_isHits_X11_in : GoodIn wsX11_isHits wsX11_in := goodIn_r _ [6] (by decide +kernel) (by decide +kernel)
set_option maxRecDepth 20000 in
theorem gX11_isHits_X11_in : GoodIn wsX11_isHits (va_wsS RX11 78 yX11_in wsX11_in) := goodIn_app (goodIn_of _ (by decide +kernel)) ggX11_isHits_X11_in
theorem dX11_isHits_0 : decode cX11_isHits 0 = .ok (.iload_n 0, 1) := by decide +kernel
theorem dX11_isHits_1 : decode cX11_isHits 1 = .ok (.i2l, 1) := by decide +kernel
theorem dX11_isHits_2 : decode cX11_isHits 2 = .ok (.lconst 0, 1) := by decide +kernel
theorem dX11_isHits_3 : decode cX11_isHits 3 = .ok (.ldc2_w 76, 3) := by decide +kernel
theorem dX11_isHits_6 : decode cX11_isHits 6 = .ok (.invokestatic 78, 3) := by decide +kernel
theorem dX11_isHits_9 : decode cX11_isHits 9 = .ok (.ifCond .eq 52, 3) := by decide +kernel
theorem dX11_isHits_12 : decode cX11_isHits 12 = .ok (.iload_n 1, 1) := by decide +kernel
theorem dX11_isHits_13 : decode cX11_isHits 13 = .ok (.i2l, 1) := by decide +kernel
theorem dX11_isHits_14 : decode cX11_isHits 14 = .ok (.lconst 0, 1) := by decide +kernel
theorem dX11_isHits_15 : decode cX11_isHits 15 = .ok (.iload_n 0, 1) := by decide +kernel
theorem dX11_isHits_16 : decode cX11_isHits 16 = .ok (.i2l, 1) := by decide +kernel
theorem dX11_isHits_17 : decode cX11_isHits 17 = .ok (.invokestatic 78, 3) := by decide +kernel
theorem dX11_isHits_20 : decode cX11_isHits 20 = .ok (.ifCond .eq 41, 3) := by decide +kernel
theorem dX11_isHits_23 : decode cX11_isHits 23 = .ok (.iload_n 3, 1) := by decide +kernel
theorem dX11_isHits_24 : decode cX11_isHits 24 = .ok (.i2l, 1) := by decide +kernel
theorem dX11_isHits_25 : decode cX11_isHits 25 = .ok (.lconst 1, 1) := by decide +kernel
theorem dX11_isHits_26 : decode cX11_isHits 26 = .ok (.ldc2_w 82, 3) := by decide +kernel
theorem dX11_isHits_29 : decode cX11_isHits 29 = .ok (.invokestatic 78, 3) := by decide +kernel
theorem dX11_isHits_32 : decode cX11_isHits 32 = .ok (.ifCond .eq 29, 3) := by decide +kernel
theorem dX11_isHits_35 : decode cX11_isHits 35 = .ok (.iload_n 2, 1) := by decide +kernel
theorem dX11_isHits_36 : decode cX11_isHits 36 = .ok (.i2l, 1) := by decide +kernel
theorem dX11_isHits_37 : decode cX11_isHits 37 = .ok (.lconst 0, 1) := by decide +kernel
theorem dX11_isHits_38 : decode cX11_isHits 38 = .ok (.iload_n 3, 1) := by decide +kernel
theorem dX11_isHits_39 : decode cX11_isHits 39 = .ok (.i2l, 1) := by decide +kernel
theorem dX11_isHits_40 : decode cX11_isHits 40 = .ok (.invokestatic 78, 3) := by decide +kernel
theorem dX11_isHits_43 : decode cX11_isHits 43 = .ok (.ifCond .eq 18, 3) := by decide +kernel
theorem dX11_isHits_46 : decode cX11_isHits 46 = .ok (.iload 4, 2) := by decide +kernel
theorem dX11_isHits_48 : decode cX11_isHits 48 = .ok (.i2l, 1) := by decide +kernel
theorem dX11_isHits_49 : decode cX11_isHits 49 = .ok (.lconst 0, 1) := by decide +kernel
theorem dX11_isHits_50 : decode cX11_isHits 50 = .ok (.lconst 1, 1) := by decide +kernel
theorem dX11_isHits_51 : decode cX11_isHits 51 = .ok (.invokestatic 78, 3) := by decide +kernel
theorem dX11_isHits_54 : decode cX11_isHits 54 = .ok (.ifCond .eq 7, 3) := by decide +kernel
theorem dX11_isHits_57 : decode cX11_isHits 57 = .ok (.iconst 1, 1) := by decide +kernel
theorem dX11_isHits_58 : decode cX11_isHits 58 = .ok (.goto 4, 3) := by decide +kernel
theorem dX11_isHits_61 : decode cX11_isHits 61 = .ok (.iconst 0, 1) := by decide +kernel
theorem dX11_isHits_62 : decode cX11_isHits 62 = .ok (.ireturn, 1) := by decide +kernel
set_option maxRecDepth 20000 in
theorem ggX11_above_X11_isHits : GoodIn wsX11_above wsX11_isHits := goodIn_r _ [8, 9, 10, 11, 12, 7, 13] (by decide +kernel) (by decide +kernel)
set_option maxRecDepth 20000 in
theorem gX11_above_X11_isHits : GoodIn wsX11_above (va_wsS RX11 84 yX11_isHits wsX11_isHits) := goodIn_app (goodIn_of _ (by decide +kernel)) ggX11_above_X11_isHits
set_option maxRecDepth 20000 in
theorem ggX11_above_X11_in : GoodIn wsX11_above wsX11_in := goodIn_r _ [13] (by decide +kernel) (by decide +kernel)
set_option maxRecDepth 20000 in
theorem gX11_above_X11_in : GoodIn wsX11_above (va_wsS RX11 78 yX11_in wsX11_in) := goodIn_app (goodIn_of _ (by decide +kernel)) ggX11_above_X11_in
set_option maxRecDepth 20000 in
theorem ggX11_above_X11_sumUp : GoodIn wsX11_above wsX11_sumUp := goodIn_r _ [17, 4, 18, 19, 20, 7, 21, 22, 23, 24, 25, 26, 27, 28, 29, 30, 31, 32, 33, 34, 35, 36, 37, 38, 39, 40, 41, 42, 43, 44, 45, 46, 47, 48, 49, 50, 51, 52, 53, 54, 55, 56, 57, 58, 59, 60, 61] (by decide +kernel) (by decide +kernel)
set_option maxRecDepth 20000 in
theorem gX11_above_X11_sumUp : GoodIn wsX11_above (wsV RX11 92 RX11 yX11_sumUp wsX11_sumUp) := goodIn_app (goodIn_of _ (by decide +kernel)) ggX11_above_X11_sumUp
theorem dX11_above_0 : decode cX11_above 0 = .ok (.aload_n 0, 1) := by decide +kernel
theorem dX11_above_1 : decode cX11_above 1 = .ok (.iconst 0, 1) := by decide +kernel
theorem dX11_above_2 : decode cX11_above 2 = .ok (.putfield 50, 3) := by decide +kernel
theorem dX11_above_5 : decode cX11_above 5 = .ok (.iload_n 1, 1) := by decide +kernel
theorem dX11_above_6 : decode cX11_above 6 = .ok (.iload_n 2, 1) := by decide +kernel
theorem dX11_above_7 : decode cX11_above 7 = .ok (.iload_n 3, 1) := by decide +kernel
theorem dX11_above_8 : decode cX11_above 8 = .ok (.iload 4, 2) := by decide +kernel
theorem dX11_above_10 : decode cX11_above 10 = .ok (.iload 5, 2) := by decide +kernel
theorem dX11_above_12 : decode cX11_above 12 = .ok (.invokestatic 84, 3) := by decide +kernel
theorem dX11_above_15 : decode cX11_above 15 = .ok (.ifCond .eq 16, 3) := by decide +kernel
theorem dX11_above_18 : decode cX11_above 18 = .ok (.iload 6, 2) := by decide +kernel
theorem dX11_above_20 : decode cX11_above 20 = .ok (.i2l, 1) := by decide +kernel
theorem dX11_above_21 : decode cX11_above 21 = .ok (.lconst 0, 1) := by decide +kernel
theorem dX11_above_22 : decode cX11_above 22 = .ok (.ldc2_w 88, 3) := by decide +kernel
theorem dX11_above_25 : decode cX11_above 25 = .ok (.invokestatic 78, 3) := by decide +kernel
theorem dX11_above_28 : decode cX11_above 28 = .ok (.ifCond .ne 7, 3) := by decide +kernel
theorem dX11_above_31 : decode cX11_above 31 = .ok (.ldc2_w 90, 3) := by decide +kernel
theorem dX11_above_34 : decode cX11_above 34 = .ok (.lreturn, 1) := by decide +kernel
theorem dX11_above_35 : decode cX11_above 35 = .ok (.aload_n 0, 1) := by decide +kernel
theorem dX11_above_36 : decode cX11_above 36 = .ok (.iload_n 1, 1) := by decide +kernel
theorem dX11_above_37 : decode cX11_above 37 = .ok (.iload_n 2, 1) := by decide +kernel
theorem dX11_above_38 : decode cX11_above 38 = .ok (.iload_n 3, 1) := by decide +kernel
theorem dX11_above_39 : decode cX11_above 39 = .ok (.iload 4, 2) := by decide +kernel
theorem dX11_above_41 : decode cX11_above 41 = .ok (.iload 5, 2) := by decide +kernel
theorem dX11_above_43 : decode cX11_above 43 = .ok (.invokevirtual 92, 3) := by decide +kernel
theorem dX11_above_46 : decode cX11_above 46 = .ok (.aload_n 0, 1) := by decide +kernel
theorem dX11_above_47 : decode cX11_above 47 = .ok (.getfield 7, 3) := by decide +kernel
theorem dX11_above_50 : decode cX11_above 50 = .ok (.iconst 2, 1) := by decide +kernel
theorem dX11_above_51 : decode cX11_above 51 = .ok (.iload 6, 2) := by decide +kernel
theorem dX11_above_53 : decode cX11_above 53 = .ok (.imul, 1) := by decide +kernel
theorem dX11_above_54 : decode cX11_above 54 = .ok (.iaload, 1) := by decide +kernel
theorem dX11_above_55 : decode cX11_above 55 = .ok (.i2l, 1) := by decide +kernel
theorem dX11_above_56 : decode cX11_above 56 = .ok (.aload_n 0, 1) := by decide +kernel
theorem dX11_above_57 : decode cX11_above 57 = .ok (.getfield 7, 3) := by decide +kernel
theorem dX11_above_60 : decode cX11_above 60 = .ok (.iconst 2, 1) := by decide +kernel
theorem dX11_above_61 : decode cX11_above 61 = .ok (.iload 6, 2) := by decide +kernel
theorem dX11_above_63 : decode cX11_above 63 = .ok (.imul, 1) := by decide +kernel
theorem dX11_above_64 : decode cX11_above 64 = .ok (.iconst 1, 1) := by decide +kernel
theorem dX11_above_65 : decode cX11_above 65 = .ok (.iadd, 1) := by decide +kernel
theorem dX11_above_66 : decode cX11_above 66 = .ok (.iaload, 1) := by decide +kernel
theorem dX11_above_67 : decode cX11_above 67 = .ok (.i2l, 1) := by decide +kernel
theorem dX11_above_68 : decode cX11_above 68 = .ok (.bipush 16, 2) := by decide +kernel
theorem dX11_above_70 : decode cX11_above 70 = .ok (.lshl, 1) := by decide +kernel
theorem dX11_above_71 : decode cX11_above 71 = .ok (.lor, 1) := by decide +kernel
theorem dX11_above_72 : decode cX11_above 72 = .ok (.lreturn, 1) := by decide +kernel
set_option maxRecDepth 20000 in
theorem ggX11_beside_X11_sumUp : GoodIn wsX11_beside wsX11_sumUp := goodIn_r _ [7, 1, 2, 8, 9, 6, 10, 11, 12, 13, 14, 15, 16, 17, 18, 19, 20, 21, 22, 23, 24, 31, 32, 33, 34, 35, 36, 37, 38, 39, 40, 41, 42, 43, 44, 45, 46, 47, 48, 49, 50, 51, 52, 53, 54, 55, 56] (by decide +kernel) (by decide +kernel)
set_option maxRecDepth 20000 in
theorem gX11_beside_X11_sumUp : GoodIn wsX11_beside (wsV RX11 92 RX11 yX11_sumUp wsX11_sumUp) := goodIn_app (goodIn_of _ (by decide +kernel)) ggX11_beside_X11_sumUp
set_option maxRecDepth 20000 in
theorem ggX11_beside_X11_times : GoodIn wsX11_beside wsX11_times := goodIn_r _ [17, 18] (by decide +kernel) (by decide +kernel)
set_option maxRecDepth 20000 in
theorem gX11_beside_X11_times : GoodIn wsX11_beside (va_wsS RX11 61 yX11_times wsX11_times) := goodIn_app (goodIn_of _ (by decide +kernel)) ggX11_beside_X11_times
set_option maxRecDepth 20000 in
theorem ggX11_beside_X11_power : GoodIn wsX11_beside wsX11_power := goodIn_r _ [27, 8, 9, 6, 10, 11, 15, 16, 17, 18] (by decide +kernel) (by decide +kernel)
set_option maxRecDepth 20000 in
theorem gX11_beside_X11_power : GoodIn wsX11_beside (va_wsS RX11 96 yX11_power wsX11_power) := goodIn_app (goodIn_of _ (by decide +kernel)) ggX11_beside_X11_power
set_option maxRecDepth 20000 in
theorem ggX11_beside_X11_compared : GoodIn wsX11_beside wsX11_compared := goodIn_r _ [30] (by decide +kernel) (by decide +kernel)
set_option maxRecDepth 20000 in
theorem gX11_beside_X11_compared : GoodIn wsX11_beside (va_wsS RX11 100 yX11_compared wsX11_compared) := goodIn_app (goodIn_of _ (by decide +kernel)) ggX11_beside_X11_compared
theorem dX11_beside_0 : decode cX11_beside 0 = .ok (.aload_n 0, 1) := by decide +kernel
theorem dX11_beside_1 : decode cX11_beside 1 = .ok (.iload_n 1, 1) := by decide +kernel
theorem dX11_beside_2 : decode cX11_beside 2 = .ok (.iload_n 2, 1) := by decide +kernel
theorem dX11_beside_3 : decode cX11_beside 3 = .ok (.iload_n 3, 1) := by decide +kernel
theorem dX11_beside_4 : decode cX11_beside 4 = .ok (.iload 4, 2) := by decide +kernel
theorem dX11_beside_6 : decode cX11_beside 6 = .ok (.iload 5, 2) := by decide +kernel
theorem dX11_beside_8 : decode cX11_beside 8 = .ok (.invokevirtual 92, 3) := by decide +kernel
theorem dX11_beside_11 : decode cX11_beside 11 = .ok (.aload_n 0, 1) := by decide +kernel
theorem dX11_beside_12 : decode cX11_beside 12 = .ok (.getfield 7, 3) := by decide +kernel
theorem dX11_beside_15 : decode cX11_beside 15 = .ok (.iload 7, 2) := by decide +kernel
theorem dX11_beside_17 : decode cX11_beside 17 = .ok (.i2l, 1) := by decide +kernel
theorem dX11_beside_18 : decode cX11_beside 18 = .ok (.invokestatic 61, 3) := by decide +kernel
theorem dX11_beside_21 : decode cX11_beside 21 = .ok (.aload_n 0, 1) := by decide +kernel
theorem dX11_beside_22 : decode cX11_beside 22 = .ok (.getfield 13, 3) := by decide +kernel
theorem dX11_beside_25 : decode cX11_beside 25 = .ok (.iload 4, 2) := by decide +kernel
theorem dX11_beside_27 : decode cX11_beside 27 = .ok (.iload_n 1, 1) := by decide +kernel
theorem dX11_beside_28 : decode cX11_beside 28 = .ok (.invokestatic 96, 3) := by decide +kernel
theorem dX11_beside_31 : decode cX11_beside 31 = .ok (.aload_n 0, 1) := by decide +kernel
theorem dX11_beside_32 : decode cX11_beside 32 = .ok (.getfield 13, 3) := by decide +kernel
theorem dX11_beside_35 : decode cX11_beside 35 = .ok (.iload 6, 2) := by decide +kernel
theorem dX11_beside_37 : decode cX11_beside 37 = .ok (.i2l, 1) := by decide +kernel
theorem dX11_beside_38 : decode cX11_beside 38 = .ok (.invokestatic 61, 3) := by decide +kernel
theorem dX11_beside_41 : decode cX11_beside 41 = .ok (.aload_n 0, 1) := by decide +kernel
theorem dX11_beside_42 : decode cX11_beside 42 = .ok (.getfield 7, 3) := by decide +kernel
theorem dX11_beside_45 : decode cX11_beside 45 = .ok (.aload_n 0, 1) := by decide +kernel
theorem dX11_beside_46 : decode cX11_beside 46 = .ok (.getfield 13, 3) := by decide +kernel
theorem dX11_beside_49 : decode cX11_beside 49 = .ok (.invokestatic 100, 3) := by decide +kernel
theorem dX11_beside_52 : decode cX11_beside 52 = .ok (.ireturn, 1) := by decide +kernel
set_option maxRecDepth 20000 in
theorem ggX11_odds_X11_isHits : GoodIn wsX11_odds wsX11_isHits := goodIn_r _ [6, 7, 2, 8, 9, 5, 10] (by decide +kernel) (by decide +kernel)
set_option maxRecDepth 20000 in
theorem gX11_odds_X11_isHits : GoodIn wsX11_odds (va_wsS RX11 84 yX11_isHits wsX11_isHits) := goodIn_app (goodIn_of _ (by decide +kernel)) ggX11_odds_X11_isHits
set_option maxRecDepth 20000 in
theorem ggX11_odds_X11_in : GoodIn wsX11_odds wsX11_in := goodIn_r _ [10] (by decide +kernel) (by decide +kernel)
set_option maxRecDepth 20000 in
theorem gX11_odds_X11_in : GoodIn wsX11_odds (va_wsS RX11 78 yX11_in wsX11_in) := goodIn_app (goodIn_of _ (by decide +kernel)) ggX11_odds_X11_in
set_option maxRecDepth 20000 in
theorem ggX11_odds_X11_beside : GoodIn wsX11_odds wsX11_beside := goodIn_r _ [14, 15, 16, 17, 18, 19, 5, 20, 21, 22, 23, 24, 25, 26, 27, 28, 29, 30, 31, 32, 33, 34, 35, 36, 37, 38, 39, 40, 41, 42, 43, 44, 45, 46, 47, 48, 49, 50, 51, 52, 53, 54, 55, 56, 57, 58, 59, 60, 61, 62, 63, 64, 65, 66, 67, 68, 69] (by decide +kernel) (by decide +kernel)
set_option maxRecDepth 20000 in
theorem gX11_odds_X11_beside : GoodIn wsX11_odds (wsV RX11 104 RX11 yX11_beside wsX11_beside) := goodIn_app (goodIn_of _ (by decide +kernel)) ggX11_odds_X11_beside
theorem dX11_odds_0 : decode cX11_odds 0 = .ok (.aload_n 0, 1) := by decide +kernel
theorem dX11_odds_1 : decode cX11_odds 1 = .ok (.iconst 0, 1) := by decide +kernel
theorem dX11_odds_2 : decode cX11_odds 2 = .ok (.putfield 50, 3) := by decide +kernel
theorem dX11_odds_5 : decode cX11_odds 5 = .ok (.iload_n 1, 1) := by decide +kernel
theorem dX11_odds_6 : decode cX11_odds 6 = .ok (.iload_n 2, 1) := by decide +kernel
theorem dX11_odds_7 : decode cX11_odds 7 = .ok (.iload_n 3, 1) := by decide +kernel
theorem dX11_odds_8 : decode cX11_odds 8 = .ok (.iload 4, 2) := by decide +kernel
theorem dX11_odds_10 : decode cX11_odds 10 = .ok (.iload 5, 2) := by decide +kernel
theorem dX11_odds_12 : decode cX11_odds 12 = .ok (.invokestatic 84, 3) := by decide +kernel
theorem dX11_odds_15 : decode cX11_odds 15 = .ok (.ifCond .eq 29, 3) := by decide +kernel
theorem dX11_odds_18 : decode cX11_odds 18 = .ok (.iload 7, 2) := by decide +kernel
theorem dX11_odds_20 : decode cX11_odds 20 = .ok (.i2l, 1) := by decide +kernel
theorem dX11_odds_21 : decode cX11_odds 21 = .ok (.lconst 1, 1) := by decide +kernel
theorem dX11_odds_22 : decode cX11_odds 22 = .ok (.ldc2_w 82, 3) := by decide +kernel
theorem dX11_odds_25 : decode cX11_odds 25 = .ok (.invokestatic 78, 3) := by decide +kernel
theorem dX11_odds_28 : decode cX11_odds 28 = .ok (.ifCond .eq 16, 3) := by decide +kernel
theorem dX11_odds_31 : decode cX11_odds 31 = .ok (.iload 6, 2) := by decide +kernel
theorem dX11_odds_33 : decode cX11_odds 33 = .ok (.i2l, 1) := by decide +kernel
theorem dX11_odds_34 : decode cX11_odds 34 = .ok (.lconst 0, 1) := by decide +kernel
theorem dX11_odds_35 : decode cX11_odds 35 = .ok (.iload 7, 2) := by decide +kernel
theorem dX11_odds_37 : decode cX11_odds 37 = .ok (.i2l, 1) := by decide +kernel
theorem dX11_odds_38 : decode cX11_odds 38 = .ok (.invokestatic 78, 3) := by decide +kernel
theorem dX11_odds_41 : decode cX11_odds 41 = .ok (.ifCond .ne 5, 3) := by decide +kernel
theorem dX11_odds_44 : decode cX11_odds 44 = .ok (.iconst (-1), 1) := by decide +kernel
theorem dX11_odds_45 : decode cX11_odds 45 = .ok (.ireturn, 1) := by decide +kernel
theorem dX11_odds_46 : decode cX11_odds 46 = .ok (.iconst 1, 1) := by decide +kernel
theorem dX11_odds_47 : decode cX11_odds 47 = .ok (.aload_n 0, 1) := by decide +kernel
theorem dX11_odds_48 : decode cX11_odds 48 = .ok (.iload_n 1, 1) := by decide +kernel
theorem dX11_odds_49 : decode cX11_odds 49 = .ok (.iload_n 2, 1) := by decide +kernel
theorem dX11_odds_50 : decode cX11_odds 50 = .ok (.iload_n 3, 1) := by decide +kernel
theorem dX11_odds_51 : decode cX11_odds 51 = .ok (.iload 4, 2) := by decide +kernel
theorem dX11_odds_53 : decode cX11_odds 53 = .ok (.iload 5, 2) := by decide +kernel
theorem dX11_odds_55 : decode cX11_odds 55 = .ok (.iload 6, 2) := by decide +kernel
theorem dX11_odds_57 : decode cX11_odds 57 = .ok (.iload 7, 2) := by decide +kernel
theorem dX11_odds_59 : decode cX11_odds 59 = .ok (.invokevirtual 104, 3) := by decide +kernel
theorem dX11_odds_62 : decode cX11_odds 62 = .ok (.iadd, 1) := by decide +kernel
theorem dX11_odds_63 : decode cX11_odds 63 = .ok (.ireturn, 1) := by decide +kernel
set_option maxRecDepth 20000 in
theorem ggX11_isTrust_X11_in : GoodIn wsX11_isTrust wsX11_in := goodIn_r _ [6] (by decide +kernel) (by decide +kernel)
set_option maxRecDepth 20000 in
theorem gX11_isTrust_X11_in : GoodIn wsX11_isTrust (va_wsS RX11 78 yX11_in wsX11_in) := goodIn_app (goodIn_of _ (by decide +kernel)) ggX11_isTrust_X11_in
theorem dX11_isTrust_0 : decode cX11_isTrust 0 = .ok (.iload_n 1, 1) := by decide +kernel
theorem dX11_isTrust_1 : decode cX11_isTrust 1 = .ok (.i2l, 1) := by decide +kernel
theorem dX11_isTrust_2 : decode cX11_isTrust 2 = .ok (.ldc2_w 108, 3) := by decide +kernel
theorem dX11_isTrust_5 : decode cX11_isTrust 5 = .ok (.ldc2_w 82, 3) := by decide +kernel
theorem dX11_isTrust_8 : decode cX11_isTrust 8 = .ok (.invokestatic 78, 3) := by decide +kernel
theorem dX11_isTrust_11 : decode cX11_isTrust 11 = .ok (.ifCond .eq 20, 3) := by decide +kernel
theorem dX11_isTrust_14 : decode cX11_isTrust 14 = .ok (.iload_n 0, 1) := by decide +kernel
theorem dX11_isTrust_15 : decode cX11_isTrust 15 = .ok (.i2l, 1) := by decide +kernel
theorem dX11_isTrust_16 : decode cX11_isTrust 16 = .ok (.lconst 1, 1) := by decide +kernel
theorem dX11_isTrust_17 : decode cX11_isTrust 17 = .ok (.iload_n 1, 1) := by decide +kernel
theorem dX11_isTrust_18 : decode cX11_isTrust 18 = .ok (.iconst 1, 1) := by decide +kernel
theorem dX11_isTrust_19 : decode cX11_isTrust 19 = .ok (.isub, 1) := by decide +kernel
theorem dX11_isTrust_20 : decode cX11_isTrust 20 = .ok (.i2l, 1) := by decide +kernel
theorem dX11_isTrust_21 : decode cX11_isTrust 21 = .ok (.invokestatic 78, 3) := by decide +kernel
theorem dX11_isTrust_24 : decode cX11_isTrust 24 = .ok (.ifCond .eq 7, 3) := by decide +kernel
theorem dX11_isTrust_27 : decode cX11_isTrust 27 = .ok (.iconst 1, 1) := by decide +kernel
theorem dX11_isTrust_28 : decode cX11_isTrust 28 = .ok (.goto 4, 3) := by decide +kernel
theorem dX11_isTrust_31 : decode cX11_isTrust 31 = .ok (.iconst 0, 1) := by decide +kernel
theorem dX11_isTrust_32 : decode cX11_isTrust 32 = .ok (.ireturn, 1) := by decide +kernel
set_option maxRecDepth 20000 in
theorem ggX11_bound_X11_in : GoodIn wsX11_bound wsX11_in := goodIn_r _ [6] (by decide +kernel) (by decide +kernel)
set_option maxRecDepth 20000 in
theorem gX11_bound_X11_in : GoodIn wsX11_bound (va_wsS RX11 78 yX11_in wsX11_in) := goodIn_app (goodIn_of _ (by decide +kernel)) ggX11_bound_X11_in
set_option maxRecDepth 20000 in
theorem ggX11_bound_X11_isTrust : GoodIn wsX11_bound wsX11_isTrust := goodIn_r _ [9, 10, 11, 3, 4, 5, 6] (by decide +kernel) (by decide +kernel)
set_option maxRecDepth 20000 in
theorem gX11_bound_X11_isTrust : GoodIn wsX11_bound (va_wsS RX11 110 yX11_isTrust wsX11_isTrust) := goodIn_app (goodIn_of _ (by decide +kernel)) ggX11_bound_X11_isTrust
set_option maxRecDepth 20000 in
theorem ggX11_bound_X11_beside : GoodIn wsX11_bound wsX11_beside := goodIn_r _ [15, 16, 17, 18, 19, 20, 5, 21, 22, 23, 24, 25, 26, 27, 28, 29, 30, 31, 32, 33, 34, 35, 36, 37, 38, 39, 40, 41, 42, 43, 44, 45, 46, 47, 48, 49, 50, 51, 52, 53, 54, 55, 56, 57, 58, 59, 60, 61, 62, 63, 64, 65, 66, 67, 68, 69, 70] (by decide +kernel) (by decide +kernel)
set_option maxRecDepth 20000 in
theorem gX11_bound_X11_beside : GoodIn wsX11_bound (wsV RX11 104 RX11 yX11_beside wsX11_beside) := goodIn_app (goodIn_of _ (by decide +kernel)) ggX11_bound_X11_beside
theorem dX11_bound_0 : decode cX11_bound 0 = .ok (.aload_n 0, 1) := by decide +kernel
theorem dX11_bound_1 : decode cX11_bound 1 = .ok (.iconst 0, 1) := by decide +kernel
theorem dX11_bound_2 : decode cX11_bound 2 = .ok (.putfield 50, 3) := by decide +kernel
theorem dX11_bound_5 : decode cX11_bound 5 = .ok (.iload_n 1, 1) := by decide +kernel
theorem dX11_bound_6 : decode cX11_bound 6 = .ok (.i2l, 1) := by decide +kernel
theorem dX11_bound_7 : decode cX11_bound 7 = .ok (.lconst 1, 1) := by decide +kernel
theorem dX11_bound_8 : decode cX11_bound 8 = .ok (.ldc2_w 76, 3) := by decide +kernel
theorem dX11_bound_11 : decode cX11_bound 11 = .ok (.invokestatic 78, 3) := by decide +kernel
theorem dX11_bound_14 : decode cX11_bound 14 = .ok (.ifCond .eq 24, 3) := by decide +kernel
theorem dX11_bound_17 : decode cX11_bound 17 = .ok (.iload_n 2, 1) := by decide +kernel
theorem dX11_bound_18 : decode cX11_bound 18 = .ok (.i2l, 1) := by decide +kernel
theorem dX11_bound_19 : decode cX11_bound 19 = .ok (.lconst 0, 1) := by decide +kernel
theorem dX11_bound_20 : decode cX11_bound 20 = .ok (.iload_n 1, 1) := by decide +kernel
theorem dX11_bound_21 : decode cX11_bound 21 = .ok (.i2l, 1) := by decide +kernel
theorem dX11_bound_22 : decode cX11_bound 22 = .ok (.invokestatic 78, 3) := by decide +kernel
theorem dX11_bound_25 : decode cX11_bound 25 = .ok (.ifCond .eq 13, 3) := by decide +kernel
theorem dX11_bound_28 : decode cX11_bound 28 = .ok (.iload_n 3, 1) := by decide +kernel
theorem dX11_bound_29 : decode cX11_bound 29 = .ok (.i2l, 1) := by decide +kernel
theorem dX11_bound_30 : decode cX11_bound 30 = .ok (.lconst 0, 1) := by decide +kernel
theorem dX11_bound_31 : decode cX11_bound 31 = .ok (.lconst 1, 1) := by decide +kernel
theorem dX11_bound_32 : decode cX11_bound 32 = .ok (.invokestatic 78, 3) := by decide +kernel
theorem dX11_bound_35 : decode cX11_bound 35 = .ok (.ifCond .ne 5, 3) := by decide +kernel
theorem dX11_bound_38 : decode cX11_bound 38 = .ok (.iconst (-1), 1) := by decide +kernel
theorem dX11_bound_39 : decode cX11_bound 39 = .ok (.ireturn, 1) := by decide +kernel
theorem dX11_bound_40 : decode cX11_bound 40 = .ok (.iload 4, 2) := by decide +kernel
theorem dX11_bound_42 : decode cX11_bound 42 = .ok (.iload 5, 2) := by decide +kernel
theorem dX11_bound_44 : decode cX11_bound 44 = .ok (.invokestatic 110, 3) := by decide +kernel
theorem dX11_bound_47 : decode cX11_bound 47 = .ok (.ifCond .ne 10, 3) := by decide +kernel
theorem dX11_bound_50 : decode cX11_bound 50 = .ok (.aload_n 0, 1) := by decide +kernel
theorem dX11_bound_51 : decode cX11_bound 51 = .ok (.iconst 1, 1) := by decide +kernel
theorem dX11_bound_52 : decode cX11_bound 52 = .ok (.putfield 50, 3) := by decide +kernel
theorem dX11_bound_55 : decode cX11_bound 55 = .ok (.iconst 0, 1) := by decide +kernel
theorem dX11_bound_56 : decode cX11_bound 56 = .ok (.ireturn, 1) := by decide +kernel
theorem dX11_bound_57 : decode cX11_bound 57 = .ok (.iconst 0, 1) := by decide +kernel
theorem dX11_bound_58 : decode cX11_bound 58 = .ok (.istore 6, 2) := by decide +kernel
theorem dX11_bound_60 : decode cX11_bound 60 = .ok (.sipush 1000, 3) := by decide +kernel
theorem dX11_bound_63 : decode cX11_bound 63 = .ok (.istore 7, 2) := by decide +kernel
theorem dX11_bound_65 : decode cX11_bound 65 = .ok (.iload 6, 2) := by decide +kernel
theorem dX11_bound_67 : decode cX11_bound 67 = .ok (.iload 7, 2) := by decide +kernel
theorem dX11_bound_69 : decode cX11_bound 69 = .ok (.if_icmp .ge 126, 3) := by decide +kernel
theorem dX11_bound_72 : decode cX11_bound 72 = .ok (.iload_n 3, 1) := by decide +kernel
theorem dX11_bound_73 : decode cX11_bound 73 = .ok (.ifCond .ne 13, 3) := by decide +kernel
theorem dX11_bound_76 : decode cX11_bound 76 = .ok (.iload 6, 2) := by decide +kernel
theorem dX11_bound_78 : decode cX11_bound 78 = .ok (.iload 7, 2) := by decide +kernel
theorem dX11_bound_80 : decode cX11_bound 80 = .ok (.iadd, 1) := by decide +kernel
theorem dX11_bound_81 : decode cX11_bound 81 = .ok (.iconst 2, 1) := by decide +kernel
theorem dX11_bound_82 : decode cX11_bound 82 = .ok (.idiv, 1) := by decide +kernel
theorem dX11_bound_83 : decode cX11_bound 83 = .ok (.goto 12, 3) := by decide +kernel
theorem dX11_bound_86 : decode cX11_bound 86 = .ok (.iload 6, 2) := by decide +kernel
theorem dX11_bound_88 : decode cX11_bound 88 = .ok (.iload 7, 2) := by decide +kernel
theorem dX11_bound_90 : decode cX11_bound 90 = .ok (.iadd, 1) := by decide +kernel
theorem dX11_bound_91 : decode cX11_bound 91 = .ok (.iconst 1, 1) := by decide +kernel
theorem dX11_bound_92 : decode cX11_bound 92 = .ok (.iadd, 1) := by decide +kernel
theorem dX11_bound_93 : decode cX11_bound 93 = .ok (.iconst 2, 1) := by decide +kernel
theorem dX11_bound_94 : decode cX11_bound 94 = .ok (.idiv, 1) := by decide +kernel
theorem dX11_bound_95 : decode cX11_bound 95 = .ok (.istore 8, 2) := by decide +kernel
theorem dX11_bound_97 : decode cX11_bound 97 = .ok (.aload_n 0, 1) := by decide +kernel
theorem dX11_bound_98 : decode cX11_bound 98 = .ok (.iload_n 1, 1) := by decide +kernel
theorem dX11_bound_99 : decode cX11_bound 99 = .ok (.iload_n 2, 1) := by decide +kernel
theorem dX11_bound_100 : decode cX11_bound 100 = .ok (.iload 8, 2) := by decide +kernel
theorem dX11_bound_102 : decode cX11_bound 102 = .ok (.sipush 1000, 3) := by decide +kernel
theorem dX11_bound_105 : decode cX11_bound 105 = .ok (.iconst 1, 1) := by decide +kernel
theorem dX11_bound_106 : decode cX11_bound 106 = .ok (.iload_n 3, 1) := by decide +kernel
theorem dX11_bound_107 : decode cX11_bound 107 = .ok (.isub, 1) := by decide +kernel
theorem dX11_bound_108 : decode cX11_bound 108 = .ok (.iload 4, 2) := by decide +kernel
theorem dX11_bound_110 : decode cX11_bound 110 = .ok (.iload 5, 2) := by decide +kernel
theorem dX11_bound_112 : decode cX11_bound 112 = .ok (.invokevirtual 104, 3) := by decide +kernel
theorem dX11_bound_115 : decode cX11_bound 115 = .ok (.ifCond .gt 7, 3) := by decide +kernel
theorem dX11_bound_118 : decode cX11_bound 118 = .ok (.iconst 1, 1) := by decide +kernel
theorem dX11_bound_119 : decode cX11_bound 119 = .ok (.goto 4, 3) := by decide +kernel
theorem dX11_bound_122 : decode cX11_bound 122 = .ok (.iconst 0, 1) := by decide +kernel
theorem dX11_bound_123 : decode cX11_bound 123 = .ok (.istore 9, 2) := by decide +kernel
theorem dX11_bound_125 : decode cX11_bound 125 = .ok (.iload_n 3, 1) := by decide +kernel
theorem dX11_bound_126 : decode cX11_bound 126 = .ok (.ifCond .ne 36, 3) := by decide +kernel
theorem dX11_bound_129 : decode cX11_bound 129 = .ok (.iload 9, 2) := by decide +kernel
theorem dX11_bound_131 : decode cX11_bound 131 = .ok (.ifCond .eq 8, 3) := by decide +kernel
theorem dX11_bound_134 : decode cX11_bound 134 = .ok (.iload 8, 2) := by decide +kernel
theorem dX11_bound_136 : decode cX11_bound 136 = .ok (.goto 5, 3) := by decide +kernel
theorem dX11_bound_139 : decode cX11_bound 139 = .ok (.iload 7, 2) := by decide +kernel
theorem dX11_bound_141 : decode cX11_bound 141 = .ok (.istore 7, 2) := by decide +kernel
theorem dX11_bound_143 : decode cX11_bound 143 = .ok (.iload 9, 2) := by decide +kernel
theorem dX11_bound_145 : decode cX11_bound 145 = .ok (.ifCond .eq 8, 3) := by decide +kernel
theorem dX11_bound_148 : decode cX11_bound 148 = .ok (.iload 6, 2) := by decide +kernel
theorem dX11_bound_150 : decode cX11_bound 150 = .ok (.goto 7, 3) := by decide +kernel
theorem dX11_bound_153 : decode cX11_bound 153 = .ok (.iload 8, 2) := by decide +kernel
theorem dX11_bound_155 : decode cX11_bound 155 = .ok (.iconst 1, 1) := by decide +kernel
theorem dX11_bound_156 : decode cX11_bound 156 = .ok (.iadd, 1) := by decide +kernel
theorem dX11_bound_157 : decode cX11_bound 157 = .ok (.istore 6, 2) := by decide +kernel
theorem dX11_bound_159 : decode cX11_bound 159 = .ok (.goto 33, 3) := by decide +kernel
theorem dX11_bound_162 : decode cX11_bound 162 = .ok (.iload 9, 2) := by decide +kernel
theorem dX11_bound_164 : decode cX11_bound 164 = .ok (.ifCond .eq 8, 3) := by decide +kernel
theorem dX11_bound_167 : decode cX11_bound 167 = .ok (.iload 8, 2) := by decide +kernel
theorem dX11_bound_169 : decode cX11_bound 169 = .ok (.goto 5, 3) := by decide +kernel
theorem dX11_bound_172 : decode cX11_bound 172 = .ok (.iload 6, 2) := by decide +kernel
theorem dX11_bound_174 : decode cX11_bound 174 = .ok (.istore 6, 2) := by decide +kernel
theorem dX11_bound_176 : decode cX11_bound 176 = .ok (.iload 9, 2) := by decide +kernel
theorem dX11_bound_178 : decode cX11_bound 178 = .ok (.ifCond .eq 8, 3) := by decide +kernel
theorem dX11_bound_181 : decode cX11_bound 181 = .ok (.iload 7, 2) := by decide +kernel
theorem dX11_bound_183 : decode cX11_bound 183 = .ok (.goto 7, 3) := by decide +kernel
theorem dX11_bound_186 : decode cX11_bound 186 = .ok (.iload 8, 2) := by decide +kernel
theorem dX11_bound_188 : decode cX11_bound 188 = .ok (.iconst 1, 1) := by decide +kernel
theorem dX11_bound_189 : decode cX11_bound 189 = .ok (.isub, 1) := by decide +kernel
theorem dX11_bound_190 : decode cX11_bound 190 = .ok (.istore 7, 2) := by decide +kernel
theorem dX11_bound_192 : decode cX11_bound 192 = .ok (.goto (-127), 3) := by decide +kernel
theorem dX11_bound_195 : decode cX11_bound 195 = .ok (.iload 6, 2) := by decide +kernel
theorem dX11_bound_197 : decode cX11_bound 197 = .ok (.ireturn, 1) := by decide +kernel
theorem dX11_unite_0 : decode cX11_unite 0 = .ok (.aload_n 0, 1) := by decide +kernel
theorem dX11_unite_1 : decode cX11_unite 1 = .ok (.iconst 0, 1) := by decide +kernel
theorem dX11_unite_2 : decode cX11_unite 2 = .ok (.putfield 114, 3) := by decide +kernel
theorem dX11_unite_5 : decode cX11_unite 5 = .ok (.iconst 0, 1) := by decide +kernel
theorem dX11_unite_6 : decode cX11_unite 6 = .ok (.istore_n 2, 1) := by decide +kernel
theorem dX11_unite_7 : decode cX11_unite 7 = .ok (.iload_n 2, 1) := by decide +kernel
theorem dX11_unite_8 : decode cX11_unite 8 = .ok (.iload_n 1, 1) := by decide +kernel
theorem dX11_unite_9 : decode cX11_unite 9 = .ok (.ifCond .eq 8, 3) := by decide +kernel
theorem dX11_unite_12 : decode cX11_unite 12 = .ok (.bipush 8, 2) := by decide +kernel
theorem dX11_unite_14 : decode cX11_unite 14 = .ok (.goto 7, 3) := by decide +kernel
theorem dX11_unite_17 : decode cX11_unite 17 = .ok (.aload_n 0, 1) := by decide +kernel
theorem dX11_unite_18 : decode cX11_unite 18 = .ok (.getfield 117, 3) := by decide +kernel
theorem dX11_unite_21 : decode cX11_unite 21 = .ok (.if_icmp .ge 113, 3) := by decide +kernel
theorem dX11_unite_24 : decode cX11_unite 24 = .ok (.iconst 0, 1) := by decide +kernel
theorem dX11_unite_25 : decode cX11_unite 25 = .ok (.istore_n 3, 1) := by decide +kernel
theorem dX11_unite_26 : decode cX11_unite 26 = .ok (.iconst 0, 1) := by decide +kernel
theorem dX11_unite_27 : decode cX11_unite 27 = .ok (.istore 4, 2) := by decide +kernel
theorem dX11_unite_29 : decode cX11_unite 29 = .ok (.iconst 0, 1) := by decide +kernel
theorem dX11_unite_30 : decode cX11_unite 30 = .ok (.istore 5, 2) := by decide +kernel
theorem dX11_unite_32 : decode cX11_unite 32 = .ok (.iload 5, 2) := by decide +kernel
theorem dX11_unite_34 : decode cX11_unite 34 = .ok (.aload_n 0, 1) := by decide +kernel
theorem dX11_unite_35 : decode cX11_unite 35 = .ok (.getfield 117, 3) := by decide +kernel
theorem dX11_unite_38 : decode cX11_unite 38 = .ok (.if_icmp .ge 54, 3) := by decide +kernel
theorem dX11_unite_41 : decode cX11_unite 41 = .ok (.iload_n 1, 1) := by decide +kernel
theorem dX11_unite_42 : decode cX11_unite 42 = .ok (.ifCond .eq 17, 3) := by decide +kernel
theorem dX11_unite_45 : decode cX11_unite 45 = .ok (.aload_n 0, 1) := by decide +kernel
theorem dX11_unite_46 : decode cX11_unite 46 = .ok (.getfield 16, 3) := by decide +kernel
theorem dX11_unite_49 : decode cX11_unite 49 = .ok (.iload 5, 2) := by decide +kernel
theorem dX11_unite_51 : decode cX11_unite 51 = .ok (.iaload, 1) := by decide +kernel
theorem dX11_unite_52 : decode cX11_unite 52 = .ok (.iload_n 2, 1) := by decide +kernel
theorem dX11_unite_53 : decode cX11_unite 53 = .ok (.if_icmp .ne 33, 3) := by decide +kernel
theorem dX11_unite_56 : decode cX11_unite 56 = .ok (.goto 9, 3) := by decide +kernel
theorem dX11_unite_59 : decode cX11_unite 59 = .ok (.iload 5, 2) := by decide +kernel
theorem dX11_unite_61 : decode cX11_unite 61 = .ok (.iload_n 2, 1) := by decide +kernel
theorem dX11_unite_62 : decode cX11_unite 62 = .ok (.if_icmp .ne 24, 3) := by decide +kernel
theorem dX11_unite_65 : decode cX11_unite 65 = .ok (.iload_n 3, 1) := by decide +kernel
theorem dX11_unite_66 : decode cX11_unite 66 = .ok (.aload_n 0, 1) := by decide +kernel
theorem dX11_unite_67 : decode cX11_unite 67 = .ok (.getfield 19, 3) := by decide +kernel
theorem dX11_unite_70 : decode cX11_unite 70 = .ok (.iload 5, 2) := by decide +kernel
theorem dX11_unite_72 : decode cX11_unite 72 = .ok (.iaload, 1) := by decide +kernel
theorem dX11_unite_73 : decode cX11_unite 73 = .ok (.aload_n 0, 1) := by decide +kernel
theorem dX11_unite_74 : decode cX11_unite 74 = .ok (.getfield 22, 3) := by decide +kernel
theorem dX11_unite_77 : decode cX11_unite 77 = .ok (.iload 5, 2) := by decide +kernel
theorem dX11_unite_79 : decode cX11_unite 79 = .ok (.iaload, 1) := by decide +kernel
theorem dX11_unite_80 : decode cX11_unite 80 = .ok (.isub, 1) := by decide +kernel
theorem dX11_unite_81 : decode cX11_unite 81 = .ok (.iadd, 1) := by decide +kernel
theorem dX11_unite_82 : decode cX11_unite 82 = .ok (.istore_n 3, 1) := by decide +kernel
theorem dX11_unite_83 : decode cX11_unite 83 = .ok (.iinc 4 1, 3) := by decide +kernel
theorem dX11_unite_86 : decode cX11_unite 86 = .ok (.iinc 5 1, 3) := by decide +kernel
theorem dX11_unite_89 : decode cX11_unite 89 = .ok (.goto (-57), 3) := by decide +kernel
theorem dX11_unite_92 : decode cX11_unite 92 = .ok (.iload 4, 2) := by decide +kernel
theorem dX11_unite_94 : decode cX11_unite 94 = .ok (.ifCond .le 34, 3) := by decide +kernel
theorem dX11_unite_97 : decode cX11_unite 97 = .ok (.aload_n 0, 1) := by decide +kernel
theorem dX11_unite_98 : decode cX11_unite 98 = .ok (.getfield 25, 3) := by decide +kernel
theorem dX11_unite_101 : decode cX11_unite 101 = .ok (.aload_n 0, 1) := by decide +kernel
theorem dX11_unite_102 : decode cX11_unite 102 = .ok (.getfield 114, 3) := by decide +kernel
theorem dX11_unite_105 : decode cX11_unite 105 = .ok (.iload_n 3, 1) := by decide +kernel
theorem dX11_unite_106 : decode cX11_unite 106 = .ok (.iastore, 1) := by decide +kernel
theorem dX11_unite_107 : decode cX11_unite 107 = .ok (.aload_n 0, 1) := by decide +kernel
theorem dX11_unite_108 : decode cX11_unite 108 = .ok (.getfield 28, 3) := by decide +kernel
theorem dX11_unite_111 : decode cX11_unite 111 = .ok (.aload_n 0, 1) := by decide +kernel
theorem dX11_unite_112 : decode cX11_unite 112 = .ok (.getfield 114, 3) := by decide +kernel
theorem dX11_unite_115 : decode cX11_unite 115 = .ok (.iload 4, 2) := by decide +kernel
theorem dX11_unite_117 : decode cX11_unite 117 = .ok (.iastore, 1) := by decide +kernel
theorem dX11_unite_118 : decode cX11_unite 118 = .ok (.aload_n 0, 1) := by decide +kernel
theorem dX11_unite_119 : decode cX11_unite 119 = .ok (.dup, 1) := by decide +kernel
theorem dX11_unite_120 : decode cX11_unite 120 = .ok (.getfield 114, 3) := by decide +kernel
theorem dX11_unite_123 : decode cX11_unite 123 = .ok (.iconst 1, 1) := by decide +kernel
theorem dX11_unite_124 : decode cX11_unite 124 = .ok (.iadd, 1) := by decide +kernel
theorem dX11_unite_125 : decode cX11_unite 125 = .ok (.putfield 114, 3) := by decide +kernel
theorem dX11_unite_128 : decode cX11_unite 128 = .ok (.iinc 2 1, 3) := by decide +kernel
theorem dX11_unite_131 : decode cX11_unite 131 = .ok (.goto (-124), 3) := by decide +kernel
theorem dX11_unite_134 : decode cX11_unite 134 = .ok (.return_, 1) := by decide +kernel
set_option maxRecDepth 20000 in
theorem ggX11_row_X11_in : GoodIn wsX11_row wsX11_in := goodIn_r _ [11] (by decide +kernel) (by decide +kernel)
set_option maxRecDepth 20000 in
theorem gX11_row_X11_in : GoodIn wsX11_row (va_wsS RX11 78 yX11_in wsX11_in) := goodIn_app (goodIn_of _ (by decide +kernel)) ggX11_row_X11_in
theorem dX11_row_0 : decode cX11_row 0 = .ok (.aload_n 0, 1) := by decide +kernel
theorem dX11_row_1 : decode cX11_row 1 = .ok (.iconst 0, 1) := by decide +kernel
theorem dX11_row_2 : decode cX11_row 2 = .ok (.putfield 50, 3) := by decide +kernel
theorem dX11_row_5 : decode cX11_row 5 = .ok (.iload_n 1, 1) := by decide +kernel
theorem dX11_row_6 : decode cX11_row 6 = .ok (.i2l, 1) := by decide +kernel
theorem dX11_row_7 : decode cX11_row 7 = .ok (.lconst 0, 1) := by decide +kernel
theorem dX11_row_8 : decode cX11_row 8 = .ok (.ldc2_w 120, 3) := by decide +kernel
theorem dX11_row_11 : decode cX11_row 11 = .ok (.invokestatic 78, 3) := by decide +kernel
theorem dX11_row_14 : decode cX11_row 14 = .ok (.ifCond .eq 27, 3) := by decide +kernel
theorem dX11_row_17 : decode cX11_row 17 = .ok (.iload_n 2, 1) := by decide +kernel
theorem dX11_row_18 : decode cX11_row 18 = .ok (.i2l, 1) := by decide +kernel
theorem dX11_row_19 : decode cX11_row 19 = .ok (.lconst 0, 1) := by decide +kernel
theorem dX11_row_20 : decode cX11_row 20 = .ok (.ldc2_w 122, 3) := by decide +kernel
theorem dX11_row_23 : decode cX11_row 23 = .ok (.invokestatic 78, 3) := by decide +kernel
theorem dX11_row_26 : decode cX11_row 26 = .ok (.ifCond .eq 15, 3) := by decide +kernel
theorem dX11_row_29 : decode cX11_row 29 = .ok (.iload_n 3, 1) := by decide +kernel
theorem dX11_row_30 : decode cX11_row 30 = .ok (.i2l, 1) := by decide +kernel
theorem dX11_row_31 : decode cX11_row 31 = .ok (.lconst 0, 1) := by decide +kernel
theorem dX11_row_32 : decode cX11_row 32 = .ok (.ldc2_w 122, 3) := by decide +kernel
theorem dX11_row_35 : decode cX11_row 35 = .ok (.invokestatic 78, 3) := by decide +kernel
theorem dX11_row_38 : decode cX11_row 38 = .ok (.ifCond .ne 5, 3) := by decide +kernel
theorem dX11_row_41 : decode cX11_row 41 = .ok (.iconst (-1), 1) := by decide +kernel
theorem dX11_row_42 : decode cX11_row 42 = .ok (.ireturn, 1) := by decide +kernel
theorem dX11_row_43 : decode cX11_row 43 = .ok (.aload_n 0, 1) := by decide +kernel
theorem dX11_row_44 : decode cX11_row 44 = .ok (.getfield 117, 3) := by decide +kernel
theorem dX11_row_47 : decode cX11_row 47 = .ok (.bipush 30, 2) := by decide +kernel
theorem dX11_row_49 : decode cX11_row 49 = .ok (.if_icmp .ne 6, 3) := by decide +kernel
theorem dX11_row_52 : decode cX11_row 52 = .ok (.bipush (-2), 2) := by decide +kernel
theorem dX11_row_54 : decode cX11_row 54 = .ok (.ireturn, 1) := by decide +kernel
theorem dX11_row_55 : decode cX11_row 55 = .ok (.aload_n 0, 1) := by decide +kernel
theorem dX11_row_56 : decode cX11_row 56 = .ok (.getfield 16, 3) := by decide +kernel
theorem dX11_row_59 : decode cX11_row 59 = .ok (.aload_n 0, 1) := by decide +kernel
theorem dX11_row_60 : decode cX11_row 60 = .ok (.getfield 117, 3) := by decide +kernel
theorem dX11_row_63 : decode cX11_row 63 = .ok (.iload_n 1, 1) := by decide +kernel
theorem dX11_row_64 : decode cX11_row 64 = .ok (.iastore, 1) := by decide +kernel
theorem dX11_row_65 : decode cX11_row 65 = .ok (.aload_n 0, 1) := by decide +kernel
theorem dX11_row_66 : decode cX11_row 66 = .ok (.getfield 19, 3) := by decide +kernel
theorem dX11_row_69 : decode cX11_row 69 = .ok (.aload_n 0, 1) := by decide +kernel
theorem dX11_row_70 : decode cX11_row 70 = .ok (.getfield 117, 3) := by decide +kernel
theorem dX11_row_73 : decode cX11_row 73 = .ok (.iload_n 2, 1) := by decide +kernel
theorem dX11_row_74 : decode cX11_row 74 = .ok (.iastore, 1) := by decide +kernel
theorem dX11_row_75 : decode cX11_row 75 = .ok (.aload_n 0, 1) := by decide +kernel
theorem dX11_row_76 : decode cX11_row 76 = .ok (.getfield 22, 3) := by decide +kernel
theorem dX11_row_79 : decode cX11_row 79 = .ok (.aload_n 0, 1) := by decide +kernel
theorem dX11_row_80 : decode cX11_row 80 = .ok (.getfield 117, 3) := by decide +kernel
theorem dX11_row_83 : decode cX11_row 83 = .ok (.iload_n 3, 1) := by decide +kernel
theorem dX11_row_84 : decode cX11_row 84 = .ok (.iastore, 1) := by decide +kernel
theorem dX11_row_85 : decode cX11_row 85 = .ok (.aload_n 0, 1) := by decide +kernel
theorem dX11_row_86 : decode cX11_row 86 = .ok (.dup, 1) := by decide +kernel
theorem dX11_row_87 : decode cX11_row 87 = .ok (.getfield 117, 3) := by decide +kernel
theorem dX11_row_90 : decode cX11_row 90 = .ok (.iconst 1, 1) := by decide +kernel
theorem dX11_row_91 : decode cX11_row 91 = .ok (.iadd, 1) := by decide +kernel
theorem dX11_row_92 : decode cX11_row 92 = .ok (.putfield 117, 3) := by decide +kernel
theorem dX11_row_95 : decode cX11_row 95 = .ok (.aload_n 0, 1) := by decide +kernel
theorem dX11_row_96 : decode cX11_row 96 = .ok (.getfield 117, 3) := by decide +kernel
theorem dX11_row_99 : decode cX11_row 99 = .ok (.ireturn, 1) := by decide +kernel
theorem dX11_drop_0 : decode cX11_drop 0 = .ok (.aload_n 0, 1) := by decide +kernel
theorem dX11_drop_1 : decode cX11_drop 1 = .ok (.iconst 0, 1) := by decide +kernel
theorem dX11_drop_2 : decode cX11_drop 2 = .ok (.putfield 50, 3) := by decide +kernel
theorem dX11_drop_5 : decode cX11_drop 5 = .ok (.aload_n 0, 1) := by decide +kernel
theorem dX11_drop_6 : decode cX11_drop 6 = .ok (.getfield 117, 3) := by decide +kernel
theorem dX11_drop_9 : decode cX11_drop 9 = .ok (.ifCond .ne 6, 3) := by decide +kernel
theorem dX11_drop_12 : decode cX11_drop 12 = .ok (.bipush (-3), 2) := by decide +kernel
theorem dX11_drop_14 : decode cX11_drop 14 = .ok (.ireturn, 1) := by decide +kernel
theorem dX11_drop_15 : decode cX11_drop 15 = .ok (.aload_n 0, 1) := by decide +kernel
theorem dX11_drop_16 : decode cX11_drop 16 = .ok (.dup, 1) := by decide +kernel
theorem dX11_drop_17 : decode cX11_drop 17 = .ok (.getfield 117, 3) := by decide +kernel
theorem dX11_drop_20 : decode cX11_drop 20 = .ok (.iconst 1, 1) := by decide +kernel
theorem dX11_drop_21 : decode cX11_drop 21 = .ok (.isub, 1) := by decide +kernel
theorem dX11_drop_22 : decode cX11_drop 22 = .ok (.putfield 117, 3) := by decide +kernel
theorem dX11_drop_25 : decode cX11_drop 25 = .ok (.aload_n 0, 1) := by decide +kernel
theorem dX11_drop_26 : decode cX11_drop 26 = .ok (.getfield 117, 3) := by decide +kernel
theorem dX11_drop_29 : decode cX11_drop 29 = .ok (.ireturn, 1) := by decide +kernel
set_option maxRecDepth 20000 in
theorem ggX11_turned_X11_in : GoodIn wsX11_turned wsX11_in := goodIn_r _ [12] (by decide +kernel) (by decide +kernel)
set_option maxRecDepth 20000 in
theorem gX11_turned_X11_in : GoodIn wsX11_turned (va_wsS RX11 78 yX11_in wsX11_in) := goodIn_app (goodIn_of _ (by decide +kernel)) ggX11_turned_X11_in
set_option maxRecDepth 20000 in
theorem ggX11_turned_X11_unite : GoodIn wsX11_turned wsX11_unite := goodIn_r _ [16, 5, 17, 18, 19, 20, 6, 21, 22, 23, 24, 25, 26, 27, 28, 29, 30, 31, 32, 33, 34, 35, 36, 37, 38, 39, 40, 41, 42, 43, 44, 45, 46, 47] (by decide +kernel) (by decide +kernel)
set_option maxRecDepth 20000 in
theorem gX11_turned_X11_unite : GoodIn wsX11_turned (wsV RX11 124 RX11 yX11_unite wsX11_unite) := goodIn_app (goodIn_of _ (by decide +kernel)) ggX11_turned_X11_unite
theorem dX11_turned_0 : decode cX11_turned 0 = .ok (.aload_n 0, 1) := by decide +kernel
