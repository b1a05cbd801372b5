theorem dX11_percentile_8 : decode cX11_percentile 8 = .ok (.ldc2_w 82, 3) := by decide +kernel
theorem dX11_percentile_11 : decode cX11_percentile 11 = .ok (.invokestatic 78, 3) := by decide +kernel
theorem dX11_percentile_14 : decode cX11_percentile 14 = .ok (.ifCond .eq 24, 3) := by decide +kernel
theorem dX11_percentile_17 : decode cX11_percentile 17 = .ok (.iload_n 1, 1) := by decide +kernel
theorem dX11_percentile_18 : decode cX11_percentile 18 = .ok (.i2l, 1) := by decide +kernel
theorem dX11_percentile_19 : decode cX11_percentile 19 = .ok (.lconst 0, 1) := by decide +kernel
theorem dX11_percentile_20 : decode cX11_percentile 20 = .ok (.iload_n 2, 1) := by decide +kernel
theorem dX11_percentile_21 : decode cX11_percentile 21 = .ok (.i2l, 1) := by decide +kernel
theorem dX11_percentile_22 : decode cX11_percentile 22 = .ok (.invokestatic 78, 3) := by decide +kernel
theorem dX11_percentile_25 : decode cX11_percentile 25 = .ok (.ifCond .eq 13, 3) := by decide +kernel
theorem dX11_percentile_28 : decode cX11_percentile 28 = .ok (.iload_n 3, 1) := by decide +kernel
theorem dX11_percentile_29 : decode cX11_percentile 29 = .ok (.i2l, 1) := by decide +kernel
theorem dX11_percentile_30 : decode cX11_percentile 30 = .ok (.lconst 0, 1) := by decide +kernel
theorem dX11_percentile_31 : decode cX11_percentile 31 = .ok (.lconst 1, 1) := by decide +kernel
theorem dX11_percentile_32 : decode cX11_percentile 32 = .ok (.invokestatic 78, 3) := by decide +kernel
theorem dX11_percentile_35 : decode cX11_percentile 35 = .ok (.ifCond .ne 7, 3) := by decide +kernel
theorem dX11_percentile_38 : decode cX11_percentile 38 = .ok (.ldc2_w 90, 3) := by decide +kernel
theorem dX11_percentile_41 : decode cX11_percentile 41 = .ok (.lreturn, 1) := by decide +kernel
theorem dX11_percentile_42 : decode cX11_percentile 42 = .ok (.aload_n 0, 1) := by decide +kernel
theorem dX11_percentile_43 : decode cX11_percentile 43 = .ok (.getfield 146, 3) := by decide +kernel
theorem dX11_percentile_46 : decode cX11_percentile 46 = .ok (.ifCond .ne 7, 3) := by decide +kernel
theorem dX11_percentile_49 : decode cX11_percentile 49 = .ok (.ldc2_w 153, 3) := by decide +kernel
theorem dX11_percentile_52 : decode cX11_percentile 52 = .ok (.lreturn, 1) := by decide +kernel
theorem dX11_percentile_53 : decode cX11_percentile 53 = .ok (.aload_n 0, 1) := by decide +kernel
theorem dX11_percentile_54 : decode cX11_percentile 54 = .ok (.getfield 146, 3) := by decide +kernel
theorem dX11_percentile_57 : decode cX11_percentile 57 = .ok (.iload_n 1, 1) := by decide +kernel
theorem dX11_percentile_58 : decode cX11_percentile 58 = .ok (.imul, 1) := by decide +kernel
theorem dX11_percentile_59 : decode cX11_percentile 59 = .ok (.iload_n 2, 1) := by decide +kernel
theorem dX11_percentile_60 : decode cX11_percentile 60 = .ok (.iadd, 1) := by decide +kernel
theorem dX11_percentile_61 : decode cX11_percentile 61 = .ok (.iconst 1, 1) := by decide +kernel
theorem dX11_percentile_62 : decode cX11_percentile 62 = .ok (.isub, 1) := by decide +kernel
theorem dX11_percentile_63 : decode cX11_percentile 63 = .ok (.iload_n 2, 1) := by decide +kernel
theorem dX11_percentile_64 : decode cX11_percentile 64 = .ok (.idiv, 1) := by decide +kernel
theorem dX11_percentile_65 : decode cX11_percentile 65 = .ok (.iconst 1, 1) := by decide +kernel
theorem dX11_percentile_66 : decode cX11_percentile 66 = .ok (.isub, 1) := by decide +kernel
theorem dX11_percentile_67 : decode cX11_percentile 67 = .ok (.istore 4, 2) := by decide +kernel
theorem dX11_percentile_69 : decode cX11_percentile 69 = .ok (.iload 4, 2) := by decide +kernel
theorem dX11_percentile_71 : decode cX11_percentile 71 = .ok (.ifCond .ge 7, 3) := by decide +kernel
theorem dX11_percentile_74 : decode cX11_percentile 74 = .ok (.iconst 0, 1) := by decide +kernel
theorem dX11_percentile_75 : decode cX11_percentile 75 = .ok (.goto 5, 3) := by decide +kernel
theorem dX11_percentile_78 : decode cX11_percentile 78 = .ok (.iload 4, 2) := by decide +kernel
theorem dX11_percentile_80 : decode cX11_percentile 80 = .ok (.istore 4, 2) := by decide +kernel
theorem dX11_percentile_82 : decode cX11_percentile 82 = .ok (.aload_n 0, 1) := by decide +kernel
theorem dX11_percentile_83 : decode cX11_percentile 83 = .ok (.getfield 38, 3) := by decide +kernel
theorem dX11_percentile_86 : decode cX11_percentile 86 = .ok (.iload 4, 2) := by decide +kernel
theorem dX11_percentile_88 : decode cX11_percentile 88 = .ok (.iaload, 1) := by decide +kernel
theorem dX11_percentile_89 : decode cX11_percentile 89 = .ok (.i2l, 1) := by decide +kernel
theorem dX11_percentile_90 : decode cX11_percentile 90 = .ok (.aload_n 0, 1) := by decide +kernel
theorem dX11_percentile_91 : decode cX11_percentile 91 = .ok (.getfield 41, 3) := by decide +kernel
theorem dX11_percentile_94 : decode cX11_percentile 94 = .ok (.iload 4, 2) := by decide +kernel
theorem dX11_percentile_96 : decode cX11_percentile 96 = .ok (.iaload, 1) := by decide +kernel
theorem dX11_percentile_97 : decode cX11_percentile 97 = .ok (.i2l, 1) := by decide +kernel
theorem dX11_percentile_98 : decode cX11_percentile 98 = .ok (.iload_n 3, 1) := by decide +kernel
theorem dX11_percentile_99 : decode cX11_percentile 99 = .ok (.invokestatic 140, 3) := by decide +kernel
theorem dX11_percentile_102 : decode cX11_percentile 102 = .ok (.lreturn, 1) := by decide +kernel
theorem dX11_share_0 : decode cX11_share 0 = .ok (.aload_n 0, 1) := by decide +kernel
theorem dX11_share_1 : decode cX11_share 1 = .ok (.aload_n 0, 1) := by decide +kernel
theorem dX11_share_2 : decode cX11_share 2 = .ok (.getfield 146, 3) := by decide +kernel
theorem dX11_share_5 : decode cX11_share 5 = .ok (.ifCond .ne 7, 3) := by decide +kernel
theorem dX11_share_8 : decode cX11_share 8 = .ok (.iconst 1, 1) := by decide +kernel
theorem dX11_share_9 : decode cX11_share 9 = .ok (.goto 4, 3) := by decide +kernel
theorem dX11_share_12 : decode cX11_share 12 = .ok (.iconst 0, 1) := by decide +kernel
theorem dX11_share_13 : decode cX11_share 13 = .ok (.putfield 50, 3) := by decide +kernel
theorem dX11_share_16 : decode cX11_share 16 = .ok (.iconst 0, 1) := by decide +kernel
theorem dX11_share_17 : decode cX11_share 17 = .ok (.istore_n 1, 1) := by decide +kernel
theorem dX11_share_18 : decode cX11_share 18 = .ok (.iconst 0, 1) := by decide +kernel
theorem dX11_share_19 : decode cX11_share 19 = .ok (.istore_n 2, 1) := by decide +kernel
theorem dX11_share_20 : decode cX11_share 20 = .ok (.iload_n 2, 1) := by decide +kernel
theorem dX11_share_21 : decode cX11_share 21 = .ok (.aload_n 0, 1) := by decide +kernel
theorem dX11_share_22 : decode cX11_share 22 = .ok (.getfield 146, 3) := by decide +kernel
theorem dX11_share_25 : decode cX11_share 25 = .ok (.if_icmp .ge 26, 3) := by decide +kernel
theorem dX11_share_28 : decode cX11_share 28 = .ok (.iload_n 1, 1) := by decide +kernel
theorem dX11_share_29 : decode cX11_share 29 = .ok (.aload_n 0, 1) := by decide +kernel
theorem dX11_share_30 : decode cX11_share 30 = .ok (.getfield 38, 3) := by decide +kernel
theorem dX11_share_33 : decode cX11_share 33 = .ok (.iload_n 2, 1) := by decide +kernel
theorem dX11_share_34 : decode cX11_share 34 = .ok (.iaload, 1) := by decide +kernel
theorem dX11_share_35 : decode cX11_share 35 = .ok (.ifCond .le 7, 3) := by decide +kernel
theorem dX11_share_38 : decode cX11_share 38 = .ok (.iconst 1, 1) := by decide +kernel
theorem dX11_share_39 : decode cX11_share 39 = .ok (.goto 4, 3) := by decide +kernel
theorem dX11_share_42 : decode cX11_share 42 = .ok (.iconst 0, 1) := by decide +kernel
theorem dX11_share_43 : decode cX11_share 43 = .ok (.iadd, 1) := by decide +kernel
theorem dX11_share_44 : decode cX11_share 44 = .ok (.istore_n 1, 1) := by decide +kernel
theorem dX11_share_45 : decode cX11_share 45 = .ok (.iinc 2 1, 3) := by decide +kernel
theorem dX11_share_48 : decode cX11_share 48 = .ok (.goto (-28), 3) := by decide +kernel
theorem dX11_share_51 : decode cX11_share 51 = .ok (.aload_n 0, 1) := by decide +kernel
theorem dX11_share_52 : decode cX11_share 52 = .ok (.getfield 50, 3) := by decide +kernel
theorem dX11_share_55 : decode cX11_share 55 = .ok (.ifCond .le 7, 3) := by decide +kernel
theorem dX11_share_58 : decode cX11_share 58 = .ok (.iconst 0, 1) := by decide +kernel
theorem dX11_share_59 : decode cX11_share 59 = .ok (.goto 13, 3) := by decide +kernel
theorem dX11_share_62 : decode cX11_share 62 = .ok (.sipush 1000, 3) := by decide +kernel
theorem dX11_share_65 : decode cX11_share 65 = .ok (.iload_n 1, 1) := by decide +kernel
theorem dX11_share_66 : decode cX11_share 66 = .ok (.imul, 1) := by decide +kernel
theorem dX11_share_67 : decode cX11_share 67 = .ok (.aload_n 0, 1) := by decide +kernel
theorem dX11_share_68 : decode cX11_share 68 = .ok (.getfield 146, 3) := by decide +kernel
theorem dX11_share_71 : decode cX11_share 71 = .ok (.idiv, 1) := by decide +kernel
theorem dX11_share_72 : decode cX11_share 72 = .ok (.ireturn, 1) := by decide +kernel
set_option maxRecDepth 20000 in
theorem ggX11_compare_X11_in : GoodIn wsX11_compare wsX11_in := goodIn_r _ [9] (by decide +kernel) (by decide +kernel)
set_option maxRecDepth 20000 in
theorem gX11_compare_X11_in : GoodIn wsX11_compare (va_wsS RX11 78 yX11_in wsX11_in) := goodIn_app (goodIn_of _ (by decide +kernel)) ggX11_compare_X11_in
theorem dX11_compare_0 : decode cX11_compare 0 = .ok (.aload_n 0, 1) := by decide +kernel
theorem dX11_compare_1 : decode cX11_compare 1 = .ok (.iconst 0, 1) := by decide +kernel
theorem dX11_compare_2 : decode cX11_compare 2 = .ok (.putfield 50, 3) := by decide +kernel
theorem dX11_compare_5 : decode cX11_compare 5 = .ok (.iload_n 2, 1) := by decide +kernel
theorem dX11_compare_6 : decode cX11_compare 6 = .ok (.i2l, 1) := by decide +kernel
theorem dX11_compare_7 : decode cX11_compare 7 = .ok (.lconst 1, 1) := by decide +kernel
theorem dX11_compare_8 : decode cX11_compare 8 = .ok (.ldc2_w 155, 3) := by decide +kernel
theorem dX11_compare_11 : decode cX11_compare 11 = .ok (.invokestatic 78, 3) := by decide +kernel
theorem dX11_compare_14 : decode cX11_compare 14 = .ok (.ifCond .eq 14, 3) := by decide +kernel
theorem dX11_compare_17 : decode cX11_compare 17 = .ok (.iload_n 1, 1) := by decide +kernel
theorem dX11_compare_18 : decode cX11_compare 18 = .ok (.i2l, 1) := by decide +kernel
theorem dX11_compare_19 : decode cX11_compare 19 = .ok (.lconst 0, 1) := by decide +kernel
theorem dX11_compare_20 : decode cX11_compare 20 = .ok (.iload_n 2, 1) := by decide +kernel
theorem dX11_compare_21 : decode cX11_compare 21 = .ok (.i2l, 1) := by decide +kernel
theorem dX11_compare_22 : decode cX11_compare 22 = .ok (.invokestatic 78, 3) := by decide +kernel
theorem dX11_compare_25 : decode cX11_compare 25 = .ok (.ifCond .ne 5, 3) := by decide +kernel
theorem dX11_compare_28 : decode cX11_compare 28 = .ok (.iconst (-1), 1) := by decide +kernel
theorem dX11_compare_29 : decode cX11_compare 29 = .ok (.ireturn, 1) := by decide +kernel
theorem dX11_compare_30 : decode cX11_compare 30 = .ok (.aload_n 0, 1) := by decide +kernel
theorem dX11_compare_31 : decode cX11_compare 31 = .ok (.getfield 157, 3) := by decide +kernel
theorem dX11_compare_34 : decode cX11_compare 34 = .ok (.bipush 10, 2) := by decide +kernel
theorem dX11_compare_36 : decode cX11_compare 36 = .ok (.if_icmp .ne 6, 3) := by decide +kernel
theorem dX11_compare_39 : decode cX11_compare 39 = .ok (.bipush (-2), 2) := by decide +kernel
theorem dX11_compare_41 : decode cX11_compare 41 = .ok (.ireturn, 1) := by decide +kernel
theorem dX11_compare_42 : decode cX11_compare 42 = .ok (.aload_n 0, 1) := by decide +kernel
theorem dX11_compare_43 : decode cX11_compare 43 = .ok (.getfield 44, 3) := by decide +kernel
theorem dX11_compare_46 : decode cX11_compare 46 = .ok (.aload_n 0, 1) := by decide +kernel
theorem dX11_compare_47 : decode cX11_compare 47 = .ok (.getfield 157, 3) := by decide +kernel
theorem dX11_compare_50 : decode cX11_compare 50 = .ok (.iload_n 1, 1) := by decide +kernel
theorem dX11_compare_51 : decode cX11_compare 51 = .ok (.iastore, 1) := by decide +kernel
theorem dX11_compare_52 : decode cX11_compare 52 = .ok (.aload_n 0, 1) := by decide +kernel
theorem dX11_compare_53 : decode cX11_compare 53 = .ok (.getfield 47, 3) := by decide +kernel
theorem dX11_compare_56 : decode cX11_compare 56 = .ok (.aload_n 0, 1) := by decide +kernel
theorem dX11_compare_57 : decode cX11_compare 57 = .ok (.getfield 157, 3) := by decide +kernel
theorem dX11_compare_60 : decode cX11_compare 60 = .ok (.iload_n 2, 1) := by decide +kernel
theorem dX11_compare_61 : decode cX11_compare 61 = .ok (.iastore, 1) := by decide +kernel
theorem dX11_compare_62 : decode cX11_compare 62 = .ok (.aload_n 0, 1) := by decide +kernel
theorem dX11_compare_63 : decode cX11_compare 63 = .ok (.dup, 1) := by decide +kernel
theorem dX11_compare_64 : decode cX11_compare 64 = .ok (.getfield 157, 3) := by decide +kernel
theorem dX11_compare_67 : decode cX11_compare 67 = .ok (.iconst 1, 1) := by decide +kernel
theorem dX11_compare_68 : decode cX11_compare 68 = .ok (.iadd, 1) := by decide +kernel
theorem dX11_compare_69 : decode cX11_compare 69 = .ok (.putfield 157, 3) := by decide +kernel
theorem dX11_compare_72 : decode cX11_compare 72 = .ok (.aload_n 0, 1) := by decide +kernel
theorem dX11_compare_73 : decode cX11_compare 73 = .ok (.getfield 157, 3) := by decide +kernel
theorem dX11_compare_76 : decode cX11_compare 76 = .ok (.iconst 1, 1) := by decide +kernel
theorem dX11_compare_77 : decode cX11_compare 77 = .ok (.isub, 1) := by decide +kernel
theorem dX11_compare_78 : decode cX11_compare 78 = .ok (.ireturn, 1) := by decide +kernel
theorem dX11_placeOf_0 : decode cX11_placeOf 0 = .ok (.iconst 1, 1) := by decide +kernel
theorem dX11_placeOf_1 : decode cX11_placeOf 1 = .ok (.istore_n 2, 1) := by decide +kernel
theorem dX11_placeOf_2 : decode cX11_placeOf 2 = .ok (.iconst 0, 1) := by decide +kernel
theorem dX11_placeOf_3 : decode cX11_placeOf 3 = .ok (.istore_n 3, 1) := by decide +kernel
theorem dX11_placeOf_4 : decode cX11_placeOf 4 = .ok (.iload_n 3, 1) := by decide +kernel
theorem dX11_placeOf_5 : decode cX11_placeOf 5 = .ok (.aload_n 0, 1) := by decide +kernel
theorem dX11_placeOf_6 : decode cX11_placeOf 6 = .ok (.getfield 157, 3) := by decide +kernel
theorem dX11_placeOf_9 : decode cX11_placeOf 9 = .ok (.if_icmp .ge 72, 3) := by decide +kernel
theorem dX11_placeOf_12 : decode cX11_placeOf 12 = .ok (.aload_n 0, 1) := by decide +kernel
theorem dX11_placeOf_13 : decode cX11_placeOf 13 = .ok (.getfield 44, 3) := by decide +kernel
theorem dX11_placeOf_16 : decode cX11_placeOf 16 = .ok (.iload_n 3, 1) := by decide +kernel
theorem dX11_placeOf_17 : decode cX11_placeOf 17 = .ok (.iaload, 1) := by decide +kernel
theorem dX11_placeOf_18 : decode cX11_placeOf 18 = .ok (.i2l, 1) := by decide +kernel
theorem dX11_placeOf_19 : decode cX11_placeOf 19 = .ok (.aload_n 0, 1) := by decide +kernel
theorem dX11_placeOf_20 : decode cX11_placeOf 20 = .ok (.getfield 47, 3) := by decide +kernel
theorem dX11_placeOf_23 : decode cX11_placeOf 23 = .ok (.iload_n 1, 1) := by decide +kernel
theorem dX11_placeOf_24 : decode cX11_placeOf 24 = .ok (.iaload, 1) := by decide +kernel
theorem dX11_placeOf_25 : decode cX11_placeOf 25 = .ok (.i2l, 1) := by decide +kernel
theorem dX11_placeOf_26 : decode cX11_placeOf 26 = .ok (.lmul, 1) := by decide +kernel
theorem dX11_placeOf_27 : decode cX11_placeOf 27 = .ok (.lstore 4, 2) := by decide +kernel
theorem dX11_placeOf_29 : decode cX11_placeOf 29 = .ok (.aload_n 0, 1) := by decide +kernel
theorem dX11_placeOf_30 : decode cX11_placeOf 30 = .ok (.getfield 44, 3) := by decide +kernel
theorem dX11_placeOf_33 : decode cX11_placeOf 33 = .ok (.iload_n 1, 1) := by decide +kernel
theorem dX11_placeOf_34 : decode cX11_placeOf 34 = .ok (.iaload, 1) := by decide +kernel
theorem dX11_placeOf_35 : decode cX11_placeOf 35 = .ok (.i2l, 1) := by decide +kernel
theorem dX11_placeOf_36 : decode cX11_placeOf 36 = .ok (.aload_n 0, 1) := by decide +kernel
theorem dX11_placeOf_37 : decode cX11_placeOf 37 = .ok (.getfield 47, 3) := by decide +kernel
theorem dX11_placeOf_40 : decode cX11_placeOf 40 = .ok (.iload_n 3, 1) := by decide +kernel
theorem dX11_placeOf_41 : decode cX11_placeOf 41 = .ok (.iaload, 1) := by decide +kernel
theorem dX11_placeOf_42 : decode cX11_placeOf 42 = .ok (.i2l, 1) := by decide +kernel
theorem dX11_placeOf_43 : decode cX11_placeOf 43 = .ok (.lmul, 1) := by decide +kernel
theorem dX11_placeOf_44 : decode cX11_placeOf 44 = .ok (.lstore 6, 2) := by decide +kernel
theorem dX11_placeOf_46 : decode cX11_placeOf 46 = .ok (.iload_n 2, 1) := by decide +kernel
theorem dX11_placeOf_47 : decode cX11_placeOf 47 = .ok (.lload 4, 2) := by decide +kernel
theorem dX11_placeOf_49 : decode cX11_placeOf 49 = .ok (.lload 6, 2) := by decide +kernel
theorem dX11_placeOf_51 : decode cX11_placeOf 51 = .ok (.lcmp, 1) := by decide +kernel
theorem dX11_placeOf_52 : decode cX11_placeOf 52 = .ok (.ifCond .lt 16, 3) := by decide +kernel
theorem dX11_placeOf_55 : decode cX11_placeOf 55 = .ok (.lload 4, 2) := by decide +kernel
theorem dX11_placeOf_57 : decode cX11_placeOf 57 = .ok (.lload 6, 2) := by decide +kernel
theorem dX11_placeOf_59 : decode cX11_placeOf 59 = .ok (.lcmp, 1) := by decide +kernel
theorem dX11_placeOf_60 : decode cX11_placeOf 60 = .ok (.ifCond .ne 12, 3) := by decide +kernel
theorem dX11_placeOf_63 : decode cX11_placeOf 63 = .ok (.iload_n 3, 1) := by decide +kernel
theorem dX11_placeOf_64 : decode cX11_placeOf 64 = .ok (.iload_n 1, 1) := by decide +kernel
theorem dX11_placeOf_65 : decode cX11_placeOf 65 = .ok (.if_icmp .ge 7, 3) := by decide +kernel
theorem dX11_placeOf_68 : decode cX11_placeOf 68 = .ok (.iconst 1, 1) := by decide +kernel
theorem dX11_placeOf_69 : decode cX11_placeOf 69 = .ok (.goto 4, 3) := by decide +kernel
theorem dX11_placeOf_72 : decode cX11_placeOf 72 = .ok (.iconst 0, 1) := by decide +kernel
theorem dX11_placeOf_73 : decode cX11_placeOf 73 = .ok (.iadd, 1) := by decide +kernel
theorem dX11_placeOf_74 : decode cX11_placeOf 74 = .ok (.istore_n 2, 1) := by decide +kernel
theorem dX11_placeOf_75 : decode cX11_placeOf 75 = .ok (.iinc 3 1, 3) := by decide +kernel
theorem dX11_placeOf_78 : decode cX11_placeOf 78 = .ok (.goto (-74), 3) := by decide +kernel
theorem dX11_placeOf_81 : decode cX11_placeOf 81 = .ok (.iload_n 2, 1) := by decide +kernel
theorem dX11_placeOf_82 : decode cX11_placeOf 82 = .ok (.ireturn, 1) := by decide +kernel
set_option maxRecDepth 20000 in
theorem ggX11_raised_X11_in : GoodIn wsX11_raised wsX11_in := goodIn_r _ [11] (by decide +kernel) (by decide +kernel)
set_option maxRecDepth 20000 in
theorem gX11_raised_X11_in : GoodIn wsX11_raised (va_wsS RX11 78 yX11_in wsX11_in) := goodIn_app (goodIn_of _ (by decide +kernel)) ggX11_raised_X11_in
set_option maxRecDepth 20000 in
theorem ggX11_raised_X11_placeOf : GoodIn wsX11_raised wsX11_placeOf := goodIn_r _ [15, 4, 6, 7, 22, 23, 24, 25, 26, 27, 28, 29, 30, 31, 32, 33, 34, 35, 36, 37, 38, 39, 40, 41, 42, 43, 44, 45, 46, 47] (by decide +kernel) (by decide +kernel)
set_option maxRecDepth 20000 in
theorem gX11_raised_X11_placeOf : GoodIn wsX11_raised (wsV RX11 160 RX11 yX11_placeOf wsX11_placeOf) := goodIn_app (goodIn_of _ (by decide +kernel)) ggX11_raised_X11_placeOf
set_option maxRecDepth 20000 in
theorem ggX11_raised_X11_told : GoodIn wsX11_raised wsX11_told := goodIn_r _ [18, 19, 20, 10, 21] (by decide +kernel) (by decide +kernel)
set_option maxRecDepth 20000 in
theorem gX11_raised_X11_told : GoodIn wsX11_raised (va_wsS RX11 140 yX11_told wsX11_told) := goodIn_app (goodIn_of _ (by decide +kernel)) ggX11_raised_X11_told
theorem dX11_raised_0 : decode cX11_raised 0 = .ok (.aload_n 0, 1) := by decide +kernel
theorem dX11_raised_1 : decode cX11_raised 1 = .ok (.iconst 0, 1) := by decide +kernel
theorem dX11_raised_2 : decode cX11_raised 2 = .ok (.putfield 50, 3) := by decide +kernel
theorem dX11_raised_5 : decode cX11_raised 5 = .ok (.iload_n 1, 1) := by decide +kernel
theorem dX11_raised_6 : decode cX11_raised 6 = .ok (.i2l, 1) := by decide +kernel
theorem dX11_raised_7 : decode cX11_raised 7 = .ok (.lconst 0, 1) := by decide +kernel
theorem dX11_raised_8 : decode cX11_raised 8 = .ok (.ldc2_w 108, 3) := by decide +kernel
theorem dX11_raised_11 : decode cX11_raised 11 = .ok (.invokestatic 78, 3) := by decide +kernel
theorem dX11_raised_14 : decode cX11_raised 14 = .ok (.ifCond .eq 13, 3) := by decide +kernel
theorem dX11_raised_17 : decode cX11_raised 17 = .ok (.iload_n 3, 1) := by decide +kernel
theorem dX11_raised_18 : decode cX11_raised 18 = .ok (.i2l, 1) := by decide +kernel
theorem dX11_raised_19 : decode cX11_raised 19 = .ok (.lconst 0, 1) := by decide +kernel
theorem dX11_raised_20 : decode cX11_raised 20 = .ok (.lconst 1, 1) := by decide +kernel
theorem dX11_raised_21 : decode cX11_raised 21 = .ok (.invokestatic 78, 3) := by decide +kernel
theorem dX11_raised_24 : decode cX11_raised 24 = .ok (.ifCond .ne 7, 3) := by decide +kernel
theorem dX11_raised_27 : decode cX11_raised 27 = .ok (.ldc2_w 90, 3) := by decide +kernel
theorem dX11_raised_30 : decode cX11_raised 30 = .ok (.lreturn, 1) := by decide +kernel
theorem dX11_raised_31 : decode cX11_raised 31 = .ok (.iload_n 2, 1) := by decide +kernel
theorem dX11_raised_32 : decode cX11_raised 32 = .ok (.i2l, 1) := by decide +kernel
theorem dX11_raised_33 : decode cX11_raised 33 = .ok (.lconst 0, 1) := by decide +kernel
theorem dX11_raised_34 : decode cX11_raised 34 = .ok (.aload_n 0, 1) := by decide +kernel
theorem dX11_raised_35 : decode cX11_raised 35 = .ok (.getfield 157, 3) := by decide +kernel
theorem dX11_raised_38 : decode cX11_raised 38 = .ok (.iconst 1, 1) := by decide +kernel
theorem dX11_raised_39 : decode cX11_raised 39 = .ok (.isub, 1) := by decide +kernel
theorem dX11_raised_40 : decode cX11_raised 40 = .ok (.i2l, 1) := by decide +kernel
theorem dX11_raised_41 : decode cX11_raised 41 = .ok (.invokestatic 78, 3) := by decide +kernel
theorem dX11_raised_44 : decode cX11_raised 44 = .ok (.ifCond .ne 7, 3) := by decide +kernel
theorem dX11_raised_47 : decode cX11_raised 47 = .ok (.ldc2_w 153, 3) := by decide +kernel
theorem dX11_raised_50 : decode cX11_raised 50 = .ok (.lreturn, 1) := by decide +kernel
theorem dX11_raised_51 : decode cX11_raised 51 = .ok (.aload_n 0, 1) := by decide +kernel
theorem dX11_raised_52 : decode cX11_raised 52 = .ok (.iload_n 2, 1) := by decide +kernel
theorem dX11_raised_53 : decode cX11_raised 53 = .ok (.invokevirtual 160, 3) := by decide +kernel
theorem dX11_raised_56 : decode cX11_raised 56 = .ok (.istore 4, 2) := by decide +kernel
theorem dX11_raised_58 : decode cX11_raised 58 = .ok (.aload_n 0, 1) := by decide +kernel
theorem dX11_raised_59 : decode cX11_raised 59 = .ok (.getfield 157, 3) := by decide +kernel
theorem dX11_raised_62 : decode cX11_raised 62 = .ok (.i2l, 1) := by decide +kernel
theorem dX11_raised_63 : decode cX11_raised 63 = .ok (.aload_n 0, 1) := by decide +kernel
theorem dX11_raised_64 : decode cX11_raised 64 = .ok (.getfield 44, 3) := by decide +kernel
theorem dX11_raised_67 : decode cX11_raised 67 = .ok (.iload_n 2, 1) := by decide +kernel
theorem dX11_raised_68 : decode cX11_raised 68 = .ok (.iaload, 1) := by decide +kernel
theorem dX11_raised_69 : decode cX11_raised 69 = .ok (.i2l, 1) := by decide +kernel
theorem dX11_raised_70 : decode cX11_raised 70 = .ok (.lmul, 1) := by decide +kernel
theorem dX11_raised_71 : decode cX11_raised 71 = .ok (.lstore 5, 2) := by decide +kernel
theorem dX11_raised_73 : decode cX11_raised 73 = .ok (.aload_n 0, 1) := by decide +kernel
theorem dX11_raised_74 : decode cX11_raised 74 = .ok (.getfield 47, 3) := by decide +kernel
theorem dX11_raised_77 : decode cX11_raised 77 = .ok (.iload_n 2, 1) := by decide +kernel
theorem dX11_raised_78 : decode cX11_raised 78 = .ok (.iaload, 1) := by decide +kernel
theorem dX11_raised_79 : decode cX11_raised 79 = .ok (.i2l, 1) := by decide +kernel
theorem dX11_raised_80 : decode cX11_raised 80 = .ok (.lstore 7, 2) := by decide +kernel
theorem dX11_raised_82 : decode cX11_raised 82 = .ok (.iload_n 1, 1) := by decide +kernel
theorem dX11_raised_83 : decode cX11_raised 83 = .ok (.ifCond .le 7, 3) := by decide +kernel
theorem dX11_raised_86 : decode cX11_raised 86 = .ok (.iconst 1, 1) := by decide +kernel
theorem dX11_raised_87 : decode cX11_raised 87 = .ok (.goto 4, 3) := by decide +kernel
theorem dX11_raised_90 : decode cX11_raised 90 = .ok (.iconst 0, 1) := by decide +kernel
theorem dX11_raised_91 : decode cX11_raised 91 = .ok (.istore 9, 2) := by decide +kernel
theorem dX11_raised_93 : decode cX11_raised 93 = .ok (.iconst 0, 1) := by decide +kernel
theorem dX11_raised_94 : decode cX11_raised 94 = .ok (.istore 10, 2) := by decide +kernel
theorem dX11_raised_96 : decode cX11_raised 96 = .ok (.iload 10, 2) := by decide +kernel
theorem dX11_raised_98 : decode cX11_raised 98 = .ok (.aload_n 0, 1) := by decide +kernel
theorem dX11_raised_99 : decode cX11_raised 99 = .ok (.getfield 157, 3) := by decide +kernel
theorem dX11_raised_102 : decode cX11_raised 102 = .ok (.if_icmp .ge 196, 3) := by decide +kernel
theorem dX11_raised_105 : decode cX11_raised 105 = .ok (.iload_n 1, 1) := by decide +kernel
theorem dX11_raised_106 : decode cX11_raised 106 = .ok (.ifCond .le 192, 3) := by decide +kernel
theorem dX11_raised_109 : decode cX11_raised 109 = .ok (.aload_n 0, 1) := by decide +kernel
theorem dX11_raised_110 : decode cX11_raised 110 = .ok (.iload 10, 2) := by decide +kernel
theorem dX11_raised_112 : decode cX11_raised 112 = .ok (.invokevirtual 160, 3) := by decide +kernel
theorem dX11_raised_115 : decode cX11_raised 115 = .ok (.istore 11, 2) := by decide +kernel
theorem dX11_raised_117 : decode cX11_raised 117 = .ok (.iload_n 1, 1) := by decide +kernel
theorem dX11_raised_118 : decode cX11_raised 118 = .ok (.iconst 1, 1) := by decide +kernel
theorem dX11_raised_119 : decode cX11_raised 119 = .ok (.if_icmp .ne 13, 3) := by decide +kernel
theorem dX11_raised_122 : decode cX11_raised 122 = .ok (.iload 11, 2) := by decide +kernel
theorem dX11_raised_124 : decode cX11_raised 124 = .ok (.iload 4, 2) := by decide +kernel
theorem dX11_raised_126 : decode cX11_raised 126 = .ok (.if_icmp .gt 166, 3) := by decide +kernel
theorem dX11_raised_129 : decode cX11_raised 129 = .ok (.goto 10, 3) := by decide +kernel
theorem dX11_raised_132 : decode cX11_raised 132 = .ok (.iload 11, 2) := by decide +kernel
theorem dX11_raised_134 : decode cX11_raised 134 = .ok (.iload 4, 2) := by decide +kernel
theorem dX11_raised_136 : decode cX11_raised 136 = .ok (.if_icmp .lt 156, 3) := by decide +kernel
theorem dX11_raised_139 : decode cX11_raised 139 = .ok (.iload_n 1, 1) := by decide +kernel
theorem dX11_raised_140 : decode cX11_raised 140 = .ok (.iconst 1, 1) := by decide +kernel
theorem dX11_raised_141 : decode cX11_raised 141 = .ok (.if_icmp .ne 26, 3) := by decide +kernel
theorem dX11_raised_144 : decode cX11_raised 144 = .ok (.aload_n 0, 1) := by decide +kernel
theorem dX11_raised_145 : decode cX11_raised 145 = .ok (.getfield 157, 3) := by decide +kernel
theorem dX11_raised_148 : decode cX11_raised 148 = .ok (.i2l, 1) := by decide +kernel
theorem dX11_raised_149 : decode cX11_raised 149 = .ok (.lconst 1, 1) := by decide +kernel
theorem dX11_raised_150 : decode cX11_raised 150 = .ok (.ladd, 1) := by decide +kernel
theorem dX11_raised_151 : decode cX11_raised 151 = .ok (.iload 11, 2) := by decide +kernel
theorem dX11_raised_153 : decode cX11_raised 153 = .ok (.i2l, 1) := by decide +kernel
theorem dX11_raised_154 : decode cX11_raised 154 = .ok (.lsub, 1) := by decide +kernel
theorem dX11_raised_155 : decode cX11_raised 155 = .ok (.aload_n 0, 1) := by decide +kernel
theorem dX11_raised_156 : decode cX11_raised 156 = .ok (.getfield 44, 3) := by decide +kernel
theorem dX11_raised_159 : decode cX11_raised 159 = .ok (.iload 10, 2) := by decide +kernel
theorem dX11_raised_161 : decode cX11_raised 161 = .ok (.iaload, 1) := by decide +kernel
theorem dX11_raised_162 : decode cX11_raised 162 = .ok (.i2l, 1) := by decide +kernel
theorem dX11_raised_163 : decode cX11_raised 163 = .ok (.lmul, 1) := by decide +kernel
theorem dX11_raised_164 : decode cX11_raised 164 = .ok (.goto 17, 3) := by decide +kernel
theorem dX11_raised_167 : decode cX11_raised 167 = .ok (.aload_n 0, 1) := by decide +kernel
theorem dX11_raised_168 : decode cX11_raised 168 = .ok (.getfield 157, 3) := by decide +kernel
theorem dX11_raised_171 : decode cX11_raised 171 = .ok (.i2l, 1) := by decide +kernel
theorem dX11_raised_172 : decode cX11_raised 172 = .ok (.aload_n 0, 1) := by decide +kernel
theorem dX11_raised_173 : decode cX11_raised 173 = .ok (.getfield 44, 3) := by decide +kernel
theorem dX11_raised_176 : decode cX11_raised 176 = .ok (.iload 10, 2) := by decide +kernel
theorem dX11_raised_178 : decode cX11_raised 178 = .ok (.iaload, 1) := by decide +kernel
theorem dX11_raised_179 : decode cX11_raised 179 = .ok (.i2l, 1) := by decide +kernel
theorem dX11_raised_180 : decode cX11_raised 180 = .ok (.lmul, 1) := by decide +kernel
theorem dX11_raised_181 : decode cX11_raised 181 = .ok (.lstore 12, 2) := by decide +kernel
theorem dX11_raised_183 : decode cX11_raised 183 = .ok (.iload_n 1, 1) := by decide +kernel
theorem dX11_raised_184 : decode cX11_raised 184 = .ok (.iconst 1, 1) := by decide +kernel
theorem dX11_raised_185 : decode cX11_raised 185 = .ok (.if_icmp .ne 14, 3) := by decide +kernel
theorem dX11_raised_188 : decode cX11_raised 188 = .ok (.aload_n 0, 1) := by decide +kernel
theorem dX11_raised_189 : decode cX11_raised 189 = .ok (.getfield 47, 3) := by decide +kernel
theorem dX11_raised_192 : decode cX11_raised 192 = .ok (.iload 10, 2) := by decide +kernel
theorem dX11_raised_194 : decode cX11_raised 194 = .ok (.iaload, 1) := by decide +kernel
theorem dX11_raised_195 : decode cX11_raised 195 = .ok (.i2l, 1) := by decide +kernel
theorem dX11_raised_196 : decode cX11_raised 196 = .ok (.goto 15, 3) := by decide +kernel
theorem dX11_raised_199 : decode cX11_raised 199 = .ok (.iload 11, 2) := by decide +kernel
theorem dX11_raised_201 : decode cX11_raised 201 = .ok (.i2l, 1) := by decide +kernel
theorem dX11_raised_202 : decode cX11_raised 202 = .ok (.aload_n 0, 1) := by decide +kernel
theorem dX11_raised_203 : decode cX11_raised 203 = .ok (.getfield 47, 3) := by decide +kernel
theorem dX11_raised_206 : decode cX11_raised 206 = .ok (.iload 10, 2) := by decide +kernel
theorem dX11_raised_208 : decode cX11_raised 208 = .ok (.iaload, 1) := by decide +kernel
theorem dX11_raised_209 : decode cX11_raised 209 = .ok (.i2l, 1) := by decide +kernel
theorem dX11_raised_210 : decode cX11_raised 210 = .ok (.lmul, 1) := by decide +kernel
theorem dX11_raised_211 : decode cX11_raised 211 = .ok (.lstore 14, 2) := by decide +kernel
theorem dX11_raised_213 : decode cX11_raised 213 = .ok (.iload 9, 2) := by decide +kernel
theorem dX11_raised_215 : decode cX11_raised 215 = .ok (.ifCond .ne 39, 3) := by decide +kernel
theorem dX11_raised_218 : decode cX11_raised 218 = .ok (.iload_n 1, 1) := by decide +kernel
theorem dX11_raised_219 : decode cX11_raised 219 = .ok (.iconst 1, 1) := by decide +kernel
theorem dX11_raised_220 : decode cX11_raised 220 = .ok (.if_icmp .ne 20, 3) := by decide +kernel
theorem dX11_raised_223 : decode cX11_raised 223 = .ok (.lload 12, 2) := by decide +kernel
theorem dX11_raised_225 : decode cX11_raised 225 = .ok (.lload 7, 2) := by decide +kernel
theorem dX11_raised_227 : decode cX11_raised 227 = .ok (.lmul, 1) := by decide +kernel
theorem dX11_raised_228 : decode cX11_raised 228 = .ok (.lload 5, 2) := by decide +kernel
theorem dX11_raised_230 : decode cX11_raised 230 = .ok (.lload 14, 2) := by decide +kernel
theorem dX11_raised_232 : decode cX11_raised 232 = .ok (.lmul, 1) := by decide +kernel
theorem dX11_raised_233 : decode cX11_raised 233 = .ok (.lcmp, 1) := by decide +kernel
theorem dX11_raised_234 : decode cX11_raised 234 = .ok (.ifCond .le 24, 3) := by decide +kernel
theorem dX11_raised_237 : decode cX11_raised 237 = .ok (.goto 17, 3) := by decide +kernel
theorem dX11_raised_240 : decode cX11_raised 240 = .ok (.lload 12, 2) := by decide +kernel
theorem dX11_raised_242 : decode cX11_raised 242 = .ok (.lload 7, 2) := by decide +kernel
theorem dX11_raised_244 : decode cX11_raised 244 = .ok (.lmul, 1) := by decide +kernel
theorem dX11_raised_245 : decode cX11_raised 245 = .ok (.lload 5, 2) := by decide +kernel
theorem dX11_raised_247 : decode cX11_raised 247 = .ok (.lload 14, 2) := by decide +kernel
theorem dX11_raised_249 : decode cX11_raised 249 = .ok (.lmul, 1) := by decide +kernel
theorem dX11_raised_250 : decode cX11_raised 250 = .ok (.lcmp, 1) := by decide +kernel
theorem dX11_raised_251 : decode cX11_raised 251 = .ok (.ifCond .ge 7, 3) := by decide +kernel
theorem dX11_raised_254 : decode cX11_raised 254 = .ok (.iconst 1, 1) := by decide +kernel
theorem dX11_raised_255 : decode cX11_raised 255 = .ok (.goto 4, 3) := by decide +kernel
theorem dX11_raised_258 : decode cX11_raised 258 = .ok (.iconst 0, 1) := by decide +kernel
theorem dX11_raised_259 : decode cX11_raised 259 = .ok (.istore 16, 2) := by decide +kernel
theorem dX11_raised_261 : decode cX11_raised 261 = .ok (.iload 16, 2) := by decide +kernel
theorem dX11_raised_263 : decode cX11_raised 263 = .ok (.ifCond .eq 8, 3) := by decide +kernel
theorem dX11_raised_266 : decode cX11_raised 266 = .ok (.lload 12, 2) := by decide +kernel
theorem dX11_raised_268 : decode cX11_raised 268 = .ok (.goto 5, 3) := by decide +kernel
theorem dX11_raised_271 : decode cX11_raised 271 = .ok (.lload 5, 2) := by decide +kernel
theorem dX11_raised_273 : decode cX11_raised 273 = .ok (.lstore 5, 2) := by decide +kernel
theorem dX11_raised_275 : decode cX11_raised 275 = .ok (.iload 16, 2) := by decide +kernel
theorem dX11_raised_277 : decode cX11_raised 277 = .ok (.ifCond .eq 8, 3) := by decide +kernel
theorem dX11_raised_280 : decode cX11_raised 280 = .ok (.lload 14, 2) := by decide +kernel
theorem dX11_raised_282 : decode cX11_raised 282 = .ok (.goto 5, 3) := by decide +kernel
theorem dX11_raised_285 : decode cX11_raised 285 = .ok (.lload 7, 2) := by decide +kernel
theorem dX11_raised_287 : decode cX11_raised 287 = .ok (.lstore 7, 2) := by decide +kernel
theorem dX11_raised_289 : decode cX11_raised 289 = .ok (.iconst 0, 1) := by decide +kernel
theorem dX11_raised_290 : decode cX11_raised 290 = .ok (.istore 9, 2) := by decide +kernel
theorem dX11_raised_292 : decode cX11_raised 292 = .ok (.iinc 10 1, 3) := by decide +kernel
theorem dX11_raised_295 : decode cX11_raised 295 = .ok (.goto (-199), 3) := by decide +kernel
theorem dX11_raised_298 : decode cX11_raised 298 = .ok (.lload 5, 2) := by decide +kernel
theorem dX11_raised_300 : decode cX11_raised 300 = .ok (.lload 7, 2) := by decide +kernel
theorem dX11_raised_302 : decode cX11_raised 302 = .ok (.lcmp, 1) := by decide +kernel
theorem dX11_raised_303 : decode cX11_raised 303 = .ok (.ifCond .le 7, 3) := by decide +kernel
theorem dX11_raised_306 : decode cX11_raised 306 = .ok (.lconst 1, 1) := by decide +kernel
theorem dX11_raised_307 : decode cX11_raised 307 = .ok (.goto 11, 3) := by decide +kernel
theorem dX11_raised_310 : decode cX11_raised 310 = .ok (.lload 5, 2) := by decide +kernel
theorem dX11_raised_312 : decode cX11_raised 312 = .ok (.lload 7, 2) := by decide +kernel
theorem dX11_raised_314 : decode cX11_raised 314 = .ok (.iload_n 3, 1) := by decide +kernel
theorem dX11_raised_315 : decode cX11_raised 315 = .ok (.invokestatic 140, 3) := by decide +kernel
theorem dX11_raised_318 : decode cX11_raised 318 = .ok (.lreturn, 1) := by decide +kernel
theorem dX11_forget_0 : decode cX11_forget 0 = .ok (.aload_n 0, 1) := by decide +kernel
theorem dX11_forget_1 : decode cX11_forget 1 = .ok (.iconst 0, 1) := by decide +kernel
theorem dX11_forget_2 : decode cX11_forget 2 = .ok (.putfield 50, 3) := by decide +kernel
theorem dX11_forget_5 : decode cX11_forget 5 = .ok (.aload_n 0, 1) := by decide +kernel
theorem dX11_forget_6 : decode cX11_forget 6 = .ok (.getfield 157, 3) := by decide +kernel
theorem dX11_forget_9 : decode cX11_forget 9 = .ok (.istore_n 1, 1) := by decide +kernel
theorem dX11_forget_10 : decode cX11_forget 10 = .ok (.aload_n 0, 1) := by decide +kernel
theorem dX11_forget_11 : decode cX11_forget 11 = .ok (.iconst 0, 1) := by decide +kernel
theorem dX11_forget_12 : decode cX11_forget 12 = .ok (.putfield 157, 3) := by decide +kernel
theorem dX11_forget_15 : decode cX11_forget 15 = .ok (.iload_n 1, 1) := by decide +kernel
theorem dX11_forget_16 : decode cX11_forget 16 = .ok (.ireturn, 1) := by decide +kernel
set_option maxRecDepth 20000 in
theorem ggX11_begin_X11_in : GoodIn wsX11_begin wsX11_in := goodIn_r _ [15] (by decide +kernel) (by decide +kernel)
set_option maxRecDepth 20000 in
theorem gX11_begin_X11_in : GoodIn wsX11_begin (va_wsS RX11 78 yX11_in wsX11_in) := goodIn_app (goodIn_of _ (by decide +kernel)) ggX11_begin_X11_in
set_option maxRecDepth 20000 in
theorem ggX11_begin_X11_isTrust : GoodIn wsX11_begin wsX11_isTrust := goodIn_r _ [18, 2, 19, 12, 13, 14, 15] (by decide +kernel) (by decide +kernel)
set_option maxRecDepth 20000 in
theorem gX11_begin_X11_isTrust : GoodIn wsX11_begin (va_wsS RX11 110 yX11_isTrust wsX11_isTrust) := goodIn_app (goodIn_of _ (by decide +kernel)) ggX11_begin_X11_isTrust
theorem dX11_begin_0 : decode cX11_begin 0 = .ok (.aload_n 0, 1) := by decide +kernel
theorem dX11_begin_1 : decode cX11_begin 1 = .ok (.iconst 0, 1) := by decide +kernel
theorem dX11_begin_2 : decode cX11_begin 2 = .ok (.putfield 50, 3) := by decide +kernel
theorem dX11_begin_5 : decode cX11_begin 5 = .ok (.iload_n 2, 1) := by decide +kernel
theorem dX11_begin_6 : decode cX11_begin 6 = .ok (.i2l, 1) := by decide +kernel
theorem dX11_begin_7 : decode cX11_begin 7 = .ok (.ldc2_w 108, 3) := by decide +kernel
theorem dX11_begin_10 : decode cX11_begin 10 = .ok (.ldc2_w 122, 3) := by decide +kernel
theorem dX11_begin_13 : decode cX11_begin 13 = .ok (.invokestatic 78, 3) := by decide +kernel
theorem dX11_begin_16 : decode cX11_begin 16 = .ok (.ifCond .eq 16, 3) := by decide +kernel
theorem dX11_begin_19 : decode cX11_begin 19 = .ok (.iload_n 1, 1) := by decide +kernel
theorem dX11_begin_20 : decode cX11_begin 20 = .ok (.i2l, 1) := by decide +kernel
theorem dX11_begin_21 : decode cX11_begin 21 = .ok (.lconst 1, 1) := by decide +kernel
theorem dX11_begin_22 : decode cX11_begin 22 = .ok (.iload_n 2, 1) := by decide +kernel
theorem dX11_begin_23 : decode cX11_begin 23 = .ok (.iconst 1, 1) := by decide +kernel
theorem dX11_begin_24 : decode cX11_begin 24 = .ok (.isub, 1) := by decide +kernel
theorem dX11_begin_25 : decode cX11_begin 25 = .ok (.i2l, 1) := by decide +kernel
theorem dX11_begin_26 : decode cX11_begin 26 = .ok (.invokestatic 78, 3) := by decide +kernel
theorem dX11_begin_29 : decode cX11_begin 29 = .ok (.ifCond .ne 5, 3) := by decide +kernel
theorem dX11_begin_32 : decode cX11_begin 32 = .ok (.iconst (-1), 1) := by decide +kernel
theorem dX11_begin_33 : decode cX11_begin 33 = .ok (.ireturn, 1) := by decide +kernel
theorem dX11_begin_34 : decode cX11_begin 34 = .ok (.iload_n 3, 1) := by decide +kernel
theorem dX11_begin_35 : decode cX11_begin 35 = .ok (.iload 4, 2) := by decide +kernel
theorem dX11_begin_37 : decode cX11_begin 37 = .ok (.invokestatic 110, 3) := by decide +kernel
theorem dX11_begin_40 : decode cX11_begin 40 = .ok (.ifCond .ne 10, 3) := by decide +kernel
theorem dX11_begin_43 : decode cX11_begin 43 = .ok (.aload_n 0, 1) := by decide +kernel
theorem dX11_begin_44 : decode cX11_begin 44 = .ok (.iconst 1, 1) := by decide +kernel
theorem dX11_begin_45 : decode cX11_begin 45 = .ok (.putfield 50, 3) := by decide +kernel
theorem dX11_begin_48 : decode cX11_begin 48 = .ok (.iconst 0, 1) := by decide +kernel
theorem dX11_begin_49 : decode cX11_begin 49 = .ok (.ireturn, 1) := by decide +kernel
theorem dX11_begin_50 : decode cX11_begin 50 = .ok (.aload_n 0, 1) := by decide +kernel
theorem dX11_begin_51 : decode cX11_begin 51 = .ok (.iconst 1, 1) := by decide +kernel
theorem dX11_begin_52 : decode cX11_begin 52 = .ok (.putfield 164, 3) := by decide +kernel
theorem dX11_begin_55 : decode cX11_begin 55 = .ok (.aload_n 0, 1) := by decide +kernel
theorem dX11_begin_56 : decode cX11_begin 56 = .ok (.iload_n 1, 1) := by decide +kernel
theorem dX11_begin_57 : decode cX11_begin 57 = .ok (.putfield 168, 3) := by decide +kernel
theorem dX11_begin_60 : decode cX11_begin 60 = .ok (.aload_n 0, 1) := by decide +kernel
theorem dX11_begin_61 : decode cX11_begin 61 = .ok (.iload_n 2, 1) := by decide +kernel
theorem dX11_begin_62 : decode cX11_begin 62 = .ok (.putfield 171, 3) := by decide +kernel
theorem dX11_begin_65 : decode cX11_begin 65 = .ok (.aload_n 0, 1) := by decide +kernel
theorem dX11_begin_66 : decode cX11_begin 66 = .ok (.iload_n 3, 1) := by decide +kernel
theorem dX11_begin_67 : decode cX11_begin 67 = .ok (.putfield 174, 3) := by decide +kernel
theorem dX11_begin_70 : decode cX11_begin 70 = .ok (.aload_n 0, 1) := by decide +kernel
theorem dX11_begin_71 : decode cX11_begin 71 = .ok (.iload 4, 2) := by decide +kernel
theorem dX11_begin_73 : decode cX11_begin 73 = .ok (.putfield 177, 3) := by decide +kernel
theorem dX11_begin_76 : decode cX11_begin 76 = .ok (.aload_n 0, 1) := by decide +kernel
theorem dX11_begin_77 : decode cX11_begin 77 = .ok (.iconst 0, 1) := by decide +kernel
theorem dX11_begin_78 : decode cX11_begin 78 = .ok (.putfield 180, 3) := by decide +kernel
theorem dX11_begin_81 : decode cX11_begin 81 = .ok (.aload_n 0, 1) := by decide +kernel
theorem dX11_begin_82 : decode cX11_begin 82 = .ok (.iconst 0, 1) := by decide +kernel
theorem dX11_begin_83 : decode cX11_begin 83 = .ok (.putfield 183, 3) := by decide +kernel
theorem dX11_begin_86 : decode cX11_begin 86 = .ok (.aload_n 0, 1) := by decide +kernel
theorem dX11_begin_87 : decode cX11_begin 87 = .ok (.iconst 0, 1) := by decide +kernel
theorem dX11_begin_88 : decode cX11_begin 88 = .ok (.putfield 186, 3) := by decide +kernel
theorem dX11_begin_91 : decode cX11_begin 91 = .ok (.iconst 1, 1) := by decide +kernel
theorem dX11_begin_92 : decode cX11_begin 92 = .ok (.ireturn, 1) := by decide +kernel
set_option maxRecDepth 20000 in
theorem ggX11_isRich_X11_power : GoodIn wsX11_isRich wsX11_power := goodIn_r _ [12, 13, 14, 11, 15, 16, 17, 18, 19, 20] (by decide +kernel) (by decide +kernel)
set_option maxRecDepth 20000 in
theorem gX11_isRich_X11_power : GoodIn wsX11_isRich (va_wsS RX11 96 yX11_power wsX11_power) := goodIn_app (goodIn_of _ (by decide +kernel)) ggX11_isRich_X11_power
set_option maxRecDepth 20000 in
theorem ggX11_isRich_X11_times : GoodIn wsX11_isRich wsX11_times := goodIn_r _ [19, 20] (by decide +kernel) (by decide +kernel)
set_option maxRecDepth 20000 in
theorem gX11_isRich_X11_times : GoodIn wsX11_isRich (va_wsS RX11 61 yX11_times wsX11_times) := goodIn_app (goodIn_of _ (by decide +kernel)) ggX11_isRich_X11_times
set_option maxRecDepth 20000 in
theorem ggX11_isRich_X11_term : GoodIn wsX11_isRich wsX11_term := goodIn_r _ [23, 13, 14, 11, 15, 16, 17, 18, 19, 20, 24, 25, 26] (by decide +kernel) (by decide +kernel)
set_option maxRecDepth 20000 in
theorem gX11_isRich_X11_term : GoodIn wsX11_isRich (va_wsS RX11 68 yX11_term wsX11_term) := goodIn_app (goodIn_of _ (by decide +kernel)) ggX11_isRich_X11_term
set_option maxRecDepth 20000 in
theorem ggX11_isRich_X11_compared : GoodIn wsX11_isRich wsX11_compared := goodIn_r _ [29] (by decide +kernel) (by decide +kernel)
set_option maxRecDepth 20000 in
theorem gX11_isRich_X11_compared : GoodIn wsX11_isRich (va_wsS RX11 100 yX11_compared wsX11_compared) := goodIn_app (goodIn_of _ (by decide +kernel)) ggX11_isRich_X11_compared
theorem dX11_isRich_0 : decode cX11_isRich 0 = .ok (.aload_n 0, 1) := by decide +kernel
theorem dX11_isRich_1 : decode cX11_isRich 1 = .ok (.getfield 7, 3) := by decide +kernel
theorem dX11_isRich_4 : decode cX11_isRich 4 = .ok (.aload_n 0, 1) := by decide +kernel
theorem dX11_isRich_5 : decode cX11_isRich 5 = .ok (.getfield 171, 3) := by decide +kernel
theorem dX11_isRich_8 : decode cX11_isRich 8 = .ok (.aload_n 0, 1) := by decide +kernel
theorem dX11_isRich_9 : decode cX11_isRich 9 = .ok (.getfield 180, 3) := by decide +kernel
theorem dX11_isRich_12 : decode cX11_isRich 12 = .ok (.invokestatic 96, 3) := by decide +kernel
theorem dX11_isRich_15 : decode cX11_isRich 15 = .ok (.aload_n 0, 1) := by decide +kernel
theorem dX11_isRich_16 : decode cX11_isRich 16 = .ok (.getfield 7, 3) := by decide +kernel
theorem dX11_isRich_19 : decode cX11_isRich 19 = .ok (.aload_n 0, 1) := by decide +kernel
theorem dX11_isRich_20 : decode cX11_isRich 20 = .ok (.getfield 174, 3) := by decide +kernel
theorem dX11_isRich_23 : decode cX11_isRich 23 = .ok (.i2l, 1) := by decide +kernel
theorem dX11_isRich_24 : decode cX11_isRich 24 = .ok (.invokestatic 61, 3) := by decide +kernel
theorem dX11_isRich_27 : decode cX11_isRich 27 = .ok (.aload_n 0, 1) := by decide +kernel
theorem dX11_isRich_28 : decode cX11_isRich 28 = .ok (.getfield 13, 3) := by decide +kernel
theorem dX11_isRich_31 : decode cX11_isRich 31 = .ok (.aload_n 0, 1) := by decide +kernel
theorem dX11_isRich_32 : decode cX11_isRich 32 = .ok (.getfield 180, 3) := by decide +kernel
theorem dX11_isRich_35 : decode cX11_isRich 35 = .ok (.aload_n 0, 1) := by decide +kernel
theorem dX11_isRich_36 : decode cX11_isRich 36 = .ok (.getfield 183, 3) := by decide +kernel
theorem dX11_isRich_39 : decode cX11_isRich 39 = .ok (.aload_n 0, 1) := by decide +kernel
theorem dX11_isRich_40 : decode cX11_isRich 40 = .ok (.getfield 168, 3) := by decide +kernel
theorem dX11_isRich_43 : decode cX11_isRich 43 = .ok (.aload_n 0, 1) := by decide +kernel
theorem dX11_isRich_44 : decode cX11_isRich 44 = .ok (.getfield 171, 3) := by decide +kernel
theorem dX11_isRich_47 : decode cX11_isRich 47 = .ok (.aload_n 0, 1) := by decide +kernel
theorem dX11_isRich_48 : decode cX11_isRich 48 = .ok (.getfield 168, 3) := by decide +kernel
theorem dX11_isRich_51 : decode cX11_isRich 51 = .ok (.isub, 1) := by decide +kernel
theorem dX11_isRich_52 : decode cX11_isRich 52 = .ok (.invokestatic 68, 3) := by decide +kernel
theorem dX11_isRich_55 : decode cX11_isRich 55 = .ok (.aload_n 0, 1) := by decide +kernel
theorem dX11_isRich_56 : decode cX11_isRich 56 = .ok (.getfield 13, 3) := by decide +kernel
theorem dX11_isRich_59 : decode cX11_isRich 59 = .ok (.aload_n 0, 1) := by decide +kernel
theorem dX11_isRich_60 : decode cX11_isRich 60 = .ok (.getfield 180, 3) := by decide +kernel
theorem dX11_isRich_63 : decode cX11_isRich 63 = .ok (.iconst 1, 1) := by decide +kernel
theorem dX11_isRich_64 : decode cX11_isRich 64 = .ok (.iadd, 1) := by decide +kernel
theorem dX11_isRich_65 : decode cX11_isRich 65 = .ok (.i2l, 1) := by decide +kernel
theorem dX11_isRich_66 : decode cX11_isRich 66 = .ok (.invokestatic 61, 3) := by decide +kernel
theorem dX11_isRich_69 : decode cX11_isRich 69 = .ok (.aload_n 0, 1) := by decide +kernel
theorem dX11_isRich_70 : decode cX11_isRich 70 = .ok (.getfield 13, 3) := by decide +kernel
theorem dX11_isRich_73 : decode cX11_isRich 73 = .ok (.aload_n 0, 1) := by decide +kernel
theorem dX11_isRich_74 : decode cX11_isRich 74 = .ok (.getfield 177, 3) := by decide +kernel
theorem dX11_isRich_77 : decode cX11_isRich 77 = .ok (.i2l, 1) := by decide +kernel
theorem dX11_isRich_78 : decode cX11_isRich 78 = .ok (.invokestatic 61, 3) := by decide +kernel
theorem dX11_isRich_81 : decode cX11_isRich 81 = .ok (.aload_n 0, 1) := by decide +kernel
theorem dX11_isRich_82 : decode cX11_isRich 82 = .ok (.getfield 7, 3) := by decide +kernel
theorem dX11_isRich_85 : decode cX11_isRich 85 = .ok (.aload_n 0, 1) := by decide +kernel
theorem dX11_isRich_86 : decode cX11_isRich 86 = .ok (.getfield 13, 3) := by decide +kernel
theorem dX11_isRich_89 : decode cX11_isRich 89 = .ok (.invokestatic 100, 3) := by decide +kernel
theorem dX11_isRich_92 : decode cX11_isRich 92 = .ok (.ifCond .lt 7, 3) := by decide +kernel
theorem dX11_isRich_95 : decode cX11_isRich 95 = .ok (.iconst 1, 1) := by decide +kernel
theorem dX11_isRich_96 : decode cX11_isRich 96 = .ok (.goto 4, 3) := by decide +kernel
theorem dX11_isRich_99 : decode cX11_isRich 99 = .ok (.iconst 0, 1) := by decide +kernel
theorem dX11_isRich_100 : decode cX11_isRich 100 = .ok (.ireturn, 1) := by decide +kernel
set_option maxRecDepth 20000 in
theorem ggX11_hit_X11_isRich : GoodIn wsX11_hit wsX11_isRich := goodIn_r _ [10, 11, 12, 3, 13, 14, 4, 15, 16, 17, 18, 9, 19, 20, 21, 22, 23, 24, 25, 26, 27, 28, 29, 30, 31, 32, 33, 34, 35, 36, 37, 38, 39, 40, 41, 42, 43, 44, 45, 46, 47, 48, 49, 50, 51, 52, 53, 54, 55, 56, 57, 58, 59, 60, 61, 62] (by decide +kernel) (by decide +kernel)
set_option maxRecDepth 20000 in
theorem gX11_hit_X11_isRich : GoodIn wsX11_hit (wsV RX11 189 RX11 yX11_isRich wsX11_isRich) := goodIn_app (goodIn_of _ (by decide +kernel)) ggX11_hit_X11_isRich
theorem dX11_hit_0 : decode cX11_hit 0 = .ok (.aload_n 0, 1) := by decide +kernel
theorem dX11_hit_1 : decode cX11_hit 1 = .ok (.iconst 0, 1) := by decide +kernel
theorem dX11_hit_2 : decode cX11_hit 2 = .ok (.putfield 50, 3) := by decide +kernel
theorem dX11_hit_5 : decode cX11_hit 5 = .ok (.aload_n 0, 1) := by decide +kernel
theorem dX11_hit_6 : decode cX11_hit 6 = .ok (.getfield 164, 3) := by decide +kernel
theorem dX11_hit_9 : decode cX11_hit 9 = .ok (.ifCond .ne 6, 3) := by decide +kernel
theorem dX11_hit_12 : decode cX11_hit 12 = .ok (.bipush (-3), 2) := by decide +kernel
theorem dX11_hit_14 : decode cX11_hit 14 = .ok (.ireturn, 1) := by decide +kernel
theorem dX11_hit_15 : decode cX11_hit 15 = .ok (.aload_n 0, 1) := by decide +kernel
theorem dX11_hit_16 : decode cX11_hit 16 = .ok (.getfield 180, 3) := by decide +kernel
theorem dX11_hit_19 : decode cX11_hit 19 = .ok (.bipush 60, 2) := by decide +kernel
theorem dX11_hit_21 : decode cX11_hit 21 = .ok (.if_icmp .ne 6, 3) := by decide +kernel
theorem dX11_hit_24 : decode cX11_hit 24 = .ok (.bipush (-2), 2) := by decide +kernel
theorem dX11_hit_26 : decode cX11_hit 26 = .ok (.ireturn, 1) := by decide +kernel
theorem dX11_hit_27 : decode cX11_hit 27 = .ok (.aload_n 0, 1) := by decide +kernel
theorem dX11_hit_28 : decode cX11_hit 28 = .ok (.dup, 1) := by decide +kernel
theorem dX11_hit_29 : decode cX11_hit 29 = .ok (.getfield 180, 3) := by decide +kernel
theorem dX11_hit_32 : decode cX11_hit 32 = .ok (.iconst 1, 1) := by decide +kernel
theorem dX11_hit_33 : decode cX11_hit 33 = .ok (.iadd, 1) := by decide +kernel
theorem dX11_hit_34 : decode cX11_hit 34 = .ok (.putfield 180, 3) := by decide +kernel
theorem dX11_hit_37 : decode cX11_hit 37 = .ok (.aload_n 0, 1) := by decide +kernel
theorem dX11_hit_38 : decode cX11_hit 38 = .ok (.dup, 1) := by decide +kernel
theorem dX11_hit_39 : decode cX11_hit 39 = .ok (.getfield 183, 3) := by decide +kernel
theorem dX11_hit_42 : decode cX11_hit 42 = .ok (.iload_n 1, 1) := by decide +kernel
theorem dX11_hit_43 : decode cX11_hit 43 = .ok (.ifCond .eq 7, 3) := by decide +kernel
theorem dX11_hit_46 : decode cX11_hit 46 = .ok (.iconst 1, 1) := by decide +kernel
theorem dX11_hit_47 : decode cX11_hit 47 = .ok (.goto 4, 3) := by decide +kernel
theorem dX11_hit_50 : decode cX11_hit 50 = .ok (.iconst 0, 1) := by decide +kernel
theorem dX11_hit_51 : decode cX11_hit 51 = .ok (.iadd, 1) := by decide +kernel
theorem dX11_hit_52 : decode cX11_hit 52 = .ok (.putfield 183, 3) := by decide +kernel
theorem dX11_hit_55 : decode cX11_hit 55 = .ok (.aload_n 0, 1) := by decide +kernel
theorem dX11_hit_56 : decode cX11_hit 56 = .ok (.getfield 186, 3) := by decide +kernel
theorem dX11_hit_59 : decode cX11_hit 59 = .ok (.ifCond .ne 18, 3) := by decide +kernel
theorem dX11_hit_62 : decode cX11_hit 62 = .ok (.aload_n 0, 1) := by decide +kernel
theorem dX11_hit_63 : decode cX11_hit 63 = .ok (.invokevirtual 189, 3) := by decide +kernel
theorem dX11_hit_66 : decode cX11_hit 66 = .ok (.ifCond .eq 11, 3) := by decide +kernel
theorem dX11_hit_69 : decode cX11_hit 69 = .ok (.aload_n 0, 1) := by decide +kernel
theorem dX11_hit_70 : decode cX11_hit 70 = .ok (.aload_n 0, 1) := by decide +kernel
theorem dX11_hit_71 : decode cX11_hit 71 = .ok (.getfield 180, 3) := by decide +kernel
theorem dX11_hit_74 : decode cX11_hit 74 = .ok (.putfield 186, 3) := by decide +kernel
theorem dX11_hit_77 : decode cX11_hit 77 = .ok (.aload_n 0, 1) := by decide +kernel
theorem dX11_hit_78 : decode cX11_hit 78 = .ok (.getfield 186, 3) := by decide +kernel
theorem dX11_hit_81 : decode cX11_hit 81 = .ok (.ifCond .le 7, 3) := by decide +kernel
theorem dX11_hit_84 : decode cX11_hit 84 = .ok (.iconst 1, 1) := by decide +kernel
theorem dX11_hit_85 : decode cX11_hit 85 = .ok (.goto 4, 3) := by decide +kernel
theorem dX11_hit_88 : decode cX11_hit 88 = .ok (.iconst 0, 1) := by decide +kernel
theorem dX11_hit_89 : decode cX11_hit 89 = .ok (.ireturn, 1) := by decide +kernel
set_option maxRecDepth 20000 in
theorem ggX11_test_X11_isRich : GoodIn wsX11_test wsX11_isRich := goodIn_r _ [10, 11, 12, 3, 13, 14, 4, 15, 16, 17, 18, 9, 19, 20, 21, 22, 23, 24, 25, 26, 27, 28, 29, 30, 31, 32, 33, 34, 35, 36, 37, 38, 39, 40, 41, 42, 43, 44, 45, 46, 47, 48, 49, 50, 51, 52, 53, 54, 55, 56, 57, 58, 59, 60, 61, 62] (by decide +kernel) (by decide +kernel)
set_option maxRecDepth 20000 in
theorem gX11_test_X11_isRich : GoodIn wsX11_test (wsV RX11 189 RX11 yX11_isRich wsX11_isRich) := goodIn_app (goodIn_of _ (by decide +kernel)) ggX11_test_X11_isRich
theorem dX11_test_0 : decode cX11_test 0 = .ok (.aload_n 0, 1) := by decide +kernel
theorem dX11_test_1 : decode cX11_test 1 = .ok (.iconst 0, 1) := by decide +kernel
theorem dX11_test_2 : decode cX11_test 2 = .ok (.putfield 50, 3) := by decide +kernel
theorem dX11_test_5 : decode cX11_test 5 = .ok (.aload_n 0, 1) := by decide +kernel
theorem dX11_test_6 : decode cX11_test 6 = .ok (.getfield 164, 3) := by decide +kernel
theorem dX11_test_9 : decode cX11_test 9 = .ok (.ifCond .ne 6, 3) := by decide +kernel
theorem dX11_test_12 : decode cX11_test 12 = .ok (.bipush (-3), 2) := by decide +kernel
theorem dX11_test_14 : decode cX11_test 14 = .ok (.ireturn, 1) := by decide +kernel
theorem dX11_test_15 : decode cX11_test 15 = .ok (.iload_n 1, 1) := by decide +kernel
theorem dX11_test_16 : decode cX11_test 16 = .ok (.tableswitch 60 0 3 #[32, 37, 42, 47], 32) := by decide +kernel
theorem dX11_test_48 : decode cX11_test 48 = .ok (.aload_n 0, 1) := by decide +kernel
theorem dX11_test_49 : decode cX11_test 49 = .ok (.getfield 180, 3) := by decide +kernel
theorem dX11_test_52 : decode cX11_test 52 = .ok (.ireturn, 1) := by decide +kernel
theorem dX11_test_53 : decode cX11_test 53 = .ok (.aload_n 0, 1) := by decide +kernel
theorem dX11_test_54 : decode cX11_test 54 = .ok (.getfield 183, 3) := by decide +kernel
theorem dX11_test_57 : decode cX11_test 57 = .ok (.ireturn, 1) := by decide +kernel
