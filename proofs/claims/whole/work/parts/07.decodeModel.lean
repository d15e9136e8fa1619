theorem dX2_init_0 : decode cX2_init 0 = .ok (.aload_n 0, 1) := by decide +kernel
theorem dX2_init_1 : decode cX2_init 1 = .ok (.invokespecial 1, 3) := by decide +kernel
theorem dX2_init_4 : decode cX2_init 4 = .ok (.aload_n 0, 1) := by decide +kernel
theorem dX2_init_5 : decode cX2_init 5 = .ok (.bipush 16, 2) := by decide +kernel
theorem dX2_init_7 : decode cX2_init 7 = .ok (.newarray .int, 2) := by decide +kernel
theorem dX2_init_9 : decode cX2_init 9 = .ok (.putfield 9, 3) := by decide +kernel
theorem dX2_init_12 : decode cX2_init 12 = .ok (.aload_n 0, 1) := by decide +kernel
theorem dX2_init_13 : decode cX2_init 13 = .ok (.bipush 16, 2) := by decide +kernel
theorem dX2_init_15 : decode cX2_init 15 = .ok (.newarray .boolean, 2) := by decide +kernel
theorem dX2_init_17 : decode cX2_init 17 = .ok (.putfield 13, 3) := by decide +kernel
theorem dX2_init_20 : decode cX2_init 20 = .ok (.aload_n 0, 1) := by decide +kernel
theorem dX2_init_21 : decode cX2_init 21 = .ok (.bipush 16, 2) := by decide +kernel
theorem dX2_init_23 : decode cX2_init 23 = .ok (.newarray .int, 2) := by decide +kernel
theorem dX2_init_25 : decode cX2_init 25 = .ok (.putfield 17, 3) := by decide +kernel
theorem dX2_init_28 : decode cX2_init 28 = .ok (.aload_n 0, 1) := by decide +kernel
theorem dX2_init_29 : decode cX2_init 29 = .ok (.bipush 16, 2) := by decide +kernel
theorem dX2_init_31 : decode cX2_init 31 = .ok (.newarray .int, 2) := by decide +kernel
theorem dX2_init_33 : decode cX2_init 33 = .ok (.putfield 20, 3) := by decide +kernel
theorem dX2_init_36 : decode cX2_init 36 = .ok (.aload_n 0, 1) := by decide +kernel
theorem dX2_init_37 : decode cX2_init 37 = .ok (.bipush 16, 2) := by decide +kernel
theorem dX2_init_39 : decode cX2_init 39 = .ok (.newarray .int, 2) := by decide +kernel
theorem dX2_init_41 : decode cX2_init 41 = .ok (.putfield 23, 3) := by decide +kernel
theorem dX2_init_44 : decode cX2_init 44 = .ok (.aload_n 0, 1) := by decide +kernel
theorem dX2_init_45 : decode cX2_init 45 = .ok (.bipush 16, 2) := by decide +kernel
theorem dX2_init_47 : decode cX2_init 47 = .ok (.newarray .boolean, 2) := by decide +kernel
theorem dX2_init_49 : decode cX2_init 49 = .ok (.putfield 26, 3) := by decide +kernel
theorem dX2_init_52 : decode cX2_init 52 = .ok (.aload_n 0, 1) := by decide +kernel
theorem dX2_init_53 : decode cX2_init 53 = .ok (.bipush 16, 2) := by decide +kernel
theorem dX2_init_55 : decode cX2_init 55 = .ok (.newarray .int, 2) := by decide +kernel
theorem dX2_init_57 : decode cX2_init 57 = .ok (.putfield 29, 3) := by decide +kernel
theorem dX2_init_60 : decode cX2_init 60 = .ok (.aload_n 0, 1) := by decide +kernel
theorem dX2_init_61 : decode cX2_init 61 = .ok (.bipush 16, 2) := by decide +kernel
theorem dX2_init_63 : decode cX2_init 63 = .ok (.newarray .int, 2) := by decide +kernel
theorem dX2_init_65 : decode cX2_init 65 = .ok (.putfield 32, 3) := by decide +kernel
theorem dX2_init_68 : decode cX2_init 68 = .ok (.aload_n 0, 1) := by decide +kernel
theorem dX2_init_69 : decode cX2_init 69 = .ok (.bipush 16, 2) := by decide +kernel
theorem dX2_init_71 : decode cX2_init 71 = .ok (.newarray .int, 2) := by decide +kernel
theorem dX2_init_73 : decode cX2_init 73 = .ok (.putfield 35, 3) := by decide +kernel
theorem dX2_init_76 : decode cX2_init 76 = .ok (.aload_n 0, 1) := by decide +kernel
theorem dX2_init_77 : decode cX2_init 77 = .ok (.bipush 16, 2) := by decide +kernel
theorem dX2_init_79 : decode cX2_init 79 = .ok (.newarray .int, 2) := by decide +kernel
theorem dX2_init_81 : decode cX2_init 81 = .ok (.putfield 38, 3) := by decide +kernel
theorem dX2_init_84 : decode cX2_init 84 = .ok (.aload_n 0, 1) := by decide +kernel
theorem dX2_init_85 : decode cX2_init 85 = .ok (.bipush 16, 2) := by decide +kernel
theorem dX2_init_87 : decode cX2_init 87 = .ok (.newarray .int, 2) := by decide +kernel
theorem dX2_init_89 : decode cX2_init 89 = .ok (.putfield 41, 3) := by decide +kernel
theorem dX2_init_92 : decode cX2_init 92 = .ok (.aload_n 0, 1) := by decide +kernel
theorem dX2_init_93 : decode cX2_init 93 = .ok (.bipush 16, 2) := by decide +kernel
theorem dX2_init_95 : decode cX2_init 95 = .ok (.newarray .int, 2) := by decide +kernel
theorem dX2_init_97 : decode cX2_init 97 = .ok (.putfield 44, 3) := by decide +kernel
theorem dX2_init_100 : decode cX2_init 100 = .ok (.aload_n 0, 1) := by decide +kernel
theorem dX2_init_101 : decode cX2_init 101 = .ok (.bipush 16, 2) := by decide +kernel
theorem dX2_init_103 : decode cX2_init 103 = .ok (.newarray .int, 2) := by decide +kernel
theorem dX2_init_105 : decode cX2_init 105 = .ok (.putfield 47, 3) := by decide +kernel
theorem dX2_init_108 : decode cX2_init 108 = .ok (.aload_n 0, 1) := by decide +kernel
theorem dX2_init_109 : decode cX2_init 109 = .ok (.bipush 16, 2) := by decide +kernel
theorem dX2_init_111 : decode cX2_init 111 = .ok (.newarray .int, 2) := by decide +kernel
theorem dX2_init_113 : decode cX2_init 113 = .ok (.putfield 50, 3) := by decide +kernel
theorem dX2_init_116 : decode cX2_init 116 = .ok (.return_, 1) := by decide +kernel
theorem dX2_thrown_0 : decode cX2_thrown 0 = .ok (.aload_n 0, 1) := by decide +kernel
theorem dX2_thrown_1 : decode cX2_thrown 1 = .ok (.getfield 53, 3) := by decide +kernel
theorem dX2_thrown_4 : decode cX2_thrown 4 = .ok (.ireturn, 1) := by decide +kernel
theorem dX2_no_0 : decode cX2_no 0 = .ok (.aload_n 0, 1) := by decide +kernel
theorem dX2_no_1 : decode cX2_no 1 = .ok (.iload_n 1, 1) := by decide +kernel
theorem dX2_no_2 : decode cX2_no 2 = .ok (.putfield 53, 3) := by decide +kernel
theorem dX2_no_5 : decode cX2_no 5 = .ok (.iconst 0, 1) := by decide +kernel
theorem dX2_no_6 : decode cX2_no 6 = .ok (.ireturn, 1) := by decide +kernel
theorem dX2_isNot_0 : decode cX2_isNot 0 = .ok (.aload_n 0, 1) := by decide +kernel
theorem dX2_isNot_1 : decode cX2_isNot 1 = .ok (.iload_n 1, 1) := by decide +kernel
theorem dX2_isNot_2 : decode cX2_isNot 2 = .ok (.putfield 53, 3) := by decide +kernel
theorem dX2_isNot_5 : decode cX2_isNot 5 = .ok (.iconst 0, 1) := by decide +kernel
theorem dX2_isNot_6 : decode cX2_isNot 6 = .ok (.ireturn, 1) := by decide +kernel
theorem dX2_ok_0 : decode cX2_ok 0 = .ok (.aload_n 0, 1) := by decide +kernel
theorem dX2_ok_1 : decode cX2_ok 1 = .ok (.iconst 0, 1) := by decide +kernel
theorem dX2_ok_2 : decode cX2_ok 2 = .ok (.putfield 53, 3) := by decide +kernel
theorem dX2_ok_5 : decode cX2_ok 5 = .ok (.iload_n 1, 1) := by decide +kernel
theorem dX2_ok_6 : decode cX2_ok 6 = .ok (.ireturn, 1) := by decide +kernel
theorem dX2_isIn_0 : decode cX2_isIn 0 = .ok (.iload_n 0, 1) := by decide +kernel
theorem dX2_isIn_1 : decode cX2_isIn 1 = .ok (.iload_n 1, 1) := by decide +kernel
theorem dX2_isIn_2 : decode cX2_isIn 2 = .ok (.if_icmp .lt 12, 3) := by decide +kernel
theorem dX2_isIn_5 : decode cX2_isIn 5 = .ok (.iload_n 0, 1) := by decide +kernel
theorem dX2_isIn_6 : decode cX2_isIn 6 = .ok (.iload_n 2, 1) := by decide +kernel
theorem dX2_isIn_7 : decode cX2_isIn 7 = .ok (.if_icmp .gt 7, 3) := by decide +kernel
theorem dX2_isIn_10 : decode cX2_isIn 10 = .ok (.iconst 1, 1) := by decide +kernel
theorem dX2_isIn_11 : decode cX2_isIn 11 = .ok (.goto 4, 3) := by decide +kernel
theorem dX2_isIn_14 : decode cX2_isIn 14 = .ok (.iconst 0, 1) := by decide +kernel
theorem dX2_isIn_15 : decode cX2_isIn 15 = .ok (.ireturn, 1) := by decide +kernel
set_option maxRecDepth 20000 in
theorem ggX2_isPlace_X2_isIn : GoodIn wsX2_isPlace wsX2_isIn := goodIn_r _ [5] (by decide +kernel) (by decide +kernel)
set_option maxRecDepth 20000 in
theorem gX2_isPlace_X2_isIn : GoodIn wsX2_isPlace (va_wsS RX2 60 yX2_isIn wsX2_isIn) := goodIn_app (goodIn_of _ (by decide +kernel)) ggX2_isPlace_X2_isIn
theorem dX2_isPlace_0 : decode cX2_isPlace 0 = .ok (.iload_n 1, 1) := by decide +kernel
theorem dX2_isPlace_1 : decode cX2_isPlace 1 = .ok (.iconst 0, 1) := by decide +kernel
theorem dX2_isPlace_2 : decode cX2_isPlace 2 = .ok (.aload_n 0, 1) := by decide +kernel
theorem dX2_isPlace_3 : decode cX2_isPlace 3 = .ok (.getfield 57, 3) := by decide +kernel
theorem dX2_isPlace_6 : decode cX2_isPlace 6 = .ok (.iconst 1, 1) := by decide +kernel
theorem dX2_isPlace_7 : decode cX2_isPlace 7 = .ok (.isub, 1) := by decide +kernel
theorem dX2_isPlace_8 : decode cX2_isPlace 8 = .ok (.invokestatic 60, 3) := by decide +kernel
theorem dX2_isPlace_11 : decode cX2_isPlace 11 = .ok (.ireturn, 1) := by decide +kernel
set_option maxRecDepth 20000 in
theorem ggX2_isBridge_X2_isIn : GoodIn wsX2_isBridge wsX2_isIn := goodIn_r _ [5] (by decide +kernel) (by decide +kernel)
set_option maxRecDepth 20000 in
theorem gX2_isBridge_X2_isIn : GoodIn wsX2_isBridge (va_wsS RX2 60 yX2_isIn wsX2_isIn) := goodIn_app (goodIn_of _ (by decide +kernel)) ggX2_isBridge_X2_isIn
theorem dX2_isBridge_0 : decode cX2_isBridge 0 = .ok (.iload_n 1, 1) := by decide +kernel
theorem dX2_isBridge_1 : decode cX2_isBridge 1 = .ok (.iconst 0, 1) := by decide +kernel
theorem dX2_isBridge_2 : decode cX2_isBridge 2 = .ok (.aload_n 0, 1) := by decide +kernel
theorem dX2_isBridge_3 : decode cX2_isBridge 3 = .ok (.getfield 64, 3) := by decide +kernel
theorem dX2_isBridge_6 : decode cX2_isBridge 6 = .ok (.iconst 1, 1) := by decide +kernel
theorem dX2_isBridge_7 : decode cX2_isBridge 7 = .ok (.isub, 1) := by decide +kernel
theorem dX2_isBridge_8 : decode cX2_isBridge 8 = .ok (.invokestatic 60, 3) := by decide +kernel
theorem dX2_isBridge_11 : decode cX2_isBridge 11 = .ok (.ireturn, 1) := by decide +kernel
theorem dX2_above_0 : decode cX2_above 0 = .ok (.aload_n 0, 1) := by decide +kernel
theorem dX2_above_1 : decode cX2_above 1 = .ok (.getfield 9, 3) := by decide +kernel
theorem dX2_above_4 : decode cX2_above 4 = .ok (.iload_n 1, 1) := by decide +kernel
theorem dX2_above_5 : decode cX2_above 5 = .ok (.iaload, 1) := by decide +kernel
theorem dX2_above_6 : decode cX2_above 6 = .ok (.istore_n 3, 1) := by decide +kernel
theorem dX2_above_7 : decode cX2_above 7 = .ok (.iload_n 3, 1) := by decide +kernel
theorem dX2_above_8 : decode cX2_above 8 = .ok (.iconst (-1), 1) := by decide +kernel
theorem dX2_above_9 : decode cX2_above 9 = .ok (.if_icmp .eq 18, 3) := by decide +kernel
theorem dX2_above_12 : decode cX2_above 12 = .ok (.iload_n 3, 1) := by decide +kernel
theorem dX2_above_13 : decode cX2_above 13 = .ok (.iload_n 2, 1) := by decide +kernel
theorem dX2_above_14 : decode cX2_above 14 = .ok (.if_icmp .eq 13, 3) := by decide +kernel
theorem dX2_above_17 : decode cX2_above 17 = .ok (.aload_n 0, 1) := by decide +kernel
theorem dX2_above_18 : decode cX2_above 18 = .ok (.getfield 9, 3) := by decide +kernel
theorem dX2_above_21 : decode cX2_above 21 = .ok (.iload_n 3, 1) := by decide +kernel
theorem dX2_above_22 : decode cX2_above 22 = .ok (.iaload, 1) := by decide +kernel
theorem dX2_above_23 : decode cX2_above 23 = .ok (.istore_n 3, 1) := by decide +kernel
theorem dX2_above_24 : decode cX2_above 24 = .ok (.goto (-17), 3) := by decide +kernel
theorem dX2_above_27 : decode cX2_above 27 = .ok (.iload_n 3, 1) := by decide +kernel
theorem dX2_above_28 : decode cX2_above 28 = .ok (.iload_n 2, 1) := by decide +kernel
theorem dX2_above_29 : decode cX2_above 29 = .ok (.if_icmp .ne 7, 3) := by decide +kernel
theorem dX2_above_32 : decode cX2_above 32 = .ok (.iconst 1, 1) := by decide +kernel
theorem dX2_above_33 : decode cX2_above 33 = .ok (.goto 4, 3) := by decide +kernel
theorem dX2_above_36 : decode cX2_above 36 = .ok (.iconst 0, 1) := by decide +kernel
theorem dX2_above_37 : decode cX2_above 37 = .ok (.ireturn, 1) := by decide +kernel
set_option maxRecDepth 20000 in
theorem ggX2_aboveOf_X2_above : GoodIn wsX2_aboveOf wsX2_above := goodIn_r _ [6, 7, 8, 9, 10, 11, 12, 13, 14, 15, 16, 17, 18, 19, 20, 21, 22, 23, 24, 25, 26] (by decide +kernel) (by decide +kernel)
set_option maxRecDepth 20000 in
theorem gX2_aboveOf_X2_above : GoodIn wsX2_aboveOf (wsV RX2 67 RX2 yX2_above wsX2_above) := goodIn_app (goodIn_of _ (by decide +kernel)) ggX2_aboveOf_X2_above
theorem dX2_aboveOf_0 : decode cX2_aboveOf 0 = .ok (.iconst 0, 1) := by decide +kernel
theorem dX2_aboveOf_1 : decode cX2_aboveOf 1 = .ok (.istore_n 2, 1) := by decide +kernel
theorem dX2_aboveOf_2 : decode cX2_aboveOf 2 = .ok (.iconst 0, 1) := by decide +kernel
theorem dX2_aboveOf_3 : decode cX2_aboveOf 3 = .ok (.istore_n 3, 1) := by decide +kernel
theorem dX2_aboveOf_4 : decode cX2_aboveOf 4 = .ok (.iload_n 3, 1) := by decide +kernel
theorem dX2_aboveOf_5 : decode cX2_aboveOf 5 = .ok (.aload_n 0, 1) := by decide +kernel
theorem dX2_aboveOf_6 : decode cX2_aboveOf 6 = .ok (.getfield 57, 3) := by decide +kernel
theorem dX2_aboveOf_9 : decode cX2_aboveOf 9 = .ok (.if_icmp .ge 26, 3) := by decide +kernel
theorem dX2_aboveOf_12 : decode cX2_aboveOf 12 = .ok (.iload_n 2, 1) := by decide +kernel
theorem dX2_aboveOf_13 : decode cX2_aboveOf 13 = .ok (.aload_n 0, 1) := by decide +kernel
theorem dX2_aboveOf_14 : decode cX2_aboveOf 14 = .ok (.iload_n 3, 1) := by decide +kernel
theorem dX2_aboveOf_15 : decode cX2_aboveOf 15 = .ok (.iload_n 1, 1) := by decide +kernel
theorem dX2_aboveOf_16 : decode cX2_aboveOf 16 = .ok (.invokevirtual 67, 3) := by decide +kernel
theorem dX2_aboveOf_19 : decode cX2_aboveOf 19 = .ok (.ifCond .eq 7, 3) := by decide +kernel
theorem dX2_aboveOf_22 : decode cX2_aboveOf 22 = .ok (.iconst 1, 1) := by decide +kernel
theorem dX2_aboveOf_23 : decode cX2_aboveOf 23 = .ok (.goto 4, 3) := by decide +kernel
theorem dX2_aboveOf_26 : decode cX2_aboveOf 26 = .ok (.iconst 0, 1) := by decide +kernel
theorem dX2_aboveOf_27 : decode cX2_aboveOf 27 = .ok (.iadd, 1) := by decide +kernel
theorem dX2_aboveOf_28 : decode cX2_aboveOf 28 = .ok (.istore_n 2, 1) := by decide +kernel
theorem dX2_aboveOf_29 : decode cX2_aboveOf 29 = .ok (.iinc 3 1, 3) := by decide +kernel
theorem dX2_aboveOf_32 : decode cX2_aboveOf 32 = .ok (.goto (-28), 3) := by decide +kernel
theorem dX2_aboveOf_35 : decode cX2_aboveOf 35 = .ok (.iload_n 2, 1) := by decide +kernel
theorem dX2_aboveOf_36 : decode cX2_aboveOf 36 = .ok (.ireturn, 1) := by decide +kernel
theorem dX2_mouth_0 : decode cX2_mouth 0 = .ok (.iload_n 1, 1) := by decide +kernel
theorem dX2_mouth_1 : decode cX2_mouth 1 = .ok (.istore_n 2, 1) := by decide +kernel
theorem dX2_mouth_2 : decode cX2_mouth 2 = .ok (.aload_n 0, 1) := by decide +kernel
theorem dX2_mouth_3 : decode cX2_mouth 3 = .ok (.getfield 9, 3) := by decide +kernel
theorem dX2_mouth_6 : decode cX2_mouth 6 = .ok (.iload_n 2, 1) := by decide +kernel
theorem dX2_mouth_7 : decode cX2_mouth 7 = .ok (.iaload, 1) := by decide +kernel
theorem dX2_mouth_8 : decode cX2_mouth 8 = .ok (.iconst (-1), 1) := by decide +kernel
theorem dX2_mouth_9 : decode cX2_mouth 9 = .ok (.if_icmp .eq 13, 3) := by decide +kernel
theorem dX2_mouth_12 : decode cX2_mouth 12 = .ok (.aload_n 0, 1) := by decide +kernel
theorem dX2_mouth_13 : decode cX2_mouth 13 = .ok (.getfield 9, 3) := by decide +kernel
theorem dX2_mouth_16 : decode cX2_mouth 16 = .ok (.iload_n 2, 1) := by decide +kernel
theorem dX2_mouth_17 : decode cX2_mouth 17 = .ok (.iaload, 1) := by decide +kernel
theorem dX2_mouth_18 : decode cX2_mouth 18 = .ok (.istore_n 2, 1) := by decide +kernel
theorem dX2_mouth_19 : decode cX2_mouth 19 = .ok (.goto (-17), 3) := by decide +kernel
theorem dX2_mouth_22 : decode cX2_mouth 22 = .ok (.iload_n 2, 1) := by decide +kernel
theorem dX2_mouth_23 : decode cX2_mouth 23 = .ok (.ireturn, 1) := by decide +kernel
set_option maxRecDepth 20000 in
theorem ggX2_sort_X2_aboveOf : GoodIn wsX2_sort wsX2_aboveOf := goodIn_r _ [7, 1, 8, 9, 10, 6, 11, 12, 13, 14, 15, 16, 17, 18, 19, 20, 21, 22, 23, 24, 25, 26, 27, 28, 29, 30, 31] (by decide +kernel) (by decide +kernel)
set_option maxRecDepth 20000 in
theorem gX2_sort_X2_aboveOf : GoodIn wsX2_sort (wsV RX2 71 RX2 yX2_aboveOf wsX2_aboveOf) := goodIn_app (goodIn_of _ (by decide +kernel)) ggX2_sort_X2_aboveOf
theorem dX2_sort_0 : decode cX2_sort 0 = .ok (.iconst 0, 1) := by decide +kernel
theorem dX2_sort_1 : decode cX2_sort 1 = .ok (.istore_n 1, 1) := by decide +kernel
theorem dX2_sort_2 : decode cX2_sort 2 = .ok (.iconst 0, 1) := by decide +kernel
theorem dX2_sort_3 : decode cX2_sort 3 = .ok (.istore_n 2, 1) := by decide +kernel
theorem dX2_sort_4 : decode cX2_sort 4 = .ok (.iload_n 2, 1) := by decide +kernel
theorem dX2_sort_5 : decode cX2_sort 5 = .ok (.aload_n 0, 1) := by decide +kernel
theorem dX2_sort_6 : decode cX2_sort 6 = .ok (.getfield 57, 3) := by decide +kernel
theorem dX2_sort_9 : decode cX2_sort 9 = .ok (.if_icmp .ge 47, 3) := by decide +kernel
theorem dX2_sort_12 : decode cX2_sort 12 = .ok (.iconst 0, 1) := by decide +kernel
theorem dX2_sort_13 : decode cX2_sort 13 = .ok (.istore_n 3, 1) := by decide +kernel
theorem dX2_sort_14 : decode cX2_sort 14 = .ok (.iload_n 3, 1) := by decide +kernel
theorem dX2_sort_15 : decode cX2_sort 15 = .ok (.aload_n 0, 1) := by decide +kernel
theorem dX2_sort_16 : decode cX2_sort 16 = .ok (.getfield 57, 3) := by decide +kernel
theorem dX2_sort_19 : decode cX2_sort 19 = .ok (.if_icmp .ge 31, 3) := by decide +kernel
theorem dX2_sort_22 : decode cX2_sort 22 = .ok (.aload_n 0, 1) := by decide +kernel
theorem dX2_sort_23 : decode cX2_sort 23 = .ok (.iload_n 3, 1) := by decide +kernel
theorem dX2_sort_24 : decode cX2_sort 24 = .ok (.invokevirtual 71, 3) := by decide +kernel
theorem dX2_sort_27 : decode cX2_sort 27 = .ok (.iload_n 2, 1) := by decide +kernel
theorem dX2_sort_28 : decode cX2_sort 28 = .ok (.if_icmp .eq 6, 3) := by decide +kernel
theorem dX2_sort_31 : decode cX2_sort 31 = .ok (.goto 13, 3) := by decide +kernel
theorem dX2_sort_34 : decode cX2_sort 34 = .ok (.aload_n 0, 1) := by decide +kernel
theorem dX2_sort_35 : decode cX2_sort 35 = .ok (.getfield 35, 3) := by decide +kernel
theorem dX2_sort_38 : decode cX2_sort 38 = .ok (.iload_n 1, 1) := by decide +kernel
theorem dX2_sort_39 : decode cX2_sort 39 = .ok (.iload_n 3, 1) := by decide +kernel
theorem dX2_sort_40 : decode cX2_sort 40 = .ok (.iastore, 1) := by decide +kernel
theorem dX2_sort_41 : decode cX2_sort 41 = .ok (.iinc 1 1, 3) := by decide +kernel
theorem dX2_sort_44 : decode cX2_sort 44 = .ok (.iinc 3 1, 3) := by decide +kernel
theorem dX2_sort_47 : decode cX2_sort 47 = .ok (.goto (-33), 3) := by decide +kernel
theorem dX2_sort_50 : decode cX2_sort 50 = .ok (.iinc 2 1, 3) := by decide +kernel
theorem dX2_sort_53 : decode cX2_sort 53 = .ok (.goto (-49), 3) := by decide +kernel
theorem dX2_sort_56 : decode cX2_sort 56 = .ok (.return_, 1) := by decide +kernel
theorem dX2_springs_0 : decode cX2_springs 0 = .ok (.aload_n 0, 1) := by decide +kernel
theorem dX2_springs_1 : decode cX2_springs 1 = .ok (.getfield 13, 3) := by decide +kernel
theorem dX2_springs_4 : decode cX2_springs 4 = .ok (.iload_n 1, 1) := by decide +kernel
theorem dX2_springs_5 : decode cX2_springs 5 = .ok (.baload, 1) := by decide +kernel
theorem dX2_springs_6 : decode cX2_springs 6 = .ok (.ifCond .eq 16, 3) := by decide +kernel
theorem dX2_springs_9 : decode cX2_springs 9 = .ok (.aload_n 0, 1) := by decide +kernel
theorem dX2_springs_10 : decode cX2_springs 10 = .ok (.getfield 20, 3) := by decide +kernel
theorem dX2_springs_13 : decode cX2_springs 13 = .ok (.iload_n 1, 1) := by decide +kernel
theorem dX2_springs_14 : decode cX2_springs 14 = .ok (.iaload, 1) := by decide +kernel
theorem dX2_springs_15 : decode cX2_springs 15 = .ok (.ifCond .le 7, 3) := by decide +kernel
theorem dX2_springs_18 : decode cX2_springs 18 = .ok (.iconst 1, 1) := by decide +kernel
theorem dX2_springs_19 : decode cX2_springs 19 = .ok (.goto 4, 3) := by decide +kernel
theorem dX2_springs_22 : decode cX2_springs 22 = .ok (.iconst 0, 1) := by decide +kernel
theorem dX2_springs_23 : decode cX2_springs 23 = .ok (.ireturn, 1) := by decide +kernel
theorem dX2_worth_0 : decode cX2_worth 0 = .ok (.aload_n 0, 1) := by decide +kernel
theorem dX2_worth_1 : decode cX2_worth 1 = .ok (.getfield 75, 3) := by decide +kernel
theorem dX2_worth_4 : decode cX2_worth 4 = .ok (.ifCond .ne 12, 3) := by decide +kernel
theorem dX2_worth_7 : decode cX2_worth 7 = .ok (.aload_n 0, 1) := by decide +kernel
theorem dX2_worth_8 : decode cX2_worth 8 = .ok (.getfield 38, 3) := by decide +kernel
theorem dX2_worth_11 : decode cX2_worth 11 = .ok (.iload_n 1, 1) := by decide +kernel
theorem dX2_worth_12 : decode cX2_worth 12 = .ok (.iaload, 1) := by decide +kernel
theorem dX2_worth_13 : decode cX2_worth 13 = .ok (.goto 9, 3) := by decide +kernel
theorem dX2_worth_16 : decode cX2_worth 16 = .ok (.aload_n 0, 1) := by decide +kernel
theorem dX2_worth_17 : decode cX2_worth 17 = .ok (.getfield 41, 3) := by decide +kernel
theorem dX2_worth_20 : decode cX2_worth 20 = .ok (.iload_n 1, 1) := by decide +kernel
theorem dX2_worth_21 : decode cX2_worth 21 = .ok (.iaload, 1) := by decide +kernel
theorem dX2_worth_22 : decode cX2_worth 22 = .ok (.ireturn, 1) := by decide +kernel
set_option maxRecDepth 20000 in
theorem ggX2_flow_X2_springs : GoodIn wsX2_flow wsX2_springs := goodIn_r _ [15, 2, 3, 16, 17, 18, 19, 20, 21, 22, 23, 24, 25, 26, 27, 28, 29, 30, 31, 32, 33, 34] (by decide +kernel) (by decide +kernel)
set_option maxRecDepth 20000 in
theorem gX2_flow_X2_springs : GoodIn wsX2_flow (wsV RX2 84 RX2 yX2_springs wsX2_springs) := goodIn_app (goodIn_of _ (by decide +kernel)) ggX2_flow_X2_springs
theorem dX2_flow_0 : decode cX2_flow 0 = .ok (.aload_n 0, 1) := by decide +kernel
theorem dX2_flow_1 : decode cX2_flow 1 = .ok (.getfield 38, 3) := by decide +kernel
theorem dX2_flow_4 : decode cX2_flow 4 = .ok (.iload_n 1, 1) := by decide +kernel
theorem dX2_flow_5 : decode cX2_flow 5 = .ok (.aload_n 0, 1) := by decide +kernel
theorem dX2_flow_6 : decode cX2_flow 6 = .ok (.getfield 13, 3) := by decide +kernel
theorem dX2_flow_9 : decode cX2_flow 9 = .ok (.iload_n 1, 1) := by decide +kernel
theorem dX2_flow_10 : decode cX2_flow 10 = .ok (.baload, 1) := by decide +kernel
theorem dX2_flow_11 : decode cX2_flow 11 = .ok (.ifCond .eq 12, 3) := by decide +kernel
theorem dX2_flow_14 : decode cX2_flow 14 = .ok (.aload_n 0, 1) := by decide +kernel
theorem dX2_flow_15 : decode cX2_flow 15 = .ok (.getfield 20, 3) := by decide +kernel
theorem dX2_flow_18 : decode cX2_flow 18 = .ok (.iload_n 1, 1) := by decide +kernel
theorem dX2_flow_19 : decode cX2_flow 19 = .ok (.iaload, 1) := by decide +kernel
theorem dX2_flow_20 : decode cX2_flow 20 = .ok (.goto 4, 3) := by decide +kernel
theorem dX2_flow_23 : decode cX2_flow 23 = .ok (.iconst 0, 1) := by decide +kernel
theorem dX2_flow_24 : decode cX2_flow 24 = .ok (.iastore, 1) := by decide +kernel
theorem dX2_flow_25 : decode cX2_flow 25 = .ok (.aload_n 0, 1) := by decide +kernel
theorem dX2_flow_26 : decode cX2_flow 26 = .ok (.getfield 41, 3) := by decide +kernel
theorem dX2_flow_29 : decode cX2_flow 29 = .ok (.iload_n 1, 1) := by decide +kernel
theorem dX2_flow_30 : decode cX2_flow 30 = .ok (.iconst 0, 1) := by decide +kernel
theorem dX2_flow_31 : decode cX2_flow 31 = .ok (.iastore, 1) := by decide +kernel
theorem dX2_flow_32 : decode cX2_flow 32 = .ok (.iconst 0, 1) := by decide +kernel
theorem dX2_flow_33 : decode cX2_flow 33 = .ok (.istore_n 2, 1) := by decide +kernel
theorem dX2_flow_34 : decode cX2_flow 34 = .ok (.iload_n 2, 1) := by decide +kernel
theorem dX2_flow_35 : decode cX2_flow 35 = .ok (.aload_n 0, 1) := by decide +kernel
theorem dX2_flow_36 : decode cX2_flow 36 = .ok (.getfield 57, 3) := by decide +kernel
theorem dX2_flow_39 : decode cX2_flow 39 = .ok (.if_icmp .ge 69, 3) := by decide +kernel
theorem dX2_flow_42 : decode cX2_flow 42 = .ok (.aload_n 0, 1) := by decide +kernel
theorem dX2_flow_43 : decode cX2_flow 43 = .ok (.getfield 9, 3) := by decide +kernel
theorem dX2_flow_46 : decode cX2_flow 46 = .ok (.iload_n 2, 1) := by decide +kernel
theorem dX2_flow_47 : decode cX2_flow 47 = .ok (.iaload, 1) := by decide +kernel
theorem dX2_flow_48 : decode cX2_flow 48 = .ok (.iload_n 1, 1) := by decide +kernel
theorem dX2_flow_49 : decode cX2_flow 49 = .ok (.if_icmp .eq 6, 3) := by decide +kernel
theorem dX2_flow_52 : decode cX2_flow 52 = .ok (.goto 50, 3) := by decide +kernel
theorem dX2_flow_55 : decode cX2_flow 55 = .ok (.aload_n 0, 1) := by decide +kernel
theorem dX2_flow_56 : decode cX2_flow 56 = .ok (.getfield 38, 3) := by decide +kernel
theorem dX2_flow_59 : decode cX2_flow 59 = .ok (.iload_n 1, 1) := by decide +kernel
theorem dX2_flow_60 : decode cX2_flow 60 = .ok (.dup2, 1) := by decide +kernel
theorem dX2_flow_61 : decode cX2_flow 61 = .ok (.iaload, 1) := by decide +kernel
theorem dX2_flow_62 : decode cX2_flow 62 = .ok (.aload_n 0, 1) := by decide +kernel
theorem dX2_flow_63 : decode cX2_flow 63 = .ok (.getfield 38, 3) := by decide +kernel
theorem dX2_flow_66 : decode cX2_flow 66 = .ok (.iload_n 2, 1) := by decide +kernel
theorem dX2_flow_67 : decode cX2_flow 67 = .ok (.iaload, 1) := by decide +kernel
theorem dX2_flow_68 : decode cX2_flow 68 = .ok (.iadd, 1) := by decide +kernel
theorem dX2_flow_69 : decode cX2_flow 69 = .ok (.iastore, 1) := by decide +kernel
theorem dX2_flow_70 : decode cX2_flow 70 = .ok (.aload_n 0, 1) := by decide +kernel
theorem dX2_flow_71 : decode cX2_flow 71 = .ok (.getfield 41, 3) := by decide +kernel
theorem dX2_flow_74 : decode cX2_flow 74 = .ok (.iload_n 2, 1) := by decide +kernel
theorem dX2_flow_75 : decode cX2_flow 75 = .ok (.iaload, 1) := by decide +kernel
theorem dX2_flow_76 : decode cX2_flow 76 = .ok (.ifCond .le 26, 3) := by decide +kernel
theorem dX2_flow_79 : decode cX2_flow 79 = .ok (.aload_n 0, 1) := by decide +kernel
theorem dX2_flow_80 : decode cX2_flow 80 = .ok (.getfield 41, 3) := by decide +kernel
theorem dX2_flow_83 : decode cX2_flow 83 = .ok (.iload_n 1, 1) := by decide +kernel
theorem dX2_flow_84 : decode cX2_flow 84 = .ok (.aload_n 0, 1) := by decide +kernel
theorem dX2_flow_85 : decode cX2_flow 85 = .ok (.getfield 41, 3) := by decide +kernel
theorem dX2_flow_88 : decode cX2_flow 88 = .ok (.iload_n 1, 1) := by decide +kernel
theorem dX2_flow_89 : decode cX2_flow 89 = .ok (.iaload, 1) := by decide +kernel
theorem dX2_flow_90 : decode cX2_flow 90 = .ok (.aload_n 0, 1) := by decide +kernel
theorem dX2_flow_91 : decode cX2_flow 91 = .ok (.getfield 41, 3) := by decide +kernel
theorem dX2_flow_94 : decode cX2_flow 94 = .ok (.iload_n 2, 1) := by decide +kernel
theorem dX2_flow_95 : decode cX2_flow 95 = .ok (.iaload, 1) := by decide +kernel
theorem dX2_flow_96 : decode cX2_flow 96 = .ok (.iconst 1, 1) := by decide +kernel
theorem dX2_flow_97 : decode cX2_flow 97 = .ok (.iadd, 1) := by decide +kernel
theorem dX2_flow_98 : decode cX2_flow 98 = .ok (.invokestatic 78, 3) := by decide +kernel
theorem dX2_flow_101 : decode cX2_flow 101 = .ok (.iastore, 1) := by decide +kernel
theorem dX2_flow_102 : decode cX2_flow 102 = .ok (.iinc 2 1, 3) := by decide +kernel
theorem dX2_flow_105 : decode cX2_flow 105 = .ok (.goto (-71), 3) := by decide +kernel
theorem dX2_flow_108 : decode cX2_flow 108 = .ok (.aload_n 0, 1) := by decide +kernel
theorem dX2_flow_109 : decode cX2_flow 109 = .ok (.getfield 41, 3) := by decide +kernel
theorem dX2_flow_112 : decode cX2_flow 112 = .ok (.iload_n 1, 1) := by decide +kernel
theorem dX2_flow_113 : decode cX2_flow 113 = .ok (.iaload, 1) := by decide +kernel
theorem dX2_flow_114 : decode cX2_flow 114 = .ok (.ifCond .ne 18, 3) := by decide +kernel
theorem dX2_flow_117 : decode cX2_flow 117 = .ok (.aload_n 0, 1) := by decide +kernel
theorem dX2_flow_118 : decode cX2_flow 118 = .ok (.iload_n 1, 1) := by decide +kernel
theorem dX2_flow_119 : decode cX2_flow 119 = .ok (.invokevirtual 84, 3) := by decide +kernel
theorem dX2_flow_122 : decode cX2_flow 122 = .ok (.ifCond .eq 10, 3) := by decide +kernel
theorem dX2_flow_125 : decode cX2_flow 125 = .ok (.aload_n 0, 1) := by decide +kernel
theorem dX2_flow_126 : decode cX2_flow 126 = .ok (.getfield 41, 3) := by decide +kernel
theorem dX2_flow_129 : decode cX2_flow 129 = .ok (.iload_n 1, 1) := by decide +kernel
theorem dX2_flow_130 : decode cX2_flow 130 = .ok (.iconst 1, 1) := by decide +kernel
theorem dX2_flow_131 : decode cX2_flow 131 = .ok (.iastore, 1) := by decide +kernel
theorem dX2_flow_132 : decode cX2_flow 132 = .ok (.return_, 1) := by decide +kernel
set_option maxRecDepth 20000 in
theorem ggX2_named_X2_springs : GoodIn wsX2_named wsX2_springs := goodIn_r _ [12, 13, 6, 20, 21, 22, 23, 24, 25, 26, 27, 28, 29, 30, 31, 32, 33, 34, 35, 36, 37, 38] (by decide +kernel) (by decide +kernel)
set_option maxRecDepth 20000 in
theorem gX2_named_X2_springs : GoodIn wsX2_named (wsV RX2 84 RX2 yX2_springs wsX2_springs) := goodIn_app (goodIn_of _ (by decide +kernel)) ggX2_named_X2_springs
set_option maxRecDepth 20000 in
theorem ggX2_named_X2_worth : GoodIn wsX2_named wsX2_worth := goodIn_r _ [17, 5, 18, 19, 20, 21, 22, 23, 24, 25, 26, 27, 28, 29, 30, 31, 32, 33, 34, 35, 36, 37, 38] (by decide +kernel) (by decide +kernel)
set_option maxRecDepth 20000 in
theorem gX2_named_X2_worth : GoodIn wsX2_named (wsV RX2 88 RX2 yX2_worth wsX2_worth) := goodIn_app (goodIn_of _ (by decide +kernel)) ggX2_named_X2_worth
theorem dX2_named_0 : decode cX2_named 0 = .ok (.aload_n 0, 1) := by decide +kernel
theorem dX2_named_1 : decode cX2_named 1 = .ok (.getfield 26, 3) := by decide +kernel
theorem dX2_named_4 : decode cX2_named 4 = .ok (.iload_n 1, 1) := by decide +kernel
theorem dX2_named_5 : decode cX2_named 5 = .ok (.baload, 1) := by decide +kernel
theorem dX2_named_6 : decode cX2_named 6 = .ok (.ifCond .eq 5, 3) := by decide +kernel
theorem dX2_named_9 : decode cX2_named 9 = .ok (.iconst (-1), 1) := by decide +kernel
theorem dX2_named_10 : decode cX2_named 10 = .ok (.ireturn, 1) := by decide +kernel
theorem dX2_named_11 : decode cX2_named 11 = .ok (.iconst (-1), 1) := by decide +kernel
theorem dX2_named_12 : decode cX2_named 12 = .ok (.istore_n 2, 1) := by decide +kernel
theorem dX2_named_13 : decode cX2_named 13 = .ok (.iconst (-1), 1) := by decide +kernel
theorem dX2_named_14 : decode cX2_named 14 = .ok (.istore_n 3, 1) := by decide +kernel
theorem dX2_named_15 : decode cX2_named 15 = .ok (.iconst 0, 1) := by decide +kernel
theorem dX2_named_16 : decode cX2_named 16 = .ok (.istore 4, 2) := by decide +kernel
theorem dX2_named_18 : decode cX2_named 18 = .ok (.iload 4, 2) := by decide +kernel
theorem dX2_named_20 : decode cX2_named 20 = .ok (.aload_n 0, 1) := by decide +kernel
theorem dX2_named_21 : decode cX2_named 21 = .ok (.getfield 57, 3) := by decide +kernel
theorem dX2_named_24 : decode cX2_named 24 = .ok (.if_icmp .ge 127, 3) := by decide +kernel
theorem dX2_named_27 : decode cX2_named 27 = .ok (.iload 4, 2) := by decide +kernel
theorem dX2_named_29 : decode cX2_named 29 = .ok (.iload_n 1, 1) := by decide +kernel
theorem dX2_named_30 : decode cX2_named 30 = .ok (.if_icmp .ne 15, 3) := by decide +kernel
theorem dX2_named_33 : decode cX2_named 33 = .ok (.aload_n 0, 1) := by decide +kernel
theorem dX2_named_34 : decode cX2_named 34 = .ok (.iload_n 1, 1) := by decide +kernel
theorem dX2_named_35 : decode cX2_named 35 = .ok (.invokevirtual 84, 3) := by decide +kernel
theorem dX2_named_38 : decode cX2_named 38 = .ok (.ifCond .eq 7, 3) := by decide +kernel
theorem dX2_named_41 : decode cX2_named 41 = .ok (.iconst 1, 1) := by decide +kernel
theorem dX2_named_42 : decode cX2_named 42 = .ok (.goto 4, 3) := by decide +kernel
theorem dX2_named_45 : decode cX2_named 45 = .ok (.iconst 0, 1) := by decide +kernel
theorem dX2_named_46 : decode cX2_named 46 = .ok (.istore 5, 2) := by decide +kernel
theorem dX2_named_48 : decode cX2_named 48 = .ok (.iload 5, 2) := by decide +kernel
theorem dX2_named_50 : decode cX2_named 50 = .ok (.ifCond .ne 28, 3) := by decide +kernel
theorem dX2_named_53 : decode cX2_named 53 = .ok (.aload_n 0, 1) := by decide +kernel
theorem dX2_named_54 : decode cX2_named 54 = .ok (.getfield 9, 3) := by decide +kernel
theorem dX2_named_57 : decode cX2_named 57 = .ok (.iload 4, 2) := by decide +kernel
theorem dX2_named_59 : decode cX2_named 59 = .ok (.iaload, 1) := by decide +kernel
theorem dX2_named_60 : decode cX2_named 60 = .ok (.iload_n 1, 1) := by decide +kernel
theorem dX2_named_61 : decode cX2_named 61 = .ok (.if_icmp .ne 84, 3) := by decide +kernel
theorem dX2_named_64 : decode cX2_named 64 = .ok (.aload_n 0, 1) := by decide +kernel
theorem dX2_named_65 : decode cX2_named 65 = .ok (.getfield 44, 3) := by decide +kernel
theorem dX2_named_68 : decode cX2_named 68 = .ok (.iload 4, 2) := by decide +kernel
theorem dX2_named_70 : decode cX2_named 70 = .ok (.iaload, 1) := by decide +kernel
theorem dX2_named_71 : decode cX2_named 71 = .ok (.iconst (-1), 1) := by decide +kernel
theorem dX2_named_72 : decode cX2_named 72 = .ok (.if_icmp .ne 6, 3) := by decide +kernel
theorem dX2_named_75 : decode cX2_named 75 = .ok (.goto 70, 3) := by decide +kernel
theorem dX2_named_78 : decode cX2_named 78 = .ok (.iload 5, 2) := by decide +kernel
theorem dX2_named_80 : decode cX2_named 80 = .ok (.ifCond .eq 23, 3) := by decide +kernel
theorem dX2_named_83 : decode cX2_named 83 = .ok (.aload_n 0, 1) := by decide +kernel
theorem dX2_named_84 : decode cX2_named 84 = .ok (.getfield 75, 3) := by decide +kernel
theorem dX2_named_87 : decode cX2_named 87 = .ok (.ifCond .ne 12, 3) := by decide +kernel
theorem dX2_named_90 : decode cX2_named 90 = .ok (.aload_n 0, 1) := by decide +kernel
theorem dX2_named_91 : decode cX2_named 91 = .ok (.getfield 20, 3) := by decide +kernel
theorem dX2_named_94 : decode cX2_named 94 = .ok (.iload_n 1, 1) := by decide +kernel
theorem dX2_named_95 : decode cX2_named 95 = .ok (.iaload, 1) := by decide +kernel
theorem dX2_named_96 : decode cX2_named 96 = .ok (.goto 13, 3) := by decide +kernel
theorem dX2_named_99 : decode cX2_named 99 = .ok (.iconst 0, 1) := by decide +kernel
theorem dX2_named_100 : decode cX2_named 100 = .ok (.goto 9, 3) := by decide +kernel
theorem dX2_named_103 : decode cX2_named 103 = .ok (.aload_n 0, 1) := by decide +kernel
theorem dX2_named_104 : decode cX2_named 104 = .ok (.iload 4, 2) := by decide +kernel
theorem dX2_named_106 : decode cX2_named 106 = .ok (.invokevirtual 88, 3) := by decide +kernel
theorem dX2_named_109 : decode cX2_named 109 = .ok (.istore 6, 2) := by decide +kernel
theorem dX2_named_111 : decode cX2_named 111 = .ok (.iload 6, 2) := by decide +kernel
theorem dX2_named_113 : decode cX2_named 113 = .ok (.iload_n 3, 1) := by decide +kernel
theorem dX2_named_114 : decode cX2_named 114 = .ok (.if_icmp .gt 6, 3) := by decide +kernel
theorem dX2_named_117 : decode cX2_named 117 = .ok (.goto 28, 3) := by decide +kernel
theorem dX2_named_120 : decode cX2_named 120 = .ok (.iload 6, 2) := by decide +kernel
theorem dX2_named_122 : decode cX2_named 122 = .ok (.istore_n 3, 1) := by decide +kernel
theorem dX2_named_123 : decode cX2_named 123 = .ok (.iload 5, 2) := by decide +kernel
theorem dX2_named_125 : decode cX2_named 125 = .ok (.ifCond .eq 12, 3) := by decide +kernel
theorem dX2_named_128 : decode cX2_named 128 = .ok (.aload_n 0, 1) := by decide +kernel
theorem dX2_named_129 : decode cX2_named 129 = .ok (.getfield 17, 3) := by decide +kernel
theorem dX2_named_132 : decode cX2_named 132 = .ok (.iload_n 1, 1) := by decide +kernel
theorem dX2_named_133 : decode cX2_named 133 = .ok (.iaload, 1) := by decide +kernel
theorem dX2_named_134 : decode cX2_named 134 = .ok (.goto 10, 3) := by decide +kernel
theorem dX2_named_137 : decode cX2_named 137 = .ok (.aload_n 0, 1) := by decide +kernel
theorem dX2_named_138 : decode cX2_named 138 = .ok (.getfield 44, 3) := by decide +kernel
theorem dX2_named_141 : decode cX2_named 141 = .ok (.iload 4, 2) := by decide +kernel
theorem dX2_named_143 : decode cX2_named 143 = .ok (.iaload, 1) := by decide +kernel
theorem dX2_named_144 : decode cX2_named 144 = .ok (.istore_n 2, 1) := by decide +kernel
theorem dX2_named_145 : decode cX2_named 145 = .ok (.iinc 4 1, 3) := by decide +kernel
theorem dX2_named_148 : decode cX2_named 148 = .ok (.goto (-130), 3) := by decide +kernel
theorem dX2_named_151 : decode cX2_named 151 = .ok (.iload_n 2, 1) := by decide +kernel
theorem dX2_named_152 : decode cX2_named 152 = .ok (.ireturn, 1) := by decide +kernel
set_option maxRecDepth 20000 in
theorem ggX2_reckon_X2_sort : GoodIn wsX2_reckon wsX2_sort := goodIn_r _ [8, 1, 2, 9, 10, 11, 7, 12, 13, 14, 15, 16, 17, 45, 46, 47, 48, 49, 50, 51, 52, 53, 54, 55, 56, 57, 58, 59, 60, 61, 62, 63] (by decide +kernel) (by decide +kernel)
set_option maxRecDepth 20000 in
theorem gX2_reckon_X2_sort : GoodIn wsX2_reckon (wsV RX2 91 RX2 yX2_sort wsX2_sort) := goodIn_app (goodIn_of _ (by decide +kernel)) ggX2_reckon_X2_sort
set_option maxRecDepth 20000 in
theorem ggX2_reckon_X2_flow : GoodIn wsX2_reckon wsX2_flow := goodIn_r _ [21, 22, 23, 24, 25, 1, 17, 26, 27, 28, 29, 30, 31, 32, 7, 33, 45, 46, 47, 48, 49, 50, 51, 52, 53, 54, 55, 56, 57, 58, 59, 60, 61, 62, 63] (by decide +kernel) (by decide +kernel)
set_option maxRecDepth 20000 in
theorem gX2_reckon_X2_flow : GoodIn wsX2_reckon (wsV RX2 94 RX2 yX2_flow wsX2_flow) := goodIn_app (goodIn_of _ (by decide +kernel)) ggX2_reckon_X2_flow
set_option maxRecDepth 20000 in
theorem ggX2_reckon_X2_named : GoodIn wsX2_reckon wsX2_named := goodIn_r _ [37, 38, 1, 17, 3, 39, 24, 40, 30, 31, 32, 7, 33, 23, 41, 42, 43, 44, 22, 25, 45, 46, 47, 48, 49, 50, 51, 52, 53, 54, 55, 56, 57, 58, 59, 60, 61, 62, 63] (by decide +kernel) (by decide +kernel)
set_option maxRecDepth 20000 in
theorem gX2_reckon_X2_named : GoodIn wsX2_reckon (wsV RX2 98 RX2 yX2_named wsX2_named) := goodIn_app (goodIn_of _ (by decide +kernel)) ggX2_reckon_X2_named
theorem dX2_reckon_0 : decode cX2_reckon 0 = .ok (.aload_n 0, 1) := by decide +kernel
theorem dX2_reckon_1 : decode cX2_reckon 1 = .ok (.invokevirtual 91, 3) := by decide +kernel
theorem dX2_reckon_4 : decode cX2_reckon 4 = .ok (.iconst 0, 1) := by decide +kernel
theorem dX2_reckon_5 : decode cX2_reckon 5 = .ok (.istore_n 1, 1) := by decide +kernel
theorem dX2_reckon_6 : decode cX2_reckon 6 = .ok (.iload_n 1, 1) := by decide +kernel
theorem dX2_reckon_7 : decode cX2_reckon 7 = .ok (.aload_n 0, 1) := by decide +kernel
theorem dX2_reckon_8 : decode cX2_reckon 8 = .ok (.getfield 57, 3) := by decide +kernel
theorem dX2_reckon_11 : decode cX2_reckon 11 = .ok (.if_icmp .ge 40, 3) := by decide +kernel
theorem dX2_reckon_14 : decode cX2_reckon 14 = .ok (.aload_n 0, 1) := by decide +kernel
theorem dX2_reckon_15 : decode cX2_reckon 15 = .ok (.aload_n 0, 1) := by decide +kernel
theorem dX2_reckon_16 : decode cX2_reckon 16 = .ok (.getfield 35, 3) := by decide +kernel
theorem dX2_reckon_19 : decode cX2_reckon 19 = .ok (.iload_n 1, 1) := by decide +kernel
theorem dX2_reckon_20 : decode cX2_reckon 20 = .ok (.iaload, 1) := by decide +kernel
theorem dX2_reckon_21 : decode cX2_reckon 21 = .ok (.invokevirtual 94, 3) := by decide +kernel
theorem dX2_reckon_24 : decode cX2_reckon 24 = .ok (.aload_n 0, 1) := by decide +kernel
theorem dX2_reckon_25 : decode cX2_reckon 25 = .ok (.getfield 44, 3) := by decide +kernel
theorem dX2_reckon_28 : decode cX2_reckon 28 = .ok (.aload_n 0, 1) := by decide +kernel
theorem dX2_reckon_29 : decode cX2_reckon 29 = .ok (.getfield 35, 3) := by decide +kernel
theorem dX2_reckon_32 : decode cX2_reckon 32 = .ok (.iload_n 1, 1) := by decide +kernel
theorem dX2_reckon_33 : decode cX2_reckon 33 = .ok (.iaload, 1) := by decide +kernel
theorem dX2_reckon_34 : decode cX2_reckon 34 = .ok (.aload_n 0, 1) := by decide +kernel
theorem dX2_reckon_35 : decode cX2_reckon 35 = .ok (.aload_n 0, 1) := by decide +kernel
theorem dX2_reckon_36 : decode cX2_reckon 36 = .ok (.getfield 35, 3) := by decide +kernel
theorem dX2_reckon_39 : decode cX2_reckon 39 = .ok (.iload_n 1, 1) := by decide +kernel
theorem dX2_reckon_40 : decode cX2_reckon 40 = .ok (.iaload, 1) := by decide +kernel
theorem dX2_reckon_41 : decode cX2_reckon 41 = .ok (.invokevirtual 98, 3) := by decide +kernel
theorem dX2_reckon_44 : decode cX2_reckon 44 = .ok (.iastore, 1) := by decide +kernel
theorem dX2_reckon_45 : decode cX2_reckon 45 = .ok (.iinc 1 1, 3) := by decide +kernel
theorem dX2_reckon_48 : decode cX2_reckon 48 = .ok (.goto (-42), 3) := by decide +kernel
theorem dX2_reckon_51 : decode cX2_reckon 51 = .ok (.return_, 1) := by decide +kernel
set_option maxRecDepth 20000 in
theorem ggX2_remember_X2_reckon : GoodIn wsX2_remember wsX2_reckon := goodIn_r _ [11, 12, 13, 1, 14, 15, 16, 10, 17, 18, 19, 20, 21, 22, 23, 24, 25, 26, 27, 28, 29, 30, 31, 32, 33, 34, 35, 36, 37, 38, 39, 40, 41, 42, 43, 44, 45, 46, 47, 48, 49, 50, 51, 52, 53, 54, 55, 56, 57, 58, 59, 60, 61, 62, 63, 64, 65, 66, 67, 68, 69, 70, 71, 72] (by decide +kernel) (by decide +kernel)
set_option maxRecDepth 20000 in
theorem gX2_remember_X2_reckon : GoodIn wsX2_remember (wsV RX2 101 RX2 yX2_reckon wsX2_reckon) := goodIn_app (goodIn_of _ (by decide +kernel)) ggX2_remember_X2_reckon
theorem dX2_remember_0 : decode cX2_remember 0 = .ok (.aload_n 0, 1) := by decide +kernel
theorem dX2_remember_1 : decode cX2_remember 1 = .ok (.invokevirtual 101, 3) := by decide +kernel
theorem dX2_remember_4 : decode cX2_remember 4 = .ok (.aload_n 0, 1) := by decide +kernel
theorem dX2_remember_5 : decode cX2_remember 5 = .ok (.getfield 44, 3) := by decide +kernel
theorem dX2_remember_8 : decode cX2_remember 8 = .ok (.iconst 0, 1) := by decide +kernel
theorem dX2_remember_9 : decode cX2_remember 9 = .ok (.aload_n 0, 1) := by decide +kernel
theorem dX2_remember_10 : decode cX2_remember 10 = .ok (.getfield 47, 3) := by decide +kernel
theorem dX2_remember_13 : decode cX2_remember 13 = .ok (.iconst 0, 1) := by decide +kernel
theorem dX2_remember_14 : decode cX2_remember 14 = .ok (.bipush 16, 2) := by decide +kernel
theorem dX2_remember_16 : decode cX2_remember 16 = .ok (.invokestatic 104, 3) := by decide +kernel
theorem dX2_remember_19 : decode cX2_remember 19 = .ok (.return_, 1) := by decide +kernel
set_option maxRecDepth 20000 in
theorem ggX2_renamed_X2_reckon : GoodIn wsX2_renamed wsX2_reckon := goodIn_r _ [8, 1, 9, 2, 10, 11, 12, 7, 13, 14, 15, 16, 17, 18, 19, 20, 21, 22, 23, 24, 25, 26, 27, 28, 29, 30, 31, 32, 33, 34, 35, 36, 37, 38, 39, 40, 41, 42, 43, 44, 45, 46, 47, 48, 49, 50, 51, 52, 53, 54, 55, 56, 57, 58, 59, 60, 61, 62, 63, 64, 65, 66, 67, 68] (by decide +kernel) (by decide +kernel)
set_option maxRecDepth 20000 in
theorem gX2_renamed_X2_reckon : GoodIn wsX2_renamed (wsV RX2 101 RX2 yX2_reckon wsX2_reckon) := goodIn_app (goodIn_of _ (by decide +kernel)) ggX2_renamed_X2_reckon
theorem dX2_renamed_0 : decode cX2_renamed 0 = .ok (.aload_n 0, 1) := by decide +kernel
theorem dX2_renamed_1 : decode cX2_renamed 1 = .ok (.invokevirtual 101, 3) := by decide +kernel
theorem dX2_renamed_4 : decode cX2_renamed 4 = .ok (.iconst 0, 1) := by decide +kernel
theorem dX2_renamed_5 : decode cX2_renamed 5 = .ok (.istore_n 1, 1) := by decide +kernel
theorem dX2_renamed_6 : decode cX2_renamed 6 = .ok (.iconst 0, 1) := by decide +kernel
theorem dX2_renamed_7 : decode cX2_renamed 7 = .ok (.istore_n 2, 1) := by decide +kernel
theorem dX2_renamed_8 : decode cX2_renamed 8 = .ok (.iload_n 2, 1) := by decide +kernel
theorem dX2_renamed_9 : decode cX2_renamed 9 = .ok (.aload_n 0, 1) := by decide +kernel
theorem dX2_renamed_10 : decode cX2_renamed 10 = .ok (.getfield 57, 3) := by decide +kernel
theorem dX2_renamed_13 : decode cX2_renamed 13 = .ok (.if_icmp .ge 32, 3) := by decide +kernel
theorem dX2_renamed_16 : decode cX2_renamed 16 = .ok (.iload_n 1, 1) := by decide +kernel
theorem dX2_renamed_17 : decode cX2_renamed 17 = .ok (.aload_n 0, 1) := by decide +kernel
theorem dX2_renamed_18 : decode cX2_renamed 18 = .ok (.getfield 44, 3) := by decide +kernel
theorem dX2_renamed_21 : decode cX2_renamed 21 = .ok (.iload_n 2, 1) := by decide +kernel
theorem dX2_renamed_22 : decode cX2_renamed 22 = .ok (.iaload, 1) := by decide +kernel
theorem dX2_renamed_23 : decode cX2_renamed 23 = .ok (.aload_n 0, 1) := by decide +kernel
theorem dX2_renamed_24 : decode cX2_renamed 24 = .ok (.getfield 47, 3) := by decide +kernel
theorem dX2_renamed_27 : decode cX2_renamed 27 = .ok (.iload_n 2, 1) := by decide +kernel
theorem dX2_renamed_28 : decode cX2_renamed 28 = .ok (.iaload, 1) := by decide +kernel
theorem dX2_renamed_29 : decode cX2_renamed 29 = .ok (.if_icmp .ne 7, 3) := by decide +kernel
theorem dX2_renamed_32 : decode cX2_renamed 32 = .ok (.iconst 0, 1) := by decide +kernel
theorem dX2_renamed_33 : decode cX2_renamed 33 = .ok (.goto 4, 3) := by decide +kernel
theorem dX2_renamed_36 : decode cX2_renamed 36 = .ok (.iconst 1, 1) := by decide +kernel
theorem dX2_renamed_37 : decode cX2_renamed 37 = .ok (.iadd, 1) := by decide +kernel
theorem dX2_renamed_38 : decode cX2_renamed 38 = .ok (.istore_n 1, 1) := by decide +kernel
theorem dX2_renamed_39 : decode cX2_renamed 39 = .ok (.iinc 2 1, 3) := by decide +kernel
theorem dX2_renamed_42 : decode cX2_renamed 42 = .ok (.goto (-34), 3) := by decide +kernel
theorem dX2_renamed_45 : decode cX2_renamed 45 = .ok (.iload_n 1, 1) := by decide +kernel
theorem dX2_renamed_46 : decode cX2_renamed 46 = .ok (.ireturn, 1) := by decide +kernel
theorem dX2_swells_0 : decode cX2_swells 0 = .ok (.iconst 0, 1) := by decide +kernel
theorem dX2_swells_1 : decode cX2_swells 1 = .ok (.istore_n 1, 1) := by decide +kernel
theorem dX2_swells_2 : decode cX2_swells 2 = .ok (.iload_n 1, 1) := by decide +kernel
theorem dX2_swells_3 : decode cX2_swells 3 = .ok (.aload_n 0, 1) := by decide +kernel
theorem dX2_swells_4 : decode cX2_swells 4 = .ok (.getfield 57, 3) := by decide +kernel
theorem dX2_swells_7 : decode cX2_swells 7 = .ok (.if_icmp .ge 46, 3) := by decide +kernel
theorem dX2_swells_10 : decode cX2_swells 10 = .ok (.aload_n 0, 1) := by decide +kernel
theorem dX2_swells_11 : decode cX2_swells 11 = .ok (.getfield 13, 3) := by decide +kernel
theorem dX2_swells_14 : decode cX2_swells 14 = .ok (.iload_n 1, 1) := by decide +kernel
theorem dX2_swells_15 : decode cX2_swells 15 = .ok (.baload, 1) := by decide +kernel
theorem dX2_swells_16 : decode cX2_swells 16 = .ok (.ifCond .eq 31, 3) := by decide +kernel
theorem dX2_swells_19 : decode cX2_swells 19 = .ok (.aload_n 0, 1) := by decide +kernel
theorem dX2_swells_20 : decode cX2_swells 20 = .ok (.getfield 20, 3) := by decide +kernel
theorem dX2_swells_23 : decode cX2_swells 23 = .ok (.iload_n 1, 1) := by decide +kernel
theorem dX2_swells_24 : decode cX2_swells 24 = .ok (.iconst 0, 1) := by decide +kernel
theorem dX2_swells_25 : decode cX2_swells 25 = .ok (.bipush 99, 2) := by decide +kernel
theorem dX2_swells_27 : decode cX2_swells 27 = .ok (.aload_n 0, 1) := by decide +kernel
theorem dX2_swells_28 : decode cX2_swells 28 = .ok (.getfield 20, 3) := by decide +kernel
theorem dX2_swells_31 : decode cX2_swells 31 = .ok (.iload_n 1, 1) := by decide +kernel
theorem dX2_swells_32 : decode cX2_swells 32 = .ok (.iaload, 1) := by decide +kernel
theorem dX2_swells_33 : decode cX2_swells 33 = .ok (.aload_n 0, 1) := by decide +kernel
theorem dX2_swells_34 : decode cX2_swells 34 = .ok (.getfield 23, 3) := by decide +kernel
theorem dX2_swells_37 : decode cX2_swells 37 = .ok (.iload_n 1, 1) := by decide +kernel
theorem dX2_swells_38 : decode cX2_swells 38 = .ok (.iaload, 1) := by decide +kernel
theorem dX2_swells_39 : decode cX2_swells 39 = .ok (.iadd, 1) := by decide +kernel
theorem dX2_swells_40 : decode cX2_swells 40 = .ok (.invokestatic 110, 3) := by decide +kernel
theorem dX2_swells_43 : decode cX2_swells 43 = .ok (.invokestatic 78, 3) := by decide +kernel
theorem dX2_swells_46 : decode cX2_swells 46 = .ok (.iastore, 1) := by decide +kernel
theorem dX2_swells_47 : decode cX2_swells 47 = .ok (.iinc 1 1, 3) := by decide +kernel
theorem dX2_swells_50 : decode cX2_swells 50 = .ok (.goto (-48), 3) := by decide +kernel
theorem dX2_swells_53 : decode cX2_swells 53 = .ok (.return_, 1) := by decide +kernel
theorem dX2_putAway_0 : decode cX2_putAway 0 = .ok (.aload_n 0, 1) := by decide +kernel
theorem dX2_putAway_1 : decode cX2_putAway 1 = .ok (.getfield 20, 3) := by decide +kernel
theorem dX2_putAway_4 : decode cX2_putAway 4 = .ok (.iconst 0, 1) := by decide +kernel
theorem dX2_putAway_5 : decode cX2_putAway 5 = .ok (.aload_n 0, 1) := by decide +kernel
theorem dX2_putAway_6 : decode cX2_putAway 6 = .ok (.getfield 50, 3) := by decide +kernel
theorem dX2_putAway_9 : decode cX2_putAway 9 = .ok (.iconst 0, 1) := by decide +kernel
theorem dX2_putAway_10 : decode cX2_putAway 10 = .ok (.bipush 16, 2) := by decide +kernel
theorem dX2_putAway_12 : decode cX2_putAway 12 = .ok (.invokestatic 104, 3) := by decide +kernel
theorem dX2_putAway_15 : decode cX2_putAway 15 = .ok (.return_, 1) := by decide +kernel
theorem dX2_bringBack_0 : decode cX2_bringBack 0 = .ok (.aload_n 0, 1) := by decide +kernel
theorem dX2_bringBack_1 : decode cX2_bringBack 1 = .ok (.getfield 50, 3) := by decide +kernel
theorem dX2_bringBack_4 : decode cX2_bringBack 4 = .ok (.iconst 0, 1) := by decide +kernel
theorem dX2_bringBack_5 : decode cX2_bringBack 5 = .ok (.aload_n 0, 1) := by decide +kernel
theorem dX2_bringBack_6 : decode cX2_bringBack 6 = .ok (.getfield 20, 3) := by decide +kernel
theorem dX2_bringBack_9 : decode cX2_bringBack 9 = .ok (.iconst 0, 1) := by decide +kernel
theorem dX2_bringBack_10 : decode cX2_bringBack 10 = .ok (.bipush 16, 2) := by decide +kernel
theorem dX2_bringBack_12 : decode cX2_bringBack 12 = .ok (.invokestatic 104, 3) := by decide +kernel
theorem dX2_bringBack_15 : decode cX2_bringBack 15 = .ok (.return_, 1) := by decide +kernel
theorem dX2_add_0 : decode cX2_add 0 = .ok (.aload_n 0, 1) := by decide +kernel
theorem dX2_add_1 : decode cX2_add 1 = .ok (.getfield 9, 3) := by decide +kernel
theorem dX2_add_4 : decode cX2_add 4 = .ok (.aload_n 0, 1) := by decide +kernel
theorem dX2_add_5 : decode cX2_add 5 = .ok (.getfield 57, 3) := by decide +kernel
theorem dX2_add_8 : decode cX2_add 8 = .ok (.iconst (-1), 1) := by decide +kernel
theorem dX2_add_9 : decode cX2_add 9 = .ok (.iastore, 1) := by decide +kernel
theorem dX2_add_10 : decode cX2_add 10 = .ok (.aload_n 0, 1) := by decide +kernel
theorem dX2_add_11 : decode cX2_add 11 = .ok (.getfield 13, 3) := by decide +kernel
theorem dX2_add_14 : decode cX2_add 14 = .ok (.aload_n 0, 1) := by decide +kernel
theorem dX2_add_15 : decode cX2_add 15 = .ok (.getfield 57, 3) := by decide +kernel
theorem dX2_add_18 : decode cX2_add 18 = .ok (.iload_n 1, 1) := by decide +kernel
theorem dX2_add_19 : decode cX2_add 19 = .ok (.bastore, 1) := by decide +kernel
theorem dX2_add_20 : decode cX2_add 20 = .ok (.aload_n 0, 1) := by decide +kernel
theorem dX2_add_21 : decode cX2_add 21 = .ok (.getfield 17, 3) := by decide +kernel
theorem dX2_add_24 : decode cX2_add 24 = .ok (.aload_n 0, 1) := by decide +kernel
theorem dX2_add_25 : decode cX2_add 25 = .ok (.getfield 57, 3) := by decide +kernel
theorem dX2_add_28 : decode cX2_add 28 = .ok (.iload_n 2, 1) := by decide +kernel
theorem dX2_add_29 : decode cX2_add 29 = .ok (.iastore, 1) := by decide +kernel
theorem dX2_add_30 : decode cX2_add 30 = .ok (.aload_n 0, 1) := by decide +kernel
theorem dX2_add_31 : decode cX2_add 31 = .ok (.getfield 20, 3) := by decide +kernel
theorem dX2_add_34 : decode cX2_add 34 = .ok (.aload_n 0, 1) := by decide +kernel
theorem dX2_add_35 : decode cX2_add 35 = .ok (.getfield 57, 3) := by decide +kernel
theorem dX2_add_38 : decode cX2_add 38 = .ok (.iload_n 3, 1) := by decide +kernel
theorem dX2_add_39 : decode cX2_add 39 = .ok (.iastore, 1) := by decide +kernel
theorem dX2_add_40 : decode cX2_add 40 = .ok (.aload_n 0, 1) := by decide +kernel
theorem dX2_add_41 : decode cX2_add 41 = .ok (.getfield 23, 3) := by decide +kernel
theorem dX2_add_44 : decode cX2_add 44 = .ok (.aload_n 0, 1) := by decide +kernel
theorem dX2_add_45 : decode cX2_add 45 = .ok (.getfield 57, 3) := by decide +kernel
theorem dX2_add_48 : decode cX2_add 48 = .ok (.iload 4, 2) := by decide +kernel
theorem dX2_add_50 : decode cX2_add 50 = .ok (.iastore, 1) := by decide +kernel
theorem dX2_add_51 : decode cX2_add 51 = .ok (.aload_n 0, 1) := by decide +kernel
theorem dX2_add_52 : decode cX2_add 52 = .ok (.dup, 1) := by decide +kernel
theorem dX2_add_53 : decode cX2_add 53 = .ok (.getfield 57, 3) := by decide +kernel
theorem dX2_add_56 : decode cX2_add 56 = .ok (.iconst 1, 1) := by decide +kernel
theorem dX2_add_57 : decode cX2_add 57 = .ok (.iadd, 1) := by decide +kernel
theorem dX2_add_58 : decode cX2_add 58 = .ok (.putfield 57, 3) := by decide +kernel
theorem dX2_add_61 : decode cX2_add 61 = .ok (.aload_n 0, 1) := by decide +kernel
theorem dX2_add_62 : decode cX2_add 62 = .ok (.getfield 57, 3) := by decide +kernel
theorem dX2_add_65 : decode cX2_add 65 = .ok (.iconst 1, 1) := by decide +kernel
theorem dX2_add_66 : decode cX2_add 66 = .ok (.isub, 1) := by decide +kernel
theorem dX2_add_67 : decode cX2_add 67 = .ok (.ireturn, 1) := by decide +kernel
set_option maxRecDepth 20000 in
theorem ggX2_addPlace_X2_no : GoodIn wsX2_addPlace wsX2_no := goodIn_r _ [7, 1, 17, 18, 19, 20, 21, 22, 23, 24, 25, 26, 27, 28, 29, 30, 31, 32, 33, 34, 35] (by decide +kernel) (by decide +kernel)
set_option maxRecDepth 20000 in
theorem gX2_addPlace_X2_no : GoodIn wsX2_addPlace (wsV RX2 113 RX2 yX2_no wsX2_no) := goodIn_app (goodIn_of _ (by decide +kernel)) ggX2_addPlace_X2_no
set_option maxRecDepth 20000 in
theorem ggX2_addPlace_X2_add : GoodIn wsX2_addPlace wsX2_add := goodIn_r _ [11, 12, 2, 13, 14, 15, 16, 17, 18, 19, 20, 21, 22, 23, 24, 25, 26, 27, 28, 29, 30, 31, 32, 33, 34, 35] (by decide +kernel) (by decide +kernel)
set_option maxRecDepth 20000 in
theorem gX2_addPlace_X2_add : GoodIn wsX2_addPlace (wsV RX2 116 RX2 yX2_add wsX2_add) := goodIn_app (goodIn_of _ (by decide +kernel)) ggX2_addPlace_X2_add
theorem dX2_addPlace_0 : decode cX2_addPlace 0 = .ok (.aload_n 0, 1) := by decide +kernel
theorem dX2_addPlace_1 : decode cX2_addPlace 1 = .ok (.iconst 0, 1) := by decide +kernel
theorem dX2_addPlace_2 : decode cX2_addPlace 2 = .ok (.putfield 53, 3) := by decide +kernel
theorem dX2_addPlace_5 : decode cX2_addPlace 5 = .ok (.aload_n 0, 1) := by decide +kernel
theorem dX2_addPlace_6 : decode cX2_addPlace 6 = .ok (.getfield 57, 3) := by decide +kernel
theorem dX2_addPlace_9 : decode cX2_addPlace 9 = .ok (.bipush 16, 2) := by decide +kernel
theorem dX2_addPlace_11 : decode cX2_addPlace 11 = .ok (.if_icmp .ne 11, 3) := by decide +kernel
theorem dX2_addPlace_14 : decode cX2_addPlace 14 = .ok (.aload_n 0, 1) := by decide +kernel
theorem dX2_addPlace_15 : decode cX2_addPlace 15 = .ok (.iconst 1, 1) := by decide +kernel
theorem dX2_addPlace_16 : decode cX2_addPlace 16 = .ok (.invokevirtual 113, 3) := by decide +kernel
theorem dX2_addPlace_19 : decode cX2_addPlace 19 = .ok (.goto 11, 3) := by decide +kernel
theorem dX2_addPlace_22 : decode cX2_addPlace 22 = .ok (.aload_n 0, 1) := by decide +kernel
theorem dX2_addPlace_23 : decode cX2_addPlace 23 = .ok (.iconst 0, 1) := by decide +kernel
theorem dX2_addPlace_24 : decode cX2_addPlace 24 = .ok (.iconst (-1), 1) := by decide +kernel
theorem dX2_addPlace_25 : decode cX2_addPlace 25 = .ok (.iconst 0, 1) := by decide +kernel
theorem dX2_addPlace_26 : decode cX2_addPlace 26 = .ok (.iconst 0, 1) := by decide +kernel
theorem dX2_addPlace_27 : decode cX2_addPlace 27 = .ok (.invokevirtual 116, 3) := by decide +kernel
theorem dX2_addPlace_30 : decode cX2_addPlace 30 = .ok (.ireturn, 1) := by decide +kernel
set_option maxRecDepth 20000 in
theorem ggX2_addSpring_X2_isIn : GoodIn wsX2_addSpring wsX2_isIn := goodIn_r _ [6] (by decide +kernel) (by decide +kernel)
set_option maxRecDepth 20000 in
theorem gX2_addSpring_X2_isIn : GoodIn wsX2_addSpring (va_wsS RX2 60 yX2_isIn wsX2_isIn) := goodIn_app (goodIn_of _ (by decide +kernel)) ggX2_addSpring_X2_isIn
set_option maxRecDepth 20000 in
theorem ggX2_addSpring_X2_no : GoodIn wsX2_addSpring wsX2_no := goodIn_r _ [10, 1, 20, 21, 22, 23, 24, 25, 26, 27, 28, 29, 30, 31, 32, 33, 34, 35, 36, 37, 38] (by decide +kernel) (by decide +kernel)
set_option maxRecDepth 20000 in
theorem gX2_addSpring_X2_no : GoodIn wsX2_addSpring (wsV RX2 113 RX2 yX2_no wsX2_no) := goodIn_app (goodIn_of _ (by decide +kernel)) ggX2_addSpring_X2_no
set_option maxRecDepth 20000 in
theorem ggX2_addSpring_X2_add : GoodIn wsX2_addSpring wsX2_add := goodIn_r _ [14, 15, 2, 16, 17, 18, 19, 20, 21, 22, 23, 24, 25, 26, 27, 28, 29, 30, 31, 32, 33, 34, 35, 36, 37, 38] (by decide +kernel) (by decide +kernel)
set_option maxRecDepth 20000 in
theorem gX2_addSpring_X2_add : GoodIn wsX2_addSpring (wsV RX2 116 RX2 yX2_add wsX2_add) := goodIn_app (goodIn_of _ (by decide +kernel)) ggX2_addSpring_X2_add
theorem dX2_addSpring_0 : decode cX2_addSpring 0 = .ok (.aload_n 0, 1) := by decide +kernel
theorem dX2_addSpring_1 : decode cX2_addSpring 1 = .ok (.iconst 0, 1) := by decide +kernel
theorem dX2_addSpring_2 : decode cX2_addSpring 2 = .ok (.putfield 53, 3) := by decide +kernel
theorem dX2_addSpring_5 : decode cX2_addSpring 5 = .ok (.iload_n 1, 1) := by decide +kernel
theorem dX2_addSpring_6 : decode cX2_addSpring 6 = .ok (.iconst 0, 1) := by decide +kernel
theorem dX2_addSpring_7 : decode cX2_addSpring 7 = .ok (.bipush 9, 2) := by decide +kernel
theorem dX2_addSpring_9 : decode cX2_addSpring 9 = .ok (.invokestatic 60, 3) := by decide +kernel
theorem dX2_addSpring_12 : decode cX2_addSpring 12 = .ok (.ifCond .ne 9, 3) := by decide +kernel
theorem dX2_addSpring_15 : decode cX2_addSpring 15 = .ok (.aload_n 0, 1) := by decide +kernel
theorem dX2_addSpring_16 : decode cX2_addSpring 16 = .ok (.iconst 1, 1) := by decide +kernel
theorem dX2_addSpring_17 : decode cX2_addSpring 17 = .ok (.invokevirtual 113, 3) := by decide +kernel
theorem dX2_addSpring_20 : decode cX2_addSpring 20 = .ok (.ireturn, 1) := by decide +kernel
theorem dX2_addSpring_21 : decode cX2_addSpring 21 = .ok (.iload_n 2, 1) := by decide +kernel
theorem dX2_addSpring_22 : decode cX2_addSpring 22 = .ok (.iconst 0, 1) := by decide +kernel
theorem dX2_addSpring_23 : decode cX2_addSpring 23 = .ok (.bipush 99, 2) := by decide +kernel
theorem dX2_addSpring_25 : decode cX2_addSpring 25 = .ok (.invokestatic 60, 3) := by decide +kernel
theorem dX2_addSpring_28 : decode cX2_addSpring 28 = .ok (.ifCond .eq 14, 3) := by decide +kernel
theorem dX2_addSpring_31 : decode cX2_addSpring 31 = .ok (.iload_n 3, 1) := by decide +kernel
theorem dX2_addSpring_32 : decode cX2_addSpring 32 = .ok (.bipush (-9), 2) := by decide +kernel
theorem dX2_addSpring_34 : decode cX2_addSpring 34 = .ok (.bipush 9, 2) := by decide +kernel
theorem dX2_addSpring_36 : decode cX2_addSpring 36 = .ok (.invokestatic 60, 3) := by decide +kernel
theorem dX2_addSpring_39 : decode cX2_addSpring 39 = .ok (.ifCond .ne 9, 3) := by decide +kernel
theorem dX2_addSpring_42 : decode cX2_addSpring 42 = .ok (.aload_n 0, 1) := by decide +kernel
theorem dX2_addSpring_43 : decode cX2_addSpring 43 = .ok (.iconst 2, 1) := by decide +kernel
theorem dX2_addSpring_44 : decode cX2_addSpring 44 = .ok (.invokevirtual 113, 3) := by decide +kernel
theorem dX2_addSpring_47 : decode cX2_addSpring 47 = .ok (.ireturn, 1) := by decide +kernel
theorem dX2_addSpring_48 : decode cX2_addSpring 48 = .ok (.aload_n 0, 1) := by decide +kernel
theorem dX2_addSpring_49 : decode cX2_addSpring 49 = .ok (.getfield 57, 3) := by decide +kernel
theorem dX2_addSpring_52 : decode cX2_addSpring 52 = .ok (.bipush 16, 2) := by decide +kernel
theorem dX2_addSpring_54 : decode cX2_addSpring 54 = .ok (.if_icmp .ne 11, 3) := by decide +kernel
theorem dX2_addSpring_57 : decode cX2_addSpring 57 = .ok (.aload_n 0, 1) := by decide +kernel
theorem dX2_addSpring_58 : decode cX2_addSpring 58 = .ok (.iconst 3, 1) := by decide +kernel
theorem dX2_addSpring_59 : decode cX2_addSpring 59 = .ok (.invokevirtual 113, 3) := by decide +kernel
theorem dX2_addSpring_62 : decode cX2_addSpring 62 = .ok (.goto 11, 3) := by decide +kernel
theorem dX2_addSpring_65 : decode cX2_addSpring 65 = .ok (.aload_n 0, 1) := by decide +kernel
theorem dX2_addSpring_66 : decode cX2_addSpring 66 = .ok (.iconst 1, 1) := by decide +kernel
theorem dX2_addSpring_67 : decode cX2_addSpring 67 = .ok (.iload_n 1, 1) := by decide +kernel
theorem dX2_addSpring_68 : decode cX2_addSpring 68 = .ok (.iload_n 2, 1) := by decide +kernel
theorem dX2_addSpring_69 : decode cX2_addSpring 69 = .ok (.iload_n 3, 1) := by decide +kernel
theorem dX2_addSpring_70 : decode cX2_addSpring 70 = .ok (.invokevirtual 116, 3) := by decide +kernel
theorem dX2_addSpring_73 : decode cX2_addSpring 73 = .ok (.ireturn, 1) := by decide +kernel
set_option maxRecDepth 20000 in
theorem ggX2_lead_X2_isPlace : GoodIn wsX2_lead wsX2_isPlace := goodIn_r _ [7, 8, 9, 10, 6, 11, 20, 21, 22, 23, 24, 25, 26, 27, 28, 29, 30, 31, 32, 33, 34, 35, 36, 37, 38] (by decide +kernel) (by decide +kernel)
set_option maxRecDepth 20000 in
theorem gX2_lead_X2_isPlace : GoodIn wsX2_lead (wsV RX2 120 RX2 yX2_isPlace wsX2_isPlace) := goodIn_app (goodIn_of _ (by decide +kernel)) ggX2_lead_X2_isPlace
set_option maxRecDepth 20000 in
theorem ggX2_lead_X2_no : GoodIn wsX2_lead wsX2_no := goodIn_r _ [15, 1, 20, 21, 22, 23, 24, 25, 26, 27, 28, 29, 30, 31, 32, 33, 34, 35, 36, 37, 38] (by decide +kernel) (by decide +kernel)
set_option maxRecDepth 20000 in
theorem gX2_lead_X2_no : GoodIn wsX2_lead (wsV RX2 113 RX2 yX2_no wsX2_no) := goodIn_app (goodIn_of _ (by decide +kernel)) ggX2_lead_X2_no
set_option maxRecDepth 20000 in
theorem ggX2_lead_X2_above : GoodIn wsX2_lead wsX2_above := goodIn_r _ [19, 2, 20, 21, 22, 23, 24, 25, 26, 27, 28, 29, 30, 31, 32, 33, 34, 35, 36, 37, 38] (by decide +kernel) (by decide +kernel)
set_option maxRecDepth 20000 in
theorem gX2_lead_X2_above : GoodIn wsX2_lead (wsV RX2 67 RX2 yX2_above wsX2_above) := goodIn_app (goodIn_of _ (by decide +kernel)) ggX2_lead_X2_above
theorem dX2_lead_0 : decode cX2_lead 0 = .ok (.aload_n 0, 1) := by decide +kernel
theorem dX2_lead_1 : decode cX2_lead 1 = .ok (.iconst 0, 1) := by decide +kernel
theorem dX2_lead_2 : decode cX2_lead 2 = .ok (.putfield 53, 3) := by decide +kernel
theorem dX2_lead_5 : decode cX2_lead 5 = .ok (.aload_n 0, 1) := by decide +kernel
theorem dX2_lead_6 : decode cX2_lead 6 = .ok (.iload_n 1, 1) := by decide +kernel
theorem dX2_lead_7 : decode cX2_lead 7 = .ok (.invokevirtual 120, 3) := by decide +kernel
theorem dX2_lead_10 : decode cX2_lead 10 = .ok (.ifCond .eq 11, 3) := by decide +kernel
theorem dX2_lead_13 : decode cX2_lead 13 = .ok (.aload_n 0, 1) := by decide +kernel
theorem dX2_lead_14 : decode cX2_lead 14 = .ok (.iload_n 2, 1) := by decide +kernel
theorem dX2_lead_15 : decode cX2_lead 15 = .ok (.invokevirtual 120, 3) := by decide +kernel
theorem dX2_lead_18 : decode cX2_lead 18 = .ok (.ifCond .ne 9, 3) := by decide +kernel
theorem dX2_lead_21 : decode cX2_lead 21 = .ok (.aload_n 0, 1) := by decide +kernel
theorem dX2_lead_22 : decode cX2_lead 22 = .ok (.iconst 1, 1) := by decide +kernel
theorem dX2_lead_23 : decode cX2_lead 23 = .ok (.invokevirtual 113, 3) := by decide +kernel
theorem dX2_lead_26 : decode cX2_lead 26 = .ok (.ireturn, 1) := by decide +kernel
theorem dX2_lead_27 : decode cX2_lead 27 = .ok (.iload_n 1, 1) := by decide +kernel
theorem dX2_lead_28 : decode cX2_lead 28 = .ok (.iload_n 2, 1) := by decide +kernel
theorem dX2_lead_29 : decode cX2_lead 29 = .ok (.if_icmp .eq 12, 3) := by decide +kernel
theorem dX2_lead_32 : decode cX2_lead 32 = .ok (.aload_n 0, 1) := by decide +kernel
theorem dX2_lead_33 : decode cX2_lead 33 = .ok (.iload_n 2, 1) := by decide +kernel
theorem dX2_lead_34 : decode cX2_lead 34 = .ok (.iload_n 1, 1) := by decide +kernel
theorem dX2_lead_35 : decode cX2_lead 35 = .ok (.invokevirtual 67, 3) := by decide +kernel
theorem dX2_lead_38 : decode cX2_lead 38 = .ok (.ifCond .eq 9, 3) := by decide +kernel
theorem dX2_lead_41 : decode cX2_lead 41 = .ok (.aload_n 0, 1) := by decide +kernel
theorem dX2_lead_42 : decode cX2_lead 42 = .ok (.iconst 2, 1) := by decide +kernel
theorem dX2_lead_43 : decode cX2_lead 43 = .ok (.invokevirtual 113, 3) := by decide +kernel
theorem dX2_lead_46 : decode cX2_lead 46 = .ok (.ireturn, 1) := by decide +kernel
theorem dX2_lead_47 : decode cX2_lead 47 = .ok (.aload_n 0, 1) := by decide +kernel
theorem dX2_lead_48 : decode cX2_lead 48 = .ok (.getfield 9, 3) := by decide +kernel
theorem dX2_lead_51 : decode cX2_lead 51 = .ok (.iload_n 1, 1) := by decide +kernel
theorem dX2_lead_52 : decode cX2_lead 52 = .ok (.iaload, 1) := by decide +kernel
theorem dX2_lead_53 : decode cX2_lead 53 = .ok (.istore_n 3, 1) := by decide +kernel
theorem dX2_lead_54 : decode cX2_lead 54 = .ok (.aload_n 0, 1) := by decide +kernel
theorem dX2_lead_55 : decode cX2_lead 55 = .ok (.getfield 9, 3) := by decide +kernel
theorem dX2_lead_58 : decode cX2_lead 58 = .ok (.iload_n 1, 1) := by decide +kernel
theorem dX2_lead_59 : decode cX2_lead 59 = .ok (.iload_n 2, 1) := by decide +kernel
theorem dX2_lead_60 : decode cX2_lead 60 = .ok (.iastore, 1) := by decide +kernel
theorem dX2_lead_61 : decode cX2_lead 61 = .ok (.iload_n 3, 1) := by decide +kernel
theorem dX2_lead_62 : decode cX2_lead 62 = .ok (.ireturn, 1) := by decide +kernel
set_option maxRecDepth 20000 in
theorem ggX2_turnDelta_X2_isPlace : GoodIn wsX2_turnDelta wsX2_isPlace := goodIn_r _ [7, 8, 9, 10, 6, 11, 16, 17, 18, 19, 20, 21, 22, 23, 24, 25, 26, 27, 28, 29, 30, 31, 32, 33, 34] (by decide +kernel) (by decide +kernel)
set_option maxRecDepth 20000 in
theorem gX2_turnDelta_X2_isPlace : GoodIn wsX2_turnDelta (wsV RX2 120 RX2 yX2_isPlace wsX2_isPlace) := goodIn_app (goodIn_of _ (by decide +kernel)) ggX2_turnDelta_X2_isPlace
set_option maxRecDepth 20000 in
theorem ggX2_turnDelta_X2_isNot : GoodIn wsX2_turnDelta wsX2_isNot := goodIn_r _ [15, 1, 16, 17, 18, 19, 20, 21, 22, 23, 24, 25, 26, 27, 28, 29, 30, 31, 32, 33, 34] (by decide +kernel) (by decide +kernel)
set_option maxRecDepth 20000 in
theorem gX2_turnDelta_X2_isNot : GoodIn wsX2_turnDelta (wsV RX2 123 RX2 yX2_isNot wsX2_isNot) := goodIn_app (goodIn_of _ (by decide +kernel)) ggX2_turnDelta_X2_isNot
theorem dX2_turnDelta_0 : decode cX2_turnDelta 0 = .ok (.aload_n 0, 1) := by decide +kernel
theorem dX2_turnDelta_1 : decode cX2_turnDelta 1 = .ok (.iconst 0, 1) := by decide +kernel
theorem dX2_turnDelta_2 : decode cX2_turnDelta 2 = .ok (.putfield 53, 3) := by decide +kernel
theorem dX2_turnDelta_5 : decode cX2_turnDelta 5 = .ok (.aload_n 0, 1) := by decide +kernel
theorem dX2_turnDelta_6 : decode cX2_turnDelta 6 = .ok (.iload_n 1, 1) := by decide +kernel
theorem dX2_turnDelta_7 : decode cX2_turnDelta 7 = .ok (.invokevirtual 120, 3) := by decide +kernel
theorem dX2_turnDelta_10 : decode cX2_turnDelta 10 = .ok (.ifCond .ne 9, 3) := by decide +kernel
theorem dX2_turnDelta_13 : decode cX2_turnDelta 13 = .ok (.aload_n 0, 1) := by decide +kernel
theorem dX2_turnDelta_14 : decode cX2_turnDelta 14 = .ok (.iconst 1, 1) := by decide +kernel
theorem dX2_turnDelta_15 : decode cX2_turnDelta 15 = .ok (.invokevirtual 123, 3) := by decide +kernel
theorem dX2_turnDelta_18 : decode cX2_turnDelta 18 = .ok (.ireturn, 1) := by decide +kernel
theorem dX2_turnDelta_19 : decode cX2_turnDelta 19 = .ok (.aload_n 0, 1) := by decide +kernel
theorem dX2_turnDelta_20 : decode cX2_turnDelta 20 = .ok (.getfield 26, 3) := by decide +kernel
theorem dX2_turnDelta_23 : decode cX2_turnDelta 23 = .ok (.iload_n 1, 1) := by decide +kernel
theorem dX2_turnDelta_24 : decode cX2_turnDelta 24 = .ok (.aload_n 0, 1) := by decide +kernel
theorem dX2_turnDelta_25 : decode cX2_turnDelta 25 = .ok (.getfield 26, 3) := by decide +kernel
theorem dX2_turnDelta_28 : decode cX2_turnDelta 28 = .ok (.iload_n 1, 1) := by decide +kernel
theorem dX2_turnDelta_29 : decode cX2_turnDelta 29 = .ok (.baload, 1) := by decide +kernel
theorem dX2_turnDelta_30 : decode cX2_turnDelta 30 = .ok (.ifCond .ne 7, 3) := by decide +kernel
theorem dX2_turnDelta_33 : decode cX2_turnDelta 33 = .ok (.iconst 1, 1) := by decide +kernel
theorem dX2_turnDelta_34 : decode cX2_turnDelta 34 = .ok (.goto 4, 3) := by decide +kernel
theorem dX2_turnDelta_37 : decode cX2_turnDelta 37 = .ok (.iconst 0, 1) := by decide +kernel
theorem dX2_turnDelta_38 : decode cX2_turnDelta 38 = .ok (.bastore, 1) := by decide +kernel
theorem dX2_turnDelta_39 : decode cX2_turnDelta 39 = .ok (.aload_n 0, 1) := by decide +kernel
theorem dX2_turnDelta_40 : decode cX2_turnDelta 40 = .ok (.getfield 26, 3) := by decide +kernel
theorem dX2_turnDelta_43 : decode cX2_turnDelta 43 = .ok (.iload_n 1, 1) := by decide +kernel
theorem dX2_turnDelta_44 : decode cX2_turnDelta 44 = .ok (.baload, 1) := by decide +kernel
theorem dX2_turnDelta_45 : decode cX2_turnDelta 45 = .ok (.ireturn, 1) := by decide +kernel
set_option maxRecDepth 20000 in
theorem ggX2_setRule_X2_isIn : GoodIn wsX2_setRule wsX2_isIn := goodIn_r _ [6] (by decide +kernel) (by decide +kernel)
set_option maxRecDepth 20000 in
theorem gX2_setRule_X2_isIn : GoodIn wsX2_setRule (va_wsS RX2 60 yX2_isIn wsX2_isIn) := goodIn_app (goodIn_of _ (by decide +kernel)) ggX2_setRule_X2_isIn
set_option maxRecDepth 20000 in
theorem ggX2_setRule_X2_no : GoodIn wsX2_setRule wsX2_no := goodIn_r _ [10, 1, 11, 12, 13, 14, 15, 16, 17, 18, 19, 20, 21, 22, 23, 24, 25, 26, 27, 28, 29] (by decide +kernel) (by decide +kernel)
set_option maxRecDepth 20000 in
theorem gX2_setRule_X2_no : GoodIn wsX2_setRule (wsV RX2 113 RX2 yX2_no wsX2_no) := goodIn_app (goodIn_of _ (by decide +kernel)) ggX2_setRule_X2_no
theorem dX2_setRule_0 : decode cX2_setRule 0 = .ok (.aload_n 0, 1) := by decide +kernel
theorem dX2_setRule_1 : decode cX2_setRule 1 = .ok (.iconst 0, 1) := by decide +kernel
theorem dX2_setRule_2 : decode cX2_setRule 2 = .ok (.putfield 53, 3) := by decide +kernel
theorem dX2_setRule_5 : decode cX2_setRule 5 = .ok (.iload_n 1, 1) := by decide +kernel
theorem dX2_setRule_6 : decode cX2_setRule 6 = .ok (.iconst 0, 1) := by decide +kernel
theorem dX2_setRule_7 : decode cX2_setRule 7 = .ok (.iconst 1, 1) := by decide +kernel
theorem dX2_setRule_8 : decode cX2_setRule 8 = .ok (.invokestatic 60, 3) := by decide +kernel
theorem dX2_setRule_11 : decode cX2_setRule 11 = .ok (.ifCond .ne 9, 3) := by decide +kernel
theorem dX2_setRule_14 : decode cX2_setRule 14 = .ok (.aload_n 0, 1) := by decide +kernel
theorem dX2_setRule_15 : decode cX2_setRule 15 = .ok (.iconst 1, 1) := by decide +kernel
theorem dX2_setRule_16 : decode cX2_setRule 16 = .ok (.invokevirtual 113, 3) := by decide +kernel
theorem dX2_setRule_19 : decode cX2_setRule 19 = .ok (.ireturn, 1) := by decide +kernel
theorem dX2_setRule_20 : decode cX2_setRule 20 = .ok (.aload_n 0, 1) := by decide +kernel
theorem dX2_setRule_21 : decode cX2_setRule 21 = .ok (.getfield 75, 3) := by decide +kernel
theorem dX2_setRule_24 : decode cX2_setRule 24 = .ok (.istore_n 2, 1) := by decide +kernel
theorem dX2_setRule_25 : decode cX2_setRule 25 = .ok (.aload_n 0, 1) := by decide +kernel
theorem dX2_setRule_26 : decode cX2_setRule 26 = .ok (.iload_n 1, 1) := by decide +kernel
theorem dX2_setRule_27 : decode cX2_setRule 27 = .ok (.putfield 75, 3) := by decide +kernel
theorem dX2_setRule_30 : decode cX2_setRule 30 = .ok (.iload_n 2, 1) := by decide +kernel
theorem dX2_setRule_31 : decode cX2_setRule 31 = .ok (.ireturn, 1) := by decide +kernel
set_option maxRecDepth 20000 in
theorem ggX2_build_X2_isPlace : GoodIn wsX2_build wsX2_isPlace := goodIn_r _ [10, 11, 12, 13, 9, 14, 64, 65, 66, 67, 68, 69, 70, 71, 72, 73, 74, 75, 76, 77, 78, 79, 80, 81, 82] (by decide +kernel) (by decide +kernel)
set_option maxRecDepth 20000 in
theorem gX2_build_X2_isPlace : GoodIn wsX2_build (wsV RX2 120 RX2 yX2_isPlace wsX2_isPlace) := goodIn_app (goodIn_of _ (by decide +kernel)) ggX2_build_X2_isPlace
set_option maxRecDepth 20000 in
theorem ggX2_build_X2_no : GoodIn wsX2_build wsX2_no := goodIn_r _ [18, 1, 64, 65, 66, 67, 68, 69, 70, 71, 72, 73, 74, 75, 76, 77, 78, 79, 80, 81, 82] (by decide +kernel) (by decide +kernel)
set_option maxRecDepth 20000 in
theorem gX2_build_X2_no : GoodIn wsX2_build (wsV RX2 113 RX2 yX2_no wsX2_no) := goodIn_app (goodIn_of _ (by decide +kernel)) ggX2_build_X2_no
set_option maxRecDepth 20000 in
theorem ggX2_build_X2_reckon : GoodIn wsX2_build wsX2_reckon := goodIn_r _ [22, 11, 23, 5, 24, 25, 26, 9, 27, 28, 29, 30, 31, 32, 33, 34, 35, 36, 37, 38, 39, 40, 41, 42, 43, 44, 45, 46, 47, 48, 49, 50, 51, 52, 53, 54, 55, 56, 57, 58, 59, 60, 61, 62, 63, 64, 65, 66, 67, 68, 69, 70, 71, 72, 73, 74, 75, 76, 77, 78, 79, 80, 81, 82] (by decide +kernel) (by decide +kernel)
set_option maxRecDepth 20000 in
theorem gX2_build_X2_reckon : GoodIn wsX2_build (wsV RX2 101 RX2 yX2_reckon wsX2_reckon) := goodIn_app (goodIn_of _ (by decide +kernel)) ggX2_build_X2_reckon
theorem dX2_build_0 : decode cX2_build 0 = .ok (.aload_n 0, 1) := by decide +kernel
theorem dX2_build_1 : decode cX2_build 1 = .ok (.iconst 0, 1) := by decide +kernel
theorem dX2_build_2 : decode cX2_build 2 = .ok (.putfield 53, 3) := by decide +kernel
theorem dX2_build_5 : decode cX2_build 5 = .ok (.aload_n 0, 1) := by decide +kernel
theorem dX2_build_6 : decode cX2_build 6 = .ok (.iload_n 1, 1) := by decide +kernel
theorem dX2_build_7 : decode cX2_build 7 = .ok (.invokevirtual 120, 3) := by decide +kernel
theorem dX2_build_10 : decode cX2_build 10 = .ok (.ifCond .ne 9, 3) := by decide +kernel
theorem dX2_build_13 : decode cX2_build 13 = .ok (.aload_n 0, 1) := by decide +kernel
theorem dX2_build_14 : decode cX2_build 14 = .ok (.iconst 1, 1) := by decide +kernel
theorem dX2_build_15 : decode cX2_build 15 = .ok (.invokevirtual 113, 3) := by decide +kernel
theorem dX2_build_18 : decode cX2_build 18 = .ok (.ireturn, 1) := by decide +kernel
theorem dX2_build_19 : decode cX2_build 19 = .ok (.aload_n 0, 1) := by decide +kernel
theorem dX2_build_20 : decode cX2_build 20 = .ok (.getfield 64, 3) := by decide +kernel
theorem dX2_build_23 : decode cX2_build 23 = .ok (.bipush 16, 2) := by decide +kernel
theorem dX2_build_25 : decode cX2_build 25 = .ok (.if_icmp .ne 9, 3) := by decide +kernel
theorem dX2_build_28 : decode cX2_build 28 = .ok (.aload_n 0, 1) := by decide +kernel
theorem dX2_build_29 : decode cX2_build 29 = .ok (.iconst 2, 1) := by decide +kernel
theorem dX2_build_30 : decode cX2_build 30 = .ok (.invokevirtual 113, 3) := by decide +kernel
theorem dX2_build_33 : decode cX2_build 33 = .ok (.ireturn, 1) := by decide +kernel
theorem dX2_build_34 : decode cX2_build 34 = .ok (.aload_n 0, 1) := by decide +kernel
theorem dX2_build_35 : decode cX2_build 35 = .ok (.invokevirtual 101, 3) := by decide +kernel
theorem dX2_build_38 : decode cX2_build 38 = .ok (.aload_n 0, 1) := by decide +kernel
theorem dX2_build_39 : decode cX2_build 39 = .ok (.getfield 29, 3) := by decide +kernel
theorem dX2_build_42 : decode cX2_build 42 = .ok (.aload_n 0, 1) := by decide +kernel
theorem dX2_build_43 : decode cX2_build 43 = .ok (.getfield 64, 3) := by decide +kernel
theorem dX2_build_46 : decode cX2_build 46 = .ok (.iload_n 1, 1) := by decide +kernel
theorem dX2_build_47 : decode cX2_build 47 = .ok (.iastore, 1) := by decide +kernel
theorem dX2_build_48 : decode cX2_build 48 = .ok (.aload_n 0, 1) := by decide +kernel
theorem dX2_build_49 : decode cX2_build 49 = .ok (.getfield 32, 3) := by decide +kernel
theorem dX2_build_52 : decode cX2_build 52 = .ok (.aload_n 0, 1) := by decide +kernel
theorem dX2_build_53 : decode cX2_build 53 = .ok (.getfield 64, 3) := by decide +kernel
theorem dX2_build_56 : decode cX2_build 56 = .ok (.aload_n 0, 1) := by decide +kernel
theorem dX2_build_57 : decode cX2_build 57 = .ok (.getfield 44, 3) := by decide +kernel
theorem dX2_build_60 : decode cX2_build 60 = .ok (.iload_n 1, 1) := by decide +kernel
theorem dX2_build_61 : decode cX2_build 61 = .ok (.iaload, 1) := by decide +kernel
theorem dX2_build_62 : decode cX2_build 62 = .ok (.iastore, 1) := by decide +kernel
theorem dX2_build_63 : decode cX2_build 63 = .ok (.aload_n 0, 1) := by decide +kernel
theorem dX2_build_64 : decode cX2_build 64 = .ok (.dup, 1) := by decide +kernel
theorem dX2_build_65 : decode cX2_build 65 = .ok (.getfield 64, 3) := by decide +kernel
theorem dX2_build_68 : decode cX2_build 68 = .ok (.iconst 1, 1) := by decide +kernel
theorem dX2_build_69 : decode cX2_build 69 = .ok (.iadd, 1) := by decide +kernel
theorem dX2_build_70 : decode cX2_build 70 = .ok (.putfield 64, 3) := by decide +kernel
theorem dX2_build_73 : decode cX2_build 73 = .ok (.aload_n 0, 1) := by decide +kernel
theorem dX2_build_74 : decode cX2_build 74 = .ok (.getfield 64, 3) := by decide +kernel
theorem dX2_build_77 : decode cX2_build 77 = .ok (.iconst 1, 1) := by decide +kernel
theorem dX2_build_78 : decode cX2_build 78 = .ok (.isub, 1) := by decide +kernel
theorem dX2_build_79 : decode cX2_build 79 = .ok (.ireturn, 1) := by decide +kernel
theorem dX2_insulted_0 : decode cX2_insulted 0 = .ok (.aload_n 0, 1) := by decide +kernel
theorem dX2_insulted_1 : decode cX2_insulted 1 = .ok (.getfield 32, 3) := by decide +kernel
theorem dX2_insulted_4 : decode cX2_insulted 4 = .ok (.iload_n 1, 1) := by decide +kernel
theorem dX2_insulted_5 : decode cX2_insulted 5 = .ok (.iaload, 1) := by decide +kernel
theorem dX2_insulted_6 : decode cX2_insulted 6 = .ok (.iconst (-1), 1) := by decide +kernel
theorem dX2_insulted_7 : decode cX2_insulted 7 = .ok (.if_icmp .eq 27, 3) := by decide +kernel
theorem dX2_insulted_10 : decode cX2_insulted 10 = .ok (.aload_n 0, 1) := by decide +kernel
theorem dX2_insulted_11 : decode cX2_insulted 11 = .ok (.getfield 44, 3) := by decide +kernel
theorem dX2_insulted_14 : decode cX2_insulted 14 = .ok (.aload_n 0, 1) := by decide +kernel
theorem dX2_insulted_15 : decode cX2_insulted 15 = .ok (.getfield 29, 3) := by decide +kernel
theorem dX2_insulted_18 : decode cX2_insulted 18 = .ok (.iload_n 1, 1) := by decide +kernel
theorem dX2_insulted_19 : decode cX2_insulted 19 = .ok (.iaload, 1) := by decide +kernel
theorem dX2_insulted_20 : decode cX2_insulted 20 = .ok (.iaload, 1) := by decide +kernel
theorem dX2_insulted_21 : decode cX2_insulted 21 = .ok (.aload_n 0, 1) := by decide +kernel
theorem dX2_insulted_22 : decode cX2_insulted 22 = .ok (.getfield 32, 3) := by decide +kernel
theorem dX2_insulted_25 : decode cX2_insulted 25 = .ok (.iload_n 1, 1) := by decide +kernel
theorem dX2_insulted_26 : decode cX2_insulted 26 = .ok (.iaload, 1) := by decide +kernel
theorem dX2_insulted_27 : decode cX2_insulted 27 = .ok (.if_icmp .eq 7, 3) := by decide +kernel
theorem dX2_insulted_30 : decode cX2_insulted 30 = .ok (.iconst 1, 1) := by decide +kernel
theorem dX2_insulted_31 : decode cX2_insulted 31 = .ok (.goto 4, 3) := by decide +kernel
theorem dX2_insulted_34 : decode cX2_insulted 34 = .ok (.iconst 0, 1) := by decide +kernel
theorem dX2_insulted_35 : decode cX2_insulted 35 = .ok (.ireturn, 1) := by decide +kernel
set_option maxRecDepth 20000 in
theorem ggX2_allInsults_X2_reckon : GoodIn wsX2_allInsults wsX2_reckon := goodIn_r _ [6, 7, 8, 9, 10, 11, 12, 5, 13, 14, 15, 16, 17, 18, 19, 20, 21, 22, 23, 24, 25, 26, 27, 28, 29, 30, 31, 32, 33, 34, 35, 36, 37, 38, 39, 40, 41, 42, 43, 44, 45, 46, 47, 48, 49, 56, 57, 58, 59, 60, 61, 62, 63, 64, 65, 66, 67, 68, 69, 70, 71, 72, 73, 74] (by decide +kernel) (by decide +kernel)
set_option maxRecDepth 20000 in
theorem gX2_allInsults_X2_reckon : GoodIn wsX2_allInsults (wsV RX2 101 RX2 yX2_reckon wsX2_reckon) := goodIn_app (goodIn_of _ (by decide +kernel)) ggX2_allInsults_X2_reckon
set_option maxRecDepth 20000 in
theorem ggX2_allInsults_X2_insulted : GoodIn wsX2_allInsults wsX2_insulted := goodIn_r _ [53, 54, 9, 55, 56, 57, 58, 59, 60, 61, 62, 63, 64, 65, 66, 67, 68, 69, 70, 71, 72, 73, 74] (by decide +kernel) (by decide +kernel)
set_option maxRecDepth 20000 in
theorem gX2_allInsults_X2_insulted : GoodIn wsX2_allInsults (wsV RX2 126 RX2 yX2_insulted wsX2_insulted) := goodIn_app (goodIn_of _ (by decide +kernel)) ggX2_allInsults_X2_insulted
theorem dX2_allInsults_0 : decode cX2_allInsults 0 = .ok (.aload_n 0, 1) := by decide +kernel
theorem dX2_allInsults_1 : decode cX2_allInsults 1 = .ok (.invokevirtual 101, 3) := by decide +kernel
theorem dX2_allInsults_4 : decode cX2_allInsults 4 = .ok (.iconst 0, 1) := by decide +kernel
theorem dX2_allInsults_5 : decode cX2_allInsults 5 = .ok (.istore_n 1, 1) := by decide +kernel
theorem dX2_allInsults_6 : decode cX2_allInsults 6 = .ok (.iconst 0, 1) := by decide +kernel
theorem dX2_allInsults_7 : decode cX2_allInsults 7 = .ok (.istore_n 2, 1) := by decide +kernel
theorem dX2_allInsults_8 : decode cX2_allInsults 8 = .ok (.iload_n 2, 1) := by decide +kernel
theorem dX2_allInsults_9 : decode cX2_allInsults 9 = .ok (.aload_n 0, 1) := by decide +kernel
theorem dX2_allInsults_10 : decode cX2_allInsults 10 = .ok (.getfield 64, 3) := by decide +kernel
theorem dX2_allInsults_13 : decode cX2_allInsults 13 = .ok (.if_icmp .ge 25, 3) := by decide +kernel
theorem dX2_allInsults_16 : decode cX2_allInsults 16 = .ok (.iload_n 1, 1) := by decide +kernel
theorem dX2_allInsults_17 : decode cX2_allInsults 17 = .ok (.aload_n 0, 1) := by decide +kernel
theorem dX2_allInsults_18 : decode cX2_allInsults 18 = .ok (.iload_n 2, 1) := by decide +kernel
theorem dX2_allInsults_19 : decode cX2_allInsults 19 = .ok (.invokevirtual 126, 3) := by decide +kernel
theorem dX2_allInsults_22 : decode cX2_allInsults 22 = .ok (.ifCond .eq 7, 3) := by decide +kernel
theorem dX2_allInsults_25 : decode cX2_allInsults 25 = .ok (.iconst 1, 1) := by decide +kernel
theorem dX2_allInsults_26 : decode cX2_allInsults 26 = .ok (.goto 4, 3) := by decide +kernel
theorem dX2_allInsults_29 : decode cX2_allInsults 29 = .ok (.iconst 0, 1) := by decide +kernel
theorem dX2_allInsults_30 : decode cX2_allInsults 30 = .ok (.iadd, 1) := by decide +kernel
theorem dX2_allInsults_31 : decode cX2_allInsults 31 = .ok (.istore_n 1, 1) := by decide +kernel
theorem dX2_allInsults_32 : decode cX2_allInsults 32 = .ok (.iinc 2 1, 3) := by decide +kernel
theorem dX2_allInsults_35 : decode cX2_allInsults 35 = .ok (.goto (-27), 3) := by decide +kernel
theorem dX2_allInsults_38 : decode cX2_allInsults 38 = .ok (.iload_n 1, 1) := by decide +kernel
theorem dX2_allInsults_39 : decode cX2_allInsults 39 = .ok (.ireturn, 1) := by decide +kernel
set_option maxRecDepth 20000 in
theorem ggX2_pass_X2_isIn : GoodIn wsX2_pass wsX2_isIn := goodIn_r _ [6] (by decide +kernel) (by decide +kernel)
set_option maxRecDepth 20000 in
theorem gX2_pass_X2_isIn : GoodIn wsX2_pass (va_wsS RX2 60 yX2_isIn wsX2_isIn) := goodIn_app (goodIn_of _ (by decide +kernel)) ggX2_pass_X2_isIn
set_option maxRecDepth 20000 in
theorem ggX2_pass_X2_no : GoodIn wsX2_pass wsX2_no := goodIn_r _ [10, 1, 77, 78, 79, 80, 81, 82, 83, 84, 85, 86, 87, 88, 89, 90, 91, 92, 93, 94, 95] (by decide +kernel) (by decide +kernel)
set_option maxRecDepth 20000 in
theorem gX2_pass_X2_no : GoodIn wsX2_pass (wsV RX2 113 RX2 yX2_no wsX2_no) := goodIn_app (goodIn_of _ (by decide +kernel)) ggX2_pass_X2_no
set_option maxRecDepth 20000 in
theorem ggX2_pass_X2_swells : GoodIn wsX2_pass wsX2_swells := goodIn_r _ [14, 15, 16, 17, 18, 19, 20, 21, 22, 23, 24, 25, 77, 78, 79, 80, 81, 82, 83, 84, 85, 86, 87, 88, 89, 90, 91, 92, 93, 94, 95] (by decide +kernel) (by decide +kernel)
set_option maxRecDepth 20000 in
theorem gX2_pass_X2_swells : GoodIn wsX2_pass (wsV RX2 129 RX2 yX2_swells wsX2_swells) := goodIn_app (goodIn_of _ (by decide +kernel)) ggX2_pass_X2_swells
set_option maxRecDepth 20000 in
theorem ggX2_pass_X2_allInsults : GoodIn wsX2_pass wsX2_allInsults := goodIn_r _ [29, 30, 31, 32, 33, 5, 34, 15, 35, 36, 37, 38, 39, 40, 41, 42, 43, 44, 45, 46, 47, 48, 49, 50, 51, 52, 53, 54, 16, 17, 55, 23, 24, 21, 25, 56, 57, 58, 59, 60, 61, 62, 63, 64, 65, 66, 67, 68, 69, 70, 71, 72, 73, 74, 75, 76, 77, 78, 79, 80, 81, 82, 83, 84, 85, 86, 87, 88, 89, 90, 91, 92, 93, 94, 95] (by decide +kernel) (by decide +kernel)
set_option maxRecDepth 20000 in
theorem gX2_pass_X2_allInsults : GoodIn wsX2_pass (wsV RX2 135 RX2 yX2_allInsults wsX2_allInsults) := goodIn_app (goodIn_of _ (by decide +kernel)) ggX2_pass_X2_allInsults
theorem dX2_pass_0 : decode cX2_pass 0 = .ok (.aload_n 0, 1) := by decide +kernel
theorem dX2_pass_1 : decode cX2_pass 1 = .ok (.iconst 0, 1) := by decide +kernel
theorem dX2_pass_2 : decode cX2_pass 2 = .ok (.putfield 53, 3) := by decide +kernel
theorem dX2_pass_5 : decode cX2_pass 5 = .ok (.iload_n 1, 1) := by decide +kernel
theorem dX2_pass_6 : decode cX2_pass 6 = .ok (.iconst 1, 1) := by decide +kernel
theorem dX2_pass_7 : decode cX2_pass 7 = .ok (.bipush 50, 2) := by decide +kernel
theorem dX2_pass_9 : decode cX2_pass 9 = .ok (.invokestatic 60, 3) := by decide +kernel
theorem dX2_pass_12 : decode cX2_pass 12 = .ok (.ifCond .ne 9, 3) := by decide +kernel
theorem dX2_pass_15 : decode cX2_pass 15 = .ok (.aload_n 0, 1) := by decide +kernel
theorem dX2_pass_16 : decode cX2_pass 16 = .ok (.iconst 1, 1) := by decide +kernel
theorem dX2_pass_17 : decode cX2_pass 17 = .ok (.invokevirtual 113, 3) := by decide +kernel
theorem dX2_pass_20 : decode cX2_pass 20 = .ok (.ireturn, 1) := by decide +kernel
theorem dX2_pass_21 : decode cX2_pass 21 = .ok (.iconst 0, 1) := by decide +kernel
theorem dX2_pass_22 : decode cX2_pass 22 = .ok (.istore_n 2, 1) := by decide +kernel
theorem dX2_pass_23 : decode cX2_pass 23 = .ok (.iload_n 2, 1) := by decide +kernel
theorem dX2_pass_24 : decode cX2_pass 24 = .ok (.iload_n 1, 1) := by decide +kernel
theorem dX2_pass_25 : decode cX2_pass 25 = .ok (.if_icmp .ge 13, 3) := by decide +kernel
theorem dX2_pass_28 : decode cX2_pass 28 = .ok (.aload_n 0, 1) := by decide +kernel
theorem dX2_pass_29 : decode cX2_pass 29 = .ok (.invokevirtual 129, 3) := by decide +kernel
theorem dX2_pass_32 : decode cX2_pass 32 = .ok (.iinc 2 1, 3) := by decide +kernel
theorem dX2_pass_35 : decode cX2_pass 35 = .ok (.goto (-12), 3) := by decide +kernel
theorem dX2_pass_38 : decode cX2_pass 38 = .ok (.aload_n 0, 1) := by decide +kernel
theorem dX2_pass_39 : decode cX2_pass 39 = .ok (.dup, 1) := by decide +kernel
theorem dX2_pass_40 : decode cX2_pass 40 = .ok (.getfield 132, 3) := by decide +kernel
theorem dX2_pass_43 : decode cX2_pass 43 = .ok (.iload_n 1, 1) := by decide +kernel
theorem dX2_pass_44 : decode cX2_pass 44 = .ok (.iadd, 1) := by decide +kernel
theorem dX2_pass_45 : decode cX2_pass 45 = .ok (.putfield 132, 3) := by decide +kernel
theorem dX2_pass_48 : decode cX2_pass 48 = .ok (.aload_n 0, 1) := by decide +kernel
theorem dX2_pass_49 : decode cX2_pass 49 = .ok (.invokevirtual 135, 3) := by decide +kernel
theorem dX2_pass_52 : decode cX2_pass 52 = .ok (.ireturn, 1) := by decide +kernel
set_option maxRecDepth 20000 in
theorem ggX2_year_X2_ok : GoodIn wsX2_year wsX2_ok := goodIn_r _ [6, 7, 8, 9, 10, 11, 12, 13, 14, 15, 16, 17, 18, 19, 20, 21, 22, 23, 24, 25, 26] (by decide +kernel) (by decide +kernel)
set_option maxRecDepth 20000 in
theorem gX2_year_X2_ok : GoodIn wsX2_year (wsV RX2 139 RX2 yX2_ok wsX2_ok) := goodIn_app (goodIn_of _ (by decide +kernel)) ggX2_year_X2_ok
theorem dX2_year_0 : decode cX2_year 0 = .ok (.aload_n 0, 1) := by decide +kernel
theorem dX2_year_1 : decode cX2_year 1 = .ok (.aload_n 0, 1) := by decide +kernel
theorem dX2_year_2 : decode cX2_year 2 = .ok (.getfield 132, 3) := by decide +kernel
theorem dX2_year_5 : decode cX2_year 5 = .ok (.invokevirtual 139, 3) := by decide +kernel
theorem dX2_year_8 : decode cX2_year 8 = .ok (.ireturn, 1) := by decide +kernel
set_option maxRecDepth 20000 in
theorem ggX2_places_X2_ok : GoodIn wsX2_places wsX2_ok := goodIn_r _ [6, 7, 8, 9, 10, 11, 12, 13, 14, 15, 16, 17, 18, 19, 20, 21, 22, 23, 24, 25, 26] (by decide +kernel) (by decide +kernel)
set_option maxRecDepth 20000 in
theorem gX2_places_X2_ok : GoodIn wsX2_places (wsV RX2 139 RX2 yX2_ok wsX2_ok) := goodIn_app (goodIn_of _ (by decide +kernel)) ggX2_places_X2_ok
theorem dX2_places_0 : decode cX2_places 0 = .ok (.aload_n 0, 1) := by decide +kernel
theorem dX2_places_1 : decode cX2_places 1 = .ok (.aload_n 0, 1) := by decide +kernel
theorem dX2_places_2 : decode cX2_places 2 = .ok (.getfield 57, 3) := by decide +kernel
theorem dX2_places_5 : decode cX2_places 5 = .ok (.invokevirtual 139, 3) := by decide +kernel
theorem dX2_places_8 : decode cX2_places 8 = .ok (.ireturn, 1) := by decide +kernel
set_option maxRecDepth 20000 in
theorem ggX2_leadsTo_X2_isPlace : GoodIn wsX2_leadsTo wsX2_isPlace := goodIn_r _ [7, 8, 9, 10, 6, 11, 16, 17, 18, 19, 20, 21, 22, 23, 24, 25, 26, 27, 28, 29, 30, 31, 32, 33, 34] (by decide +kernel) (by decide +kernel)
set_option maxRecDepth 20000 in
theorem gX2_leadsTo_X2_isPlace : GoodIn wsX2_leadsTo (wsV RX2 120 RX2 yX2_isPlace wsX2_isPlace) := goodIn_app (goodIn_of _ (by decide +kernel)) ggX2_leadsTo_X2_isPlace
set_option maxRecDepth 20000 in
theorem ggX2_leadsTo_X2_no : GoodIn wsX2_leadsTo wsX2_no := goodIn_r _ [15, 1, 16, 17, 18, 19, 20, 21, 22, 23, 24, 25, 26, 27, 28, 29, 30, 31, 32, 33, 34] (by decide +kernel) (by decide +kernel)
set_option maxRecDepth 20000 in
theorem gX2_leadsTo_X2_no : GoodIn wsX2_leadsTo (wsV RX2 113 RX2 yX2_no wsX2_no) := goodIn_app (goodIn_of _ (by decide +kernel)) ggX2_leadsTo_X2_no
theorem dX2_leadsTo_0 : decode cX2_leadsTo 0 = .ok (.aload_n 0, 1) := by decide +kernel
theorem dX2_leadsTo_1 : decode cX2_leadsTo 1 = .ok (.iconst 0, 1) := by decide +kernel
theorem dX2_leadsTo_2 : decode cX2_leadsTo 2 = .ok (.putfield 53, 3) := by decide +kernel
theorem dX2_leadsTo_5 : decode cX2_leadsTo 5 = .ok (.aload_n 0, 1) := by decide +kernel
theorem dX2_leadsTo_6 : decode cX2_leadsTo 6 = .ok (.iload_n 1, 1) := by decide +kernel
theorem dX2_leadsTo_7 : decode cX2_leadsTo 7 = .ok (.invokevirtual 120, 3) := by decide +kernel
theorem dX2_leadsTo_10 : decode cX2_leadsTo 10 = .ok (.ifCond .eq 12, 3) := by decide +kernel
theorem dX2_leadsTo_13 : decode cX2_leadsTo 13 = .ok (.aload_n 0, 1) := by decide +kernel
theorem dX2_leadsTo_14 : decode cX2_leadsTo 14 = .ok (.getfield 9, 3) := by decide +kernel
theorem dX2_leadsTo_17 : decode cX2_leadsTo 17 = .ok (.iload_n 1, 1) := by decide +kernel
theorem dX2_leadsTo_18 : decode cX2_leadsTo 18 = .ok (.iaload, 1) := by decide +kernel
theorem dX2_leadsTo_19 : decode cX2_leadsTo 19 = .ok (.goto 8, 3) := by decide +kernel
theorem dX2_leadsTo_22 : decode cX2_leadsTo 22 = .ok (.aload_n 0, 1) := by decide +kernel
theorem dX2_leadsTo_23 : decode cX2_leadsTo 23 = .ok (.iconst 1, 1) := by decide +kernel
theorem dX2_leadsTo_24 : decode cX2_leadsTo 24 = .ok (.invokevirtual 113, 3) := by decide +kernel
theorem dX2_leadsTo_27 : decode cX2_leadsTo 27 = .ok (.ireturn, 1) := by decide +kernel
set_option maxRecDepth 20000 in
theorem ggX2_hasSpring_X2_isPlace : GoodIn wsX2_hasSpring wsX2_isPlace := goodIn_r _ [7, 8, 9, 10, 6, 11, 16, 17, 18, 19, 20, 21, 22, 23, 24, 25, 26, 27, 28, 29, 30, 31, 32, 33, 34] (by decide +kernel) (by decide +kernel)
set_option maxRecDepth 20000 in
theorem gX2_hasSpring_X2_isPlace : GoodIn wsX2_hasSpring (wsV RX2 120 RX2 yX2_isPlace wsX2_isPlace) := goodIn_app (goodIn_of _ (by decide +kernel)) ggX2_hasSpring_X2_isPlace
set_option maxRecDepth 20000 in
theorem ggX2_hasSpring_X2_isNot : GoodIn wsX2_hasSpring wsX2_isNot := goodIn_r _ [15, 1, 16, 17, 18, 19, 20, 21, 22, 23, 24, 25, 26, 27, 28, 29, 30, 31, 32, 33, 34] (by decide +kernel) (by decide +kernel)
set_option maxRecDepth 20000 in
theorem gX2_hasSpring_X2_isNot : GoodIn wsX2_hasSpring (wsV RX2 123 RX2 yX2_isNot wsX2_isNot) := goodIn_app (goodIn_of _ (by decide +kernel)) ggX2_hasSpring_X2_isNot
theorem dX2_hasSpring_0 : decode cX2_hasSpring 0 = .ok (.aload_n 0, 1) := by decide +kernel
theorem dX2_hasSpring_1 : decode cX2_hasSpring 1 = .ok (.iconst 0, 1) := by decide +kernel
theorem dX2_hasSpring_2 : decode cX2_hasSpring 2 = .ok (.putfield 53, 3) := by decide +kernel
theorem dX2_hasSpring_5 : decode cX2_hasSpring 5 = .ok (.aload_n 0, 1) := by decide +kernel
theorem dX2_hasSpring_6 : decode cX2_hasSpring 6 = .ok (.iload_n 1, 1) := by decide +kernel
theorem dX2_hasSpring_7 : decode cX2_hasSpring 7 = .ok (.invokevirtual 120, 3) := by decide +kernel
theorem dX2_hasSpring_10 : decode cX2_hasSpring 10 = .ok (.ifCond .eq 12, 3) := by decide +kernel
theorem dX2_hasSpring_13 : decode cX2_hasSpring 13 = .ok (.aload_n 0, 1) := by decide +kernel
theorem dX2_hasSpring_14 : decode cX2_hasSpring 14 = .ok (.getfield 13, 3) := by decide +kernel
theorem dX2_hasSpring_17 : decode cX2_hasSpring 17 = .ok (.iload_n 1, 1) := by decide +kernel
theorem dX2_hasSpring_18 : decode cX2_hasSpring 18 = .ok (.baload, 1) := by decide +kernel
theorem dX2_hasSpring_19 : decode cX2_hasSpring 19 = .ok (.goto 8, 3) := by decide +kernel
theorem dX2_hasSpring_22 : decode cX2_hasSpring 22 = .ok (.aload_n 0, 1) := by decide +kernel
theorem dX2_hasSpring_23 : decode cX2_hasSpring 23 = .ok (.iconst 1, 1) := by decide +kernel
theorem dX2_hasSpring_24 : decode cX2_hasSpring 24 = .ok (.invokevirtual 123, 3) := by decide +kernel
theorem dX2_hasSpring_27 : decode cX2_hasSpring 27 = .ok (.ireturn, 1) := by decide +kernel
set_option maxRecDepth 20000 in
theorem ggX2_springOf_X2_isPlace : GoodIn wsX2_springOf wsX2_isPlace := goodIn_r _ [7, 8, 9, 10, 6, 11, 16, 17, 18, 19, 20, 21, 22, 23, 24, 25, 26, 27, 28, 29, 30, 31, 32, 33, 34] (by decide +kernel) (by decide +kernel)
set_option maxRecDepth 20000 in
theorem gX2_springOf_X2_isPlace : GoodIn wsX2_springOf (wsV RX2 120 RX2 yX2_isPlace wsX2_isPlace) := goodIn_app (goodIn_of _ (by decide +kernel)) ggX2_springOf_X2_isPlace
set_option maxRecDepth 20000 in
theorem ggX2_springOf_X2_no : GoodIn wsX2_springOf wsX2_no := goodIn_r _ [15, 1, 16, 17, 18, 19, 20, 21, 22, 23, 24, 25, 26, 27, 28, 29, 30, 31, 32, 33, 34] (by decide +kernel) (by decide +kernel)
set_option maxRecDepth 20000 in
theorem gX2_springOf_X2_no : GoodIn wsX2_springOf (wsV RX2 113 RX2 yX2_no wsX2_no) := goodIn_app (goodIn_of _ (by decide +kernel)) ggX2_springOf_X2_no
theorem dX2_springOf_0 : decode cX2_springOf 0 = .ok (.aload_n 0, 1) := by decide +kernel
theorem dX2_springOf_1 : decode cX2_springOf 1 = .ok (.iconst 0, 1) := by decide +kernel
theorem dX2_springOf_2 : decode cX2_springOf 2 = .ok (.putfield 53, 3) := by decide +kernel
theorem dX2_springOf_5 : decode cX2_springOf 5 = .ok (.aload_n 0, 1) := by decide +kernel
theorem dX2_springOf_6 : decode cX2_springOf 6 = .ok (.iload_n 1, 1) := by decide +kernel
theorem dX2_springOf_7 : decode cX2_springOf 7 = .ok (.invokevirtual 120, 3) := by decide +kernel
theorem dX2_springOf_10 : decode cX2_springOf 10 = .ok (.ifCond .eq 12, 3) := by decide +kernel
theorem dX2_springOf_13 : decode cX2_springOf 13 = .ok (.aload_n 0, 1) := by decide +kernel
theorem dX2_springOf_14 : decode cX2_springOf 14 = .ok (.getfield 20, 3) := by decide +kernel
theorem dX2_springOf_17 : decode cX2_springOf 17 = .ok (.iload_n 1, 1) := by decide +kernel
theorem dX2_springOf_18 : decode cX2_springOf 18 = .ok (.iaload, 1) := by decide +kernel
theorem dX2_springOf_19 : decode cX2_springOf 19 = .ok (.goto 8, 3) := by decide +kernel
theorem dX2_springOf_22 : decode cX2_springOf 22 = .ok (.aload_n 0, 1) := by decide +kernel
theorem dX2_springOf_23 : decode cX2_springOf 23 = .ok (.iconst 1, 1) := by decide +kernel
theorem dX2_springOf_24 : decode cX2_springOf 24 = .ok (.invokevirtual 113, 3) := by decide +kernel
theorem dX2_springOf_27 : decode cX2_springOf 27 = .ok (.ireturn, 1) := by decide +kernel
set_option maxRecDepth 20000 in
theorem ggX2_reckoned_X2_isPlace : GoodIn wsX2_reckoned wsX2_isPlace := goodIn_r _ [6, 7, 8, 9, 5, 10, 61, 62, 63, 64, 65, 66, 67, 68, 69, 70, 71, 72, 73, 74, 75, 76, 77, 78, 79] (by decide +kernel) (by decide +kernel)
set_option maxRecDepth 20000 in
theorem gX2_reckoned_X2_isPlace : GoodIn wsX2_reckoned (wsV RX2 120 RX2 yX2_isPlace wsX2_isPlace) := goodIn_app (goodIn_of _ (by decide +kernel)) ggX2_reckoned_X2_isPlace
set_option maxRecDepth 20000 in
theorem ggX2_reckoned_X2_no : GoodIn wsX2_reckoned wsX2_no := goodIn_r _ [14, 1, 61, 62, 63, 64, 65, 66, 67, 68, 69, 70, 71, 72, 73, 74, 75, 76, 77, 78, 79] (by decide +kernel) (by decide +kernel)
set_option maxRecDepth 20000 in
theorem gX2_reckoned_X2_no : GoodIn wsX2_reckoned (wsV RX2 113 RX2 yX2_no wsX2_no) := goodIn_app (goodIn_of _ (by decide +kernel)) ggX2_reckoned_X2_no
set_option maxRecDepth 20000 in
theorem ggX2_reckoned_X2_reckon : GoodIn wsX2_reckoned wsX2_reckon := goodIn_r _ [18, 7, 19, 20, 21, 22, 23, 5, 24, 25, 26, 27, 28, 29, 30, 31, 32, 33, 34, 35, 36, 37, 38, 39, 40, 41, 42, 43, 44, 45, 46, 47, 48, 49, 50, 51, 52, 53, 54, 55, 56, 57, 58, 59, 60, 61, 62, 63, 64, 65, 66, 67, 68, 69, 70, 71, 72, 73, 74, 75, 76, 77, 78, 79] (by decide +kernel) (by decide +kernel)
set_option maxRecDepth 20000 in
theorem gX2_reckoned_X2_reckon : GoodIn wsX2_reckoned (wsV RX2 101 RX2 yX2_reckon wsX2_reckon) := goodIn_app (goodIn_of _ (by decide +kernel)) ggX2_reckoned_X2_reckon
theorem dX2_reckoned_0 : decode cX2_reckoned 0 = .ok (.aload_n 0, 1) := by decide +kernel
theorem dX2_reckoned_1 : decode cX2_reckoned 1 = .ok (.iconst 0, 1) := by decide +kernel
theorem dX2_reckoned_2 : decode cX2_reckoned 2 = .ok (.putfield 53, 3) := by decide +kernel
theorem dX2_reckoned_5 : decode cX2_reckoned 5 = .ok (.aload_n 0, 1) := by decide +kernel
theorem dX2_reckoned_6 : decode cX2_reckoned 6 = .ok (.iload_n 1, 1) := by decide +kernel
theorem dX2_reckoned_7 : decode cX2_reckoned 7 = .ok (.invokevirtual 120, 3) := by decide +kernel
theorem dX2_reckoned_10 : decode cX2_reckoned 10 = .ok (.ifCond .ne 9, 3) := by decide +kernel
theorem dX2_reckoned_13 : decode cX2_reckoned 13 = .ok (.aload_n 0, 1) := by decide +kernel
theorem dX2_reckoned_14 : decode cX2_reckoned 14 = .ok (.iconst 1, 1) := by decide +kernel
theorem dX2_reckoned_15 : decode cX2_reckoned 15 = .ok (.invokevirtual 113, 3) := by decide +kernel
theorem dX2_reckoned_18 : decode cX2_reckoned 18 = .ok (.ireturn, 1) := by decide +kernel
theorem dX2_reckoned_19 : decode cX2_reckoned 19 = .ok (.aload_n 0, 1) := by decide +kernel
theorem dX2_reckoned_20 : decode cX2_reckoned 20 = .ok (.invokevirtual 101, 3) := by decide +kernel
theorem dX2_reckoned_23 : decode cX2_reckoned 23 = .ok (.aload_n 2, 1) := by decide +kernel
theorem dX2_reckoned_24 : decode cX2_reckoned 24 = .ok (.iload_n 1, 1) := by decide +kernel
theorem dX2_reckoned_25 : decode cX2_reckoned 25 = .ok (.iaload, 1) := by decide +kernel
theorem dX2_reckoned_26 : decode cX2_reckoned 26 = .ok (.ireturn, 1) := by decide +kernel
set_option maxRecDepth 20000 in
theorem ggX2_waterAt_X2_reckoned : GoodIn wsX2_waterAt wsX2_reckoned := goodIn_r _ [6, 7, 8, 9, 10, 5, 11, 12, 13, 14, 15, 16, 17, 18, 19, 20, 21, 22, 23, 24, 25, 26, 27, 28, 29, 30, 31, 32, 33, 34, 35, 36, 37, 38, 39, 40, 41, 42, 1, 43, 44, 45, 46, 47, 48, 49, 50, 51, 52, 53, 54, 55, 56, 57, 58, 59, 60, 61, 62, 63, 64, 65, 66, 67, 68, 69, 70, 71, 72, 73, 74, 75, 76, 77, 78, 79, 80, 81, 82, 83] (by decide +kernel) (by decide +kernel)
set_option maxRecDepth 20000 in
theorem gX2_waterAt_X2_reckoned : GoodIn wsX2_waterAt (wsV RX2 142 RX2 yX2_reckoned wsX2_reckoned) := goodIn_app (goodIn_of _ (by decide +kernel)) ggX2_waterAt_X2_reckoned
theorem dX2_waterAt_0 : decode cX2_waterAt 0 = .ok (.aload_n 0, 1) := by decide +kernel
theorem dX2_waterAt_1 : decode cX2_waterAt 1 = .ok (.iload_n 1, 1) := by decide +kernel
theorem dX2_waterAt_2 : decode cX2_waterAt 2 = .ok (.aload_n 0, 1) := by decide +kernel
theorem dX2_waterAt_3 : decode cX2_waterAt 3 = .ok (.getfield 38, 3) := by decide +kernel
theorem dX2_waterAt_6 : decode cX2_waterAt 6 = .ok (.invokevirtual 142, 3) := by decide +kernel
theorem dX2_waterAt_9 : decode cX2_waterAt 9 = .ok (.ireturn, 1) := by decide +kernel
set_option maxRecDepth 20000 in
theorem ggX2_lengthAt_X2_reckoned : GoodIn wsX2_lengthAt wsX2_reckoned := goodIn_r _ [6, 7, 8, 9, 10, 5, 11, 12, 13, 14, 15, 16, 17, 18, 19, 20, 21, 22, 23, 24, 25, 26, 27, 28, 29, 30, 31, 32, 33, 34, 35, 36, 37, 38, 39, 40, 41, 42, 43, 44, 45, 1, 46, 47, 48, 49, 50, 51, 52, 53, 54, 55, 56, 57, 58, 59, 60, 61, 62, 63, 64, 65, 66, 67, 68, 69, 70, 71, 72, 73, 74, 75, 76, 77, 78, 79, 80, 81, 82, 83] (by decide +kernel) (by decide +kernel)
set_option maxRecDepth 20000 in
theorem gX2_lengthAt_X2_reckoned : GoodIn wsX2_lengthAt (wsV RX2 142 RX2 yX2_reckoned wsX2_reckoned) := goodIn_app (goodIn_of _ (by decide +kernel)) ggX2_lengthAt_X2_reckoned
theorem dX2_lengthAt_0 : decode cX2_lengthAt 0 = .ok (.aload_n 0, 1) := by decide +kernel
theorem dX2_lengthAt_1 : decode cX2_lengthAt 1 = .ok (.iload_n 1, 1) := by decide +kernel
theorem dX2_lengthAt_2 : decode cX2_lengthAt 2 = .ok (.aload_n 0, 1) := by decide +kernel
theorem dX2_lengthAt_3 : decode cX2_lengthAt 3 = .ok (.getfield 41, 3) := by decide +kernel
theorem dX2_lengthAt_6 : decode cX2_lengthAt 6 = .ok (.invokevirtual 142, 3) := by decide +kernel
theorem dX2_lengthAt_9 : decode cX2_lengthAt 9 = .ok (.ireturn, 1) := by decide +kernel
set_option maxRecDepth 20000 in
theorem ggX2_mouthOf_X2_isPlace : GoodIn wsX2_mouthOf wsX2_isPlace := goodIn_r _ [6, 7, 8, 9, 5, 10, 20, 21, 22, 23, 24, 25, 26, 27, 28, 29, 30, 31, 32, 33, 34, 35, 36, 37, 38] (by decide +kernel) (by decide +kernel)
set_option maxRecDepth 20000 in
theorem gX2_mouthOf_X2_isPlace : GoodIn wsX2_mouthOf (wsV RX2 120 RX2 yX2_isPlace wsX2_isPlace) := goodIn_app (goodIn_of _ (by decide +kernel)) ggX2_mouthOf_X2_isPlace
set_option maxRecDepth 20000 in
theorem ggX2_mouthOf_X2_mouth : GoodIn wsX2_mouthOf wsX2_mouth := goodIn_r _ [14, 15, 20, 21, 22, 23, 24, 25, 26, 27, 28, 29, 30, 31, 32, 33, 34, 35, 36, 37, 38] (by decide +kernel) (by decide +kernel)
set_option maxRecDepth 20000 in
theorem gX2_mouthOf_X2_mouth : GoodIn wsX2_mouthOf (wsV RX2 146 RX2 yX2_mouth wsX2_mouth) := goodIn_app (goodIn_of _ (by decide +kernel)) ggX2_mouthOf_X2_mouth
set_option maxRecDepth 20000 in
theorem ggX2_mouthOf_X2_no : GoodIn wsX2_mouthOf wsX2_no := goodIn_r _ [19, 1, 20, 21, 22, 23, 24, 25, 26, 27, 28, 29, 30, 31, 32, 33, 34, 35, 36, 37, 38] (by decide +kernel) (by decide +kernel)
set_option maxRecDepth 20000 in
theorem gX2_mouthOf_X2_no : GoodIn wsX2_mouthOf (wsV RX2 113 RX2 yX2_no wsX2_no) := goodIn_app (goodIn_of _ (by decide +kernel)) ggX2_mouthOf_X2_no
theorem dX2_mouthOf_0 : decode cX2_mouthOf 0 = .ok (.aload_n 0, 1) := by decide +kernel
theorem dX2_mouthOf_1 : decode cX2_mouthOf 1 = .ok (.iconst 0, 1) := by decide +kernel
theorem dX2_mouthOf_2 : decode cX2_mouthOf 2 = .ok (.putfield 53, 3) := by decide +kernel
theorem dX2_mouthOf_5 : decode cX2_mouthOf 5 = .ok (.aload_n 0, 1) := by decide +kernel
theorem dX2_mouthOf_6 : decode cX2_mouthOf 6 = .ok (.iload_n 1, 1) := by decide +kernel
theorem dX2_mouthOf_7 : decode cX2_mouthOf 7 = .ok (.invokevirtual 120, 3) := by decide +kernel
theorem dX2_mouthOf_10 : decode cX2_mouthOf 10 = .ok (.ifCond .eq 11, 3) := by decide +kernel
theorem dX2_mouthOf_13 : decode cX2_mouthOf 13 = .ok (.aload_n 0, 1) := by decide +kernel
theorem dX2_mouthOf_14 : decode cX2_mouthOf 14 = .ok (.iload_n 1, 1) := by decide +kernel
theorem dX2_mouthOf_15 : decode cX2_mouthOf 15 = .ok (.invokevirtual 146, 3) := by decide +kernel
theorem dX2_mouthOf_18 : decode cX2_mouthOf 18 = .ok (.goto 8, 3) := by decide +kernel
theorem dX2_mouthOf_21 : decode cX2_mouthOf 21 = .ok (.aload_n 0, 1) := by decide +kernel
theorem dX2_mouthOf_22 : decode cX2_mouthOf 22 = .ok (.iconst 1, 1) := by decide +kernel
theorem dX2_mouthOf_23 : decode cX2_mouthOf 23 = .ok (.invokevirtual 113, 3) := by decide +kernel
theorem dX2_mouthOf_26 : decode cX2_mouthOf 26 = .ok (.ireturn, 1) := by decide +kernel
set_option maxRecDepth 20000 in
theorem ggX2_isAbove_X2_isPlace : GoodIn wsX2_isAbove wsX2_isPlace := goodIn_r _ [6, 7, 8, 9, 5, 10, 20, 21, 22, 23, 24, 25, 26, 27, 28, 29, 30, 31, 32, 33, 34, 35, 36, 37, 38] (by decide +kernel) (by decide +kernel)
set_option maxRecDepth 20000 in
theorem gX2_isAbove_X2_isPlace : GoodIn wsX2_isAbove (wsV RX2 120 RX2 yX2_isPlace wsX2_isPlace) := goodIn_app (goodIn_of _ (by decide +kernel)) ggX2_isAbove_X2_isPlace
set_option maxRecDepth 20000 in
theorem ggX2_isAbove_X2_above : GoodIn wsX2_isAbove wsX2_above := goodIn_r _ [14, 15, 20, 21, 22, 23, 24, 25, 26, 27, 28, 29, 30, 31, 32, 33, 34, 35, 36, 37, 38] (by decide +kernel) (by decide +kernel)
set_option maxRecDepth 20000 in
theorem gX2_isAbove_X2_above : GoodIn wsX2_isAbove (wsV RX2 67 RX2 yX2_above wsX2_above) := goodIn_app (goodIn_of _ (by decide +kernel)) ggX2_isAbove_X2_above
set_option maxRecDepth 20000 in
theorem ggX2_isAbove_X2_isNot : GoodIn wsX2_isAbove wsX2_isNot := goodIn_r _ [19, 1, 20, 21, 22, 23, 24, 25, 26, 27, 28, 29, 30, 31, 32, 33, 34, 35, 36, 37, 38] (by decide +kernel) (by decide +kernel)
set_option maxRecDepth 20000 in
theorem gX2_isAbove_X2_isNot : GoodIn wsX2_isAbove (wsV RX2 123 RX2 yX2_isNot wsX2_isNot) := goodIn_app (goodIn_of _ (by decide +kernel)) ggX2_isAbove_X2_isNot
theorem dX2_isAbove_0 : decode cX2_isAbove 0 = .ok (.aload_n 0, 1) := by decide +kernel
theorem dX2_isAbove_1 : decode cX2_isAbove 1 = .ok (.iconst 0, 1) := by decide +kernel
theorem dX2_isAbove_2 : decode cX2_isAbove 2 = .ok (.putfield 53, 3) := by decide +kernel
theorem dX2_isAbove_5 : decode cX2_isAbove 5 = .ok (.aload_n 0, 1) := by decide +kernel
theorem dX2_isAbove_6 : decode cX2_isAbove 6 = .ok (.iload_n 1, 1) := by decide +kernel
theorem dX2_isAbove_7 : decode cX2_isAbove 7 = .ok (.invokevirtual 120, 3) := by decide +kernel
theorem dX2_isAbove_10 : decode cX2_isAbove 10 = .ok (.ifCond .eq 20, 3) := by decide +kernel
theorem dX2_isAbove_13 : decode cX2_isAbove 13 = .ok (.aload_n 0, 1) := by decide +kernel
theorem dX2_isAbove_14 : decode cX2_isAbove 14 = .ok (.iload_n 2, 1) := by decide +kernel
theorem dX2_isAbove_15 : decode cX2_isAbove 15 = .ok (.invokevirtual 120, 3) := by decide +kernel
theorem dX2_isAbove_18 : decode cX2_isAbove 18 = .ok (.ifCond .eq 12, 3) := by decide +kernel
theorem dX2_isAbove_21 : decode cX2_isAbove 21 = .ok (.aload_n 0, 1) := by decide +kernel
theorem dX2_isAbove_22 : decode cX2_isAbove 22 = .ok (.iload_n 1, 1) := by decide +kernel
theorem dX2_isAbove_23 : decode cX2_isAbove 23 = .ok (.iload_n 2, 1) := by decide +kernel
theorem dX2_isAbove_24 : decode cX2_isAbove 24 = .ok (.invokevirtual 67, 3) := by decide +kernel
theorem dX2_isAbove_27 : decode cX2_isAbove 27 = .ok (.goto 8, 3) := by decide +kernel
theorem dX2_isAbove_30 : decode cX2_isAbove 30 = .ok (.aload_n 0, 1) := by decide +kernel
theorem dX2_isAbove_31 : decode cX2_isAbove 31 = .ok (.iconst 1, 1) := by decide +kernel
theorem dX2_isAbove_32 : decode cX2_isAbove 32 = .ok (.invokevirtual 123, 3) := by decide +kernel
theorem dX2_isAbove_35 : decode cX2_isAbove 35 = .ok (.ireturn, 1) := by decide +kernel
set_option maxRecDepth 20000 in
theorem ggX2_placesAbove_X2_isPlace : GoodIn wsX2_placesAbove wsX2_isPlace := goodIn_r _ [6, 7, 8, 9, 5, 10, 24, 25, 26, 27, 28, 29, 30, 31, 32, 33, 34, 35, 36, 37, 38, 39, 40, 41, 42] (by decide +kernel) (by decide +kernel)
set_option maxRecDepth 20000 in
theorem gX2_placesAbove_X2_isPlace : GoodIn wsX2_placesAbove (wsV RX2 120 RX2 yX2_isPlace wsX2_isPlace) := goodIn_app (goodIn_of _ (by decide +kernel)) ggX2_placesAbove_X2_isPlace
set_option maxRecDepth 20000 in
theorem ggX2_placesAbove_X2_aboveOf : GoodIn wsX2_placesAbove wsX2_aboveOf := goodIn_r _ [14, 7, 15, 16, 17, 5, 18, 19, 24, 25, 26, 27, 28, 29, 30, 31, 32, 33, 34, 35, 36, 37, 38, 39, 40, 41, 42] (by decide +kernel) (by decide +kernel)
set_option maxRecDepth 20000 in
theorem gX2_placesAbove_X2_aboveOf : GoodIn wsX2_placesAbove (wsV RX2 71 RX2 yX2_aboveOf wsX2_aboveOf) := goodIn_app (goodIn_of _ (by decide +kernel)) ggX2_placesAbove_X2_aboveOf
set_option maxRecDepth 20000 in
theorem ggX2_placesAbove_X2_no : GoodIn wsX2_placesAbove wsX2_no := goodIn_r _ [23, 1, 24, 25, 26, 27, 28, 29, 30, 31, 32, 33, 34, 35, 36, 37, 38, 39, 40, 41, 42] (by decide +kernel) (by decide +kernel)
set_option maxRecDepth 20000 in
theorem gX2_placesAbove_X2_no : GoodIn wsX2_placesAbove (wsV RX2 113 RX2 yX2_no wsX2_no) := goodIn_app (goodIn_of _ (by decide +kernel)) ggX2_placesAbove_X2_no
theorem dX2_placesAbove_0 : decode cX2_placesAbove 0 = .ok (.aload_n 0, 1) := by decide +kernel
theorem dX2_placesAbove_1 : decode cX2_placesAbove 1 = .ok (.iconst 0, 1) := by decide +kernel
theorem dX2_placesAbove_2 : decode cX2_placesAbove 2 = .ok (.putfield 53, 3) := by decide +kernel
theorem dX2_placesAbove_5 : decode cX2_placesAbove 5 = .ok (.aload_n 0, 1) := by decide +kernel
theorem dX2_placesAbove_6 : decode cX2_placesAbove 6 = .ok (.iload_n 1, 1) := by decide +kernel
theorem dX2_placesAbove_7 : decode cX2_placesAbove 7 = .ok (.invokevirtual 120, 3) := by decide +kernel
theorem dX2_placesAbove_10 : decode cX2_placesAbove 10 = .ok (.ifCond .eq 11, 3) := by decide +kernel
theorem dX2_placesAbove_13 : decode cX2_placesAbove 13 = .ok (.aload_n 0, 1) := by decide +kernel
theorem dX2_placesAbove_14 : decode cX2_placesAbove 14 = .ok (.iload_n 1, 1) := by decide +kernel
theorem dX2_placesAbove_15 : decode cX2_placesAbove 15 = .ok (.invokevirtual 71, 3) := by decide +kernel
theorem dX2_placesAbove_18 : decode cX2_placesAbove 18 = .ok (.goto 8, 3) := by decide +kernel
theorem dX2_placesAbove_21 : decode cX2_placesAbove 21 = .ok (.aload_n 0, 1) := by decide +kernel
theorem dX2_placesAbove_22 : decode cX2_placesAbove 22 = .ok (.iconst 1, 1) := by decide +kernel
theorem dX2_placesAbove_23 : decode cX2_placesAbove 23 = .ok (.invokevirtual 113, 3) := by decide +kernel
theorem dX2_placesAbove_26 : decode cX2_placesAbove 26 = .ok (.ireturn, 1) := by decide +kernel
set_option maxRecDepth 20000 in
theorem ggX2_meeting_X2_isPlace : GoodIn wsX2_meeting wsX2_isPlace := goodIn_r _ [7, 8, 9, 10, 6, 11, 20, 21, 22, 23, 24, 25, 26, 27, 28, 29, 30, 31, 32, 33, 34, 35, 36, 37, 38] (by decide +kernel) (by decide +kernel)
set_option maxRecDepth 20000 in
theorem gX2_meeting_X2_isPlace : GoodIn wsX2_meeting (wsV RX2 120 RX2 yX2_isPlace wsX2_isPlace) := goodIn_app (goodIn_of _ (by decide +kernel)) ggX2_meeting_X2_isPlace
set_option maxRecDepth 20000 in
theorem ggX2_meeting_X2_no : GoodIn wsX2_meeting wsX2_no := goodIn_r _ [15, 1, 20, 21, 22, 23, 24, 25, 26, 27, 28, 29, 30, 31, 32, 33, 34, 35, 36, 37, 38] (by decide +kernel) (by decide +kernel)
set_option maxRecDepth 20000 in
theorem gX2_meeting_X2_no : GoodIn wsX2_meeting (wsV RX2 113 RX2 yX2_no wsX2_no) := goodIn_app (goodIn_of _ (by decide +kernel)) ggX2_meeting_X2_no
set_option maxRecDepth 20000 in
theorem ggX2_meeting_X2_above : GoodIn wsX2_meeting wsX2_above := goodIn_r _ [19, 2, 20, 21, 22, 23, 24, 25, 26, 27, 28, 29, 30, 31, 32, 33, 34, 35, 36, 37, 38] (by decide +kernel) (by decide +kernel)
set_option maxRecDepth 20000 in
theorem gX2_meeting_X2_above : GoodIn wsX2_meeting (wsV RX2 67 RX2 yX2_above wsX2_above) := goodIn_app (goodIn_of _ (by decide +kernel)) ggX2_meeting_X2_above
theorem dX2_meeting_0 : decode cX2_meeting 0 = .ok (.aload_n 0, 1) := by decide +kernel
theorem dX2_meeting_1 : decode cX2_meeting 1 = .ok (.iconst 0, 1) := by decide +kernel
theorem dX2_meeting_2 : decode cX2_meeting 2 = .ok (.putfield 53, 3) := by decide +kernel
theorem dX2_meeting_5 : decode cX2_meeting 5 = .ok (.aload_n 0, 1) := by decide +kernel
theorem dX2_meeting_6 : decode cX2_meeting 6 = .ok (.iload_n 1, 1) := by decide +kernel
theorem dX2_meeting_7 : decode cX2_meeting 7 = .ok (.invokevirtual 120, 3) := by decide +kernel
theorem dX2_meeting_10 : decode cX2_meeting 10 = .ok (.ifCond .eq 11, 3) := by decide +kernel
theorem dX2_meeting_13 : decode cX2_meeting 13 = .ok (.aload_n 0, 1) := by decide +kernel
theorem dX2_meeting_14 : decode cX2_meeting 14 = .ok (.iload_n 2, 1) := by decide +kernel
theorem dX2_meeting_15 : decode cX2_meeting 15 = .ok (.invokevirtual 120, 3) := by decide +kernel
theorem dX2_meeting_18 : decode cX2_meeting 18 = .ok (.ifCond .ne 9, 3) := by decide +kernel
theorem dX2_meeting_21 : decode cX2_meeting 21 = .ok (.aload_n 0, 1) := by decide +kernel
theorem dX2_meeting_22 : decode cX2_meeting 22 = .ok (.iconst 1, 1) := by decide +kernel
theorem dX2_meeting_23 : decode cX2_meeting 23 = .ok (.invokevirtual 113, 3) := by decide +kernel
theorem dX2_meeting_26 : decode cX2_meeting 26 = .ok (.ireturn, 1) := by decide +kernel
theorem dX2_meeting_27 : decode cX2_meeting 27 = .ok (.iload_n 1, 1) := by decide +kernel
theorem dX2_meeting_28 : decode cX2_meeting 28 = .ok (.istore_n 3, 1) := by decide +kernel
theorem dX2_meeting_29 : decode cX2_meeting 29 = .ok (.iload_n 3, 1) := by decide +kernel
theorem dX2_meeting_30 : decode cX2_meeting 30 = .ok (.iconst (-1), 1) := by decide +kernel
theorem dX2_meeting_31 : decode cX2_meeting 31 = .ok (.if_icmp .eq 27, 3) := by decide +kernel
theorem dX2_meeting_34 : decode cX2_meeting 34 = .ok (.iload_n 3, 1) := by decide +kernel
theorem dX2_meeting_35 : decode cX2_meeting 35 = .ok (.iload_n 2, 1) := by decide +kernel
theorem dX2_meeting_36 : decode cX2_meeting 36 = .ok (.if_icmp .eq 22, 3) := by decide +kernel
theorem dX2_meeting_39 : decode cX2_meeting 39 = .ok (.aload_n 0, 1) := by decide +kernel
theorem dX2_meeting_40 : decode cX2_meeting 40 = .ok (.iload_n 2, 1) := by decide +kernel
theorem dX2_meeting_41 : decode cX2_meeting 41 = .ok (.iload_n 3, 1) := by decide +kernel
theorem dX2_meeting_42 : decode cX2_meeting 42 = .ok (.invokevirtual 67, 3) := by decide +kernel
theorem dX2_meeting_45 : decode cX2_meeting 45 = .ok (.ifCond .ne 13, 3) := by decide +kernel
theorem dX2_meeting_48 : decode cX2_meeting 48 = .ok (.aload_n 0, 1) := by decide +kernel
theorem dX2_meeting_49 : decode cX2_meeting 49 = .ok (.getfield 9, 3) := by decide +kernel
theorem dX2_meeting_52 : decode cX2_meeting 52 = .ok (.iload_n 3, 1) := by decide +kernel
theorem dX2_meeting_53 : decode cX2_meeting 53 = .ok (.iaload, 1) := by decide +kernel
theorem dX2_meeting_54 : decode cX2_meeting 54 = .ok (.istore_n 3, 1) := by decide +kernel
theorem dX2_meeting_55 : decode cX2_meeting 55 = .ok (.goto (-26), 3) := by decide +kernel
theorem dX2_meeting_58 : decode cX2_meeting 58 = .ok (.iload_n 3, 1) := by decide +kernel
theorem dX2_meeting_59 : decode cX2_meeting 59 = .ok (.ireturn, 1) := by decide +kernel
set_option maxRecDepth 20000 in
theorem ggX2_nameAt_X2_reckoned : GoodIn wsX2_nameAt wsX2_reckoned := goodIn_r _ [6, 7, 8, 9, 10, 5, 11, 12, 13, 14, 15, 16, 17, 18, 19, 20, 21, 22, 23, 24, 1, 25, 26, 27, 28, 29, 30, 31, 32, 33, 34, 35, 36, 37, 38, 39, 40, 41, 42, 43, 44, 45, 46, 47, 48, 49, 50, 51, 52, 53, 54, 55, 56, 57, 58, 59, 60, 61, 62, 63, 64, 65, 66, 67, 68, 69, 70, 71, 72, 73, 74, 75, 76, 77, 78, 79, 80, 81, 82, 83] (by decide +kernel) (by decide +kernel)
set_option maxRecDepth 20000 in
theorem gX2_nameAt_X2_reckoned : GoodIn wsX2_nameAt (wsV RX2 142 RX2 yX2_reckoned wsX2_reckoned) := goodIn_app (goodIn_of _ (by decide +kernel)) ggX2_nameAt_X2_reckoned
theorem dX2_nameAt_0 : decode cX2_nameAt 0 = .ok (.aload_n 0, 1) := by decide +kernel
theorem dX2_nameAt_1 : decode cX2_nameAt 1 = .ok (.iload_n 1, 1) := by decide +kernel
theorem dX2_nameAt_2 : decode cX2_nameAt 2 = .ok (.aload_n 0, 1) := by decide +kernel
theorem dX2_nameAt_3 : decode cX2_nameAt 3 = .ok (.getfield 44, 3) := by decide +kernel
theorem dX2_nameAt_6 : decode cX2_nameAt 6 = .ok (.invokevirtual 142, 3) := by decide +kernel
theorem dX2_nameAt_9 : decode cX2_nameAt 9 = .ok (.ireturn, 1) := by decide +kernel
set_option maxRecDepth 20000 in
theorem ggX2_arguingAt_X2_springs : GoodIn wsX2_arguingAt wsX2_springs := goodIn_r _ [9, 10, 11, 12, 13, 14, 15, 16, 17, 18, 19, 20, 21, 22, 23, 24, 25, 26, 27, 28, 29, 30] (by decide +kernel) (by decide +kernel)
set_option maxRecDepth 20000 in
theorem gX2_arguingAt_X2_springs : GoodIn wsX2_arguingAt (wsV RX2 84 RX2 yX2_springs wsX2_springs) := goodIn_app (goodIn_of _ (by decide +kernel)) ggX2_arguingAt_X2_springs
theorem dX2_arguingAt_0 : decode cX2_arguingAt 0 = .ok (.aload_n 0, 1) := by decide +kernel
theorem dX2_arguingAt_1 : decode cX2_arguingAt 1 = .ok (.getfield 26, 3) := by decide +kernel
theorem dX2_arguingAt_4 : decode cX2_arguingAt 4 = .ok (.iload_n 1, 1) := by decide +kernel
theorem dX2_arguingAt_5 : decode cX2_arguingAt 5 = .ok (.baload, 1) := by decide +kernel
theorem dX2_arguingAt_6 : decode cX2_arguingAt 6 = .ok (.ifCond .eq 5, 3) := by decide +kernel
theorem dX2_arguingAt_9 : decode cX2_arguingAt 9 = .ok (.iconst 0, 1) := by decide +kernel
theorem dX2_arguingAt_10 : decode cX2_arguingAt 10 = .ok (.ireturn, 1) := by decide +kernel
theorem dX2_arguingAt_11 : decode cX2_arguingAt 11 = .ok (.aload_n 0, 1) := by decide +kernel
theorem dX2_arguingAt_12 : decode cX2_arguingAt 12 = .ok (.iload_n 1, 1) := by decide +kernel
theorem dX2_arguingAt_13 : decode cX2_arguingAt 13 = .ok (.invokevirtual 84, 3) := by decide +kernel
theorem dX2_arguingAt_16 : decode cX2_arguingAt 16 = .ok (.ifCond .eq 7, 3) := by decide +kernel
theorem dX2_arguingAt_19 : decode cX2_arguingAt 19 = .ok (.iconst 1, 1) := by decide +kernel
theorem dX2_arguingAt_20 : decode cX2_arguingAt 20 = .ok (.goto 4, 3) := by decide +kernel
theorem dX2_arguingAt_23 : decode cX2_arguingAt 23 = .ok (.iconst 0, 1) := by decide +kernel
theorem dX2_arguingAt_24 : decode cX2_arguingAt 24 = .ok (.istore_n 2, 1) := by decide +kernel
theorem dX2_arguingAt_25 : decode cX2_arguingAt 25 = .ok (.iconst 0, 1) := by decide +kernel
theorem dX2_arguingAt_26 : decode cX2_arguingAt 26 = .ok (.istore_n 3, 1) := by decide +kernel
theorem dX2_arguingAt_27 : decode cX2_arguingAt 27 = .ok (.iload_n 3, 1) := by decide +kernel
theorem dX2_arguingAt_28 : decode cX2_arguingAt 28 = .ok (.aload_n 0, 1) := by decide +kernel
theorem dX2_arguingAt_29 : decode cX2_arguingAt 29 = .ok (.getfield 57, 3) := by decide +kernel
theorem dX2_arguingAt_32 : decode cX2_arguingAt 32 = .ok (.if_icmp .ge 37, 3) := by decide +kernel
theorem dX2_arguingAt_35 : decode cX2_arguingAt 35 = .ok (.iload_n 2, 1) := by decide +kernel
theorem dX2_arguingAt_36 : decode cX2_arguingAt 36 = .ok (.aload_n 0, 1) := by decide +kernel
theorem dX2_arguingAt_37 : decode cX2_arguingAt 37 = .ok (.getfield 9, 3) := by decide +kernel
theorem dX2_arguingAt_40 : decode cX2_arguingAt 40 = .ok (.iload_n 3, 1) := by decide +kernel
theorem dX2_arguingAt_41 : decode cX2_arguingAt 41 = .ok (.iaload, 1) := by decide +kernel
theorem dX2_arguingAt_42 : decode cX2_arguingAt 42 = .ok (.iload_n 1, 1) := by decide +kernel
theorem dX2_arguingAt_43 : decode cX2_arguingAt 43 = .ok (.if_icmp .ne 17, 3) := by decide +kernel
theorem dX2_arguingAt_46 : decode cX2_arguingAt 46 = .ok (.aload_n 0, 1) := by decide +kernel
theorem dX2_arguingAt_47 : decode cX2_arguingAt 47 = .ok (.getfield 44, 3) := by decide +kernel
theorem dX2_arguingAt_50 : decode cX2_arguingAt 50 = .ok (.iload_n 3, 1) := by decide +kernel
theorem dX2_arguingAt_51 : decode cX2_arguingAt 51 = .ok (.iaload, 1) := by decide +kernel
theorem dX2_arguingAt_52 : decode cX2_arguingAt 52 = .ok (.iconst (-1), 1) := by decide +kernel
theorem dX2_arguingAt_53 : decode cX2_arguingAt 53 = .ok (.if_icmp .eq 7, 3) := by decide +kernel
theorem dX2_arguingAt_56 : decode cX2_arguingAt 56 = .ok (.iconst 1, 1) := by decide +kernel
theorem dX2_arguingAt_57 : decode cX2_arguingAt 57 = .ok (.goto 4, 3) := by decide +kernel
theorem dX2_arguingAt_60 : decode cX2_arguingAt 60 = .ok (.iconst 0, 1) := by decide +kernel
theorem dX2_arguingAt_61 : decode cX2_arguingAt 61 = .ok (.iadd, 1) := by decide +kernel
theorem dX2_arguingAt_62 : decode cX2_arguingAt 62 = .ok (.istore_n 2, 1) := by decide +kernel
theorem dX2_arguingAt_63 : decode cX2_arguingAt 63 = .ok (.iinc 3 1, 3) := by decide +kernel
theorem dX2_arguingAt_66 : decode cX2_arguingAt 66 = .ok (.goto (-39), 3) := by decide +kernel
theorem dX2_arguingAt_69 : decode cX2_arguingAt 69 = .ok (.iload_n 2, 1) := by decide +kernel
theorem dX2_arguingAt_70 : decode cX2_arguingAt 70 = .ok (.ireturn, 1) := by decide +kernel
set_option maxRecDepth 20000 in
theorem ggX2_argued_X2_springs : GoodIn wsX2_argued wsX2_springs := goodIn_r _ [10, 11, 12, 13, 14, 15, 16, 17, 18, 19, 20, 21, 22, 23, 24, 25, 26, 27, 28, 29, 30, 31] (by decide +kernel) (by decide +kernel)
set_option maxRecDepth 20000 in
theorem gX2_argued_X2_springs : GoodIn wsX2_argued (wsV RX2 84 RX2 yX2_springs wsX2_springs) := goodIn_app (goodIn_of _ (by decide +kernel)) ggX2_argued_X2_springs
theorem dX2_argued_0 : decode cX2_argued 0 = .ok (.aload_n 0, 1) := by decide +kernel
theorem dX2_argued_1 : decode cX2_argued 1 = .ok (.getfield 26, 3) := by decide +kernel
theorem dX2_argued_4 : decode cX2_argued 4 = .ok (.iload_n 1, 1) := by decide +kernel
theorem dX2_argued_5 : decode cX2_argued 5 = .ok (.baload, 1) := by decide +kernel
theorem dX2_argued_6 : decode cX2_argued 6 = .ok (.ifCond .eq 5, 3) := by decide +kernel
theorem dX2_argued_9 : decode cX2_argued 9 = .ok (.iconst 0, 1) := by decide +kernel
theorem dX2_argued_10 : decode cX2_argued 10 = .ok (.ireturn, 1) := by decide +kernel
theorem dX2_argued_11 : decode cX2_argued 11 = .ok (.aload_n 0, 1) := by decide +kernel
theorem dX2_argued_12 : decode cX2_argued 12 = .ok (.iload_n 1, 1) := by decide +kernel
theorem dX2_argued_13 : decode cX2_argued 13 = .ok (.invokevirtual 84, 3) := by decide +kernel
theorem dX2_argued_16 : decode cX2_argued 16 = .ok (.ifCond .eq 20, 3) := by decide +kernel
theorem dX2_argued_19 : decode cX2_argued 19 = .ok (.aload_n 0, 1) := by decide +kernel
theorem dX2_argued_20 : decode cX2_argued 20 = .ok (.getfield 17, 3) := by decide +kernel
theorem dX2_argued_23 : decode cX2_argued 23 = .ok (.iload_n 1, 1) := by decide +kernel
theorem dX2_argued_24 : decode cX2_argued 24 = .ok (.iaload, 1) := by decide +kernel
theorem dX2_argued_25 : decode cX2_argued 25 = .ok (.aload_n 0, 1) := by decide +kernel
theorem dX2_argued_26 : decode cX2_argued 26 = .ok (.getfield 44, 3) := by decide +kernel
theorem dX2_argued_29 : decode cX2_argued 29 = .ok (.iload_n 1, 1) := by decide +kernel
theorem dX2_argued_30 : decode cX2_argued 30 = .ok (.iaload, 1) := by decide +kernel
theorem dX2_argued_31 : decode cX2_argued 31 = .ok (.if_icmp .eq 5, 3) := by decide +kernel
theorem dX2_argued_34 : decode cX2_argued 34 = .ok (.iconst 1, 1) := by decide +kernel
theorem dX2_argued_35 : decode cX2_argued 35 = .ok (.ireturn, 1) := by decide +kernel
theorem dX2_argued_36 : decode cX2_argued 36 = .ok (.iconst 0, 1) := by decide +kernel
theorem dX2_argued_37 : decode cX2_argued 37 = .ok (.istore_n 2, 1) := by decide +kernel
theorem dX2_argued_38 : decode cX2_argued 38 = .ok (.iload_n 2, 1) := by decide +kernel
theorem dX2_argued_39 : decode cX2_argued 39 = .ok (.aload_n 0, 1) := by decide +kernel
theorem dX2_argued_40 : decode cX2_argued 40 = .ok (.getfield 57, 3) := by decide +kernel
theorem dX2_argued_43 : decode cX2_argued 43 = .ok (.if_icmp .ge 46, 3) := by decide +kernel
theorem dX2_argued_46 : decode cX2_argued 46 = .ok (.aload_n 0, 1) := by decide +kernel
theorem dX2_argued_47 : decode cX2_argued 47 = .ok (.getfield 9, 3) := by decide +kernel
theorem dX2_argued_50 : decode cX2_argued 50 = .ok (.iload_n 2, 1) := by decide +kernel
theorem dX2_argued_51 : decode cX2_argued 51 = .ok (.iaload, 1) := by decide +kernel
theorem dX2_argued_52 : decode cX2_argued 52 = .ok (.iload_n 1, 1) := by decide +kernel
theorem dX2_argued_53 : decode cX2_argued 53 = .ok (.if_icmp .ne 30, 3) := by decide +kernel
theorem dX2_argued_56 : decode cX2_argued 56 = .ok (.aload_n 0, 1) := by decide +kernel
theorem dX2_argued_57 : decode cX2_argued 57 = .ok (.getfield 44, 3) := by decide +kernel
theorem dX2_argued_60 : decode cX2_argued 60 = .ok (.iload_n 2, 1) := by decide +kernel
theorem dX2_argued_61 : decode cX2_argued 61 = .ok (.iaload, 1) := by decide +kernel
theorem dX2_argued_62 : decode cX2_argued 62 = .ok (.iconst (-1), 1) := by decide +kernel
theorem dX2_argued_63 : decode cX2_argued 63 = .ok (.if_icmp .eq 20, 3) := by decide +kernel
theorem dX2_argued_66 : decode cX2_argued 66 = .ok (.aload_n 0, 1) := by decide +kernel
theorem dX2_argued_67 : decode cX2_argued 67 = .ok (.getfield 44, 3) := by decide +kernel
theorem dX2_argued_70 : decode cX2_argued 70 = .ok (.iload_n 2, 1) := by decide +kernel
theorem dX2_argued_71 : decode cX2_argued 71 = .ok (.iaload, 1) := by decide +kernel
theorem dX2_argued_72 : decode cX2_argued 72 = .ok (.aload_n 0, 1) := by decide +kernel
theorem dX2_argued_73 : decode cX2_argued 73 = .ok (.getfield 44, 3) := by decide +kernel
theorem dX2_argued_76 : decode cX2_argued 76 = .ok (.iload_n 1, 1) := by decide +kernel
theorem dX2_argued_77 : decode cX2_argued 77 = .ok (.iaload, 1) := by decide +kernel
theorem dX2_argued_78 : decode cX2_argued 78 = .ok (.if_icmp .eq 5, 3) := by decide +kernel
theorem dX2_argued_81 : decode cX2_argued 81 = .ok (.iconst 1, 1) := by decide +kernel
theorem dX2_argued_82 : decode cX2_argued 82 = .ok (.ireturn, 1) := by decide +kernel
theorem dX2_argued_83 : decode cX2_argued 83 = .ok (.iinc 2 1, 3) := by decide +kernel
theorem dX2_argued_86 : decode cX2_argued 86 = .ok (.goto (-48), 3) := by decide +kernel
theorem dX2_argued_89 : decode cX2_argued 89 = .ok (.iconst 0, 1) := by decide +kernel
theorem dX2_argued_90 : decode cX2_argued 90 = .ok (.ireturn, 1) := by decide +kernel
set_option maxRecDepth 20000 in
theorem ggX2_arguing_X2_isPlace : GoodIn wsX2_arguing wsX2_isPlace := goodIn_r _ [6, 7, 8, 9, 5, 10, 65, 66, 67, 68, 69, 70, 71, 72, 73, 74, 75, 76, 77, 78, 79, 80, 81, 82, 83] (by decide +kernel) (by decide +kernel)
set_option maxRecDepth 20000 in
theorem gX2_arguing_X2_isPlace : GoodIn wsX2_arguing (wsV RX2 120 RX2 yX2_isPlace wsX2_isPlace) := goodIn_app (goodIn_of _ (by decide +kernel)) ggX2_arguing_X2_isPlace
set_option maxRecDepth 20000 in
theorem ggX2_arguing_X2_no : GoodIn wsX2_arguing wsX2_no := goodIn_r _ [14, 1, 65, 66, 67, 68, 69, 70, 71, 72, 73, 74, 75, 76, 77, 78, 79, 80, 81, 82, 83] (by decide +kernel) (by decide +kernel)
set_option maxRecDepth 20000 in
theorem gX2_arguing_X2_no : GoodIn wsX2_arguing (wsV RX2 113 RX2 yX2_no wsX2_no) := goodIn_app (goodIn_of _ (by decide +kernel)) ggX2_arguing_X2_no
set_option maxRecDepth 20000 in
theorem ggX2_arguing_X2_reckon : GoodIn wsX2_arguing wsX2_reckon := goodIn_r _ [18, 7, 19, 20, 21, 22, 23, 5, 24, 25, 26, 27, 28, 29, 30, 31, 32, 33, 34, 35, 36, 37, 38, 39, 40, 41, 42, 43, 44, 45, 46, 47, 48, 49, 50, 51, 52, 53, 54, 55, 56, 57, 58, 59, 60, 65, 66, 67, 68, 69, 70, 71, 72, 73, 74, 75, 76, 77, 78, 79, 80, 81, 82, 83] (by decide +kernel) (by decide +kernel)
set_option maxRecDepth 20000 in
theorem gX2_arguing_X2_reckon : GoodIn wsX2_arguing (wsV RX2 101 RX2 yX2_reckon wsX2_reckon) := goodIn_app (goodIn_of _ (by decide +kernel)) ggX2_arguing_X2_reckon
set_option maxRecDepth 20000 in
theorem ggX2_arguing_X2_arguingAt : GoodIn wsX2_arguing wsX2_arguingAt := goodIn_r _ [64, 54, 7, 33, 20, 46, 47, 48, 5, 49, 39, 40, 65, 66, 67, 68, 69, 70, 71, 72, 73, 74, 75, 76, 77, 78, 79, 80, 81, 82, 83] (by decide +kernel) (by decide +kernel)
set_option maxRecDepth 20000 in
theorem gX2_arguing_X2_arguingAt : GoodIn wsX2_arguing (wsV RX2 149 RX2 yX2_arguingAt wsX2_arguingAt) := goodIn_app (goodIn_of _ (by decide +kernel)) ggX2_arguing_X2_arguingAt
theorem dX2_arguing_0 : decode cX2_arguing 0 = .ok (.aload_n 0, 1) := by decide +kernel
theorem dX2_arguing_1 : decode cX2_arguing 1 = .ok (.iconst 0, 1) := by decide +kernel
theorem dX2_arguing_2 : decode cX2_arguing 2 = .ok (.putfield 53, 3) := by decide +kernel
theorem dX2_arguing_5 : decode cX2_arguing 5 = .ok (.aload_n 0, 1) := by decide +kernel
theorem dX2_arguing_6 : decode cX2_arguing 6 = .ok (.iload_n 1, 1) := by decide +kernel
theorem dX2_arguing_7 : decode cX2_arguing 7 = .ok (.invokevirtual 120, 3) := by decide +kernel
theorem dX2_arguing_10 : decode cX2_arguing 10 = .ok (.ifCond .ne 9, 3) := by decide +kernel
theorem dX2_arguing_13 : decode cX2_arguing 13 = .ok (.aload_n 0, 1) := by decide +kernel
theorem dX2_arguing_14 : decode cX2_arguing 14 = .ok (.iconst 1, 1) := by decide +kernel
theorem dX2_arguing_15 : decode cX2_arguing 15 = .ok (.invokevirtual 113, 3) := by decide +kernel
theorem dX2_arguing_18 : decode cX2_arguing 18 = .ok (.ireturn, 1) := by decide +kernel
theorem dX2_arguing_19 : decode cX2_arguing 19 = .ok (.aload_n 0, 1) := by decide +kernel
theorem dX2_arguing_20 : decode cX2_arguing 20 = .ok (.invokevirtual 101, 3) := by decide +kernel
theorem dX2_arguing_23 : decode cX2_arguing 23 = .ok (.aload_n 0, 1) := by decide +kernel
theorem dX2_arguing_24 : decode cX2_arguing 24 = .ok (.iload_n 1, 1) := by decide +kernel
theorem dX2_arguing_25 : decode cX2_arguing 25 = .ok (.invokevirtual 149, 3) := by decide +kernel
theorem dX2_arguing_28 : decode cX2_arguing 28 = .ok (.ireturn, 1) := by decide +kernel
set_option maxRecDepth 20000 in
theorem ggX2_isArgued_X2_isPlace : GoodIn wsX2_isArgued wsX2_isPlace := goodIn_r _ [6, 7, 8, 9, 5, 10, 65, 66, 67, 68, 69, 70, 71, 72, 73, 74, 75, 76, 77, 78, 79, 80, 81, 82, 83] (by decide +kernel) (by decide +kernel)
set_option maxRecDepth 20000 in
theorem gX2_isArgued_X2_isPlace : GoodIn wsX2_isArgued (wsV RX2 120 RX2 yX2_isPlace wsX2_isPlace) := goodIn_app (goodIn_of _ (by decide +kernel)) ggX2_isArgued_X2_isPlace
set_option maxRecDepth 20000 in
theorem ggX2_isArgued_X2_isNot : GoodIn wsX2_isArgued wsX2_isNot := goodIn_r _ [14, 1, 65, 66, 67, 68, 69, 70, 71, 72, 73, 74, 75, 76, 77, 78, 79, 80, 81, 82, 83] (by decide +kernel) (by decide +kernel)
set_option maxRecDepth 20000 in
theorem gX2_isArgued_X2_isNot : GoodIn wsX2_isArgued (wsV RX2 123 RX2 yX2_isNot wsX2_isNot) := goodIn_app (goodIn_of _ (by decide +kernel)) ggX2_isArgued_X2_isNot
set_option maxRecDepth 20000 in
theorem ggX2_isArgued_X2_reckon : GoodIn wsX2_isArgued wsX2_reckon := goodIn_r _ [18, 7, 19, 20, 21, 22, 23, 5, 24, 25, 26, 27, 28, 29, 30, 31, 32, 33, 34, 35, 36, 37, 38, 39, 40, 41, 42, 43, 44, 45, 46, 47, 48, 49, 50, 51, 52, 53, 54, 55, 56, 57, 58, 59, 60, 65, 66, 67, 68, 69, 70, 71, 72, 73, 74, 75, 76, 77, 78, 79, 80, 81, 82, 83] (by decide +kernel) (by decide +kernel)
set_option maxRecDepth 20000 in
theorem gX2_isArgued_X2_reckon : GoodIn wsX2_isArgued (wsV RX2 101 RX2 yX2_reckon wsX2_reckon) := goodIn_app (goodIn_of _ (by decide +kernel)) ggX2_isArgued_X2_reckon
set_option maxRecDepth 20000 in
theorem ggX2_isArgued_X2_argued : GoodIn wsX2_isArgued wsX2_argued := goodIn_r _ [64, 54, 56, 20, 7, 33, 46, 47, 48, 5, 49, 39, 40, 65, 66, 67, 68, 69, 70, 71, 72, 73, 74, 75, 76, 77, 78, 79, 80, 81, 82, 83] (by decide +kernel) (by decide +kernel)
set_option maxRecDepth 20000 in
theorem gX2_isArgued_X2_argued : GoodIn wsX2_isArgued (wsV RX2 152 RX2 yX2_argued wsX2_argued) := goodIn_app (goodIn_of _ (by decide +kernel)) ggX2_isArgued_X2_argued
theorem dX2_isArgued_0 : decode cX2_isArgued 0 = .ok (.aload_n 0, 1) := by decide +kernel
theorem dX2_isArgued_1 : decode cX2_isArgued 1 = .ok (.iconst 0, 1) := by decide +kernel
theorem dX2_isArgued_2 : decode cX2_isArgued 2 = .ok (.putfield 53, 3) := by decide +kernel
theorem dX2_isArgued_5 : decode cX2_isArgued 5 = .ok (.aload_n 0, 1) := by decide +kernel
theorem dX2_isArgued_6 : decode cX2_isArgued 6 = .ok (.iload_n 1, 1) := by decide +kernel
theorem dX2_isArgued_7 : decode cX2_isArgued 7 = .ok (.invokevirtual 120, 3) := by decide +kernel
theorem dX2_isArgued_10 : decode cX2_isArgued 10 = .ok (.ifCond .ne 9, 3) := by decide +kernel
theorem dX2_isArgued_13 : decode cX2_isArgued 13 = .ok (.aload_n 0, 1) := by decide +kernel
theorem dX2_isArgued_14 : decode cX2_isArgued 14 = .ok (.iconst 1, 1) := by decide +kernel
theorem dX2_isArgued_15 : decode cX2_isArgued 15 = .ok (.invokevirtual 123, 3) := by decide +kernel
theorem dX2_isArgued_18 : decode cX2_isArgued 18 = .ok (.ireturn, 1) := by decide +kernel
theorem dX2_isArgued_19 : decode cX2_isArgued 19 = .ok (.aload_n 0, 1) := by decide +kernel
theorem dX2_isArgued_20 : decode cX2_isArgued 20 = .ok (.invokevirtual 101, 3) := by decide +kernel
theorem dX2_isArgued_23 : decode cX2_isArgued 23 = .ok (.aload_n 0, 1) := by decide +kernel
theorem dX2_isArgued_24 : decode cX2_isArgued 24 = .ok (.iload_n 1, 1) := by decide +kernel
theorem dX2_isArgued_25 : decode cX2_isArgued 25 = .ok (.invokevirtual 152, 3) := by decide +kernel
theorem dX2_isArgued_28 : decode cX2_isArgued 28 = .ok (.ireturn, 1) := by decide +kernel
theorem dX2_many_0 : decode cX2_many 0 = .ok (.iconst 0, 1) := by decide +kernel
theorem dX2_many_1 : decode cX2_many 1 = .ok (.istore_n 2, 1) := by decide +kernel
theorem dX2_many_2 : decode cX2_many 2 = .ok (.iconst 0, 1) := by decide +kernel
theorem dX2_many_3 : decode cX2_many 3 = .ok (.istore_n 3, 1) := by decide +kernel
theorem dX2_many_4 : decode cX2_many 4 = .ok (.iload_n 3, 1) := by decide +kernel
theorem dX2_many_5 : decode cX2_many 5 = .ok (.aload_n 0, 1) := by decide +kernel
theorem dX2_many_6 : decode cX2_many 6 = .ok (.getfield 57, 3) := by decide +kernel
theorem dX2_many_9 : decode cX2_many 9 = .ok (.if_icmp .ge 27, 3) := by decide +kernel
theorem dX2_many_12 : decode cX2_many 12 = .ok (.iload_n 2, 1) := by decide +kernel
theorem dX2_many_13 : decode cX2_many 13 = .ok (.aload_n 0, 1) := by decide +kernel
theorem dX2_many_14 : decode cX2_many 14 = .ok (.getfield 44, 3) := by decide +kernel
theorem dX2_many_17 : decode cX2_many 17 = .ok (.iload_n 3, 1) := by decide +kernel
theorem dX2_many_18 : decode cX2_many 18 = .ok (.iaload, 1) := by decide +kernel
theorem dX2_many_19 : decode cX2_many 19 = .ok (.iload_n 1, 1) := by decide +kernel
theorem dX2_many_20 : decode cX2_many 20 = .ok (.if_icmp .ne 7, 3) := by decide +kernel
theorem dX2_many_23 : decode cX2_many 23 = .ok (.iconst 1, 1) := by decide +kernel
theorem dX2_many_24 : decode cX2_many 24 = .ok (.goto 4, 3) := by decide +kernel
theorem dX2_many_27 : decode cX2_many 27 = .ok (.iconst 0, 1) := by decide +kernel
theorem dX2_many_28 : decode cX2_many 28 = .ok (.iadd, 1) := by decide +kernel
theorem dX2_many_29 : decode cX2_many 29 = .ok (.istore_n 2, 1) := by decide +kernel
theorem dX2_many_30 : decode cX2_many 30 = .ok (.iinc 3 1, 3) := by decide +kernel
theorem dX2_many_33 : decode cX2_many 33 = .ok (.goto (-29), 3) := by decide +kernel
theorem dX2_many_36 : decode cX2_many 36 = .ok (.iload_n 2, 1) := by decide +kernel
theorem dX2_many_37 : decode cX2_many 37 = .ok (.ireturn, 1) := by decide +kernel
set_option maxRecDepth 20000 in
theorem ggX2_placesNamed_X2_isIn : GoodIn wsX2_placesNamed wsX2_isIn := goodIn_r _ [5] (by decide +kernel) (by decide +kernel)
set_option maxRecDepth 20000 in
theorem gX2_placesNamed_X2_isIn : GoodIn wsX2_placesNamed (va_wsS RX2 60 yX2_isIn wsX2_isIn) := goodIn_app (goodIn_of _ (by decide +kernel)) ggX2_placesNamed_X2_isIn
set_option maxRecDepth 20000 in
theorem ggX2_placesNamed_X2_no : GoodIn wsX2_placesNamed wsX2_no := goodIn_r _ [9, 1, 61, 62, 63, 64, 65, 66, 67, 68, 69, 70, 71, 72, 73, 74, 75, 76, 77, 78, 79] (by decide +kernel) (by decide +kernel)
set_option maxRecDepth 20000 in
theorem gX2_placesNamed_X2_no : GoodIn wsX2_placesNamed (wsV RX2 113 RX2 yX2_no wsX2_no) := goodIn_app (goodIn_of _ (by decide +kernel)) ggX2_placesNamed_X2_no
set_option maxRecDepth 20000 in
theorem ggX2_placesNamed_X2_reckon : GoodIn wsX2_placesNamed wsX2_reckon := goodIn_r _ [13, 14, 15, 16, 17, 18, 19, 4, 20, 21, 22, 23, 24, 25, 26, 27, 28, 29, 30, 31, 32, 33, 34, 35, 36, 37, 38, 39, 40, 41, 42, 43, 44, 45, 46, 47, 48, 49, 50, 51, 52, 53, 54, 55, 56, 61, 62, 63, 64, 65, 66, 67, 68, 69, 70, 71, 72, 73, 74, 75, 76, 77, 78, 79] (by decide +kernel) (by decide +kernel)
set_option maxRecDepth 20000 in
theorem gX2_placesNamed_X2_reckon : GoodIn wsX2_placesNamed (wsV RX2 101 RX2 yX2_reckon wsX2_reckon) := goodIn_app (goodIn_of _ (by decide +kernel)) ggX2_placesNamed_X2_reckon
set_option maxRecDepth 20000 in
theorem ggX2_placesNamed_X2_many : GoodIn wsX2_placesNamed wsX2_many := goodIn_r _ [60, 14, 16, 61, 62, 63, 64, 65, 66, 67, 68, 69, 70, 71, 72, 73, 74, 75, 76, 77, 78, 79] (by decide +kernel) (by decide +kernel)
set_option maxRecDepth 20000 in
theorem gX2_placesNamed_X2_many : GoodIn wsX2_placesNamed (wsV RX2 155 RX2 yX2_many wsX2_many) := goodIn_app (goodIn_of _ (by decide +kernel)) ggX2_placesNamed_X2_many
theorem dX2_placesNamed_0 : decode cX2_placesNamed 0 = .ok (.aload_n 0, 1) := by decide +kernel
theorem dX2_placesNamed_1 : decode cX2_placesNamed 1 = .ok (.iconst 0, 1) := by decide +kernel
theorem dX2_placesNamed_2 : decode cX2_placesNamed 2 = .ok (.putfield 53, 3) := by decide +kernel
theorem dX2_placesNamed_5 : decode cX2_placesNamed 5 = .ok (.iload_n 1, 1) := by decide +kernel
theorem dX2_placesNamed_6 : decode cX2_placesNamed 6 = .ok (.iconst 0, 1) := by decide +kernel
theorem dX2_placesNamed_7 : decode cX2_placesNamed 7 = .ok (.bipush 9, 2) := by decide +kernel
theorem dX2_placesNamed_9 : decode cX2_placesNamed 9 = .ok (.invokestatic 60, 3) := by decide +kernel
theorem dX2_placesNamed_12 : decode cX2_placesNamed 12 = .ok (.ifCond .ne 9, 3) := by decide +kernel
theorem dX2_placesNamed_15 : decode cX2_placesNamed 15 = .ok (.aload_n 0, 1) := by decide +kernel
theorem dX2_placesNamed_16 : decode cX2_placesNamed 16 = .ok (.iconst 1, 1) := by decide +kernel
theorem dX2_placesNamed_17 : decode cX2_placesNamed 17 = .ok (.invokevirtual 113, 3) := by decide +kernel
theorem dX2_placesNamed_20 : decode cX2_placesNamed 20 = .ok (.ireturn, 1) := by decide +kernel
theorem dX2_placesNamed_21 : decode cX2_placesNamed 21 = .ok (.aload_n 0, 1) := by decide +kernel
theorem dX2_placesNamed_22 : decode cX2_placesNamed 22 = .ok (.invokevirtual 101, 3) := by decide +kernel
theorem dX2_placesNamed_25 : decode cX2_placesNamed 25 = .ok (.aload_n 0, 1) := by decide +kernel
theorem dX2_placesNamed_26 : decode cX2_placesNamed 26 = .ok (.iload_n 1, 1) := by decide +kernel
theorem dX2_placesNamed_27 : decode cX2_placesNamed 27 = .ok (.invokevirtual 155, 3) := by decide +kernel
theorem dX2_placesNamed_30 : decode cX2_placesNamed 30 = .ok (.ireturn, 1) := by decide +kernel
set_option maxRecDepth 20000 in
theorem ggX2_greatest_X2_many : GoodIn wsX2_greatest wsX2_many := goodIn_r _ [5, 6, 7, 8, 9, 10, 11, 12, 13, 14, 15, 16, 17, 18, 19, 20, 21, 22, 23, 24, 25, 26] (by decide +kernel) (by decide +kernel)
set_option maxRecDepth 20000 in
theorem gX2_greatest_X2_many : GoodIn wsX2_greatest (wsV RX2 155 RX2 yX2_many wsX2_many) := goodIn_app (goodIn_of _ (by decide +kernel)) ggX2_greatest_X2_many
theorem dX2_greatest_0 : decode cX2_greatest 0 = .ok (.iconst (-1), 1) := by decide +kernel
theorem dX2_greatest_1 : decode cX2_greatest 1 = .ok (.istore_n 1, 1) := by decide +kernel
theorem dX2_greatest_2 : decode cX2_greatest 2 = .ok (.iconst 0, 1) := by decide +kernel
theorem dX2_greatest_3 : decode cX2_greatest 3 = .ok (.istore_n 2, 1) := by decide +kernel
theorem dX2_greatest_4 : decode cX2_greatest 4 = .ok (.iload_n 2, 1) := by decide +kernel
theorem dX2_greatest_5 : decode cX2_greatest 5 = .ok (.bipush 10, 2) := by decide +kernel
theorem dX2_greatest_7 : decode cX2_greatest 7 = .ok (.if_icmp .ge 37, 3) := by decide +kernel
theorem dX2_greatest_10 : decode cX2_greatest 10 = .ok (.aload_n 0, 1) := by decide +kernel
theorem dX2_greatest_11 : decode cX2_greatest 11 = .ok (.iload_n 2, 1) := by decide +kernel
theorem dX2_greatest_12 : decode cX2_greatest 12 = .ok (.invokevirtual 155, 3) := by decide +kernel
theorem dX2_greatest_15 : decode cX2_greatest 15 = .ok (.ifCond .le 23, 3) := by decide +kernel
theorem dX2_greatest_18 : decode cX2_greatest 18 = .ok (.iload_n 1, 1) := by decide +kernel
theorem dX2_greatest_19 : decode cX2_greatest 19 = .ok (.iconst (-1), 1) := by decide +kernel
theorem dX2_greatest_20 : decode cX2_greatest 20 = .ok (.if_icmp .eq 16, 3) := by decide +kernel
theorem dX2_greatest_23 : decode cX2_greatest 23 = .ok (.aload_n 0, 1) := by decide +kernel
theorem dX2_greatest_24 : decode cX2_greatest 24 = .ok (.iload_n 2, 1) := by decide +kernel
theorem dX2_greatest_25 : decode cX2_greatest 25 = .ok (.invokevirtual 155, 3) := by decide +kernel
theorem dX2_greatest_28 : decode cX2_greatest 28 = .ok (.aload_n 0, 1) := by decide +kernel
theorem dX2_greatest_29 : decode cX2_greatest 29 = .ok (.iload_n 1, 1) := by decide +kernel
theorem dX2_greatest_30 : decode cX2_greatest 30 = .ok (.invokevirtual 155, 3) := by decide +kernel
theorem dX2_greatest_33 : decode cX2_greatest 33 = .ok (.if_icmp .le 5, 3) := by decide +kernel
theorem dX2_greatest_36 : decode cX2_greatest 36 = .ok (.iload_n 2, 1) := by decide +kernel
theorem dX2_greatest_37 : decode cX2_greatest 37 = .ok (.istore_n 1, 1) := by decide +kernel
theorem dX2_greatest_38 : decode cX2_greatest 38 = .ok (.iinc 2 1, 3) := by decide +kernel
theorem dX2_greatest_41 : decode cX2_greatest 41 = .ok (.goto (-37), 3) := by decide +kernel
theorem dX2_greatest_44 : decode cX2_greatest 44 = .ok (.iload_n 1, 1) := by decide +kernel
theorem dX2_greatest_45 : decode cX2_greatest 45 = .ok (.ireturn, 1) := by decide +kernel
set_option maxRecDepth 20000 in
theorem ggX2_greatestName_X2_reckon : GoodIn wsX2_greatestName wsX2_reckon := goodIn_r _ [5, 6, 7, 8, 9, 10, 11, 4, 12, 13, 14, 15, 16, 17, 18, 19, 20, 21, 22, 23, 24, 25, 26, 27, 28, 29, 30, 31, 32, 33, 34, 35, 36, 37, 38, 39, 40, 41, 42, 43, 44, 45, 46, 47, 48, 62, 63, 64, 65, 66, 67, 68, 69, 70, 71, 72, 73, 74, 75, 76, 77, 78, 79, 80] (by decide +kernel) (by decide +kernel)
set_option maxRecDepth 20000 in
theorem gX2_greatestName_X2_reckon : GoodIn wsX2_greatestName (wsV RX2 101 RX2 yX2_reckon wsX2_reckon) := goodIn_app (goodIn_of _ (by decide +kernel)) ggX2_greatestName_X2_reckon
set_option maxRecDepth 20000 in
theorem ggX2_greatestName_X2_greatest : GoodIn wsX2_greatestName wsX2_greatest := goodIn_r _ [52, 53, 54, 55, 4, 56, 6, 8, 62, 63, 64, 65, 66, 67, 68, 69, 70, 71, 72, 73, 74, 75, 76, 77, 78, 79, 80] (by decide +kernel) (by decide +kernel)
set_option maxRecDepth 20000 in
theorem gX2_greatestName_X2_greatest : GoodIn wsX2_greatestName (wsV RX2 158 RX2 yX2_greatest wsX2_greatest) := goodIn_app (goodIn_of _ (by decide +kernel)) ggX2_greatestName_X2_greatest
set_option maxRecDepth 20000 in
theorem ggX2_greatestName_X2_ok : GoodIn wsX2_greatestName wsX2_ok := goodIn_r _ [60, 61, 62, 63, 64, 65, 66, 67, 68, 69, 70, 71, 72, 73, 74, 75, 76, 77, 78, 79, 80] (by decide +kernel) (by decide +kernel)
set_option maxRecDepth 20000 in
theorem gX2_greatestName_X2_ok : GoodIn wsX2_greatestName (wsV RX2 139 RX2 yX2_ok wsX2_ok) := goodIn_app (goodIn_of _ (by decide +kernel)) ggX2_greatestName_X2_ok
theorem dX2_greatestName_0 : decode cX2_greatestName 0 = .ok (.aload_n 0, 1) := by decide +kernel
theorem dX2_greatestName_1 : decode cX2_greatestName 1 = .ok (.invokevirtual 101, 3) := by decide +kernel
theorem dX2_greatestName_4 : decode cX2_greatestName 4 = .ok (.aload_n 0, 1) := by decide +kernel
theorem dX2_greatestName_5 : decode cX2_greatestName 5 = .ok (.aload_n 0, 1) := by decide +kernel
theorem dX2_greatestName_6 : decode cX2_greatestName 6 = .ok (.invokevirtual 158, 3) := by decide +kernel
theorem dX2_greatestName_9 : decode cX2_greatestName 9 = .ok (.invokevirtual 139, 3) := by decide +kernel
theorem dX2_greatestName_12 : decode cX2_greatestName 12 = .ok (.ireturn, 1) := by decide +kernel
set_option maxRecDepth 20000 in
theorem ggX2_nameless_X2_reckon : GoodIn wsX2_nameless wsX2_reckon := goodIn_r _ [5, 6, 7, 8, 9, 10, 11, 4, 12, 13, 14, 15, 16, 17, 18, 19, 20, 21, 22, 23, 24, 25, 26, 27, 28, 29, 30, 31, 32, 33, 34, 35, 36, 37, 38, 39, 40, 41, 42, 43, 44, 45, 46, 47, 48, 58, 59, 60, 61, 62, 63, 64, 65, 66, 67, 68, 69, 70, 71, 72, 73, 74, 75, 76] (by decide +kernel) (by decide +kernel)
set_option maxRecDepth 20000 in
theorem gX2_nameless_X2_reckon : GoodIn wsX2_nameless (wsV RX2 101 RX2 yX2_reckon wsX2_reckon) := goodIn_app (goodIn_of _ (by decide +kernel)) ggX2_nameless_X2_reckon
set_option maxRecDepth 20000 in
theorem ggX2_nameless_X2_many : GoodIn wsX2_nameless wsX2_many := goodIn_r _ [52, 6, 8, 58, 59, 60, 61, 62, 63, 64, 65, 66, 67, 68, 69, 70, 71, 72, 73, 74, 75, 76] (by decide +kernel) (by decide +kernel)
set_option maxRecDepth 20000 in
theorem gX2_nameless_X2_many : GoodIn wsX2_nameless (wsV RX2 155 RX2 yX2_many wsX2_many) := goodIn_app (goodIn_of _ (by decide +kernel)) ggX2_nameless_X2_many
set_option maxRecDepth 20000 in
theorem ggX2_nameless_X2_ok : GoodIn wsX2_nameless wsX2_ok := goodIn_r _ [56, 57, 58, 59, 60, 61, 62, 63, 64, 65, 66, 67, 68, 69, 70, 71, 72, 73, 74, 75, 76] (by decide +kernel) (by decide +kernel)
set_option maxRecDepth 20000 in
theorem gX2_nameless_X2_ok : GoodIn wsX2_nameless (wsV RX2 139 RX2 yX2_ok wsX2_ok) := goodIn_app (goodIn_of _ (by decide +kernel)) ggX2_nameless_X2_ok
theorem dX2_nameless_0 : decode cX2_nameless 0 = .ok (.aload_n 0, 1) := by decide +kernel
theorem dX2_nameless_1 : decode cX2_nameless 1 = .ok (.invokevirtual 101, 3) := by decide +kernel
theorem dX2_nameless_4 : decode cX2_nameless 4 = .ok (.aload_n 0, 1) := by decide +kernel
theorem dX2_nameless_5 : decode cX2_nameless 5 = .ok (.aload_n 0, 1) := by decide +kernel
theorem dX2_nameless_6 : decode cX2_nameless 6 = .ok (.iconst (-1), 1) := by decide +kernel
theorem dX2_nameless_7 : decode cX2_nameless 7 = .ok (.invokevirtual 155, 3) := by decide +kernel
theorem dX2_nameless_10 : decode cX2_nameless 10 = .ok (.invokevirtual 139, 3) := by decide +kernel
theorem dX2_nameless_13 : decode cX2_nameless 13 = .ok (.ireturn, 1) := by decide +kernel
set_option maxRecDepth 20000 in
theorem ggX2_bridges_X2_ok : GoodIn wsX2_bridges wsX2_ok := goodIn_r _ [6, 7, 8, 9, 10, 11, 12, 13, 14, 15, 16, 17, 18, 19, 20, 21, 22, 23, 24, 25, 26] (by decide +kernel) (by decide +kernel)
set_option maxRecDepth 20000 in
theorem gX2_bridges_X2_ok : GoodIn wsX2_bridges (wsV RX2 139 RX2 yX2_ok wsX2_ok) := goodIn_app (goodIn_of _ (by decide +kernel)) ggX2_bridges_X2_ok
theorem dX2_bridges_0 : decode cX2_bridges 0 = .ok (.aload_n 0, 1) := by decide +kernel
theorem dX2_bridges_1 : decode cX2_bridges 1 = .ok (.aload_n 0, 1) := by decide +kernel
theorem dX2_bridges_2 : decode cX2_bridges 2 = .ok (.getfield 64, 3) := by decide +kernel
theorem dX2_bridges_5 : decode cX2_bridges 5 = .ok (.invokevirtual 139, 3) := by decide +kernel
theorem dX2_bridges_8 : decode cX2_bridges 8 = .ok (.ireturn, 1) := by decide +kernel
set_option maxRecDepth 20000 in
theorem ggX2_placeOf_X2_isBridge : GoodIn wsX2_placeOf wsX2_isBridge := goodIn_r _ [7, 8, 9, 10, 6, 11, 16, 17, 18, 19, 20, 21, 22, 23, 24, 25, 26, 27, 28, 29, 30, 31, 32, 33, 34] (by decide +kernel) (by decide +kernel)
set_option maxRecDepth 20000 in
theorem gX2_placeOf_X2_isBridge : GoodIn wsX2_placeOf (wsV RX2 161 RX2 yX2_isBridge wsX2_isBridge) := goodIn_app (goodIn_of _ (by decide +kernel)) ggX2_placeOf_X2_isBridge
set_option maxRecDepth 20000 in
theorem ggX2_placeOf_X2_no : GoodIn wsX2_placeOf wsX2_no := goodIn_r _ [15, 1, 16, 17, 18, 19, 20, 21, 22, 23, 24, 25, 26, 27, 28, 29, 30, 31, 32, 33, 34] (by decide +kernel) (by decide +kernel)
set_option maxRecDepth 20000 in
theorem gX2_placeOf_X2_no : GoodIn wsX2_placeOf (wsV RX2 113 RX2 yX2_no wsX2_no) := goodIn_app (goodIn_of _ (by decide +kernel)) ggX2_placeOf_X2_no
theorem dX2_placeOf_0 : decode cX2_placeOf 0 = .ok (.aload_n 0, 1) := by decide +kernel
theorem dX2_placeOf_1 : decode cX2_placeOf 1 = .ok (.iconst 0, 1) := by decide +kernel
theorem dX2_placeOf_2 : decode cX2_placeOf 2 = .ok (.putfield 53, 3) := by decide +kernel
theorem dX2_placeOf_5 : decode cX2_placeOf 5 = .ok (.aload_n 0, 1) := by decide +kernel
theorem dX2_placeOf_6 : decode cX2_placeOf 6 = .ok (.iload_n 1, 1) := by decide +kernel
theorem dX2_placeOf_7 : decode cX2_placeOf 7 = .ok (.invokevirtual 161, 3) := by decide +kernel
theorem dX2_placeOf_10 : decode cX2_placeOf 10 = .ok (.ifCond .eq 12, 3) := by decide +kernel
theorem dX2_placeOf_13 : decode cX2_placeOf 13 = .ok (.aload_n 0, 1) := by decide +kernel
theorem dX2_placeOf_14 : decode cX2_placeOf 14 = .ok (.getfield 29, 3) := by decide +kernel
theorem dX2_placeOf_17 : decode cX2_placeOf 17 = .ok (.iload_n 1, 1) := by decide +kernel
theorem dX2_placeOf_18 : decode cX2_placeOf 18 = .ok (.iaload, 1) := by decide +kernel
theorem dX2_placeOf_19 : decode cX2_placeOf 19 = .ok (.goto 8, 3) := by decide +kernel
theorem dX2_placeOf_22 : decode cX2_placeOf 22 = .ok (.aload_n 0, 1) := by decide +kernel
theorem dX2_placeOf_23 : decode cX2_placeOf 23 = .ok (.iconst 1, 1) := by decide +kernel
theorem dX2_placeOf_24 : decode cX2_placeOf 24 = .ok (.invokevirtual 113, 3) := by decide +kernel
theorem dX2_placeOf_27 : decode cX2_placeOf 27 = .ok (.ireturn, 1) := by decide +kernel
set_option maxRecDepth 20000 in
theorem ggX2_keeps_X2_isBridge : GoodIn wsX2_keeps wsX2_isBridge := goodIn_r _ [7, 8, 9, 10, 6, 11, 16, 17, 18, 19, 20, 21, 22, 23, 24, 25, 26, 27, 28, 29, 30, 31, 32, 33, 34] (by decide +kernel) (by decide +kernel)
set_option maxRecDepth 20000 in
theorem gX2_keeps_X2_isBridge : GoodIn wsX2_keeps (wsV RX2 161 RX2 yX2_isBridge wsX2_isBridge) := goodIn_app (goodIn_of _ (by decide +kernel)) ggX2_keeps_X2_isBridge
set_option maxRecDepth 20000 in
theorem ggX2_keeps_X2_no : GoodIn wsX2_keeps wsX2_no := goodIn_r _ [15, 1, 16, 17, 18, 19, 20, 21, 22, 23, 24, 25, 26, 27, 28, 29, 30, 31, 32, 33, 34] (by decide +kernel) (by decide +kernel)
set_option maxRecDepth 20000 in
theorem gX2_keeps_X2_no : GoodIn wsX2_keeps (wsV RX2 113 RX2 yX2_no wsX2_no) := goodIn_app (goodIn_of _ (by decide +kernel)) ggX2_keeps_X2_no
theorem dX2_keeps_0 : decode cX2_keeps 0 = .ok (.aload_n 0, 1) := by decide +kernel
theorem dX2_keeps_1 : decode cX2_keeps 1 = .ok (.iconst 0, 1) := by decide +kernel
theorem dX2_keeps_2 : decode cX2_keeps 2 = .ok (.putfield 53, 3) := by decide +kernel
theorem dX2_keeps_5 : decode cX2_keeps 5 = .ok (.aload_n 0, 1) := by decide +kernel
theorem dX2_keeps_6 : decode cX2_keeps 6 = .ok (.iload_n 1, 1) := by decide +kernel
theorem dX2_keeps_7 : decode cX2_keeps 7 = .ok (.invokevirtual 161, 3) := by decide +kernel
theorem dX2_keeps_10 : decode cX2_keeps 10 = .ok (.ifCond .eq 12, 3) := by decide +kernel
theorem dX2_keeps_13 : decode cX2_keeps 13 = .ok (.aload_n 0, 1) := by decide +kernel
theorem dX2_keeps_14 : decode cX2_keeps 14 = .ok (.getfield 32, 3) := by decide +kernel
theorem dX2_keeps_17 : decode cX2_keeps 17 = .ok (.iload_n 1, 1) := by decide +kernel
theorem dX2_keeps_18 : decode cX2_keeps 18 = .ok (.iaload, 1) := by decide +kernel
theorem dX2_keeps_19 : decode cX2_keeps 19 = .ok (.goto 8, 3) := by decide +kernel
theorem dX2_keeps_22 : decode cX2_keeps 22 = .ok (.aload_n 0, 1) := by decide +kernel
theorem dX2_keeps_23 : decode cX2_keeps 23 = .ok (.iconst 1, 1) := by decide +kernel
theorem dX2_keeps_24 : decode cX2_keeps 24 = .ok (.invokevirtual 113, 3) := by decide +kernel
theorem dX2_keeps_27 : decode cX2_keeps 27 = .ok (.ireturn, 1) := by decide +kernel
set_option maxRecDepth 20000 in
theorem ggX2_isInsulted_X2_isBridge : GoodIn wsX2_isInsulted wsX2_isBridge := goodIn_r _ [6, 7, 8, 9, 5, 10, 68, 69, 70, 71, 72, 73, 74, 75, 76, 77, 78, 79, 80, 81, 82, 83, 84, 85, 86] (by decide +kernel) (by decide +kernel)
set_option maxRecDepth 20000 in
theorem gX2_isInsulted_X2_isBridge : GoodIn wsX2_isInsulted (wsV RX2 161 RX2 yX2_isBridge wsX2_isBridge) := goodIn_app (goodIn_of _ (by decide +kernel)) ggX2_isInsulted_X2_isBridge
set_option maxRecDepth 20000 in
theorem ggX2_isInsulted_X2_isNot : GoodIn wsX2_isInsulted wsX2_isNot := goodIn_r _ [14, 1, 68, 69, 70, 71, 72, 73, 74, 75, 76, 77, 78, 79, 80, 81, 82, 83, 84, 85, 86] (by decide +kernel) (by decide +kernel)
set_option maxRecDepth 20000 in
theorem gX2_isInsulted_X2_isNot : GoodIn wsX2_isInsulted (wsV RX2 123 RX2 yX2_isNot wsX2_isNot) := goodIn_app (goodIn_of _ (by decide +kernel)) ggX2_isInsulted_X2_isNot
set_option maxRecDepth 20000 in
theorem ggX2_isInsulted_X2_reckon : GoodIn wsX2_isInsulted wsX2_reckon := goodIn_r _ [18, 19, 20, 21, 22, 23, 24, 5, 25, 26, 27, 28, 29, 30, 31, 32, 33, 34, 35, 36, 37, 38, 39, 40, 41, 42, 43, 44, 45, 46, 47, 48, 49, 50, 51, 52, 53, 54, 55, 56, 57, 58, 59, 60, 61, 68, 69, 70, 71, 72, 73, 74, 75, 76, 77, 78, 79, 80, 81, 82, 83, 84, 85, 86] (by decide +kernel) (by decide +kernel)
set_option maxRecDepth 20000 in
theorem gX2_isInsulted_X2_reckon : GoodIn wsX2_isInsulted (wsV RX2 101 RX2 yX2_reckon wsX2_reckon) := goodIn_app (goodIn_of _ (by decide +kernel)) ggX2_isInsulted_X2_reckon
set_option maxRecDepth 20000 in
theorem ggX2_isInsulted_X2_insulted : GoodIn wsX2_isInsulted wsX2_insulted := goodIn_r _ [65, 66, 21, 67, 68, 69, 70, 71, 72, 73, 74, 75, 76, 77, 78, 79, 80, 81, 82, 83, 84, 85, 86] (by decide +kernel) (by decide +kernel)
set_option maxRecDepth 20000 in
theorem gX2_isInsulted_X2_insulted : GoodIn wsX2_isInsulted (wsV RX2 126 RX2 yX2_insulted wsX2_insulted) := goodIn_app (goodIn_of _ (by decide +kernel)) ggX2_isInsulted_X2_insulted
theorem dX2_isInsulted_0 : decode cX2_isInsulted 0 = .ok (.aload_n 0, 1) := by decide +kernel
theorem dX2_isInsulted_1 : decode cX2_isInsulted 1 = .ok (.iconst 0, 1) := by decide +kernel
theorem dX2_isInsulted_2 : decode cX2_isInsulted 2 = .ok (.putfield 53, 3) := by decide +kernel
theorem dX2_isInsulted_5 : decode cX2_isInsulted 5 = .ok (.aload_n 0, 1) := by decide +kernel
theorem dX2_isInsulted_6 : decode cX2_isInsulted 6 = .ok (.iload_n 1, 1) := by decide +kernel
theorem dX2_isInsulted_7 : decode cX2_isInsulted 7 = .ok (.invokevirtual 161, 3) := by decide +kernel
theorem dX2_isInsulted_10 : decode cX2_isInsulted 10 = .ok (.ifCond .ne 9, 3) := by decide +kernel
theorem dX2_isInsulted_13 : decode cX2_isInsulted 13 = .ok (.aload_n 0, 1) := by decide +kernel
theorem dX2_isInsulted_14 : decode cX2_isInsulted 14 = .ok (.iconst 1, 1) := by decide +kernel
theorem dX2_isInsulted_15 : decode cX2_isInsulted 15 = .ok (.invokevirtual 123, 3) := by decide +kernel
theorem dX2_isInsulted_18 : decode cX2_isInsulted 18 = .ok (.ireturn, 1) := by decide +kernel
theorem dX2_isInsulted_19 : decode cX2_isInsulted 19 = .ok (.aload_n 0, 1) := by decide +kernel
theorem dX2_isInsulted_20 : decode cX2_isInsulted 20 = .ok (.invokevirtual 101, 3) := by decide +kernel
theorem dX2_isInsulted_23 : decode cX2_isInsulted 23 = .ok (.aload_n 0, 1) := by decide +kernel
theorem dX2_isInsulted_24 : decode cX2_isInsulted 24 = .ok (.iload_n 1, 1) := by decide +kernel
theorem dX2_isInsulted_25 : decode cX2_isInsulted 25 = .ok (.invokevirtual 126, 3) := by decide +kernel
theorem dX2_isInsulted_28 : decode cX2_isInsulted 28 = .ok (.ireturn, 1) := by decide +kernel
set_option maxRecDepth 20000 in
theorem ggX2_insults_X2_allInsults : GoodIn wsX2_insults wsX2_allInsults := goodIn_r _ [5, 6, 7, 8, 9, 4, 10, 11, 12, 13, 14, 15, 16, 17, 18, 19, 20, 21, 22, 23, 24, 25, 26, 27, 28, 29, 30, 31, 32, 33, 34, 35, 36, 37, 38, 39, 40, 41, 42, 43, 44, 45, 46, 47, 48, 49, 50, 51, 52, 53, 54, 55, 56, 57, 58, 59, 65, 66, 67, 68, 69, 70, 71, 72, 73, 74, 75, 76, 77, 78, 79, 80, 81, 82, 83] (by decide +kernel) (by decide +kernel)
set_option maxRecDepth 20000 in
theorem gX2_insults_X2_allInsults : GoodIn wsX2_insults (wsV RX2 135 RX2 yX2_allInsults wsX2_allInsults) := goodIn_app (goodIn_of _ (by decide +kernel)) ggX2_insults_X2_allInsults
set_option maxRecDepth 20000 in
theorem ggX2_insults_X2_ok : GoodIn wsX2_insults wsX2_ok := goodIn_r _ [63, 64, 65, 66, 67, 68, 69, 70, 71, 72, 73, 74, 75, 76, 77, 78, 79, 80, 81, 82, 83] (by decide +kernel) (by decide +kernel)
set_option maxRecDepth 20000 in
theorem gX2_insults_X2_ok : GoodIn wsX2_insults (wsV RX2 139 RX2 yX2_ok wsX2_ok) := goodIn_app (goodIn_of _ (by decide +kernel)) ggX2_insults_X2_ok
theorem dX2_insults_0 : decode cX2_insults 0 = .ok (.aload_n 0, 1) := by decide +kernel
theorem dX2_insults_1 : decode cX2_insults 1 = .ok (.aload_n 0, 1) := by decide +kernel
theorem dX2_insults_2 : decode cX2_insults 2 = .ok (.invokevirtual 135, 3) := by decide +kernel
theorem dX2_insults_5 : decode cX2_insults 5 = .ok (.invokevirtual 139, 3) := by decide +kernel
theorem dX2_insults_8 : decode cX2_insults 8 = .ok (.ireturn, 1) := by decide +kernel
set_option maxRecDepth 20000 in
theorem ggX2_insultsAt_X2_isPlace : GoodIn wsX2_insultsAt wsX2_isPlace := goodIn_r _ [8, 9, 10, 11, 7, 12, 68, 69, 70, 71, 72, 73, 74, 75, 76, 77, 78, 79, 80, 81, 82, 83, 84, 85, 86] (by decide +kernel) (by decide +kernel)
set_option maxRecDepth 20000 in
theorem gX2_insultsAt_X2_isPlace : GoodIn wsX2_insultsAt (wsV RX2 120 RX2 yX2_isPlace wsX2_isPlace) := goodIn_app (goodIn_of _ (by decide +kernel)) ggX2_insultsAt_X2_isPlace
set_option maxRecDepth 20000 in
theorem ggX2_insultsAt_X2_no : GoodIn wsX2_insultsAt wsX2_no := goodIn_r _ [16, 1, 68, 69, 70, 71, 72, 73, 74, 75, 76, 77, 78, 79, 80, 81, 82, 83, 84, 85, 86] (by decide +kernel) (by decide +kernel)
set_option maxRecDepth 20000 in
theorem gX2_insultsAt_X2_no : GoodIn wsX2_insultsAt (wsV RX2 113 RX2 yX2_no wsX2_no) := goodIn_app (goodIn_of _ (by decide +kernel)) ggX2_insultsAt_X2_no
set_option maxRecDepth 20000 in
theorem ggX2_insultsAt_X2_reckon : GoodIn wsX2_insultsAt wsX2_reckon := goodIn_r _ [20, 9, 21, 22, 23, 24, 25, 7, 26, 27, 28, 29, 30, 31, 32, 33, 34, 35, 36, 37, 38, 39, 40, 41, 42, 43, 44, 45, 46, 47, 48, 49, 50, 51, 52, 53, 54, 55, 56, 57, 58, 59, 60, 61, 62, 68, 69, 70, 71, 72, 73, 74, 75, 76, 77, 78, 79, 80, 81, 82, 83, 84, 85, 86] (by decide +kernel) (by decide +kernel)
set_option maxRecDepth 20000 in
theorem gX2_insultsAt_X2_reckon : GoodIn wsX2_insultsAt (wsV RX2 101 RX2 yX2_reckon wsX2_reckon) := goodIn_app (goodIn_of _ (by decide +kernel)) ggX2_insultsAt_X2_reckon
set_option maxRecDepth 20000 in
theorem ggX2_insultsAt_X2_insulted : GoodIn wsX2_insultsAt wsX2_insulted := goodIn_r _ [66, 67, 22, 3, 68, 69, 70, 71, 72, 73, 74, 75, 76, 77, 78, 79, 80, 81, 82, 83, 84, 85, 86] (by decide +kernel) (by decide +kernel)
set_option maxRecDepth 20000 in
theorem gX2_insultsAt_X2_insulted : GoodIn wsX2_insultsAt (wsV RX2 126 RX2 yX2_insulted wsX2_insulted) := goodIn_app (goodIn_of _ (by decide +kernel)) ggX2_insultsAt_X2_insulted
theorem dX2_insultsAt_0 : decode cX2_insultsAt 0 = .ok (.aload_n 0, 1) := by decide +kernel
theorem dX2_insultsAt_1 : decode cX2_insultsAt 1 = .ok (.iconst 0, 1) := by decide +kernel
theorem dX2_insultsAt_2 : decode cX2_insultsAt 2 = .ok (.putfield 53, 3) := by decide +kernel
theorem dX2_insultsAt_5 : decode cX2_insultsAt 5 = .ok (.aload_n 0, 1) := by decide +kernel
theorem dX2_insultsAt_6 : decode cX2_insultsAt 6 = .ok (.iload_n 1, 1) := by decide +kernel
theorem dX2_insultsAt_7 : decode cX2_insultsAt 7 = .ok (.invokevirtual 120, 3) := by decide +kernel
theorem dX2_insultsAt_10 : decode cX2_insultsAt 10 = .ok (.ifCond .ne 9, 3) := by decide +kernel
theorem dX2_insultsAt_13 : decode cX2_insultsAt 13 = .ok (.aload_n 0, 1) := by decide +kernel
theorem dX2_insultsAt_14 : decode cX2_insultsAt 14 = .ok (.iconst 1, 1) := by decide +kernel
theorem dX2_insultsAt_15 : decode cX2_insultsAt 15 = .ok (.invokevirtual 113, 3) := by decide +kernel
theorem dX2_insultsAt_18 : decode cX2_insultsAt 18 = .ok (.ireturn, 1) := by decide +kernel
theorem dX2_insultsAt_19 : decode cX2_insultsAt 19 = .ok (.aload_n 0, 1) := by decide +kernel
theorem dX2_insultsAt_20 : decode cX2_insultsAt 20 = .ok (.invokevirtual 101, 3) := by decide +kernel
theorem dX2_insultsAt_23 : decode cX2_insultsAt 23 = .ok (.iconst 0, 1) := by decide +kernel
theorem dX2_insultsAt_24 : decode cX2_insultsAt 24 = .ok (.istore_n 2, 1) := by decide +kernel
theorem dX2_insultsAt_25 : decode cX2_insultsAt 25 = .ok (.iconst 0, 1) := by decide +kernel
theorem dX2_insultsAt_26 : decode cX2_insultsAt 26 = .ok (.istore_n 3, 1) := by decide +kernel
theorem dX2_insultsAt_27 : decode cX2_insultsAt 27 = .ok (.iload_n 3, 1) := by decide +kernel
theorem dX2_insultsAt_28 : decode cX2_insultsAt 28 = .ok (.aload_n 0, 1) := by decide +kernel
theorem dX2_insultsAt_29 : decode cX2_insultsAt 29 = .ok (.getfield 64, 3) := by decide +kernel
theorem dX2_insultsAt_32 : decode cX2_insultsAt 32 = .ok (.if_icmp .ge 35, 3) := by decide +kernel
theorem dX2_insultsAt_35 : decode cX2_insultsAt 35 = .ok (.iload_n 2, 1) := by decide +kernel
theorem dX2_insultsAt_36 : decode cX2_insultsAt 36 = .ok (.aload_n 0, 1) := by decide +kernel
theorem dX2_insultsAt_37 : decode cX2_insultsAt 37 = .ok (.getfield 29, 3) := by decide +kernel
theorem dX2_insultsAt_40 : decode cX2_insultsAt 40 = .ok (.iload_n 3, 1) := by decide +kernel
theorem dX2_insultsAt_41 : decode cX2_insultsAt 41 = .ok (.iaload, 1) := by decide +kernel
theorem dX2_insultsAt_42 : decode cX2_insultsAt 42 = .ok (.iload_n 1, 1) := by decide +kernel
theorem dX2_insultsAt_43 : decode cX2_insultsAt 43 = .ok (.if_icmp .ne 15, 3) := by decide +kernel
theorem dX2_insultsAt_46 : decode cX2_insultsAt 46 = .ok (.aload_n 0, 1) := by decide +kernel
theorem dX2_insultsAt_47 : decode cX2_insultsAt 47 = .ok (.iload_n 3, 1) := by decide +kernel
theorem dX2_insultsAt_48 : decode cX2_insultsAt 48 = .ok (.invokevirtual 126, 3) := by decide +kernel
theorem dX2_insultsAt_51 : decode cX2_insultsAt 51 = .ok (.ifCond .eq 7, 3) := by decide +kernel
theorem dX2_insultsAt_54 : decode cX2_insultsAt 54 = .ok (.iconst 1, 1) := by decide +kernel
theorem dX2_insultsAt_55 : decode cX2_insultsAt 55 = .ok (.goto 4, 3) := by decide +kernel
theorem dX2_insultsAt_58 : decode cX2_insultsAt 58 = .ok (.iconst 0, 1) := by decide +kernel
theorem dX2_insultsAt_59 : decode cX2_insultsAt 59 = .ok (.iadd, 1) := by decide +kernel
theorem dX2_insultsAt_60 : decode cX2_insultsAt 60 = .ok (.istore_n 2, 1) := by decide +kernel
theorem dX2_insultsAt_61 : decode cX2_insultsAt 61 = .ok (.iinc 3 1, 3) := by decide +kernel
theorem dX2_insultsAt_64 : decode cX2_insultsAt 64 = .ok (.goto (-37), 3) := by decide +kernel
theorem dX2_insultsAt_67 : decode cX2_insultsAt 67 = .ok (.iload_n 2, 1) := by decide +kernel
theorem dX2_insultsAt_68 : decode cX2_insultsAt 68 = .ok (.ireturn, 1) := by decide +kernel
set_option maxRecDepth 20000 in
theorem ggX2_nameIn_X2_isPlace : GoodIn wsX2_nameIn wsX2_isPlace := goodIn_r _ [7, 8, 9, 10, 6, 11, 82, 83, 84, 85, 86, 87, 88, 89, 90, 91, 92, 93, 94, 95, 96, 97, 98, 99, 100] (by decide +kernel) (by decide +kernel)
set_option maxRecDepth 20000 in
theorem gX2_nameIn_X2_isPlace : GoodIn wsX2_nameIn (wsV RX2 120 RX2 yX2_isPlace wsX2_isPlace) := goodIn_app (goodIn_of _ (by decide +kernel)) ggX2_nameIn_X2_isPlace
set_option maxRecDepth 20000 in
theorem ggX2_nameIn_X2_no : GoodIn wsX2_nameIn wsX2_no := goodIn_r _ [15, 1, 82, 83, 84, 85, 86, 87, 88, 89, 90, 91, 92, 93, 94, 95, 96, 97, 98, 99, 100] (by decide +kernel) (by decide +kernel)
set_option maxRecDepth 20000 in
theorem gX2_nameIn_X2_no : GoodIn wsX2_nameIn (wsV RX2 113 RX2 yX2_no wsX2_no) := goodIn_app (goodIn_of _ (by decide +kernel)) ggX2_nameIn_X2_no
set_option maxRecDepth 20000 in
theorem ggX2_nameIn_X2_isIn : GoodIn wsX2_nameIn wsX2_isIn := goodIn_r _ [11] (by decide +kernel) (by decide +kernel)
set_option maxRecDepth 20000 in
theorem gX2_nameIn_X2_isIn : GoodIn wsX2_nameIn (va_wsS RX2 60 yX2_isIn wsX2_isIn) := goodIn_app (goodIn_of _ (by decide +kernel)) ggX2_nameIn_X2_isIn
set_option maxRecDepth 20000 in
theorem ggX2_nameIn_X2_putAway : GoodIn wsX2_nameIn wsX2_putAway := goodIn_r _ [19, 20, 21, 22, 23, 24, 25, 82, 83, 84, 85, 86, 87, 88, 89, 90, 91, 92, 93, 94, 95, 96, 97, 98, 99, 100] (by decide +kernel) (by decide +kernel)
set_option maxRecDepth 20000 in
theorem gX2_nameIn_X2_putAway : GoodIn wsX2_nameIn (wsV RX2 164 RX2 yX2_putAway wsX2_putAway) := goodIn_app (goodIn_of _ (by decide +kernel)) ggX2_nameIn_X2_putAway
set_option maxRecDepth 20000 in
theorem ggX2_nameIn_X2_swells : GoodIn wsX2_nameIn wsX2_swells := goodIn_r _ [29, 8, 30, 20, 31, 32, 33, 34, 35, 36, 37, 38, 82, 83, 84, 85, 86, 87, 88, 89, 90, 91, 92, 93, 94, 95, 96, 97, 98, 99, 100] (by decide +kernel) (by decide +kernel)
set_option maxRecDepth 20000 in
theorem gX2_nameIn_X2_swells : GoodIn wsX2_nameIn (wsV RX2 129 RX2 yX2_swells wsX2_swells) := goodIn_app (goodIn_of _ (by decide +kernel)) ggX2_nameIn_X2_swells
set_option maxRecDepth 20000 in
theorem ggX2_nameIn_X2_reckon : GoodIn wsX2_nameIn wsX2_reckon := goodIn_r _ [42, 8, 43, 2, 44, 45, 46, 6, 47, 48, 49, 50, 51, 52, 53, 54, 55, 56, 57, 58, 59, 60, 61, 30, 20, 62, 36, 37, 34, 38, 63, 64, 65, 66, 67, 68, 69, 70, 71, 72, 73, 74, 75, 76, 77, 82, 83, 84, 85, 86, 87, 88, 89, 90, 91, 92, 93, 94, 95, 96, 97, 98, 99, 100] (by decide +kernel) (by decide +kernel)
set_option maxRecDepth 20000 in
theorem gX2_nameIn_X2_reckon : GoodIn wsX2_nameIn (wsV RX2 101 RX2 yX2_reckon wsX2_reckon) := goodIn_app (goodIn_of _ (by decide +kernel)) ggX2_nameIn_X2_reckon
set_option maxRecDepth 20000 in
theorem ggX2_nameIn_X2_bringBack : GoodIn wsX2_nameIn wsX2_bringBack := goodIn_r _ [81, 21, 20, 22, 23, 24, 25, 82, 83, 84, 85, 86, 87, 88, 89, 90, 91, 92, 93, 94, 95, 96, 97, 98, 99, 100] (by decide +kernel) (by decide +kernel)
set_option maxRecDepth 20000 in
theorem gX2_nameIn_X2_bringBack : GoodIn wsX2_nameIn (wsV RX2 167 RX2 yX2_bringBack wsX2_bringBack) := goodIn_app (goodIn_of _ (by decide +kernel)) ggX2_nameIn_X2_bringBack
theorem dX2_nameIn_0 : decode cX2_nameIn 0 = .ok (.aload_n 0, 1) := by decide +kernel
theorem dX2_nameIn_1 : decode cX2_nameIn 1 = .ok (.iconst 0, 1) := by decide +kernel
theorem dX2_nameIn_2 : decode cX2_nameIn 2 = .ok (.putfield 53, 3) := by decide +kernel
theorem dX2_nameIn_5 : decode cX2_nameIn 5 = .ok (.aload_n 0, 1) := by decide +kernel
theorem dX2_nameIn_6 : decode cX2_nameIn 6 = .ok (.iload_n 1, 1) := by decide +kernel
theorem dX2_nameIn_7 : decode cX2_nameIn 7 = .ok (.invokevirtual 120, 3) := by decide +kernel
theorem dX2_nameIn_10 : decode cX2_nameIn 10 = .ok (.ifCond .ne 9, 3) := by decide +kernel
theorem dX2_nameIn_13 : decode cX2_nameIn 13 = .ok (.aload_n 0, 1) := by decide +kernel
theorem dX2_nameIn_14 : decode cX2_nameIn 14 = .ok (.iconst 1, 1) := by decide +kernel
theorem dX2_nameIn_15 : decode cX2_nameIn 15 = .ok (.invokevirtual 113, 3) := by decide +kernel
theorem dX2_nameIn_18 : decode cX2_nameIn 18 = .ok (.ireturn, 1) := by decide +kernel
theorem dX2_nameIn_19 : decode cX2_nameIn 19 = .ok (.iload_n 2, 1) := by decide +kernel
theorem dX2_nameIn_20 : decode cX2_nameIn 20 = .ok (.iconst 1, 1) := by decide +kernel
theorem dX2_nameIn_21 : decode cX2_nameIn 21 = .ok (.bipush 50, 2) := by decide +kernel
theorem dX2_nameIn_23 : decode cX2_nameIn 23 = .ok (.invokestatic 60, 3) := by decide +kernel
theorem dX2_nameIn_26 : decode cX2_nameIn 26 = .ok (.ifCond .ne 9, 3) := by decide +kernel
theorem dX2_nameIn_29 : decode cX2_nameIn 29 = .ok (.aload_n 0, 1) := by decide +kernel
theorem dX2_nameIn_30 : decode cX2_nameIn 30 = .ok (.iconst 2, 1) := by decide +kernel
theorem dX2_nameIn_31 : decode cX2_nameIn 31 = .ok (.invokevirtual 113, 3) := by decide +kernel
theorem dX2_nameIn_34 : decode cX2_nameIn 34 = .ok (.ireturn, 1) := by decide +kernel
theorem dX2_nameIn_35 : decode cX2_nameIn 35 = .ok (.aload_n 0, 1) := by decide +kernel
theorem dX2_nameIn_36 : decode cX2_nameIn 36 = .ok (.invokevirtual 164, 3) := by decide +kernel
theorem dX2_nameIn_39 : decode cX2_nameIn 39 = .ok (.iconst 0, 1) := by decide +kernel
theorem dX2_nameIn_40 : decode cX2_nameIn 40 = .ok (.istore_n 3, 1) := by decide +kernel
theorem dX2_nameIn_41 : decode cX2_nameIn 41 = .ok (.iload_n 3, 1) := by decide +kernel
theorem dX2_nameIn_42 : decode cX2_nameIn 42 = .ok (.iload_n 2, 1) := by decide +kernel
theorem dX2_nameIn_43 : decode cX2_nameIn 43 = .ok (.if_icmp .ge 13, 3) := by decide +kernel
theorem dX2_nameIn_46 : decode cX2_nameIn 46 = .ok (.aload_n 0, 1) := by decide +kernel
theorem dX2_nameIn_47 : decode cX2_nameIn 47 = .ok (.invokevirtual 129, 3) := by decide +kernel
theorem dX2_nameIn_50 : decode cX2_nameIn 50 = .ok (.iinc 3 1, 3) := by decide +kernel
theorem dX2_nameIn_53 : decode cX2_nameIn 53 = .ok (.goto (-12), 3) := by decide +kernel
theorem dX2_nameIn_56 : decode cX2_nameIn 56 = .ok (.aload_n 0, 1) := by decide +kernel
theorem dX2_nameIn_57 : decode cX2_nameIn 57 = .ok (.invokevirtual 101, 3) := by decide +kernel
theorem dX2_nameIn_60 : decode cX2_nameIn 60 = .ok (.aload_n 0, 1) := by decide +kernel
theorem dX2_nameIn_61 : decode cX2_nameIn 61 = .ok (.invokevirtual 167, 3) := by decide +kernel
theorem dX2_nameIn_64 : decode cX2_nameIn 64 = .ok (.aload_n 0, 1) := by decide +kernel
theorem dX2_nameIn_65 : decode cX2_nameIn 65 = .ok (.getfield 44, 3) := by decide +kernel
theorem dX2_nameIn_68 : decode cX2_nameIn 68 = .ok (.iload_n 1, 1) := by decide +kernel
theorem dX2_nameIn_69 : decode cX2_nameIn 69 = .ok (.iaload, 1) := by decide +kernel
theorem dX2_nameIn_70 : decode cX2_nameIn 70 = .ok (.ireturn, 1) := by decide +kernel
set_option maxRecDepth 20000 in
theorem ggX2_until_X2_remember : GoodIn wsX2_until wsX2_remember := goodIn_r _ [7, 1, 2, 8, 9, 10, 11, 12, 13, 14, 6, 15, 16, 17, 18, 19, 20, 21, 22, 23, 24, 25, 26, 27, 28, 29, 30, 31, 32, 33, 34, 35, 36, 37, 38, 39, 40, 41, 42, 43, 44, 45, 46, 47, 48, 49, 50, 51, 52, 53, 54, 55, 56, 57, 75, 76, 77, 78, 79, 80, 81, 82, 83, 84, 85, 86, 87, 88, 89, 90, 91, 92, 93] (by decide +kernel) (by decide +kernel)
set_option maxRecDepth 20000 in
theorem gX2_until_X2_remember : GoodIn wsX2_until (wsV RX2 170 RX2 yX2_remember wsX2_remember) := goodIn_app (goodIn_of _ (by decide +kernel)) ggX2_until_X2_remember
set_option maxRecDepth 20000 in
theorem ggX2_until_X2_putAway : GoodIn wsX2_until wsX2_putAway := goodIn_r _ [61, 37, 62, 8, 9, 10, 11, 75, 76, 77, 78, 79, 80, 81, 82, 83, 84, 85, 86, 87, 88, 89, 90, 91, 92, 93] (by decide +kernel) (by decide +kernel)
set_option maxRecDepth 20000 in
theorem gX2_until_X2_putAway : GoodIn wsX2_until (wsV RX2 164 RX2 yX2_putAway wsX2_putAway) := goodIn_app (goodIn_of _ (by decide +kernel)) ggX2_until_X2_putAway
set_option maxRecDepth 20000 in
theorem ggX2_until_X2_swells : GoodIn wsX2_until wsX2_swells := goodIn_r _ [66, 16, 36, 37, 67, 68, 69, 41, 70, 39, 40, 42, 75, 76, 77, 78, 79, 80, 81, 82, 83, 84, 85, 86, 87, 88, 89, 90, 91, 92, 93] (by decide +kernel) (by decide +kernel)
set_option maxRecDepth 20000 in
theorem gX2_until_X2_swells : GoodIn wsX2_until (wsV RX2 129 RX2 yX2_swells wsX2_swells) := goodIn_app (goodIn_of _ (by decide +kernel)) ggX2_until_X2_swells
set_option maxRecDepth 20000 in
theorem ggX2_until_X2_reckon : GoodIn wsX2_until wsX2_reckon := goodIn_r _ [15, 16, 17, 1, 18, 19, 20, 6, 21, 22, 23, 24, 25, 26, 27, 28, 29, 30, 31, 32, 33, 34, 35, 36, 37, 38, 39, 40, 41, 42, 43, 44, 45, 46, 47, 48, 49, 50, 51, 52, 53, 54, 55, 56, 57, 75, 76, 77, 78, 79, 80, 81, 82, 83, 84, 85, 86, 87, 88, 89, 90, 91, 92, 93] (by decide +kernel) (by decide +kernel)
set_option maxRecDepth 20000 in
theorem gX2_until_X2_reckon : GoodIn wsX2_until (wsV RX2 101 RX2 yX2_reckon wsX2_reckon) := goodIn_app (goodIn_of _ (by decide +kernel)) ggX2_until_X2_reckon
set_option maxRecDepth 20000 in
theorem ggX2_until_X2_bringBack : GoodIn wsX2_until wsX2_bringBack := goodIn_r _ [74, 62, 37, 8, 9, 10, 11, 75, 76, 77, 78, 79, 80, 81, 82, 83, 84, 85, 86, 87, 88, 89, 90, 91, 92, 93] (by decide +kernel) (by decide +kernel)
set_option maxRecDepth 20000 in
theorem gX2_until_X2_bringBack : GoodIn wsX2_until (wsV RX2 167 RX2 yX2_bringBack wsX2_bringBack) := goodIn_app (goodIn_of _ (by decide +kernel)) ggX2_until_X2_bringBack
theorem dX2_until_0 : decode cX2_until 0 = .ok (.aload_n 0, 1) := by decide +kernel
theorem dX2_until_1 : decode cX2_until 1 = .ok (.invokevirtual 170, 3) := by decide +kernel
theorem dX2_until_4 : decode cX2_until 4 = .ok (.aload_n 0, 1) := by decide +kernel
theorem dX2_until_5 : decode cX2_until 5 = .ok (.invokevirtual 164, 3) := by decide +kernel
theorem dX2_until_8 : decode cX2_until 8 = .ok (.iconst (-1), 1) := by decide +kernel
theorem dX2_until_9 : decode cX2_until 9 = .ok (.istore_n 2, 1) := by decide +kernel
theorem dX2_until_10 : decode cX2_until 10 = .ok (.iconst 1, 1) := by decide +kernel
theorem dX2_until_11 : decode cX2_until 11 = .ok (.istore_n 3, 1) := by decide +kernel
theorem dX2_until_12 : decode cX2_until 12 = .ok (.iload_n 3, 1) := by decide +kernel
theorem dX2_until_13 : decode cX2_until 13 = .ok (.bipush 50, 2) := by decide +kernel
theorem dX2_until_15 : decode cX2_until 15 = .ok (.if_icmp .gt 39, 3) := by decide +kernel
theorem dX2_until_18 : decode cX2_until 18 = .ok (.iload_n 2, 1) := by decide +kernel
theorem dX2_until_19 : decode cX2_until 19 = .ok (.iconst (-1), 1) := by decide +kernel
theorem dX2_until_20 : decode cX2_until 20 = .ok (.if_icmp .ne 34, 3) := by decide +kernel
theorem dX2_until_23 : decode cX2_until 23 = .ok (.aload_n 0, 1) := by decide +kernel
theorem dX2_until_24 : decode cX2_until 24 = .ok (.invokevirtual 129, 3) := by decide +kernel
theorem dX2_until_27 : decode cX2_until 27 = .ok (.aload_n 0, 1) := by decide +kernel
theorem dX2_until_28 : decode cX2_until 28 = .ok (.invokevirtual 101, 3) := by decide +kernel
theorem dX2_until_31 : decode cX2_until 31 = .ok (.aload_n 0, 1) := by decide +kernel
theorem dX2_until_32 : decode cX2_until 32 = .ok (.getfield 44, 3) := by decide +kernel
theorem dX2_until_35 : decode cX2_until 35 = .ok (.iload_n 1, 1) := by decide +kernel
theorem dX2_until_36 : decode cX2_until 36 = .ok (.iaload, 1) := by decide +kernel
theorem dX2_until_37 : decode cX2_until 37 = .ok (.aload_n 0, 1) := by decide +kernel
theorem dX2_until_38 : decode cX2_until 38 = .ok (.getfield 47, 3) := by decide +kernel
theorem dX2_until_41 : decode cX2_until 41 = .ok (.iload_n 1, 1) := by decide +kernel
theorem dX2_until_42 : decode cX2_until 42 = .ok (.iaload, 1) := by decide +kernel
theorem dX2_until_43 : decode cX2_until 43 = .ok (.if_icmp .eq 5, 3) := by decide +kernel
theorem dX2_until_46 : decode cX2_until 46 = .ok (.iload_n 3, 1) := by decide +kernel
theorem dX2_until_47 : decode cX2_until 47 = .ok (.istore_n 2, 1) := by decide +kernel
theorem dX2_until_48 : decode cX2_until 48 = .ok (.iinc 3 1, 3) := by decide +kernel
theorem dX2_until_51 : decode cX2_until 51 = .ok (.goto (-39), 3) := by decide +kernel
theorem dX2_until_54 : decode cX2_until 54 = .ok (.aload_n 0, 1) := by decide +kernel
theorem dX2_until_55 : decode cX2_until 55 = .ok (.invokevirtual 167, 3) := by decide +kernel
theorem dX2_until_58 : decode cX2_until 58 = .ok (.iload_n 2, 1) := by decide +kernel
theorem dX2_until_59 : decode cX2_until 59 = .ok (.ireturn, 1) := by decide +kernel
set_option maxRecDepth 20000 in
theorem ggX2_yearsUntilRenamed_X2_isPlace : GoodIn wsX2_yearsUntilRenamed wsX2_isPlace := goodIn_r _ [6, 7, 8, 9, 5, 10, 91, 92, 93, 94, 95, 96, 97, 98, 99, 100, 101, 102, 103, 104, 105, 106, 107, 108, 109] (by decide +kernel) (by decide +kernel)
set_option maxRecDepth 20000 in
theorem gX2_yearsUntilRenamed_X2_isPlace : GoodIn wsX2_yearsUntilRenamed (wsV RX2 120 RX2 yX2_isPlace wsX2_isPlace) := goodIn_app (goodIn_of _ (by decide +kernel)) ggX2_yearsUntilRenamed_X2_isPlace
set_option maxRecDepth 20000 in
theorem ggX2_yearsUntilRenamed_X2_until : GoodIn wsX2_yearsUntilRenamed wsX2_until := goodIn_r _ [14, 15, 16, 17, 18, 19, 5, 20, 21, 22, 23, 24, 25, 26, 27, 28, 7, 29, 30, 31, 32, 33, 34, 35, 36, 37, 38, 39, 40, 41, 42, 43, 44, 45, 46, 47, 48, 49, 50, 51, 52, 53, 54, 55, 56, 57, 58, 59, 60, 61, 62, 63, 64, 65, 66, 67, 68, 69, 70, 71, 72, 73, 74, 75, 76, 77, 78, 79, 80, 81, 82, 83, 84, 85, 86, 91, 92, 93, 94, 95, 96, 97, 98, 99, 100, 101, 102, 103, 104, 105, 106, 107, 108, 109] (by decide +kernel) (by decide +kernel)
set_option maxRecDepth 20000 in
theorem gX2_yearsUntilRenamed_X2_until : GoodIn wsX2_yearsUntilRenamed (wsV RX2 173 RX2 yX2_until wsX2_until) := goodIn_app (goodIn_of _ (by decide +kernel)) ggX2_yearsUntilRenamed_X2_until
set_option maxRecDepth 20000 in
theorem ggX2_yearsUntilRenamed_X2_no : GoodIn wsX2_yearsUntilRenamed wsX2_no := goodIn_r _ [90, 1, 91, 92, 93, 94, 95, 96, 97, 98, 99, 100, 101, 102, 103, 104, 105, 106, 107, 108, 109] (by decide +kernel) (by decide +kernel)
set_option maxRecDepth 20000 in
theorem gX2_yearsUntilRenamed_X2_no : GoodIn wsX2_yearsUntilRenamed (wsV RX2 113 RX2 yX2_no wsX2_no) := goodIn_app (goodIn_of _ (by decide +kernel)) ggX2_yearsUntilRenamed_X2_no
theorem dX2_yearsUntilRenamed_0 : decode cX2_yearsUntilRenamed 0 = .ok (.aload_n 0, 1) := by decide +kernel
theorem dX2_yearsUntilRenamed_1 : decode cX2_yearsUntilRenamed 1 = .ok (.iconst 0, 1) := by decide +kernel
theorem dX2_yearsUntilRenamed_2 : decode cX2_yearsUntilRenamed 2 = .ok (.putfield 53, 3) := by decide +kernel
theorem dX2_yearsUntilRenamed_5 : decode cX2_yearsUntilRenamed 5 = .ok (.aload_n 0, 1) := by decide +kernel
theorem dX2_yearsUntilRenamed_6 : decode cX2_yearsUntilRenamed 6 = .ok (.iload_n 1, 1) := by decide +kernel
theorem dX2_yearsUntilRenamed_7 : decode cX2_yearsUntilRenamed 7 = .ok (.invokevirtual 120, 3) := by decide +kernel
theorem dX2_yearsUntilRenamed_10 : decode cX2_yearsUntilRenamed 10 = .ok (.ifCond .eq 11, 3) := by decide +kernel
theorem dX2_yearsUntilRenamed_13 : decode cX2_yearsUntilRenamed 13 = .ok (.aload_n 0, 1) := by decide +kernel
theorem dX2_yearsUntilRenamed_14 : decode cX2_yearsUntilRenamed 14 = .ok (.iload_n 1, 1) := by decide +kernel
theorem dX2_yearsUntilRenamed_15 : decode cX2_yearsUntilRenamed 15 = .ok (.invokevirtual 173, 3) := by decide +kernel
theorem dX2_yearsUntilRenamed_18 : decode cX2_yearsUntilRenamed 18 = .ok (.goto 8, 3) := by decide +kernel
theorem dX2_yearsUntilRenamed_21 : decode cX2_yearsUntilRenamed 21 = .ok (.aload_n 0, 1) := by decide +kernel
theorem dX2_yearsUntilRenamed_22 : decode cX2_yearsUntilRenamed 22 = .ok (.iconst 1, 1) := by decide +kernel
theorem dX2_yearsUntilRenamed_23 : decode cX2_yearsUntilRenamed 23 = .ok (.invokevirtual 113, 3) := by decide +kernel
theorem dX2_yearsUntilRenamed_26 : decode cX2_yearsUntilRenamed 26 = .ok (.ireturn, 1) := by decide +kernel
set_option maxRecDepth 20000 in
theorem ggX2_weightiest_X2_remember : GoodIn wsX2_weightiest wsX2_remember := goodIn_r _ [7, 8, 9, 10, 11, 12, 13, 14, 15, 16, 6, 17, 1, 18, 19, 20, 21, 22, 23, 24, 25, 26, 27, 28, 29, 30, 31, 32, 33, 34, 35, 36, 37, 2, 38, 39, 40, 41, 42, 43, 44, 45, 46, 47, 48, 49, 50, 51, 52, 53, 54, 55, 56, 57, 62, 63, 64, 65, 66, 67, 68, 69, 70, 71, 72, 73, 74, 75, 76, 77, 78, 79, 80] (by decide +kernel) (by decide +kernel)
set_option maxRecDepth 20000 in
theorem gX2_weightiest_X2_remember : GoodIn wsX2_weightiest (wsV RX2 170 RX2 yX2_remember wsX2_remember) := goodIn_app (goodIn_of _ (by decide +kernel)) ggX2_weightiest_X2_remember
set_option maxRecDepth 20000 in
theorem ggX2_weightiest_X2_springs : GoodIn wsX2_weightiest wsX2_springs := goodIn_r _ [46, 37, 2, 62, 63, 64, 65, 66, 67, 68, 69, 70, 71, 72, 73, 74, 75, 76, 77, 78, 79, 80] (by decide +kernel) (by decide +kernel)
set_option maxRecDepth 20000 in
theorem gX2_weightiest_X2_springs : GoodIn wsX2_weightiest (wsV RX2 84 RX2 yX2_springs wsX2_springs) := goodIn_app (goodIn_of _ (by decide +kernel)) ggX2_weightiest_X2_springs
set_option maxRecDepth 20000 in
theorem ggX2_weightiest_X2_renamed : GoodIn wsX2_weightiest wsX2_renamed := goodIn_r _ [61, 1, 8, 9, 14, 15, 16, 6, 17, 18, 19, 20, 21, 22, 23, 24, 25, 26, 27, 28, 29, 30, 31, 32, 33, 34, 35, 36, 37, 2, 38, 39, 40, 41, 42, 43, 44, 45, 46, 47, 48, 49, 50, 51, 52, 53, 54, 55, 56, 57, 62, 63, 64, 65, 66, 67, 68, 69, 70, 71, 72, 73, 74, 75, 76, 77, 78, 79, 80] (by decide +kernel) (by decide +kernel)
set_option maxRecDepth 20000 in
theorem gX2_weightiest_X2_renamed : GoodIn wsX2_weightiest (wsV RX2 176 RX2 yX2_renamed wsX2_renamed) := goodIn_app (goodIn_of _ (by decide +kernel)) ggX2_weightiest_X2_renamed
theorem dX2_weightiest_0 : decode cX2_weightiest 0 = .ok (.aload_n 0, 1) := by decide +kernel
theorem dX2_weightiest_1 : decode cX2_weightiest 1 = .ok (.invokevirtual 170, 3) := by decide +kernel
theorem dX2_weightiest_4 : decode cX2_weightiest 4 = .ok (.iconst (-1), 1) := by decide +kernel
theorem dX2_weightiest_5 : decode cX2_weightiest 5 = .ok (.istore_n 1, 1) := by decide +kernel
theorem dX2_weightiest_6 : decode cX2_weightiest 6 = .ok (.iconst 0, 1) := by decide +kernel
theorem dX2_weightiest_7 : decode cX2_weightiest 7 = .ok (.istore_n 2, 1) := by decide +kernel
theorem dX2_weightiest_8 : decode cX2_weightiest 8 = .ok (.iconst 0, 1) := by decide +kernel
theorem dX2_weightiest_9 : decode cX2_weightiest 9 = .ok (.istore_n 3, 1) := by decide +kernel
theorem dX2_weightiest_10 : decode cX2_weightiest 10 = .ok (.iload_n 3, 1) := by decide +kernel
theorem dX2_weightiest_11 : decode cX2_weightiest 11 = .ok (.aload_n 0, 1) := by decide +kernel
theorem dX2_weightiest_12 : decode cX2_weightiest 12 = .ok (.getfield 57, 3) := by decide +kernel
theorem dX2_weightiest_15 : decode cX2_weightiest 15 = .ok (.if_icmp .ge 68, 3) := by decide +kernel
theorem dX2_weightiest_18 : decode cX2_weightiest 18 = .ok (.aload_n 0, 1) := by decide +kernel
theorem dX2_weightiest_19 : decode cX2_weightiest 19 = .ok (.iload_n 3, 1) := by decide +kernel
theorem dX2_weightiest_20 : decode cX2_weightiest 20 = .ok (.invokevirtual 84, 3) := by decide +kernel
theorem dX2_weightiest_23 : decode cX2_weightiest 23 = .ok (.ifCond .ne 6, 3) := by decide +kernel
theorem dX2_weightiest_26 : decode cX2_weightiest 26 = .ok (.goto 51, 3) := by decide +kernel
theorem dX2_weightiest_29 : decode cX2_weightiest 29 = .ok (.aload_n 0, 1) := by decide +kernel
theorem dX2_weightiest_30 : decode cX2_weightiest 30 = .ok (.getfield 20, 3) := by decide +kernel
theorem dX2_weightiest_33 : decode cX2_weightiest 33 = .ok (.iload_n 3, 1) := by decide +kernel
theorem dX2_weightiest_34 : decode cX2_weightiest 34 = .ok (.iaload, 1) := by decide +kernel
theorem dX2_weightiest_35 : decode cX2_weightiest 35 = .ok (.istore 4, 2) := by decide +kernel
theorem dX2_weightiest_37 : decode cX2_weightiest 37 = .ok (.aload_n 0, 1) := by decide +kernel
theorem dX2_weightiest_38 : decode cX2_weightiest 38 = .ok (.getfield 20, 3) := by decide +kernel
theorem dX2_weightiest_41 : decode cX2_weightiest 41 = .ok (.iload_n 3, 1) := by decide +kernel
theorem dX2_weightiest_42 : decode cX2_weightiest 42 = .ok (.iconst 0, 1) := by decide +kernel
theorem dX2_weightiest_43 : decode cX2_weightiest 43 = .ok (.iastore, 1) := by decide +kernel
theorem dX2_weightiest_44 : decode cX2_weightiest 44 = .ok (.aload_n 0, 1) := by decide +kernel
theorem dX2_weightiest_45 : decode cX2_weightiest 45 = .ok (.invokevirtual 176, 3) := by decide +kernel
theorem dX2_weightiest_48 : decode cX2_weightiest 48 = .ok (.istore 5, 2) := by decide +kernel
theorem dX2_weightiest_50 : decode cX2_weightiest 50 = .ok (.aload_n 0, 1) := by decide +kernel
theorem dX2_weightiest_51 : decode cX2_weightiest 51 = .ok (.getfield 20, 3) := by decide +kernel
theorem dX2_weightiest_54 : decode cX2_weightiest 54 = .ok (.iload_n 3, 1) := by decide +kernel
theorem dX2_weightiest_55 : decode cX2_weightiest 55 = .ok (.iload 4, 2) := by decide +kernel
theorem dX2_weightiest_57 : decode cX2_weightiest 57 = .ok (.iastore, 1) := by decide +kernel
theorem dX2_weightiest_58 : decode cX2_weightiest 58 = .ok (.iload_n 1, 1) := by decide +kernel
theorem dX2_weightiest_59 : decode cX2_weightiest 59 = .ok (.iconst (-1), 1) := by decide +kernel
theorem dX2_weightiest_60 : decode cX2_weightiest 60 = .ok (.if_icmp .eq 12, 3) := by decide +kernel
theorem dX2_weightiest_63 : decode cX2_weightiest 63 = .ok (.iload 5, 2) := by decide +kernel
theorem dX2_weightiest_65 : decode cX2_weightiest 65 = .ok (.iload_n 2, 1) := by decide +kernel
theorem dX2_weightiest_66 : decode cX2_weightiest 66 = .ok (.if_icmp .gt 6, 3) := by decide +kernel
theorem dX2_weightiest_69 : decode cX2_weightiest 69 = .ok (.goto 8, 3) := by decide +kernel
theorem dX2_weightiest_72 : decode cX2_weightiest 72 = .ok (.iload_n 3, 1) := by decide +kernel
theorem dX2_weightiest_73 : decode cX2_weightiest 73 = .ok (.istore_n 1, 1) := by decide +kernel
theorem dX2_weightiest_74 : decode cX2_weightiest 74 = .ok (.iload 5, 2) := by decide +kernel
theorem dX2_weightiest_76 : decode cX2_weightiest 76 = .ok (.istore_n 2, 1) := by decide +kernel
theorem dX2_weightiest_77 : decode cX2_weightiest 77 = .ok (.iinc 3 1, 3) := by decide +kernel
theorem dX2_weightiest_80 : decode cX2_weightiest 80 = .ok (.goto (-70), 3) := by decide +kernel
theorem dX2_weightiest_83 : decode cX2_weightiest 83 = .ok (.iload_n 1, 1) := by decide +kernel
theorem dX2_weightiest_84 : decode cX2_weightiest 84 = .ok (.ireturn, 1) := by decide +kernel
set_option maxRecDepth 20000 in
theorem ggX2_weightiestSpring_X2_weightiest : GoodIn wsX2_weightiestSpring wsX2_weightiest := goodIn_r _ [5, 6, 7, 8, 9, 10, 4, 11, 12, 13, 14, 15, 16, 17, 18, 19, 20, 21, 22, 23, 24, 25, 26, 27, 28, 29, 30, 31, 32, 33, 34, 35, 36, 37, 38, 39, 40, 41, 42, 43, 44, 45, 46, 47, 48, 49, 50, 51, 52, 53, 54, 55, 56, 57, 58, 59, 60, 61, 62, 63, 64, 65, 71, 72, 73, 74, 75, 76, 77, 78, 79, 80, 81, 82, 83, 84, 85, 86, 87, 88, 89] (by decide +kernel) (by decide +kernel)
set_option maxRecDepth 20000 in
theorem gX2_weightiestSpring_X2_weightiest : GoodIn wsX2_weightiestSpring (wsV RX2 179 RX2 yX2_weightiest wsX2_weightiest) := goodIn_app (goodIn_of _ (by decide +kernel)) ggX2_weightiestSpring_X2_weightiest
set_option maxRecDepth 20000 in
theorem ggX2_weightiestSpring_X2_ok : GoodIn wsX2_weightiestSpring wsX2_ok := goodIn_r _ [69, 70, 71, 72, 73, 74, 75, 76, 77, 78, 79, 80, 81, 82, 83, 84, 85, 86, 87, 88, 89] (by decide +kernel) (by decide +kernel)
set_option maxRecDepth 20000 in
theorem gX2_weightiestSpring_X2_ok : GoodIn wsX2_weightiestSpring (wsV RX2 139 RX2 yX2_ok wsX2_ok) := goodIn_app (goodIn_of _ (by decide +kernel)) ggX2_weightiestSpring_X2_ok
theorem dX2_weightiestSpring_0 : decode cX2_weightiestSpring 0 = .ok (.aload_n 0, 1) := by decide +kernel
theorem dX2_weightiestSpring_1 : decode cX2_weightiestSpring 1 = .ok (.aload_n 0, 1) := by decide +kernel
theorem dX2_weightiestSpring_2 : decode cX2_weightiestSpring 2 = .ok (.invokevirtual 179, 3) := by decide +kernel
theorem dX2_weightiestSpring_5 : decode cX2_weightiestSpring 5 = .ok (.invokevirtual 139, 3) := by decide +kernel
theorem dX2_weightiestSpring_8 : decode cX2_weightiestSpring 8 = .ok (.ireturn, 1) := by decide +kernel
set_option maxRecDepth 20000 in
theorem ggX2_renamedByDelta_X2_isPlace : GoodIn wsX2_renamedByDelta wsX2_isPlace := goodIn_r _ [7, 8, 9, 10, 6, 11, 74, 75, 76, 77, 78, 79, 80, 81, 82, 83, 84, 85, 86, 87, 88, 89, 90, 91, 92] (by decide +kernel) (by decide +kernel)
set_option maxRecDepth 20000 in
theorem gX2_renamedByDelta_X2_isPlace : GoodIn wsX2_renamedByDelta (wsV RX2 120 RX2 yX2_isPlace wsX2_isPlace) := goodIn_app (goodIn_of _ (by decide +kernel)) ggX2_renamedByDelta_X2_isPlace
set_option maxRecDepth 20000 in
theorem ggX2_renamedByDelta_X2_no : GoodIn wsX2_renamedByDelta wsX2_no := goodIn_r _ [15, 1, 74, 75, 76, 77, 78, 79, 80, 81, 82, 83, 84, 85, 86, 87, 88, 89, 90, 91, 92] (by decide +kernel) (by decide +kernel)
set_option maxRecDepth 20000 in
theorem gX2_renamedByDelta_X2_no : GoodIn wsX2_renamedByDelta (wsV RX2 113 RX2 yX2_no wsX2_no) := goodIn_app (goodIn_of _ (by decide +kernel)) ggX2_renamedByDelta_X2_no
set_option maxRecDepth 20000 in
theorem ggX2_renamedByDelta_X2_remember : GoodIn wsX2_renamedByDelta wsX2_remember := goodIn_r _ [19, 20, 21, 22, 23, 24, 25, 26, 27, 28, 6, 29, 8, 30, 31, 32, 33, 34, 35, 36, 37, 38, 39, 40, 41, 42, 43, 44, 45, 46, 47, 48, 49, 50, 51, 52, 53, 54, 55, 56, 57, 58, 59, 60, 61, 62, 63, 2, 64, 65, 66, 67, 68, 69, 74, 75, 76, 77, 78, 79, 80, 81, 82, 83, 84, 85, 86, 87, 88, 89, 90, 91, 92] (by decide +kernel) (by decide +kernel)
set_option maxRecDepth 20000 in
theorem gX2_renamedByDelta_X2_remember : GoodIn wsX2_renamedByDelta (wsV RX2 170 RX2 yX2_remember wsX2_remember) := goodIn_app (goodIn_of _ (by decide +kernel)) ggX2_renamedByDelta_X2_remember
set_option maxRecDepth 20000 in
theorem ggX2_renamedByDelta_X2_renamed : GoodIn wsX2_renamedByDelta wsX2_renamed := goodIn_r _ [73, 8, 20, 21, 26, 27, 28, 6, 29, 30, 31, 32, 33, 34, 35, 36, 37, 38, 39, 40, 41, 42, 43, 44, 45, 46, 47, 48, 49, 50, 51, 52, 53, 54, 55, 56, 57, 58, 59, 60, 61, 62, 63, 2, 64, 65, 66, 67, 68, 69, 74, 75, 76, 77, 78, 79, 80, 81, 82, 83, 84, 85, 86, 87, 88, 89, 90, 91, 92] (by decide +kernel) (by decide +kernel)
set_option maxRecDepth 20000 in
theorem gX2_renamedByDelta_X2_renamed : GoodIn wsX2_renamedByDelta (wsV RX2 176 RX2 yX2_renamed wsX2_renamed) := goodIn_app (goodIn_of _ (by decide +kernel)) ggX2_renamedByDelta_X2_renamed
theorem dX2_renamedByDelta_0 : decode cX2_renamedByDelta 0 = .ok (.aload_n 0, 1) := by decide +kernel
theorem dX2_renamedByDelta_1 : decode cX2_renamedByDelta 1 = .ok (.iconst 0, 1) := by decide +kernel
theorem dX2_renamedByDelta_2 : decode cX2_renamedByDelta 2 = .ok (.putfield 53, 3) := by decide +kernel
theorem dX2_renamedByDelta_5 : decode cX2_renamedByDelta 5 = .ok (.aload_n 0, 1) := by decide +kernel
theorem dX2_renamedByDelta_6 : decode cX2_renamedByDelta 6 = .ok (.iload_n 1, 1) := by decide +kernel
theorem dX2_renamedByDelta_7 : decode cX2_renamedByDelta 7 = .ok (.invokevirtual 120, 3) := by decide +kernel
theorem dX2_renamedByDelta_10 : decode cX2_renamedByDelta 10 = .ok (.ifCond .ne 9, 3) := by decide +kernel
theorem dX2_renamedByDelta_13 : decode cX2_renamedByDelta 13 = .ok (.aload_n 0, 1) := by decide +kernel
theorem dX2_renamedByDelta_14 : decode cX2_renamedByDelta 14 = .ok (.iconst 1, 1) := by decide +kernel
theorem dX2_renamedByDelta_15 : decode cX2_renamedByDelta 15 = .ok (.invokevirtual 113, 3) := by decide +kernel
theorem dX2_renamedByDelta_18 : decode cX2_renamedByDelta 18 = .ok (.ireturn, 1) := by decide +kernel
theorem dX2_renamedByDelta_19 : decode cX2_renamedByDelta 19 = .ok (.aload_n 0, 1) := by decide +kernel
theorem dX2_renamedByDelta_20 : decode cX2_renamedByDelta 20 = .ok (.invokevirtual 170, 3) := by decide +kernel
theorem dX2_renamedByDelta_23 : decode cX2_renamedByDelta 23 = .ok (.aload_n 0, 1) := by decide +kernel
theorem dX2_renamedByDelta_24 : decode cX2_renamedByDelta 24 = .ok (.getfield 26, 3) := by decide +kernel
theorem dX2_renamedByDelta_27 : decode cX2_renamedByDelta 27 = .ok (.iload_n 1, 1) := by decide +kernel
theorem dX2_renamedByDelta_28 : decode cX2_renamedByDelta 28 = .ok (.aload_n 0, 1) := by decide +kernel
theorem dX2_renamedByDelta_29 : decode cX2_renamedByDelta 29 = .ok (.getfield 26, 3) := by decide +kernel
theorem dX2_renamedByDelta_32 : decode cX2_renamedByDelta 32 = .ok (.iload_n 1, 1) := by decide +kernel
theorem dX2_renamedByDelta_33 : decode cX2_renamedByDelta 33 = .ok (.baload, 1) := by decide +kernel
theorem dX2_renamedByDelta_34 : decode cX2_renamedByDelta 34 = .ok (.ifCond .ne 7, 3) := by decide +kernel
theorem dX2_renamedByDelta_37 : decode cX2_renamedByDelta 37 = .ok (.iconst 1, 1) := by decide +kernel
theorem dX2_renamedByDelta_38 : decode cX2_renamedByDelta 38 = .ok (.goto 4, 3) := by decide +kernel
theorem dX2_renamedByDelta_41 : decode cX2_renamedByDelta 41 = .ok (.iconst 0, 1) := by decide +kernel
theorem dX2_renamedByDelta_42 : decode cX2_renamedByDelta 42 = .ok (.bastore, 1) := by decide +kernel
theorem dX2_renamedByDelta_43 : decode cX2_renamedByDelta 43 = .ok (.aload_n 0, 1) := by decide +kernel
theorem dX2_renamedByDelta_44 : decode cX2_renamedByDelta 44 = .ok (.invokevirtual 176, 3) := by decide +kernel
theorem dX2_renamedByDelta_47 : decode cX2_renamedByDelta 47 = .ok (.istore_n 2, 1) := by decide +kernel
theorem dX2_renamedByDelta_48 : decode cX2_renamedByDelta 48 = .ok (.aload_n 0, 1) := by decide +kernel
theorem dX2_renamedByDelta_49 : decode cX2_renamedByDelta 49 = .ok (.getfield 26, 3) := by decide +kernel
theorem dX2_renamedByDelta_52 : decode cX2_renamedByDelta 52 = .ok (.iload_n 1, 1) := by decide +kernel
theorem dX2_renamedByDelta_53 : decode cX2_renamedByDelta 53 = .ok (.aload_n 0, 1) := by decide +kernel
theorem dX2_renamedByDelta_54 : decode cX2_renamedByDelta 54 = .ok (.getfield 26, 3) := by decide +kernel
theorem dX2_renamedByDelta_57 : decode cX2_renamedByDelta 57 = .ok (.iload_n 1, 1) := by decide +kernel
theorem dX2_renamedByDelta_58 : decode cX2_renamedByDelta 58 = .ok (.baload, 1) := by decide +kernel
theorem dX2_renamedByDelta_59 : decode cX2_renamedByDelta 59 = .ok (.ifCond .ne 7, 3) := by decide +kernel
theorem dX2_renamedByDelta_62 : decode cX2_renamedByDelta 62 = .ok (.iconst 1, 1) := by decide +kernel
theorem dX2_renamedByDelta_63 : decode cX2_renamedByDelta 63 = .ok (.goto 4, 3) := by decide +kernel
theorem dX2_renamedByDelta_66 : decode cX2_renamedByDelta 66 = .ok (.iconst 0, 1) := by decide +kernel
theorem dX2_renamedByDelta_67 : decode cX2_renamedByDelta 67 = .ok (.bastore, 1) := by decide +kernel
theorem dX2_renamedByDelta_68 : decode cX2_renamedByDelta 68 = .ok (.iload_n 2, 1) := by decide +kernel
theorem dX2_renamedByDelta_69 : decode cX2_renamedByDelta 69 = .ok (.ireturn, 1) := by decide +kernel
set_option maxRecDepth 20000 in
theorem ggX2_byRule_X2_remember : GoodIn wsX2_byRule wsX2_remember := goodIn_r _ [6, 7, 8, 9, 10, 11, 12, 13, 14, 15, 5, 16, 17, 18, 19, 20, 21, 22, 23, 24, 25, 26, 27, 28, 29, 30, 31, 32, 33, 34, 35, 36, 37, 38, 39, 40, 41, 42, 43, 44, 45, 46, 47, 48, 49, 50, 51, 52, 1, 53, 54, 55, 56, 57, 62, 63, 64, 65, 66, 67, 68, 69, 70, 71, 72, 73, 74, 75, 76, 77, 78, 79, 80] (by decide +kernel) (by decide +kernel)
set_option maxRecDepth 20000 in
theorem gX2_byRule_X2_remember : GoodIn wsX2_byRule (wsV RX2 170 RX2 yX2_remember wsX2_remember) := goodIn_app (goodIn_of _ (by decide +kernel)) ggX2_byRule_X2_remember
set_option maxRecDepth 20000 in
theorem ggX2_byRule_X2_renamed : GoodIn wsX2_byRule wsX2_renamed := goodIn_r _ [61, 17, 7, 8, 13, 14, 15, 5, 16, 18, 19, 20, 21, 22, 23, 24, 25, 26, 27, 28, 29, 30, 31, 32, 33, 34, 35, 36, 37, 38, 39, 40, 41, 42, 43, 44, 45, 46, 47, 48, 49, 50, 51, 52, 1, 53, 54, 55, 56, 57, 62, 63, 64, 65, 66, 67, 68, 69, 70, 71, 72, 73, 74, 75, 76, 77, 78, 79, 80] (by decide +kernel) (by decide +kernel)
set_option maxRecDepth 20000 in
theorem gX2_byRule_X2_renamed : GoodIn wsX2_byRule (wsV RX2 176 RX2 yX2_renamed wsX2_renamed) := goodIn_app (goodIn_of _ (by decide +kernel)) ggX2_byRule_X2_renamed
theorem dX2_byRule_0 : decode cX2_byRule 0 = .ok (.aload_n 0, 1) := by decide +kernel
theorem dX2_byRule_1 : decode cX2_byRule 1 = .ok (.invokevirtual 170, 3) := by decide +kernel
theorem dX2_byRule_4 : decode cX2_byRule 4 = .ok (.aload_n 0, 1) := by decide +kernel
theorem dX2_byRule_5 : decode cX2_byRule 5 = .ok (.iconst 1, 1) := by decide +kernel
theorem dX2_byRule_6 : decode cX2_byRule 6 = .ok (.aload_n 0, 1) := by decide +kernel
theorem dX2_byRule_7 : decode cX2_byRule 7 = .ok (.getfield 75, 3) := by decide +kernel
theorem dX2_byRule_10 : decode cX2_byRule 10 = .ok (.isub, 1) := by decide +kernel
theorem dX2_byRule_11 : decode cX2_byRule 11 = .ok (.putfield 75, 3) := by decide +kernel
theorem dX2_byRule_14 : decode cX2_byRule 14 = .ok (.aload_n 0, 1) := by decide +kernel
theorem dX2_byRule_15 : decode cX2_byRule 15 = .ok (.invokevirtual 176, 3) := by decide +kernel
theorem dX2_byRule_18 : decode cX2_byRule 18 = .ok (.istore_n 1, 1) := by decide +kernel
theorem dX2_byRule_19 : decode cX2_byRule 19 = .ok (.aload_n 0, 1) := by decide +kernel
theorem dX2_byRule_20 : decode cX2_byRule 20 = .ok (.iconst 1, 1) := by decide +kernel
theorem dX2_byRule_21 : decode cX2_byRule 21 = .ok (.aload_n 0, 1) := by decide +kernel
theorem dX2_byRule_22 : decode cX2_byRule 22 = .ok (.getfield 75, 3) := by decide +kernel
theorem dX2_byRule_25 : decode cX2_byRule 25 = .ok (.isub, 1) := by decide +kernel
theorem dX2_byRule_26 : decode cX2_byRule 26 = .ok (.putfield 75, 3) := by decide +kernel
theorem dX2_byRule_29 : decode cX2_byRule 29 = .ok (.iload_n 1, 1) := by decide +kernel
theorem dX2_byRule_30 : decode cX2_byRule 30 = .ok (.ireturn, 1) := by decide +kernel
set_option maxRecDepth 20000 in
theorem ggX2_renamedByRule_X2_byRule : GoodIn wsX2_renamedByRule wsX2_byRule := goodIn_r _ [5, 6, 7, 8, 9, 4, 10, 11, 12, 13, 14, 15, 16, 17, 18, 19, 20, 21, 22, 23, 24, 25, 26, 27, 28, 29, 30, 31, 32, 33, 34, 35, 36, 37, 38, 39, 40, 41, 42, 43, 44, 45, 46, 47, 48, 49, 50, 51, 52, 53, 54, 55, 56, 57, 58, 59, 60, 61, 62, 63, 64, 65, 71, 72, 73, 74, 75, 76, 77, 78, 79, 80, 81, 82, 83, 84, 85, 86, 87, 88, 89] (by decide +kernel) (by decide +kernel)
set_option maxRecDepth 20000 in
theorem gX2_renamedByRule_X2_byRule : GoodIn wsX2_renamedByRule (wsV RX2 182 RX2 yX2_byRule wsX2_byRule) := goodIn_app (goodIn_of _ (by decide +kernel)) ggX2_renamedByRule_X2_byRule
set_option maxRecDepth 20000 in
theorem ggX2_renamedByRule_X2_ok : GoodIn wsX2_renamedByRule wsX2_ok := goodIn_r _ [69, 70, 71, 72, 73, 74, 75, 76, 77, 78, 79, 80, 81, 82, 83, 84, 85, 86, 87, 88, 89] (by decide +kernel) (by decide +kernel)
set_option maxRecDepth 20000 in
theorem gX2_renamedByRule_X2_ok : GoodIn wsX2_renamedByRule (wsV RX2 139 RX2 yX2_ok wsX2_ok) := goodIn_app (goodIn_of _ (by decide +kernel)) ggX2_renamedByRule_X2_ok
theorem dX2_renamedByRule_0 : decode cX2_renamedByRule 0 = .ok (.aload_n 0, 1) := by decide +kernel
theorem dX2_renamedByRule_1 : decode cX2_renamedByRule 1 = .ok (.aload_n 0, 1) := by decide +kernel
theorem dX2_renamedByRule_2 : decode cX2_renamedByRule 2 = .ok (.invokevirtual 182, 3) := by decide +kernel
theorem dX2_renamedByRule_5 : decode cX2_renamedByRule 5 = .ok (.invokevirtual 139, 3) := by decide +kernel
theorem dX2_renamedByRule_8 : decode cX2_renamedByRule 8 = .ok (.ireturn, 1) := by decide +kernel
set_option maxRecDepth 20000 in
theorem ggX2_meanMouth_X2_reckon : GoodIn wsX2_meanMouth wsX2_reckon := goodIn_r _ [9, 2, 10, 11, 12, 13, 14, 8, 15, 16, 17, 18, 19, 20, 21, 22, 23, 3, 24, 25, 26, 27, 4, 28, 29, 30, 31, 32, 33, 34, 35, 36, 37, 38, 39, 40, 41, 42, 43, 44, 45, 46, 47, 48, 49, 50, 51, 52, 53, 54, 55, 56, 57, 58, 59, 60, 61, 62, 63, 64, 65, 66, 67, 68] (by decide +kernel) (by decide +kernel)
set_option maxRecDepth 20000 in
theorem gX2_meanMouth_X2_reckon : GoodIn wsX2_meanMouth (wsV RX2 101 RX2 yX2_reckon wsX2_reckon) := goodIn_app (goodIn_of _ (by decide +kernel)) ggX2_meanMouth_X2_reckon
theorem dX2_meanMouth_0 : decode cX2_meanMouth 0 = .ok (.aload_n 0, 1) := by decide +kernel
theorem dX2_meanMouth_1 : decode cX2_meanMouth 1 = .ok (.iconst 0, 1) := by decide +kernel
theorem dX2_meanMouth_2 : decode cX2_meanMouth 2 = .ok (.putfield 53, 3) := by decide +kernel
theorem dX2_meanMouth_5 : decode cX2_meanMouth 5 = .ok (.aload_n 0, 1) := by decide +kernel
theorem dX2_meanMouth_6 : decode cX2_meanMouth 6 = .ok (.invokevirtual 101, 3) := by decide +kernel
theorem dX2_meanMouth_9 : decode cX2_meanMouth 9 = .ok (.iconst 0, 1) := by decide +kernel
theorem dX2_meanMouth_10 : decode cX2_meanMouth 10 = .ok (.istore_n 1, 1) := by decide +kernel
theorem dX2_meanMouth_11 : decode cX2_meanMouth 11 = .ok (.iconst 0, 1) := by decide +kernel
theorem dX2_meanMouth_12 : decode cX2_meanMouth 12 = .ok (.istore_n 2, 1) := by decide +kernel
theorem dX2_meanMouth_13 : decode cX2_meanMouth 13 = .ok (.iconst 0, 1) := by decide +kernel
theorem dX2_meanMouth_14 : decode cX2_meanMouth 14 = .ok (.istore_n 3, 1) := by decide +kernel
theorem dX2_meanMouth_15 : decode cX2_meanMouth 15 = .ok (.iload_n 3, 1) := by decide +kernel
theorem dX2_meanMouth_16 : decode cX2_meanMouth 16 = .ok (.aload_n 0, 1) := by decide +kernel
theorem dX2_meanMouth_17 : decode cX2_meanMouth 17 = .ok (.getfield 57, 3) := by decide +kernel
theorem dX2_meanMouth_20 : decode cX2_meanMouth 20 = .ok (.if_icmp .ge 34, 3) := by decide +kernel
theorem dX2_meanMouth_23 : decode cX2_meanMouth 23 = .ok (.aload_n 0, 1) := by decide +kernel
theorem dX2_meanMouth_24 : decode cX2_meanMouth 24 = .ok (.getfield 9, 3) := by decide +kernel
theorem dX2_meanMouth_27 : decode cX2_meanMouth 27 = .ok (.iload_n 3, 1) := by decide +kernel
theorem dX2_meanMouth_28 : decode cX2_meanMouth 28 = .ok (.iaload, 1) := by decide +kernel
theorem dX2_meanMouth_29 : decode cX2_meanMouth 29 = .ok (.iconst (-1), 1) := by decide +kernel
theorem dX2_meanMouth_30 : decode cX2_meanMouth 30 = .ok (.if_icmp .eq 6, 3) := by decide +kernel
theorem dX2_meanMouth_33 : decode cX2_meanMouth 33 = .ok (.goto 15, 3) := by decide +kernel
theorem dX2_meanMouth_36 : decode cX2_meanMouth 36 = .ok (.iinc 2 1, 3) := by decide +kernel
theorem dX2_meanMouth_39 : decode cX2_meanMouth 39 = .ok (.iload_n 1, 1) := by decide +kernel
theorem dX2_meanMouth_40 : decode cX2_meanMouth 40 = .ok (.aload_n 0, 1) := by decide +kernel
theorem dX2_meanMouth_41 : decode cX2_meanMouth 41 = .ok (.getfield 38, 3) := by decide +kernel
theorem dX2_meanMouth_44 : decode cX2_meanMouth 44 = .ok (.iload_n 3, 1) := by decide +kernel
theorem dX2_meanMouth_45 : decode cX2_meanMouth 45 = .ok (.iaload, 1) := by decide +kernel
theorem dX2_meanMouth_46 : decode cX2_meanMouth 46 = .ok (.iadd, 1) := by decide +kernel
theorem dX2_meanMouth_47 : decode cX2_meanMouth 47 = .ok (.istore_n 1, 1) := by decide +kernel
theorem dX2_meanMouth_48 : decode cX2_meanMouth 48 = .ok (.iinc 3 1, 3) := by decide +kernel
theorem dX2_meanMouth_51 : decode cX2_meanMouth 51 = .ok (.goto (-36), 3) := by decide +kernel
theorem dX2_meanMouth_54 : decode cX2_meanMouth 54 = .ok (.iload_n 2, 1) := by decide +kernel
theorem dX2_meanMouth_55 : decode cX2_meanMouth 55 = .ok (.ifCond .ne 7, 3) := by decide +kernel
theorem dX2_meanMouth_58 : decode cX2_meanMouth 58 = .ok (.dconst 0, 1) := by decide +kernel
theorem dX2_meanMouth_59 : decode cX2_meanMouth 59 = .ok (.goto 8, 3) := by decide +kernel
theorem dX2_meanMouth_62 : decode cX2_meanMouth 62 = .ok (.iload_n 1, 1) := by decide +kernel
theorem dX2_meanMouth_63 : decode cX2_meanMouth 63 = .ok (.i2d, 1) := by decide +kernel
theorem dX2_meanMouth_64 : decode cX2_meanMouth 64 = .ok (.iload_n 2, 1) := by decide +kernel
theorem dX2_meanMouth_65 : decode cX2_meanMouth 65 = .ok (.i2d, 1) := by decide +kernel
theorem dX2_meanMouth_66 : decode cX2_meanMouth 66 = .ok (.ddiv, 1) := by decide +kernel
theorem dX2_meanMouth_67 : decode cX2_meanMouth 67 = .ok (.dreturn, 1) := by decide +kernel
set_option maxRecDepth 20000 in
theorem ggX2_digest_X2_weightiest : GoodIn wsX2_digest wsX2_weightiest := goodIn_r _ [20, 4, 10, 21, 22, 23, 19, 24, 13, 25, 26, 27, 28, 29, 30, 31, 32, 33, 34, 35, 36, 37, 38, 39, 40, 41, 42, 43, 44, 45, 46, 8, 47, 48, 49, 50, 11, 9, 12, 51, 52, 53, 54, 55, 56, 57, 58, 59, 60, 61, 62, 63, 64, 65, 66, 67, 68, 69, 70, 71, 72, 73, 106, 107, 108, 109, 110, 111, 112, 113, 114, 115, 116, 117, 118, 119, 120, 121, 122, 123, 124] (by decide +kernel) (by decide +kernel)
set_option maxRecDepth 20000 in
theorem gX2_digest_X2_weightiest : GoodIn wsX2_digest (wsV RX2 179 RX2 yX2_weightiest wsX2_weightiest) := goodIn_app (goodIn_of _ (by decide +kernel)) ggX2_digest_X2_weightiest
set_option maxRecDepth 20000 in
theorem ggX2_digest_X2_byRule : GoodIn wsX2_digest wsX2_byRule := goodIn_r _ [77, 64, 21, 22, 23, 19, 24, 13, 25, 26, 27, 28, 29, 30, 31, 32, 33, 4, 34, 35, 36, 37, 38, 39, 40, 41, 42, 43, 44, 45, 46, 8, 47, 48, 49, 50, 11, 9, 10, 12, 51, 52, 53, 54, 55, 56, 57, 58, 59, 60, 61, 62, 63, 65, 66, 67, 68, 69, 70, 71, 72, 73, 106, 107, 108, 109, 110, 111, 112, 113, 114, 115, 116, 117, 118, 119, 120, 121, 122, 123, 124] (by decide +kernel) (by decide +kernel)
set_option maxRecDepth 20000 in
theorem gX2_digest_X2_byRule : GoodIn wsX2_digest (wsV RX2 182 RX2 yX2_byRule wsX2_byRule) := goodIn_app (goodIn_of _ (by decide +kernel)) ggX2_digest_X2_byRule
set_option maxRecDepth 20000 in
theorem ggX2_digest_X2_allInsults : GoodIn wsX2_digest wsX2_allInsults := goodIn_r _ [81, 5, 30, 31, 32, 19, 33, 4, 34, 13, 35, 36, 37, 38, 39, 40, 41, 42, 43, 44, 45, 46, 8, 47, 48, 49, 50, 11, 9, 10, 12, 51, 52, 53, 54, 55, 56, 57, 58, 59, 60, 61, 62, 63, 64, 65, 66, 67, 68, 69, 82, 83, 84, 85, 15, 14, 106, 107, 108, 109, 110, 111, 112, 113, 114, 115, 116, 117, 118, 119, 120, 121, 122, 123, 124] (by decide +kernel) (by decide +kernel)
set_option maxRecDepth 20000 in
theorem gX2_digest_X2_allInsults : GoodIn wsX2_digest (wsV RX2 135 RX2 yX2_allInsults wsX2_allInsults) := goodIn_app (goodIn_of _ (by decide +kernel)) ggX2_digest_X2_allInsults
set_option maxRecDepth 20000 in
theorem ggX2_digest_X2_greatest : GoodIn wsX2_digest wsX2_greatest := goodIn_r _ [89, 90, 91, 92, 19, 93, 4, 13, 106, 107, 108, 109, 110, 111, 112, 113, 114, 115, 116, 117, 118, 119, 120, 121, 122, 123, 124] (by decide +kernel) (by decide +kernel)
set_option maxRecDepth 20000 in
theorem gX2_digest_X2_greatest : GoodIn wsX2_digest (wsV RX2 158 RX2 yX2_greatest wsX2_greatest) := goodIn_app (goodIn_of _ (by decide +kernel)) ggX2_digest_X2_greatest
set_option maxRecDepth 20000 in
theorem ggX2_digest_X2_many : GoodIn wsX2_digest wsX2_many := goodIn_r _ [93, 4, 13, 106, 107, 108, 109, 110, 111, 112, 113, 114, 115, 116, 117, 118, 119, 120, 121, 122, 123, 124] (by decide +kernel) (by decide +kernel)
set_option maxRecDepth 20000 in
theorem gX2_digest_X2_many : GoodIn wsX2_digest (wsV RX2 155 RX2 yX2_many wsX2_many) := goodIn_app (goodIn_of _ (by decide +kernel)) ggX2_digest_X2_many
set_option maxRecDepth 20000 in
theorem ggX2_digest_X2_mouth : GoodIn wsX2_digest wsX2_mouth := goodIn_r _ [97, 8, 106, 107, 108, 109, 110, 111, 112, 113, 114, 115, 116, 117, 118, 119, 120, 121, 122, 123, 124] (by decide +kernel) (by decide +kernel)
set_option maxRecDepth 20000 in
theorem gX2_digest_X2_mouth : GoodIn wsX2_digest (wsV RX2 146 RX2 yX2_mouth wsX2_mouth) := goodIn_app (goodIn_of _ (by decide +kernel)) ggX2_digest_X2_mouth
set_option maxRecDepth 20000 in
theorem ggX2_digest_X2_aboveOf : GoodIn wsX2_digest wsX2_aboveOf := goodIn_r _ [42, 4, 43, 44, 45, 19, 46, 8, 106, 107, 108, 109, 110, 111, 112, 113, 114, 115, 116, 117, 118, 119, 120, 121, 122, 123, 124] (by decide +kernel) (by decide +kernel)
set_option maxRecDepth 20000 in
theorem gX2_digest_X2_aboveOf : GoodIn wsX2_digest (wsV RX2 71 RX2 yX2_aboveOf wsX2_aboveOf) := goodIn_app (goodIn_of _ (by decide +kernel)) ggX2_digest_X2_aboveOf
set_option maxRecDepth 20000 in
theorem ggX2_digest_X2_arguingAt : GoodIn wsX2_digest wsX2_arguingAt := goodIn_r _ [101, 63, 4, 8, 13, 55, 56, 57, 19, 58, 9, 10, 106, 107, 108, 109, 110, 111, 112, 113, 114, 115, 116, 117, 118, 119, 120, 121, 122, 123, 124] (by decide +kernel) (by decide +kernel)
set_option maxRecDepth 20000 in
theorem gX2_digest_X2_arguingAt : GoodIn wsX2_digest (wsV RX2 149 RX2 yX2_arguingAt wsX2_arguingAt) := goodIn_app (goodIn_of _ (by decide +kernel)) ggX2_digest_X2_arguingAt
set_option maxRecDepth 20000 in
theorem ggX2_digest_X2_argued : GoodIn wsX2_digest wsX2_argued := goodIn_r _ [105, 63, 65, 13, 4, 8, 55, 56, 57, 19, 58, 9, 10, 106, 107, 108, 109, 110, 111, 112, 113, 114, 115, 116, 117, 118, 119, 120, 121, 122, 123, 124] (by decide +kernel) (by decide +kernel)
set_option maxRecDepth 20000 in
theorem gX2_digest_X2_argued : GoodIn wsX2_digest (wsV RX2 152 RX2 yX2_argued wsX2_argued) := goodIn_app (goodIn_of _ (by decide +kernel)) ggX2_digest_X2_argued
set_option maxRecDepth 20000 in
theorem ggX2_digest_X2_insulted : GoodIn wsX2_digest wsX2_insulted := goodIn_r _ [85, 15, 13, 14, 106, 107, 108, 109, 110, 111, 112, 113, 114, 115, 116, 117, 118, 119, 120, 121, 122, 123, 124] (by decide +kernel) (by decide +kernel)
set_option maxRecDepth 20000 in
theorem gX2_digest_X2_insulted : GoodIn wsX2_digest (wsV RX2 126 RX2 yX2_insulted wsX2_insulted) := goodIn_app (goodIn_of _ (by decide +kernel)) ggX2_digest_X2_insulted
theorem dX2_digest_0 : decode cX2_digest 0 = .ok (.aload_n 0, 1) := by decide +kernel
theorem dX2_digest_1 : decode cX2_digest 1 = .ok (.iconst 0, 1) := by decide +kernel
theorem dX2_digest_2 : decode cX2_digest 2 = .ok (.putfield 53, 3) := by decide +kernel
theorem dX2_digest_5 : decode cX2_digest 5 = .ok (.aload_n 0, 1) := by decide +kernel
theorem dX2_digest_6 : decode cX2_digest 6 = .ok (.invokevirtual 179, 3) := by decide +kernel
theorem dX2_digest_9 : decode cX2_digest 9 = .ok (.istore_n 1, 1) := by decide +kernel
theorem dX2_digest_10 : decode cX2_digest 10 = .ok (.aload_n 0, 1) := by decide +kernel
theorem dX2_digest_11 : decode cX2_digest 11 = .ok (.invokevirtual 182, 3) := by decide +kernel
theorem dX2_digest_14 : decode cX2_digest 14 = .ok (.istore_n 2, 1) := by decide +kernel
theorem dX2_digest_15 : decode cX2_digest 15 = .ok (.aload_n 0, 1) := by decide +kernel
theorem dX2_digest_16 : decode cX2_digest 16 = .ok (.invokevirtual 135, 3) := by decide +kernel
theorem dX2_digest_19 : decode cX2_digest 19 = .ok (.istore_n 3, 1) := by decide +kernel
theorem dX2_digest_20 : decode cX2_digest 20 = .ok (.bipush 8, 2) := by decide +kernel
theorem dX2_digest_22 : decode cX2_digest 22 = .ok (.newarray .int, 2) := by decide +kernel
theorem dX2_digest_24 : decode cX2_digest 24 = .ok (.dup, 1) := by decide +kernel
theorem dX2_digest_25 : decode cX2_digest 25 = .ok (.iconst 0, 1) := by decide +kernel
theorem dX2_digest_26 : decode cX2_digest 26 = .ok (.aload_n 0, 1) := by decide +kernel
theorem dX2_digest_27 : decode cX2_digest 27 = .ok (.getfield 132, 3) := by decide +kernel
theorem dX2_digest_30 : decode cX2_digest 30 = .ok (.iastore, 1) := by decide +kernel
theorem dX2_digest_31 : decode cX2_digest 31 = .ok (.dup, 1) := by decide +kernel
theorem dX2_digest_32 : decode cX2_digest 32 = .ok (.iconst 1, 1) := by decide +kernel
theorem dX2_digest_33 : decode cX2_digest 33 = .ok (.aload_n 0, 1) := by decide +kernel
theorem dX2_digest_34 : decode cX2_digest 34 = .ok (.getfield 57, 3) := by decide +kernel
theorem dX2_digest_37 : decode cX2_digest 37 = .ok (.iastore, 1) := by decide +kernel
theorem dX2_digest_38 : decode cX2_digest 38 = .ok (.dup, 1) := by decide +kernel
theorem dX2_digest_39 : decode cX2_digest 39 = .ok (.iconst 2, 1) := by decide +kernel
theorem dX2_digest_40 : decode cX2_digest 40 = .ok (.aload_n 0, 1) := by decide +kernel
theorem dX2_digest_41 : decode cX2_digest 41 = .ok (.getfield 64, 3) := by decide +kernel
theorem dX2_digest_44 : decode cX2_digest 44 = .ok (.iastore, 1) := by decide +kernel
theorem dX2_digest_45 : decode cX2_digest 45 = .ok (.dup, 1) := by decide +kernel
theorem dX2_digest_46 : decode cX2_digest 46 = .ok (.iconst 3, 1) := by decide +kernel
theorem dX2_digest_47 : decode cX2_digest 47 = .ok (.iload_n 3, 1) := by decide +kernel
theorem dX2_digest_48 : decode cX2_digest 48 = .ok (.iastore, 1) := by decide +kernel
theorem dX2_digest_49 : decode cX2_digest 49 = .ok (.dup, 1) := by decide +kernel
theorem dX2_digest_50 : decode cX2_digest 50 = .ok (.iconst 4, 1) := by decide +kernel
theorem dX2_digest_51 : decode cX2_digest 51 = .ok (.aload_n 0, 1) := by decide +kernel
theorem dX2_digest_52 : decode cX2_digest 52 = .ok (.invokevirtual 158, 3) := by decide +kernel
theorem dX2_digest_55 : decode cX2_digest 55 = .ok (.iastore, 1) := by decide +kernel
theorem dX2_digest_56 : decode cX2_digest 56 = .ok (.dup, 1) := by decide +kernel
theorem dX2_digest_57 : decode cX2_digest 57 = .ok (.iconst 5, 1) := by decide +kernel
theorem dX2_digest_58 : decode cX2_digest 58 = .ok (.aload_n 0, 1) := by decide +kernel
theorem dX2_digest_59 : decode cX2_digest 59 = .ok (.iconst (-1), 1) := by decide +kernel
theorem dX2_digest_60 : decode cX2_digest 60 = .ok (.invokevirtual 155, 3) := by decide +kernel
theorem dX2_digest_63 : decode cX2_digest 63 = .ok (.iastore, 1) := by decide +kernel
theorem dX2_digest_64 : decode cX2_digest 64 = .ok (.dup, 1) := by decide +kernel
theorem dX2_digest_65 : decode cX2_digest 65 = .ok (.bipush 6, 2) := by decide +kernel
theorem dX2_digest_67 : decode cX2_digest 67 = .ok (.iload_n 1, 1) := by decide +kernel
theorem dX2_digest_68 : decode cX2_digest 68 = .ok (.iastore, 1) := by decide +kernel
theorem dX2_digest_69 : decode cX2_digest 69 = .ok (.dup, 1) := by decide +kernel
theorem dX2_digest_70 : decode cX2_digest 70 = .ok (.bipush 7, 2) := by decide +kernel
theorem dX2_digest_72 : decode cX2_digest 72 = .ok (.iload_n 2, 1) := by decide +kernel
theorem dX2_digest_73 : decode cX2_digest 73 = .ok (.iastore, 1) := by decide +kernel
theorem dX2_digest_74 : decode cX2_digest 74 = .ok (.astore 4, 2) := by decide +kernel
theorem dX2_digest_76 : decode cX2_digest 76 = .ok (.ldc2_w 185, 3) := by decide +kernel
theorem dX2_digest_79 : decode cX2_digest 79 = .ok (.lstore 5, 2) := by decide +kernel
theorem dX2_digest_81 : decode cX2_digest 81 = .ok (.aload 4, 2) := by decide +kernel
theorem dX2_digest_83 : decode cX2_digest 83 = .ok (.astore 7, 2) := by decide +kernel
theorem dX2_digest_85 : decode cX2_digest 85 = .ok (.aload 7, 2) := by decide +kernel
theorem dX2_digest_87 : decode cX2_digest 87 = .ok (.arraylength, 1) := by decide +kernel
theorem dX2_digest_88 : decode cX2_digest 88 = .ok (.istore 8, 2) := by decide +kernel
theorem dX2_digest_90 : decode cX2_digest 90 = .ok (.iconst 0, 1) := by decide +kernel
theorem dX2_digest_91 : decode cX2_digest 91 = .ok (.istore 9, 2) := by decide +kernel
theorem dX2_digest_93 : decode cX2_digest 93 = .ok (.iload 9, 2) := by decide +kernel
theorem dX2_digest_95 : decode cX2_digest 95 = .ok (.iload 8, 2) := by decide +kernel
theorem dX2_digest_97 : decode cX2_digest 97 = .ok (.if_icmp .ge 28, 3) := by decide +kernel
theorem dX2_digest_100 : decode cX2_digest 100 = .ok (.aload 7, 2) := by decide +kernel
theorem dX2_digest_102 : decode cX2_digest 102 = .ok (.iload 9, 2) := by decide +kernel
theorem dX2_digest_104 : decode cX2_digest 104 = .ok (.iaload, 1) := by decide +kernel
theorem dX2_digest_105 : decode cX2_digest 105 = .ok (.istore 10, 2) := by decide +kernel
theorem dX2_digest_107 : decode cX2_digest 107 = .ok (.lload 5, 2) := by decide +kernel
theorem dX2_digest_109 : decode cX2_digest 109 = .ok (.ldc2_w 187, 3) := by decide +kernel
theorem dX2_digest_112 : decode cX2_digest 112 = .ok (.lmul, 1) := by decide +kernel
theorem dX2_digest_113 : decode cX2_digest 113 = .ok (.iload 10, 2) := by decide +kernel
theorem dX2_digest_115 : decode cX2_digest 115 = .ok (.i2l, 1) := by decide +kernel
theorem dX2_digest_116 : decode cX2_digest 116 = .ok (.ladd, 1) := by decide +kernel
theorem dX2_digest_117 : decode cX2_digest 117 = .ok (.lstore 5, 2) := by decide +kernel
theorem dX2_digest_119 : decode cX2_digest 119 = .ok (.iinc 9 1, 3) := by decide +kernel
theorem dX2_digest_122 : decode cX2_digest 122 = .ok (.goto (-29), 3) := by decide +kernel
theorem dX2_digest_125 : decode cX2_digest 125 = .ok (.iconst 0, 1) := by decide +kernel
theorem dX2_digest_126 : decode cX2_digest 126 = .ok (.istore 7, 2) := by decide +kernel
theorem dX2_digest_128 : decode cX2_digest 128 = .ok (.iload 7, 2) := by decide +kernel
theorem dX2_digest_130 : decode cX2_digest 130 = .ok (.aload_n 0, 1) := by decide +kernel
theorem dX2_digest_131 : decode cX2_digest 131 = .ok (.getfield 57, 3) := by decide +kernel
theorem dX2_digest_134 : decode cX2_digest 134 = .ok (.if_icmp .ge 175, 3) := by decide +kernel
theorem dX2_digest_137 : decode cX2_digest 137 = .ok (.bipush 10, 2) := by decide +kernel
theorem dX2_digest_139 : decode cX2_digest 139 = .ok (.newarray .int, 2) := by decide +kernel
theorem dX2_digest_141 : decode cX2_digest 141 = .ok (.dup, 1) := by decide +kernel
theorem dX2_digest_142 : decode cX2_digest 142 = .ok (.iconst 0, 1) := by decide +kernel
theorem dX2_digest_143 : decode cX2_digest 143 = .ok (.aload_n 0, 1) := by decide +kernel
theorem dX2_digest_144 : decode cX2_digest 144 = .ok (.getfield 9, 3) := by decide +kernel
theorem dX2_digest_147 : decode cX2_digest 147 = .ok (.iload 7, 2) := by decide +kernel
theorem dX2_digest_149 : decode cX2_digest 149 = .ok (.iaload, 1) := by decide +kernel
theorem dX2_digest_150 : decode cX2_digest 150 = .ok (.iastore, 1) := by decide +kernel
theorem dX2_digest_151 : decode cX2_digest 151 = .ok (.dup, 1) := by decide +kernel
theorem dX2_digest_152 : decode cX2_digest 152 = .ok (.iconst 1, 1) := by decide +kernel
theorem dX2_digest_153 : decode cX2_digest 153 = .ok (.aload_n 0, 1) := by decide +kernel
theorem dX2_digest_154 : decode cX2_digest 154 = .ok (.getfield 13, 3) := by decide +kernel
theorem dX2_digest_157 : decode cX2_digest 157 = .ok (.iload 7, 2) := by decide +kernel
theorem dX2_digest_159 : decode cX2_digest 159 = .ok (.baload, 1) := by decide +kernel
theorem dX2_digest_160 : decode cX2_digest 160 = .ok (.ifCond .eq 7, 3) := by decide +kernel
theorem dX2_digest_163 : decode cX2_digest 163 = .ok (.iconst 1, 1) := by decide +kernel
theorem dX2_digest_164 : decode cX2_digest 164 = .ok (.goto 4, 3) := by decide +kernel
theorem dX2_digest_167 : decode cX2_digest 167 = .ok (.iconst 0, 1) := by decide +kernel
theorem dX2_digest_168 : decode cX2_digest 168 = .ok (.iastore, 1) := by decide +kernel
theorem dX2_digest_169 : decode cX2_digest 169 = .ok (.dup, 1) := by decide +kernel
theorem dX2_digest_170 : decode cX2_digest 170 = .ok (.iconst 2, 1) := by decide +kernel
theorem dX2_digest_171 : decode cX2_digest 171 = .ok (.aload_n 0, 1) := by decide +kernel
theorem dX2_digest_172 : decode cX2_digest 172 = .ok (.getfield 20, 3) := by decide +kernel
theorem dX2_digest_175 : decode cX2_digest 175 = .ok (.iload 7, 2) := by decide +kernel
theorem dX2_digest_177 : decode cX2_digest 177 = .ok (.iaload, 1) := by decide +kernel
theorem dX2_digest_178 : decode cX2_digest 178 = .ok (.iastore, 1) := by decide +kernel
theorem dX2_digest_179 : decode cX2_digest 179 = .ok (.dup, 1) := by decide +kernel
theorem dX2_digest_180 : decode cX2_digest 180 = .ok (.iconst 3, 1) := by decide +kernel
theorem dX2_digest_181 : decode cX2_digest 181 = .ok (.aload_n 0, 1) := by decide +kernel
theorem dX2_digest_182 : decode cX2_digest 182 = .ok (.getfield 38, 3) := by decide +kernel
theorem dX2_digest_185 : decode cX2_digest 185 = .ok (.iload 7, 2) := by decide +kernel
theorem dX2_digest_187 : decode cX2_digest 187 = .ok (.iaload, 1) := by decide +kernel
theorem dX2_digest_188 : decode cX2_digest 188 = .ok (.iastore, 1) := by decide +kernel
theorem dX2_digest_189 : decode cX2_digest 189 = .ok (.dup, 1) := by decide +kernel
theorem dX2_digest_190 : decode cX2_digest 190 = .ok (.iconst 4, 1) := by decide +kernel
theorem dX2_digest_191 : decode cX2_digest 191 = .ok (.aload_n 0, 1) := by decide +kernel
theorem dX2_digest_192 : decode cX2_digest 192 = .ok (.getfield 41, 3) := by decide +kernel
theorem dX2_digest_195 : decode cX2_digest 195 = .ok (.iload 7, 2) := by decide +kernel
theorem dX2_digest_197 : decode cX2_digest 197 = .ok (.iaload, 1) := by decide +kernel
theorem dX2_digest_198 : decode cX2_digest 198 = .ok (.iastore, 1) := by decide +kernel
theorem dX2_digest_199 : decode cX2_digest 199 = .ok (.dup, 1) := by decide +kernel
theorem dX2_digest_200 : decode cX2_digest 200 = .ok (.iconst 5, 1) := by decide +kernel
theorem dX2_digest_201 : decode cX2_digest 201 = .ok (.aload_n 0, 1) := by decide +kernel
theorem dX2_digest_202 : decode cX2_digest 202 = .ok (.iload 7, 2) := by decide +kernel
theorem dX2_digest_204 : decode cX2_digest 204 = .ok (.invokevirtual 146, 3) := by decide +kernel
theorem dX2_digest_207 : decode cX2_digest 207 = .ok (.iastore, 1) := by decide +kernel
theorem dX2_digest_208 : decode cX2_digest 208 = .ok (.dup, 1) := by decide +kernel
theorem dX2_digest_209 : decode cX2_digest 209 = .ok (.bipush 6, 2) := by decide +kernel
theorem dX2_digest_211 : decode cX2_digest 211 = .ok (.aload_n 0, 1) := by decide +kernel
theorem dX2_digest_212 : decode cX2_digest 212 = .ok (.iload 7, 2) := by decide +kernel
theorem dX2_digest_214 : decode cX2_digest 214 = .ok (.invokevirtual 71, 3) := by decide +kernel
theorem dX2_digest_217 : decode cX2_digest 217 = .ok (.iastore, 1) := by decide +kernel
theorem dX2_digest_218 : decode cX2_digest 218 = .ok (.dup, 1) := by decide +kernel
theorem dX2_digest_219 : decode cX2_digest 219 = .ok (.bipush 7, 2) := by decide +kernel
theorem dX2_digest_221 : decode cX2_digest 221 = .ok (.aload_n 0, 1) := by decide +kernel
theorem dX2_digest_222 : decode cX2_digest 222 = .ok (.getfield 44, 3) := by decide +kernel
theorem dX2_digest_225 : decode cX2_digest 225 = .ok (.iload 7, 2) := by decide +kernel
theorem dX2_digest_227 : decode cX2_digest 227 = .ok (.iaload, 1) := by decide +kernel
theorem dX2_digest_228 : decode cX2_digest 228 = .ok (.iastore, 1) := by decide +kernel
theorem dX2_digest_229 : decode cX2_digest 229 = .ok (.dup, 1) := by decide +kernel
theorem dX2_digest_230 : decode cX2_digest 230 = .ok (.bipush 8, 2) := by decide +kernel
theorem dX2_digest_232 : decode cX2_digest 232 = .ok (.aload_n 0, 1) := by decide +kernel
theorem dX2_digest_233 : decode cX2_digest 233 = .ok (.iload 7, 2) := by decide +kernel
theorem dX2_digest_235 : decode cX2_digest 235 = .ok (.invokevirtual 149, 3) := by decide +kernel
theorem dX2_digest_238 : decode cX2_digest 238 = .ok (.iastore, 1) := by decide +kernel
theorem dX2_digest_239 : decode cX2_digest 239 = .ok (.dup, 1) := by decide +kernel
theorem dX2_digest_240 : decode cX2_digest 240 = .ok (.bipush 9, 2) := by decide +kernel
theorem dX2_digest_242 : decode cX2_digest 242 = .ok (.aload_n 0, 1) := by decide +kernel
theorem dX2_digest_243 : decode cX2_digest 243 = .ok (.iload 7, 2) := by decide +kernel
theorem dX2_digest_245 : decode cX2_digest 245 = .ok (.invokevirtual 152, 3) := by decide +kernel
theorem dX2_digest_248 : decode cX2_digest 248 = .ok (.ifCond .eq 7, 3) := by decide +kernel
theorem dX2_digest_251 : decode cX2_digest 251 = .ok (.iconst 1, 1) := by decide +kernel
theorem dX2_digest_252 : decode cX2_digest 252 = .ok (.goto 4, 3) := by decide +kernel
theorem dX2_digest_255 : decode cX2_digest 255 = .ok (.iconst 0, 1) := by decide +kernel
theorem dX2_digest_256 : decode cX2_digest 256 = .ok (.iastore, 1) := by decide +kernel
theorem dX2_digest_257 : decode cX2_digest 257 = .ok (.astore 8, 2) := by decide +kernel
theorem dX2_digest_259 : decode cX2_digest 259 = .ok (.aload 8, 2) := by decide +kernel
theorem dX2_digest_261 : decode cX2_digest 261 = .ok (.astore 9, 2) := by decide +kernel
theorem dX2_digest_263 : decode cX2_digest 263 = .ok (.aload 9, 2) := by decide +kernel
theorem dX2_digest_265 : decode cX2_digest 265 = .ok (.arraylength, 1) := by decide +kernel
theorem dX2_digest_266 : decode cX2_digest 266 = .ok (.istore 10, 2) := by decide +kernel
theorem dX2_digest_268 : decode cX2_digest 268 = .ok (.iconst 0, 1) := by decide +kernel
theorem dX2_digest_269 : decode cX2_digest 269 = .ok (.istore 11, 2) := by decide +kernel
theorem dX2_digest_271 : decode cX2_digest 271 = .ok (.iload 11, 2) := by decide +kernel
theorem dX2_digest_273 : decode cX2_digest 273 = .ok (.iload 10, 2) := by decide +kernel
theorem dX2_digest_275 : decode cX2_digest 275 = .ok (.if_icmp .ge 28, 3) := by decide +kernel
theorem dX2_digest_278 : decode cX2_digest 278 = .ok (.aload 9, 2) := by decide +kernel
theorem dX2_digest_280 : decode cX2_digest 280 = .ok (.iload 11, 2) := by decide +kernel
theorem dX2_digest_282 : decode cX2_digest 282 = .ok (.iaload, 1) := by decide +kernel
theorem dX2_digest_283 : decode cX2_digest 283 = .ok (.istore 12, 2) := by decide +kernel
theorem dX2_digest_285 : decode cX2_digest 285 = .ok (.lload 5, 2) := by decide +kernel
theorem dX2_digest_287 : decode cX2_digest 287 = .ok (.ldc2_w 187, 3) := by decide +kernel
theorem dX2_digest_290 : decode cX2_digest 290 = .ok (.lmul, 1) := by decide +kernel
theorem dX2_digest_291 : decode cX2_digest 291 = .ok (.iload 12, 2) := by decide +kernel
theorem dX2_digest_293 : decode cX2_digest 293 = .ok (.i2l, 1) := by decide +kernel
theorem dX2_digest_294 : decode cX2_digest 294 = .ok (.ladd, 1) := by decide +kernel
theorem dX2_digest_295 : decode cX2_digest 295 = .ok (.lstore 5, 2) := by decide +kernel
theorem dX2_digest_297 : decode cX2_digest 297 = .ok (.iinc 11 1, 3) := by decide +kernel
theorem dX2_digest_300 : decode cX2_digest 300 = .ok (.goto (-29), 3) := by decide +kernel
theorem dX2_digest_303 : decode cX2_digest 303 = .ok (.iinc 7 1, 3) := by decide +kernel
theorem dX2_digest_306 : decode cX2_digest 306 = .ok (.goto (-178), 3) := by decide +kernel
theorem dX2_digest_309 : decode cX2_digest 309 = .ok (.iconst 0, 1) := by decide +kernel
theorem dX2_digest_310 : decode cX2_digest 310 = .ok (.istore 7, 2) := by decide +kernel
theorem dX2_digest_312 : decode cX2_digest 312 = .ok (.iload 7, 2) := by decide +kernel
theorem dX2_digest_314 : decode cX2_digest 314 = .ok (.aload_n 0, 1) := by decide +kernel
theorem dX2_digest_315 : decode cX2_digest 315 = .ok (.getfield 64, 3) := by decide +kernel
theorem dX2_digest_318 : decode cX2_digest 318 = .ok (.if_icmp .ge 59, 3) := by decide +kernel
theorem dX2_digest_321 : decode cX2_digest 321 = .ok (.lload 5, 2) := by decide +kernel
theorem dX2_digest_323 : decode cX2_digest 323 = .ok (.ldc2_w 187, 3) := by decide +kernel
theorem dX2_digest_326 : decode cX2_digest 326 = .ok (.lmul, 1) := by decide +kernel
theorem dX2_digest_327 : decode cX2_digest 327 = .ok (.aload_n 0, 1) := by decide +kernel
theorem dX2_digest_328 : decode cX2_digest 328 = .ok (.getfield 29, 3) := by decide +kernel
theorem dX2_digest_331 : decode cX2_digest 331 = .ok (.iload 7, 2) := by decide +kernel
theorem dX2_digest_333 : decode cX2_digest 333 = .ok (.iaload, 1) := by decide +kernel
theorem dX2_digest_334 : decode cX2_digest 334 = .ok (.i2l, 1) := by decide +kernel
theorem dX2_digest_335 : decode cX2_digest 335 = .ok (.ladd, 1) := by decide +kernel
theorem dX2_digest_336 : decode cX2_digest 336 = .ok (.ldc2_w 187, 3) := by decide +kernel
theorem dX2_digest_339 : decode cX2_digest 339 = .ok (.lmul, 1) := by decide +kernel
theorem dX2_digest_340 : decode cX2_digest 340 = .ok (.aload_n 0, 1) := by decide +kernel
theorem dX2_digest_341 : decode cX2_digest 341 = .ok (.getfield 32, 3) := by decide +kernel
theorem dX2_digest_344 : decode cX2_digest 344 = .ok (.iload 7, 2) := by decide +kernel
theorem dX2_digest_346 : decode cX2_digest 346 = .ok (.iaload, 1) := by decide +kernel
theorem dX2_digest_347 : decode cX2_digest 347 = .ok (.i2l, 1) := by decide +kernel
theorem dX2_digest_348 : decode cX2_digest 348 = .ok (.ladd, 1) := by decide +kernel
theorem dX2_digest_349 : decode cX2_digest 349 = .ok (.ldc2_w 187, 3) := by decide +kernel
theorem dX2_digest_352 : decode cX2_digest 352 = .ok (.lmul, 1) := by decide +kernel
theorem dX2_digest_353 : decode cX2_digest 353 = .ok (.aload_n 0, 1) := by decide +kernel
theorem dX2_digest_354 : decode cX2_digest 354 = .ok (.iload 7, 2) := by decide +kernel
theorem dX2_digest_356 : decode cX2_digest 356 = .ok (.invokevirtual 126, 3) := by decide +kernel
theorem dX2_digest_359 : decode cX2_digest 359 = .ok (.ifCond .eq 7, 3) := by decide +kernel
theorem dX2_digest_362 : decode cX2_digest 362 = .ok (.iconst 1, 1) := by decide +kernel
theorem dX2_digest_363 : decode cX2_digest 363 = .ok (.goto 4, 3) := by decide +kernel
theorem dX2_digest_366 : decode cX2_digest 366 = .ok (.iconst 0, 1) := by decide +kernel
theorem dX2_digest_367 : decode cX2_digest 367 = .ok (.i2l, 1) := by decide +kernel
theorem dX2_digest_368 : decode cX2_digest 368 = .ok (.ladd, 1) := by decide +kernel
theorem dX2_digest_369 : decode cX2_digest 369 = .ok (.lstore 5, 2) := by decide +kernel
theorem dX2_digest_371 : decode cX2_digest 371 = .ok (.iinc 7 1, 3) := by decide +kernel
theorem dX2_digest_374 : decode cX2_digest 374 = .ok (.goto (-62), 3) := by decide +kernel
theorem dX2_digest_377 : decode cX2_digest 377 = .ok (.lload 5, 2) := by decide +kernel
theorem dX2_digest_379 : decode cX2_digest 379 = .ok (.lreturn, 1) := by decide +kernel
theorem dJ9_max_7cf53_0 : decode cJ9_max_7cf53 0 = .ok (.iload_n 0, 1) := by decide +kernel
theorem dJ9_max_7cf53_1 : decode cJ9_max_7cf53 1 = .ok (.iload_n 1, 1) := by decide +kernel
theorem dJ9_max_7cf53_2 : decode cJ9_max_7cf53 2 = .ok (.if_icmp .lt 7, 3) := by decide +kernel
theorem dJ9_max_7cf53_5 : decode cJ9_max_7cf53 5 = .ok (.iload_n 0, 1) := by decide +kernel
theorem dJ9_max_7cf53_6 : decode cJ9_max_7cf53 6 = .ok (.goto 4, 3) := by decide +kernel
theorem dJ9_max_7cf53_9 : decode cJ9_max_7cf53 9 = .ok (.iload_n 1, 1) := by decide +kernel
theorem dJ9_max_7cf53_10 : decode cJ9_max_7cf53 10 = .ok (.ireturn, 1) := by decide +kernel
theorem dJ9_min_7cf53_0 : decode cJ9_min_7cf53 0 = .ok (.iload_n 0, 1) := by decide +kernel
theorem dJ9_min_7cf53_1 : decode cJ9_min_7cf53 1 = .ok (.iload_n 1, 1) := by decide +kernel
theorem dJ9_min_7cf53_2 : decode cJ9_min_7cf53 2 = .ok (.if_icmp .gt 7, 3) := by decide +kernel
theorem dJ9_min_7cf53_5 : decode cJ9_min_7cf53 5 = .ok (.iload_n 0, 1) := by decide +kernel
theorem dJ9_min_7cf53_6 : decode cJ9_min_7cf53 6 = .ok (.goto 4, 3) := by decide +kernel
theorem dJ9_min_7cf53_9 : decode cJ9_min_7cf53 9 = .ok (.iload_n 1, 1) := by decide +kernel
theorem dJ9_min_7cf53_10 : decode cJ9_min_7cf53 10 = .ok (.ireturn, 1) := by decide +kernel
set_option maxRecDepth 20000 in
theorem ggL_addPlace_X1_addPlace : GoodIn wsL_addPlace wsX1_addPlace := goodIn_ca (goodIn_r _ [6, 7, 8, 9, 10, 5, 11, 12, 13, 14, 15, 16, 17, 18, 19, 20, 21, 22, 23, 24, 25, 26, 27, 28, 29, 30, 31, 32, 33, 34, 35, 36, 37, 38, 39, 40, 41, 42, 43, 44, 45, 46, 47, 48, 49, 50, 51, 52, 53, 54, 55, 56, 57, 58, 59, 60, 61, 62, 63, 64, 65, 66, 67, 68, 69, 70, 71, 72, 73, 74, 75, 76, 77, 78, 79, 80, 81, 82] (by decide +kernel) (by decide +kernel)) (goodIn_sub (fun _ h => List.mem_cons_of_mem _ (List.mem_append_right _ h)) (by decide +kernel))
set_option maxRecDepth 20000 in
theorem gL_addPlace_X1_addPlace : GoodIn wsL_addPlace (wsV RL 7 RX1 yX1_addPlace wsX1_addPlace) := goodIn_app (goodIn_of _ (by decide +kernel)) ggL_addPlace_X1_addPlace
