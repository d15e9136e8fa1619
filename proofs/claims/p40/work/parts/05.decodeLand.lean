theorem dX0_init_0 : decode cX0_init 0 = .ok (.aload_n 0, 1) := by decide +kernel
theorem dX0_init_1 : decode cX0_init 1 = .ok (.invokespecial 3, 3) := by decide +kernel
theorem dX0_init_4 : decode cX0_init 4 = .ok (.aload_n 0, 1) := by decide +kernel
theorem dX0_init_5 : decode cX0_init 5 = .ok (.iconst 0, 1) := by decide +kernel
theorem dX0_init_6 : decode cX0_init 6 = .ok (.putfield 9, 3) := by decide +kernel
theorem dX0_init_9 : decode cX0_init 9 = .ok (.aload_n 0, 1) := by decide +kernel
theorem dX0_init_10 : decode cX0_init 10 = .ok (.iconst 0, 1) := by decide +kernel
theorem dX0_init_11 : decode cX0_init 11 = .ok (.putfield 15, 3) := by decide +kernel
theorem dX0_init_14 : decode cX0_init 14 = .ok (.aload_n 0, 1) := by decide +kernel
theorem dX0_init_15 : decode cX0_init 15 = .ok (.bipush 16, 2) := by decide +kernel
theorem dX0_init_17 : decode cX0_init 17 = .ok (.newarray .int, 2) := by decide +kernel
theorem dX0_init_19 : decode cX0_init 19 = .ok (.putfield 18, 3) := by decide +kernel
theorem dX0_init_22 : decode cX0_init 22 = .ok (.aload_n 0, 1) := by decide +kernel
theorem dX0_init_23 : decode cX0_init 23 = .ok (.bipush 16, 2) := by decide +kernel
theorem dX0_init_25 : decode cX0_init 25 = .ok (.newarray .int, 2) := by decide +kernel
theorem dX0_init_27 : decode cX0_init 27 = .ok (.putfield 22, 3) := by decide +kernel
theorem dX0_init_30 : decode cX0_init 30 = .ok (.aload_n 0, 1) := by decide +kernel
theorem dX0_init_31 : decode cX0_init 31 = .ok (.bipush 16, 2) := by decide +kernel
theorem dX0_init_33 : decode cX0_init 33 = .ok (.newarray .boolean, 2) := by decide +kernel
theorem dX0_init_35 : decode cX0_init 35 = .ok (.putfield 25, 3) := by decide +kernel
theorem dX0_init_38 : decode cX0_init 38 = .ok (.aload_n 0, 1) := by decide +kernel
theorem dX0_init_39 : decode cX0_init 39 = .ok (.bipush 16, 2) := by decide +kernel
theorem dX0_init_41 : decode cX0_init 41 = .ok (.newarray .int, 2) := by decide +kernel
theorem dX0_init_43 : decode cX0_init 43 = .ok (.putfield 29, 3) := by decide +kernel
theorem dX0_init_46 : decode cX0_init 46 = .ok (.aload_n 0, 1) := by decide +kernel
theorem dX0_init_47 : decode cX0_init 47 = .ok (.bipush 16, 2) := by decide +kernel
theorem dX0_init_49 : decode cX0_init 49 = .ok (.newarray .int, 2) := by decide +kernel
theorem dX0_init_51 : decode cX0_init 51 = .ok (.putfield 32, 3) := by decide +kernel
theorem dX0_init_54 : decode cX0_init 54 = .ok (.aload_n 0, 1) := by decide +kernel
theorem dX0_init_55 : decode cX0_init 55 = .ok (.bipush 16, 2) := by decide +kernel
theorem dX0_init_57 : decode cX0_init 57 = .ok (.newarray .int, 2) := by decide +kernel
theorem dX0_init_59 : decode cX0_init 59 = .ok (.putfield 35, 3) := by decide +kernel
theorem dX0_init_62 : decode cX0_init 62 = .ok (.aload_n 0, 1) := by decide +kernel
theorem dX0_init_63 : decode cX0_init 63 = .ok (.bipush 16, 2) := by decide +kernel
theorem dX0_init_65 : decode cX0_init 65 = .ok (.newarray .boolean, 2) := by decide +kernel
theorem dX0_init_67 : decode cX0_init 67 = .ok (.putfield 38, 3) := by decide +kernel
theorem dX0_init_70 : decode cX0_init 70 = .ok (.aload_n 0, 1) := by decide +kernel
theorem dX0_init_71 : decode cX0_init 71 = .ok (.bipush 16, 2) := by decide +kernel
theorem dX0_init_73 : decode cX0_init 73 = .ok (.newarray .int, 2) := by decide +kernel
theorem dX0_init_75 : decode cX0_init 75 = .ok (.putfield 41, 3) := by decide +kernel
theorem dX0_init_78 : decode cX0_init 78 = .ok (.aload_n 0, 1) := by decide +kernel
theorem dX0_init_79 : decode cX0_init 79 = .ok (.bipush 16, 2) := by decide +kernel
theorem dX0_init_81 : decode cX0_init 81 = .ok (.newarray .int, 2) := by decide +kernel
theorem dX0_init_83 : decode cX0_init 83 = .ok (.putfield 44, 3) := by decide +kernel
theorem dX0_init_86 : decode cX0_init 86 = .ok (.aload_n 0, 1) := by decide +kernel
theorem dX0_init_87 : decode cX0_init 87 = .ok (.bipush 16, 2) := by decide +kernel
theorem dX0_init_89 : decode cX0_init 89 = .ok (.newarray .int, 2) := by decide +kernel
theorem dX0_init_91 : decode cX0_init 91 = .ok (.putfield 47, 3) := by decide +kernel
theorem dX0_init_94 : decode cX0_init 94 = .ok (.aload_n 0, 1) := by decide +kernel
theorem dX0_init_95 : decode cX0_init 95 = .ok (.bipush 16, 2) := by decide +kernel
theorem dX0_init_97 : decode cX0_init 97 = .ok (.newarray .int, 2) := by decide +kernel
theorem dX0_init_99 : decode cX0_init 99 = .ok (.putfield 50, 3) := by decide +kernel
theorem dX0_init_102 : decode cX0_init 102 = .ok (.aload_n 0, 1) := by decide +kernel
theorem dX0_init_103 : decode cX0_init 103 = .ok (.bipush 16, 2) := by decide +kernel
theorem dX0_init_105 : decode cX0_init 105 = .ok (.newarray .boolean, 2) := by decide +kernel
theorem dX0_init_107 : decode cX0_init 107 = .ok (.putfield 53, 3) := by decide +kernel
theorem dX0_init_110 : decode cX0_init 110 = .ok (.aload_n 0, 1) := by decide +kernel
theorem dX0_init_111 : decode cX0_init 111 = .ok (.bipush 16, 2) := by decide +kernel
theorem dX0_init_113 : decode cX0_init 113 = .ok (.newarray .int, 2) := by decide +kernel
theorem dX0_init_115 : decode cX0_init 115 = .ok (.putfield 56, 3) := by decide +kernel
theorem dX0_init_118 : decode cX0_init 118 = .ok (.aload_n 0, 1) := by decide +kernel
theorem dX0_init_119 : decode cX0_init 119 = .ok (.bipush 16, 2) := by decide +kernel
theorem dX0_init_121 : decode cX0_init 121 = .ok (.newarray .int, 2) := by decide +kernel
theorem dX0_init_123 : decode cX0_init 123 = .ok (.putfield 59, 3) := by decide +kernel
theorem dX0_init_126 : decode cX0_init 126 = .ok (.return_, 1) := by decide +kernel
theorem dX0_size_0 : decode cX0_size 0 = .ok (.aload_n 0, 1) := by decide +kernel
theorem dX0_size_1 : decode cX0_size 1 = .ok (.getfield 9, 3) := by decide +kernel
theorem dX0_size_4 : decode cX0_size 4 = .ok (.ireturn, 1) := by decide +kernel
theorem dX0_ruleNow_0 : decode cX0_ruleNow 0 = .ok (.aload_n 0, 1) := by decide +kernel
theorem dX0_ruleNow_1 : decode cX0_ruleNow 1 = .ok (.getfield 15, 3) := by decide +kernel
theorem dX0_ruleNow_4 : decode cX0_ruleNow 4 = .ok (.ireturn, 1) := by decide +kernel
theorem dX0_isPlace_0 : decode cX0_isPlace 0 = .ok (.iload_n 1, 1) := by decide +kernel
theorem dX0_isPlace_1 : decode cX0_isPlace 1 = .ok (.ifCond .lt 15, 3) := by decide +kernel
theorem dX0_isPlace_4 : decode cX0_isPlace 4 = .ok (.iload_n 1, 1) := by decide +kernel
theorem dX0_isPlace_5 : decode cX0_isPlace 5 = .ok (.aload_n 0, 1) := by decide +kernel
theorem dX0_isPlace_6 : decode cX0_isPlace 6 = .ok (.getfield 9, 3) := by decide +kernel
theorem dX0_isPlace_9 : decode cX0_isPlace 9 = .ok (.if_icmp .ge 7, 3) := by decide +kernel
theorem dX0_isPlace_12 : decode cX0_isPlace 12 = .ok (.iconst 1, 1) := by decide +kernel
theorem dX0_isPlace_13 : decode cX0_isPlace 13 = .ok (.goto 4, 3) := by decide +kernel
theorem dX0_isPlace_16 : decode cX0_isPlace 16 = .ok (.iconst 0, 1) := by decide +kernel
theorem dX0_isPlace_17 : decode cX0_isPlace 17 = .ok (.ireturn, 1) := by decide +kernel
theorem dX0_next_0 : decode cX0_next 0 = .ok (.aload_n 0, 1) := by decide +kernel
theorem dX0_next_1 : decode cX0_next 1 = .ok (.getfield 18, 3) := by decide +kernel
theorem dX0_next_4 : decode cX0_next 4 = .ok (.iload_n 1, 1) := by decide +kernel
theorem dX0_next_5 : decode cX0_next 5 = .ok (.iaload, 1) := by decide +kernel
theorem dX0_next_6 : decode cX0_next 6 = .ok (.ireturn, 1) := by decide +kernel
theorem dX0_isSprung_0 : decode cX0_isSprung 0 = .ok (.aload_n 0, 1) := by decide +kernel
theorem dX0_isSprung_1 : decode cX0_isSprung 1 = .ok (.getfield 25, 3) := by decide +kernel
theorem dX0_isSprung_4 : decode cX0_isSprung 4 = .ok (.iload_n 1, 1) := by decide +kernel
theorem dX0_isSprung_5 : decode cX0_isSprung 5 = .ok (.baload, 1) := by decide +kernel
theorem dX0_isSprung_6 : decode cX0_isSprung 6 = .ok (.ireturn, 1) := by decide +kernel
theorem dX0_springWaterOf_0 : decode cX0_springWaterOf 0 = .ok (.aload_n 0, 1) := by decide +kernel
theorem dX0_springWaterOf_1 : decode cX0_springWaterOf 1 = .ok (.getfield 32, 3) := by decide +kernel
theorem dX0_springWaterOf_4 : decode cX0_springWaterOf 4 = .ok (.iload_n 1, 1) := by decide +kernel
theorem dX0_springWaterOf_5 : decode cX0_springWaterOf 5 = .ok (.iaload, 1) := by decide +kernel
theorem dX0_springWaterOf_6 : decode cX0_springWaterOf 6 = .ok (.ireturn, 1) := by decide +kernel
theorem dX0_isDelta_0 : decode cX0_isDelta 0 = .ok (.aload_n 0, 1) := by decide +kernel
theorem dX0_isDelta_1 : decode cX0_isDelta 1 = .ok (.getfield 38, 3) := by decide +kernel
theorem dX0_isDelta_4 : decode cX0_isDelta 4 = .ok (.iload_n 1, 1) := by decide +kernel
theorem dX0_isDelta_5 : decode cX0_isDelta 5 = .ok (.baload, 1) := by decide +kernel
theorem dX0_isDelta_6 : decode cX0_isDelta 6 = .ok (.ireturn, 1) := by decide +kernel
theorem dX0_waterOf_0 : decode cX0_waterOf 0 = .ok (.aload_n 0, 1) := by decide +kernel
theorem dX0_waterOf_1 : decode cX0_waterOf 1 = .ok (.getfield 41, 3) := by decide +kernel
theorem dX0_waterOf_4 : decode cX0_waterOf 4 = .ok (.iload_n 1, 1) := by decide +kernel
theorem dX0_waterOf_5 : decode cX0_waterOf 5 = .ok (.iaload, 1) := by decide +kernel
theorem dX0_waterOf_6 : decode cX0_waterOf 6 = .ok (.ireturn, 1) := by decide +kernel
theorem dX0_lengthOf_0 : decode cX0_lengthOf 0 = .ok (.aload_n 0, 1) := by decide +kernel
theorem dX0_lengthOf_1 : decode cX0_lengthOf 1 = .ok (.getfield 44, 3) := by decide +kernel
theorem dX0_lengthOf_4 : decode cX0_lengthOf 4 = .ok (.iload_n 1, 1) := by decide +kernel
theorem dX0_lengthOf_5 : decode cX0_lengthOf 5 = .ok (.iaload, 1) := by decide +kernel
theorem dX0_lengthOf_6 : decode cX0_lengthOf 6 = .ok (.ireturn, 1) := by decide +kernel
theorem dX0_nameOf_0 : decode cX0_nameOf 0 = .ok (.aload_n 0, 1) := by decide +kernel
theorem dX0_nameOf_1 : decode cX0_nameOf 1 = .ok (.getfield 47, 3) := by decide +kernel
theorem dX0_nameOf_4 : decode cX0_nameOf 4 = .ok (.iload_n 1, 1) := by decide +kernel
theorem dX0_nameOf_5 : decode cX0_nameOf 5 = .ok (.iaload, 1) := by decide +kernel
theorem dX0_nameOf_6 : decode cX0_nameOf 6 = .ok (.ireturn, 1) := by decide +kernel
theorem dX0_arguersAt_0 : decode cX0_arguersAt 0 = .ok (.aload_n 0, 1) := by decide +kernel
theorem dX0_arguersAt_1 : decode cX0_arguersAt 1 = .ok (.getfield 50, 3) := by decide +kernel
theorem dX0_arguersAt_4 : decode cX0_arguersAt 4 = .ok (.iload_n 1, 1) := by decide +kernel
theorem dX0_arguersAt_5 : decode cX0_arguersAt 5 = .ok (.iaload, 1) := by decide +kernel
theorem dX0_arguersAt_6 : decode cX0_arguersAt 6 = .ok (.ireturn, 1) := by decide +kernel
theorem dX0_isDisputed_0 : decode cX0_isDisputed 0 = .ok (.aload_n 0, 1) := by decide +kernel
theorem dX0_isDisputed_1 : decode cX0_isDisputed 1 = .ok (.getfield 53, 3) := by decide +kernel
theorem dX0_isDisputed_4 : decode cX0_isDisputed 4 = .ok (.iload_n 1, 1) := by decide +kernel
theorem dX0_isDisputed_5 : decode cX0_isDisputed 5 = .ok (.baload, 1) := by decide +kernel
theorem dX0_isDisputed_6 : decode cX0_isDisputed 6 = .ok (.ireturn, 1) := by decide +kernel
set_option maxRecDepth 20000 in
theorem ggX0_addBare_X0_settle : GoodIn wsX0_addBare wsX0_settle := goodIn_r _ [7, 1, 8, 2, 9, 10, 11, 6, 12, 13, 14, 15, 16, 17, 18, 19, 20, 21, 22, 23, 24, 25, 26, 27, 28, 29, 30, 31, 32, 33, 34, 35, 36, 37, 38, 39, 40, 41, 42, 43, 44, 45, 46, 47, 48, 49, 50, 51, 52, 53, 54, 55] (by decide +kernel) (by decide +kernel)
set_option maxRecDepth 20000 in
theorem gX0_addBare_X0_settle : GoodIn wsX0_addBare (wsV RX0 62 RX0 yX0_settle wsX0_settle) := goodIn_app (goodIn_of _ (by decide +kernel)) ggX0_addBare_X0_settle
theorem dX0_addBare_0 : decode cX0_addBare 0 = .ok (.aload_n 0, 1) := by decide +kernel
theorem dX0_addBare_1 : decode cX0_addBare 1 = .ok (.getfield 9, 3) := by decide +kernel
theorem dX0_addBare_4 : decode cX0_addBare 4 = .ok (.istore_n 1, 1) := by decide +kernel
theorem dX0_addBare_5 : decode cX0_addBare 5 = .ok (.aload_n 0, 1) := by decide +kernel
theorem dX0_addBare_6 : decode cX0_addBare 6 = .ok (.dup, 1) := by decide +kernel
theorem dX0_addBare_7 : decode cX0_addBare 7 = .ok (.getfield 9, 3) := by decide +kernel
theorem dX0_addBare_10 : decode cX0_addBare 10 = .ok (.iconst 1, 1) := by decide +kernel
theorem dX0_addBare_11 : decode cX0_addBare 11 = .ok (.iadd, 1) := by decide +kernel
theorem dX0_addBare_12 : decode cX0_addBare 12 = .ok (.putfield 9, 3) := by decide +kernel
theorem dX0_addBare_15 : decode cX0_addBare 15 = .ok (.aload_n 0, 1) := by decide +kernel
theorem dX0_addBare_16 : decode cX0_addBare 16 = .ok (.getfield 18, 3) := by decide +kernel
theorem dX0_addBare_19 : decode cX0_addBare 19 = .ok (.iload_n 1, 1) := by decide +kernel
theorem dX0_addBare_20 : decode cX0_addBare 20 = .ok (.iconst (-1), 1) := by decide +kernel
theorem dX0_addBare_21 : decode cX0_addBare 21 = .ok (.iastore, 1) := by decide +kernel
theorem dX0_addBare_22 : decode cX0_addBare 22 = .ok (.aload_n 0, 1) := by decide +kernel
theorem dX0_addBare_23 : decode cX0_addBare 23 = .ok (.invokevirtual 62, 3) := by decide +kernel
theorem dX0_addBare_26 : decode cX0_addBare 26 = .ok (.iload_n 1, 1) := by decide +kernel
theorem dX0_addBare_27 : decode cX0_addBare 27 = .ok (.ireturn, 1) := by decide +kernel
set_option maxRecDepth 20000 in
theorem ggX0_addSprung_X0_settle : GoodIn wsX0_addSprung wsX0_settle := goodIn_r _ [11, 1, 12, 2, 13, 14, 15, 10, 16, 5, 17, 18, 19, 20, 21, 22, 23, 24, 4, 25, 26, 27, 28, 29, 30, 31, 32, 33, 34, 35, 36, 37, 38, 39, 40, 41, 42, 43, 44, 45, 46, 47, 48, 49, 50, 51, 52, 53, 54, 55, 56, 57] (by decide +kernel) (by decide +kernel)
set_option maxRecDepth 20000 in
theorem gX0_addSprung_X0_settle : GoodIn wsX0_addSprung (wsV RX0 62 RX0 yX0_settle wsX0_settle) := goodIn_app (goodIn_of _ (by decide +kernel)) ggX0_addSprung_X0_settle
theorem dX0_addSprung_0 : decode cX0_addSprung 0 = .ok (.aload_n 0, 1) := by decide +kernel
theorem dX0_addSprung_1 : decode cX0_addSprung 1 = .ok (.getfield 9, 3) := by decide +kernel
theorem dX0_addSprung_4 : decode cX0_addSprung 4 = .ok (.istore 4, 2) := by decide +kernel
theorem dX0_addSprung_6 : decode cX0_addSprung 6 = .ok (.aload_n 0, 1) := by decide +kernel
theorem dX0_addSprung_7 : decode cX0_addSprung 7 = .ok (.dup, 1) := by decide +kernel
theorem dX0_addSprung_8 : decode cX0_addSprung 8 = .ok (.getfield 9, 3) := by decide +kernel
theorem dX0_addSprung_11 : decode cX0_addSprung 11 = .ok (.iconst 1, 1) := by decide +kernel
theorem dX0_addSprung_12 : decode cX0_addSprung 12 = .ok (.iadd, 1) := by decide +kernel
theorem dX0_addSprung_13 : decode cX0_addSprung 13 = .ok (.putfield 9, 3) := by decide +kernel
theorem dX0_addSprung_16 : decode cX0_addSprung 16 = .ok (.aload_n 0, 1) := by decide +kernel
theorem dX0_addSprung_17 : decode cX0_addSprung 17 = .ok (.getfield 18, 3) := by decide +kernel
theorem dX0_addSprung_20 : decode cX0_addSprung 20 = .ok (.iload 4, 2) := by decide +kernel
theorem dX0_addSprung_22 : decode cX0_addSprung 22 = .ok (.iconst (-1), 1) := by decide +kernel
theorem dX0_addSprung_23 : decode cX0_addSprung 23 = .ok (.iastore, 1) := by decide +kernel
theorem dX0_addSprung_24 : decode cX0_addSprung 24 = .ok (.aload_n 0, 1) := by decide +kernel
theorem dX0_addSprung_25 : decode cX0_addSprung 25 = .ok (.getfield 25, 3) := by decide +kernel
theorem dX0_addSprung_28 : decode cX0_addSprung 28 = .ok (.iload 4, 2) := by decide +kernel
theorem dX0_addSprung_30 : decode cX0_addSprung 30 = .ok (.iconst 1, 1) := by decide +kernel
theorem dX0_addSprung_31 : decode cX0_addSprung 31 = .ok (.bastore, 1) := by decide +kernel
theorem dX0_addSprung_32 : decode cX0_addSprung 32 = .ok (.aload_n 0, 1) := by decide +kernel
theorem dX0_addSprung_33 : decode cX0_addSprung 33 = .ok (.getfield 29, 3) := by decide +kernel
theorem dX0_addSprung_36 : decode cX0_addSprung 36 = .ok (.iload 4, 2) := by decide +kernel
theorem dX0_addSprung_38 : decode cX0_addSprung 38 = .ok (.iload_n 1, 1) := by decide +kernel
theorem dX0_addSprung_39 : decode cX0_addSprung 39 = .ok (.iastore, 1) := by decide +kernel
theorem dX0_addSprung_40 : decode cX0_addSprung 40 = .ok (.aload_n 0, 1) := by decide +kernel
theorem dX0_addSprung_41 : decode cX0_addSprung 41 = .ok (.getfield 32, 3) := by decide +kernel
theorem dX0_addSprung_44 : decode cX0_addSprung 44 = .ok (.iload 4, 2) := by decide +kernel
theorem dX0_addSprung_46 : decode cX0_addSprung 46 = .ok (.iload_n 2, 1) := by decide +kernel
theorem dX0_addSprung_47 : decode cX0_addSprung 47 = .ok (.iastore, 1) := by decide +kernel
theorem dX0_addSprung_48 : decode cX0_addSprung 48 = .ok (.aload_n 0, 1) := by decide +kernel
theorem dX0_addSprung_49 : decode cX0_addSprung 49 = .ok (.getfield 35, 3) := by decide +kernel
theorem dX0_addSprung_52 : decode cX0_addSprung 52 = .ok (.iload 4, 2) := by decide +kernel
theorem dX0_addSprung_54 : decode cX0_addSprung 54 = .ok (.iload_n 3, 1) := by decide +kernel
theorem dX0_addSprung_55 : decode cX0_addSprung 55 = .ok (.iastore, 1) := by decide +kernel
theorem dX0_addSprung_56 : decode cX0_addSprung 56 = .ok (.aload_n 0, 1) := by decide +kernel
theorem dX0_addSprung_57 : decode cX0_addSprung 57 = .ok (.invokevirtual 62, 3) := by decide +kernel
theorem dX0_addSprung_60 : decode cX0_addSprung 60 = .ok (.iload 4, 2) := by decide +kernel
theorem dX0_addSprung_62 : decode cX0_addSprung 62 = .ok (.ireturn, 1) := by decide +kernel
set_option maxRecDepth 20000 in
theorem ggX0_leadOn_X0_countSteps : GoodIn wsX0_leadOn wsX0_countSteps := goodIn_r _ [8, 1, 9, 10, 11, 7, 12, 2, 44, 45, 46, 47, 48, 49, 50, 51, 52, 53, 54, 55, 56, 57, 58, 59] (by decide +kernel) (by decide +kernel)
set_option maxRecDepth 20000 in
theorem gX0_leadOn_X0_countSteps : GoodIn wsX0_leadOn (wsV RX0 65 RX0 yX0_countSteps wsX0_countSteps) := goodIn_app (goodIn_of _ (by decide +kernel)) ggX0_leadOn_X0_countSteps
set_option maxRecDepth 20000 in
theorem ggX0_leadOn_X0_settle : GoodIn wsX0_leadOn wsX0_settle := goodIn_r _ [16, 2, 3, 1, 17, 18, 19, 7, 20, 21, 22, 23, 24, 25, 26, 27, 28, 29, 30, 31, 32, 33, 34, 35, 36, 37, 38, 39, 40, 41, 42, 43, 9, 10, 11, 12, 44, 45, 46, 47, 48, 49, 50, 51, 52, 53, 54, 55, 56, 57, 58, 59] (by decide +kernel) (by decide +kernel)
set_option maxRecDepth 20000 in
theorem gX0_leadOn_X0_settle : GoodIn wsX0_leadOn (wsV RX0 62 RX0 yX0_settle wsX0_settle) := goodIn_app (goodIn_of _ (by decide +kernel)) ggX0_leadOn_X0_settle
theorem dX0_leadOn_0 : decode cX0_leadOn 0 = .ok (.aload_n 0, 1) := by decide +kernel
theorem dX0_leadOn_1 : decode cX0_leadOn 1 = .ok (.getfield 18, 3) := by decide +kernel
theorem dX0_leadOn_4 : decode cX0_leadOn 4 = .ok (.iload_n 1, 1) := by decide +kernel
theorem dX0_leadOn_5 : decode cX0_leadOn 5 = .ok (.iload_n 2, 1) := by decide +kernel
theorem dX0_leadOn_6 : decode cX0_leadOn 6 = .ok (.iastore, 1) := by decide +kernel
theorem dX0_leadOn_7 : decode cX0_leadOn 7 = .ok (.iconst 0, 1) := by decide +kernel
theorem dX0_leadOn_8 : decode cX0_leadOn 8 = .ok (.istore_n 3, 1) := by decide +kernel
theorem dX0_leadOn_9 : decode cX0_leadOn 9 = .ok (.iload_n 3, 1) := by decide +kernel
theorem dX0_leadOn_10 : decode cX0_leadOn 10 = .ok (.aload_n 0, 1) := by decide +kernel
theorem dX0_leadOn_11 : decode cX0_leadOn 11 = .ok (.getfield 9, 3) := by decide +kernel
theorem dX0_leadOn_14 : decode cX0_leadOn 14 = .ok (.if_icmp .ge 20, 3) := by decide +kernel
theorem dX0_leadOn_17 : decode cX0_leadOn 17 = .ok (.aload_n 0, 1) := by decide +kernel
theorem dX0_leadOn_18 : decode cX0_leadOn 18 = .ok (.getfield 22, 3) := by decide +kernel
theorem dX0_leadOn_21 : decode cX0_leadOn 21 = .ok (.iload_n 3, 1) := by decide +kernel
theorem dX0_leadOn_22 : decode cX0_leadOn 22 = .ok (.aload_n 0, 1) := by decide +kernel
theorem dX0_leadOn_23 : decode cX0_leadOn 23 = .ok (.iload_n 3, 1) := by decide +kernel
theorem dX0_leadOn_24 : decode cX0_leadOn 24 = .ok (.invokevirtual 65, 3) := by decide +kernel
theorem dX0_leadOn_27 : decode cX0_leadOn 27 = .ok (.iastore, 1) := by decide +kernel
theorem dX0_leadOn_28 : decode cX0_leadOn 28 = .ok (.iinc 3 1, 3) := by decide +kernel
theorem dX0_leadOn_31 : decode cX0_leadOn 31 = .ok (.goto (-22), 3) := by decide +kernel
theorem dX0_leadOn_34 : decode cX0_leadOn 34 = .ok (.aload_n 0, 1) := by decide +kernel
theorem dX0_leadOn_35 : decode cX0_leadOn 35 = .ok (.invokevirtual 62, 3) := by decide +kernel
theorem dX0_leadOn_38 : decode cX0_leadOn 38 = .ok (.return_, 1) := by decide +kernel
set_option maxRecDepth 20000 in
theorem ggX0_toggleDelta_X0_settle : GoodIn wsX0_toggleDelta wsX0_settle := goodIn_r _ [6, 7, 8, 9, 10, 11, 12, 5, 13, 14, 15, 16, 17, 18, 19, 20, 21, 22, 23, 24, 25, 26, 27, 1, 28, 29, 30, 31, 32, 33, 34, 35, 36, 37, 38, 39, 40, 41, 42, 43, 44, 45, 46, 47, 48, 49, 50, 51, 52, 53, 54, 55] (by decide +kernel) (by decide +kernel)
set_option maxRecDepth 20000 in
theorem gX0_toggleDelta_X0_settle : GoodIn wsX0_toggleDelta (wsV RX0 62 RX0 yX0_settle wsX0_settle) := goodIn_app (goodIn_of _ (by decide +kernel)) ggX0_toggleDelta_X0_settle
theorem dX0_toggleDelta_0 : decode cX0_toggleDelta 0 = .ok (.aload_n 0, 1) := by decide +kernel
theorem dX0_toggleDelta_1 : decode cX0_toggleDelta 1 = .ok (.getfield 38, 3) := by decide +kernel
theorem dX0_toggleDelta_4 : decode cX0_toggleDelta 4 = .ok (.iload_n 1, 1) := by decide +kernel
theorem dX0_toggleDelta_5 : decode cX0_toggleDelta 5 = .ok (.aload_n 0, 1) := by decide +kernel
theorem dX0_toggleDelta_6 : decode cX0_toggleDelta 6 = .ok (.getfield 38, 3) := by decide +kernel
theorem dX0_toggleDelta_9 : decode cX0_toggleDelta 9 = .ok (.iload_n 1, 1) := by decide +kernel
theorem dX0_toggleDelta_10 : decode cX0_toggleDelta 10 = .ok (.baload, 1) := by decide +kernel
theorem dX0_toggleDelta_11 : decode cX0_toggleDelta 11 = .ok (.ifCond .ne 7, 3) := by decide +kernel
theorem dX0_toggleDelta_14 : decode cX0_toggleDelta 14 = .ok (.iconst 1, 1) := by decide +kernel
theorem dX0_toggleDelta_15 : decode cX0_toggleDelta 15 = .ok (.goto 4, 3) := by decide +kernel
theorem dX0_toggleDelta_18 : decode cX0_toggleDelta 18 = .ok (.iconst 0, 1) := by decide +kernel
theorem dX0_toggleDelta_19 : decode cX0_toggleDelta 19 = .ok (.bastore, 1) := by decide +kernel
theorem dX0_toggleDelta_20 : decode cX0_toggleDelta 20 = .ok (.aload_n 0, 1) := by decide +kernel
theorem dX0_toggleDelta_21 : decode cX0_toggleDelta 21 = .ok (.invokevirtual 62, 3) := by decide +kernel
theorem dX0_toggleDelta_24 : decode cX0_toggleDelta 24 = .ok (.return_, 1) := by decide +kernel
set_option maxRecDepth 20000 in
theorem ggX0_useRule_X0_settle : GoodIn wsX0_useRule wsX0_settle := goodIn_r _ [6, 7, 8, 9, 10, 11, 12, 5, 13, 14, 15, 16, 17, 18, 19, 20, 21, 1, 22, 23, 24, 25, 26, 27, 28, 29, 30, 31, 32, 33, 34, 35, 36, 37, 38, 39, 40, 41, 42, 43, 44, 45, 46, 47, 48, 49, 50, 51, 52, 53, 54, 55] (by decide +kernel) (by decide +kernel)
set_option maxRecDepth 20000 in
theorem gX0_useRule_X0_settle : GoodIn wsX0_useRule (wsV RX0 62 RX0 yX0_settle wsX0_settle) := goodIn_app (goodIn_of _ (by decide +kernel)) ggX0_useRule_X0_settle
theorem dX0_useRule_0 : decode cX0_useRule 0 = .ok (.aload_n 0, 1) := by decide +kernel
theorem dX0_useRule_1 : decode cX0_useRule 1 = .ok (.iload_n 1, 1) := by decide +kernel
theorem dX0_useRule_2 : decode cX0_useRule 2 = .ok (.putfield 15, 3) := by decide +kernel
theorem dX0_useRule_5 : decode cX0_useRule 5 = .ok (.aload_n 0, 1) := by decide +kernel
theorem dX0_useRule_6 : decode cX0_useRule 6 = .ok (.invokevirtual 62, 3) := by decide +kernel
theorem dX0_useRule_9 : decode cX0_useRule 9 = .ok (.return_, 1) := by decide +kernel
set_option maxRecDepth 20000 in
theorem ggX0_dryUp_X0_settle : GoodIn wsX0_dryUp wsX0_settle := goodIn_r _ [6, 7, 8, 9, 10, 11, 12, 5, 13, 1, 14, 15, 16, 17, 18, 19, 20, 21, 22, 23, 24, 25, 26, 27, 28, 29, 30, 31, 32, 33, 34, 35, 36, 37, 38, 39, 40, 41, 42, 43, 44, 45, 46, 47, 48, 49, 50, 51, 52, 53, 54, 55] (by decide +kernel) (by decide +kernel)
set_option maxRecDepth 20000 in
theorem gX0_dryUp_X0_settle : GoodIn wsX0_dryUp (wsV RX0 62 RX0 yX0_settle wsX0_settle) := goodIn_app (goodIn_of _ (by decide +kernel)) ggX0_dryUp_X0_settle
theorem dX0_dryUp_0 : decode cX0_dryUp 0 = .ok (.aload_n 0, 1) := by decide +kernel
theorem dX0_dryUp_1 : decode cX0_dryUp 1 = .ok (.getfield 32, 3) := by decide +kernel
theorem dX0_dryUp_4 : decode cX0_dryUp 4 = .ok (.iload_n 1, 1) := by decide +kernel
theorem dX0_dryUp_5 : decode cX0_dryUp 5 = .ok (.iconst 0, 1) := by decide +kernel
theorem dX0_dryUp_6 : decode cX0_dryUp 6 = .ok (.iastore, 1) := by decide +kernel
theorem dX0_dryUp_7 : decode cX0_dryUp 7 = .ok (.aload_n 0, 1) := by decide +kernel
theorem dX0_dryUp_8 : decode cX0_dryUp 8 = .ok (.invokevirtual 62, 3) := by decide +kernel
theorem dX0_dryUp_11 : decode cX0_dryUp 11 = .ok (.return_, 1) := by decide +kernel
set_option maxRecDepth 20000 in
theorem ggX0_swellFor_X0_settle : GoodIn wsX0_swellFor wsX0_settle := goodIn_r _ [15, 1, 16, 17, 18, 19, 20, 14, 21, 2, 22, 23, 24, 25, 26, 27, 28, 29, 30, 31, 32, 33, 34, 35, 36, 37, 38, 39, 8, 9, 6, 10, 40, 41, 42, 43, 44, 45, 46, 47, 48, 49, 50, 51, 52, 53, 54, 55, 56, 57, 58, 59] (by decide +kernel) (by decide +kernel)
set_option maxRecDepth 20000 in
theorem gX0_swellFor_X0_settle : GoodIn wsX0_swellFor (wsV RX0 62 RX0 yX0_settle wsX0_settle) := goodIn_app (goodIn_of _ (by decide +kernel)) ggX0_swellFor_X0_settle
theorem dX0_swellFor_0 : decode cX0_swellFor 0 = .ok (.iconst 0, 1) := by decide +kernel
theorem dX0_swellFor_1 : decode cX0_swellFor 1 = .ok (.istore_n 2, 1) := by decide +kernel
theorem dX0_swellFor_2 : decode cX0_swellFor 2 = .ok (.iload_n 2, 1) := by decide +kernel
theorem dX0_swellFor_3 : decode cX0_swellFor 3 = .ok (.aload_n 0, 1) := by decide +kernel
theorem dX0_swellFor_4 : decode cX0_swellFor 4 = .ok (.getfield 9, 3) := by decide +kernel
theorem dX0_swellFor_7 : decode cX0_swellFor 7 = .ok (.if_icmp .ge 41, 3) := by decide +kernel
theorem dX0_swellFor_10 : decode cX0_swellFor 10 = .ok (.aload_n 0, 1) := by decide +kernel
theorem dX0_swellFor_11 : decode cX0_swellFor 11 = .ok (.getfield 32, 3) := by decide +kernel
theorem dX0_swellFor_14 : decode cX0_swellFor 14 = .ok (.iload_n 2, 1) := by decide +kernel
theorem dX0_swellFor_15 : decode cX0_swellFor 15 = .ok (.iaload, 1) := by decide +kernel
theorem dX0_swellFor_16 : decode cX0_swellFor 16 = .ok (.iload_n 1, 1) := by decide +kernel
theorem dX0_swellFor_17 : decode cX0_swellFor 17 = .ok (.aload_n 0, 1) := by decide +kernel
theorem dX0_swellFor_18 : decode cX0_swellFor 18 = .ok (.getfield 35, 3) := by decide +kernel
theorem dX0_swellFor_21 : decode cX0_swellFor 21 = .ok (.iload_n 2, 1) := by decide +kernel
theorem dX0_swellFor_22 : decode cX0_swellFor 22 = .ok (.iaload, 1) := by decide +kernel
theorem dX0_swellFor_23 : decode cX0_swellFor 23 = .ok (.imul, 1) := by decide +kernel
theorem dX0_swellFor_24 : decode cX0_swellFor 24 = .ok (.iadd, 1) := by decide +kernel
theorem dX0_swellFor_25 : decode cX0_swellFor 25 = .ok (.istore_n 3, 1) := by decide +kernel
theorem dX0_swellFor_26 : decode cX0_swellFor 26 = .ok (.aload_n 0, 1) := by decide +kernel
theorem dX0_swellFor_27 : decode cX0_swellFor 27 = .ok (.getfield 32, 3) := by decide +kernel
theorem dX0_swellFor_30 : decode cX0_swellFor 30 = .ok (.iload_n 2, 1) := by decide +kernel
theorem dX0_swellFor_31 : decode cX0_swellFor 31 = .ok (.iconst 0, 1) := by decide +kernel
theorem dX0_swellFor_32 : decode cX0_swellFor 32 = .ok (.bipush 99, 2) := by decide +kernel
theorem dX0_swellFor_34 : decode cX0_swellFor 34 = .ok (.iload_n 3, 1) := by decide +kernel
theorem dX0_swellFor_35 : decode cX0_swellFor 35 = .ok (.invokestatic 69, 3) := by decide +kernel
theorem dX0_swellFor_38 : decode cX0_swellFor 38 = .ok (.invokestatic 75, 3) := by decide +kernel
theorem dX0_swellFor_41 : decode cX0_swellFor 41 = .ok (.iastore, 1) := by decide +kernel
theorem dX0_swellFor_42 : decode cX0_swellFor 42 = .ok (.iinc 2 1, 3) := by decide +kernel
theorem dX0_swellFor_45 : decode cX0_swellFor 45 = .ok (.goto (-43), 3) := by decide +kernel
theorem dX0_swellFor_48 : decode cX0_swellFor 48 = .ok (.aload_n 0, 1) := by decide +kernel
theorem dX0_swellFor_49 : decode cX0_swellFor 49 = .ok (.invokevirtual 62, 3) := by decide +kernel
theorem dX0_swellFor_52 : decode cX0_swellFor 52 = .ok (.return_, 1) := by decide +kernel
theorem dX0_takeOver_0 : decode cX0_takeOver 0 = .ok (.aload_n 0, 1) := by decide +kernel
theorem dX0_takeOver_1 : decode cX0_takeOver 1 = .ok (.aload_n 1, 1) := by decide +kernel
theorem dX0_takeOver_2 : decode cX0_takeOver 2 = .ok (.getfield 9, 3) := by decide +kernel
theorem dX0_takeOver_5 : decode cX0_takeOver 5 = .ok (.putfield 9, 3) := by decide +kernel
theorem dX0_takeOver_8 : decode cX0_takeOver 8 = .ok (.aload_n 0, 1) := by decide +kernel
theorem dX0_takeOver_9 : decode cX0_takeOver 9 = .ok (.aload_n 1, 1) := by decide +kernel
theorem dX0_takeOver_10 : decode cX0_takeOver 10 = .ok (.getfield 15, 3) := by decide +kernel
theorem dX0_takeOver_13 : decode cX0_takeOver 13 = .ok (.putfield 15, 3) := by decide +kernel
theorem dX0_takeOver_16 : decode cX0_takeOver 16 = .ok (.iconst 0, 1) := by decide +kernel
theorem dX0_takeOver_17 : decode cX0_takeOver 17 = .ok (.istore_n 2, 1) := by decide +kernel
theorem dX0_takeOver_18 : decode cX0_takeOver 18 = .ok (.iload_n 2, 1) := by decide +kernel
theorem dX0_takeOver_19 : decode cX0_takeOver 19 = .ok (.aload_n 0, 1) := by decide +kernel
theorem dX0_takeOver_20 : decode cX0_takeOver 20 = .ok (.getfield 9, 3) := by decide +kernel
theorem dX0_takeOver_23 : decode cX0_takeOver 23 = .ok (.if_icmp .ge 93, 3) := by decide +kernel
theorem dX0_takeOver_26 : decode cX0_takeOver 26 = .ok (.aload_n 0, 1) := by decide +kernel
theorem dX0_takeOver_27 : decode cX0_takeOver 27 = .ok (.getfield 18, 3) := by decide +kernel
theorem dX0_takeOver_30 : decode cX0_takeOver 30 = .ok (.iload_n 2, 1) := by decide +kernel
theorem dX0_takeOver_31 : decode cX0_takeOver 31 = .ok (.aload_n 1, 1) := by decide +kernel
theorem dX0_takeOver_32 : decode cX0_takeOver 32 = .ok (.getfield 18, 3) := by decide +kernel
theorem dX0_takeOver_35 : decode cX0_takeOver 35 = .ok (.iload_n 2, 1) := by decide +kernel
theorem dX0_takeOver_36 : decode cX0_takeOver 36 = .ok (.iaload, 1) := by decide +kernel
theorem dX0_takeOver_37 : decode cX0_takeOver 37 = .ok (.iastore, 1) := by decide +kernel
theorem dX0_takeOver_38 : decode cX0_takeOver 38 = .ok (.aload_n 0, 1) := by decide +kernel
theorem dX0_takeOver_39 : decode cX0_takeOver 39 = .ok (.getfield 22, 3) := by decide +kernel
theorem dX0_takeOver_42 : decode cX0_takeOver 42 = .ok (.iload_n 2, 1) := by decide +kernel
theorem dX0_takeOver_43 : decode cX0_takeOver 43 = .ok (.aload_n 1, 1) := by decide +kernel
theorem dX0_takeOver_44 : decode cX0_takeOver 44 = .ok (.getfield 22, 3) := by decide +kernel
theorem dX0_takeOver_47 : decode cX0_takeOver 47 = .ok (.iload_n 2, 1) := by decide +kernel
theorem dX0_takeOver_48 : decode cX0_takeOver 48 = .ok (.iaload, 1) := by decide +kernel
theorem dX0_takeOver_49 : decode cX0_takeOver 49 = .ok (.iastore, 1) := by decide +kernel
theorem dX0_takeOver_50 : decode cX0_takeOver 50 = .ok (.aload_n 0, 1) := by decide +kernel
theorem dX0_takeOver_51 : decode cX0_takeOver 51 = .ok (.getfield 25, 3) := by decide +kernel
theorem dX0_takeOver_54 : decode cX0_takeOver 54 = .ok (.iload_n 2, 1) := by decide +kernel
theorem dX0_takeOver_55 : decode cX0_takeOver 55 = .ok (.aload_n 1, 1) := by decide +kernel
theorem dX0_takeOver_56 : decode cX0_takeOver 56 = .ok (.getfield 25, 3) := by decide +kernel
theorem dX0_takeOver_59 : decode cX0_takeOver 59 = .ok (.iload_n 2, 1) := by decide +kernel
theorem dX0_takeOver_60 : decode cX0_takeOver 60 = .ok (.baload, 1) := by decide +kernel
theorem dX0_takeOver_61 : decode cX0_takeOver 61 = .ok (.bastore, 1) := by decide +kernel
theorem dX0_takeOver_62 : decode cX0_takeOver 62 = .ok (.aload_n 0, 1) := by decide +kernel
theorem dX0_takeOver_63 : decode cX0_takeOver 63 = .ok (.getfield 29, 3) := by decide +kernel
theorem dX0_takeOver_66 : decode cX0_takeOver 66 = .ok (.iload_n 2, 1) := by decide +kernel
theorem dX0_takeOver_67 : decode cX0_takeOver 67 = .ok (.aload_n 1, 1) := by decide +kernel
theorem dX0_takeOver_68 : decode cX0_takeOver 68 = .ok (.getfield 29, 3) := by decide +kernel
theorem dX0_takeOver_71 : decode cX0_takeOver 71 = .ok (.iload_n 2, 1) := by decide +kernel
theorem dX0_takeOver_72 : decode cX0_takeOver 72 = .ok (.iaload, 1) := by decide +kernel
theorem dX0_takeOver_73 : decode cX0_takeOver 73 = .ok (.iastore, 1) := by decide +kernel
theorem dX0_takeOver_74 : decode cX0_takeOver 74 = .ok (.aload_n 0, 1) := by decide +kernel
theorem dX0_takeOver_75 : decode cX0_takeOver 75 = .ok (.getfield 32, 3) := by decide +kernel
theorem dX0_takeOver_78 : decode cX0_takeOver 78 = .ok (.iload_n 2, 1) := by decide +kernel
theorem dX0_takeOver_79 : decode cX0_takeOver 79 = .ok (.aload_n 1, 1) := by decide +kernel
theorem dX0_takeOver_80 : decode cX0_takeOver 80 = .ok (.getfield 32, 3) := by decide +kernel
theorem dX0_takeOver_83 : decode cX0_takeOver 83 = .ok (.iload_n 2, 1) := by decide +kernel
theorem dX0_takeOver_84 : decode cX0_takeOver 84 = .ok (.iaload, 1) := by decide +kernel
theorem dX0_takeOver_85 : decode cX0_takeOver 85 = .ok (.iastore, 1) := by decide +kernel
theorem dX0_takeOver_86 : decode cX0_takeOver 86 = .ok (.aload_n 0, 1) := by decide +kernel
theorem dX0_takeOver_87 : decode cX0_takeOver 87 = .ok (.getfield 35, 3) := by decide +kernel
theorem dX0_takeOver_90 : decode cX0_takeOver 90 = .ok (.iload_n 2, 1) := by decide +kernel
theorem dX0_takeOver_91 : decode cX0_takeOver 91 = .ok (.aload_n 1, 1) := by decide +kernel
theorem dX0_takeOver_92 : decode cX0_takeOver 92 = .ok (.getfield 35, 3) := by decide +kernel
theorem dX0_takeOver_95 : decode cX0_takeOver 95 = .ok (.iload_n 2, 1) := by decide +kernel
theorem dX0_takeOver_96 : decode cX0_takeOver 96 = .ok (.iaload, 1) := by decide +kernel
theorem dX0_takeOver_97 : decode cX0_takeOver 97 = .ok (.iastore, 1) := by decide +kernel
theorem dX0_takeOver_98 : decode cX0_takeOver 98 = .ok (.aload_n 0, 1) := by decide +kernel
theorem dX0_takeOver_99 : decode cX0_takeOver 99 = .ok (.getfield 38, 3) := by decide +kernel
theorem dX0_takeOver_102 : decode cX0_takeOver 102 = .ok (.iload_n 2, 1) := by decide +kernel
theorem dX0_takeOver_103 : decode cX0_takeOver 103 = .ok (.aload_n 1, 1) := by decide +kernel
theorem dX0_takeOver_104 : decode cX0_takeOver 104 = .ok (.getfield 38, 3) := by decide +kernel
theorem dX0_takeOver_107 : decode cX0_takeOver 107 = .ok (.iload_n 2, 1) := by decide +kernel
theorem dX0_takeOver_108 : decode cX0_takeOver 108 = .ok (.baload, 1) := by decide +kernel
theorem dX0_takeOver_109 : decode cX0_takeOver 109 = .ok (.bastore, 1) := by decide +kernel
theorem dX0_takeOver_110 : decode cX0_takeOver 110 = .ok (.iinc 2 1, 3) := by decide +kernel
theorem dX0_takeOver_113 : decode cX0_takeOver 113 = .ok (.goto (-95), 3) := by decide +kernel
theorem dX0_takeOver_116 : decode cX0_takeOver 116 = .ok (.return_, 1) := by decide +kernel
theorem dX0_countNamed_0 : decode cX0_countNamed 0 = .ok (.iconst 0, 1) := by decide +kernel
theorem dX0_countNamed_1 : decode cX0_countNamed 1 = .ok (.istore_n 2, 1) := by decide +kernel
theorem dX0_countNamed_2 : decode cX0_countNamed 2 = .ok (.iconst 0, 1) := by decide +kernel
theorem dX0_countNamed_3 : decode cX0_countNamed 3 = .ok (.istore_n 3, 1) := by decide +kernel
theorem dX0_countNamed_4 : decode cX0_countNamed 4 = .ok (.iload_n 3, 1) := by decide +kernel
theorem dX0_countNamed_5 : decode cX0_countNamed 5 = .ok (.aload_n 0, 1) := by decide +kernel
theorem dX0_countNamed_6 : decode cX0_countNamed 6 = .ok (.getfield 9, 3) := by decide +kernel
theorem dX0_countNamed_9 : decode cX0_countNamed 9 = .ok (.if_icmp .ge 22, 3) := by decide +kernel
theorem dX0_countNamed_12 : decode cX0_countNamed 12 = .ok (.aload_n 0, 1) := by decide +kernel
theorem dX0_countNamed_13 : decode cX0_countNamed 13 = .ok (.getfield 47, 3) := by decide +kernel
theorem dX0_countNamed_16 : decode cX0_countNamed 16 = .ok (.iload_n 3, 1) := by decide +kernel
theorem dX0_countNamed_17 : decode cX0_countNamed 17 = .ok (.iaload, 1) := by decide +kernel
theorem dX0_countNamed_18 : decode cX0_countNamed 18 = .ok (.iload_n 1, 1) := by decide +kernel
theorem dX0_countNamed_19 : decode cX0_countNamed 19 = .ok (.if_icmp .ne 6, 3) := by decide +kernel
theorem dX0_countNamed_22 : decode cX0_countNamed 22 = .ok (.iinc 2 1, 3) := by decide +kernel
theorem dX0_countNamed_25 : decode cX0_countNamed 25 = .ok (.iinc 3 1, 3) := by decide +kernel
theorem dX0_countNamed_28 : decode cX0_countNamed 28 = .ok (.goto (-24), 3) := by decide +kernel
theorem dX0_countNamed_31 : decode cX0_countNamed 31 = .ok (.iload_n 2, 1) := by decide +kernel
theorem dX0_countNamed_32 : decode cX0_countNamed 32 = .ok (.ireturn, 1) := by decide +kernel
theorem dX0_countNamedOtherThan_0 : decode cX0_countNamedOtherThan 0 = .ok (.iconst 0, 1) := by decide +kernel
theorem dX0_countNamedOtherThan_1 : decode cX0_countNamedOtherThan 1 = .ok (.istore_n 2, 1) := by decide +kernel
theorem dX0_countNamedOtherThan_2 : decode cX0_countNamedOtherThan 2 = .ok (.iconst 0, 1) := by decide +kernel
theorem dX0_countNamedOtherThan_3 : decode cX0_countNamedOtherThan 3 = .ok (.istore_n 3, 1) := by decide +kernel
theorem dX0_countNamedOtherThan_4 : decode cX0_countNamedOtherThan 4 = .ok (.iload_n 3, 1) := by decide +kernel
theorem dX0_countNamedOtherThan_5 : decode cX0_countNamedOtherThan 5 = .ok (.aload_n 0, 1) := by decide +kernel
theorem dX0_countNamedOtherThan_6 : decode cX0_countNamedOtherThan 6 = .ok (.getfield 9, 3) := by decide +kernel
theorem dX0_countNamedOtherThan_9 : decode cX0_countNamedOtherThan 9 = .ok (.if_icmp .ge 27, 3) := by decide +kernel
theorem dX0_countNamedOtherThan_12 : decode cX0_countNamedOtherThan 12 = .ok (.aload_n 0, 1) := by decide +kernel
theorem dX0_countNamedOtherThan_13 : decode cX0_countNamedOtherThan 13 = .ok (.getfield 47, 3) := by decide +kernel
theorem dX0_countNamedOtherThan_16 : decode cX0_countNamedOtherThan 16 = .ok (.iload_n 3, 1) := by decide +kernel
theorem dX0_countNamedOtherThan_17 : decode cX0_countNamedOtherThan 17 = .ok (.iaload, 1) := by decide +kernel
theorem dX0_countNamedOtherThan_18 : decode cX0_countNamedOtherThan 18 = .ok (.aload_n 1, 1) := by decide +kernel
theorem dX0_countNamedOtherThan_19 : decode cX0_countNamedOtherThan 19 = .ok (.getfield 47, 3) := by decide +kernel
theorem dX0_countNamedOtherThan_22 : decode cX0_countNamedOtherThan 22 = .ok (.iload_n 3, 1) := by decide +kernel
theorem dX0_countNamedOtherThan_23 : decode cX0_countNamedOtherThan 23 = .ok (.iaload, 1) := by decide +kernel
theorem dX0_countNamedOtherThan_24 : decode cX0_countNamedOtherThan 24 = .ok (.if_icmp .eq 6, 3) := by decide +kernel
theorem dX0_countNamedOtherThan_27 : decode cX0_countNamedOtherThan 27 = .ok (.iinc 2 1, 3) := by decide +kernel
theorem dX0_countNamedOtherThan_30 : decode cX0_countNamedOtherThan 30 = .ok (.iinc 3 1, 3) := by decide +kernel
theorem dX0_countNamedOtherThan_33 : decode cX0_countNamedOtherThan 33 = .ok (.goto (-29), 3) := by decide +kernel
theorem dX0_countNamedOtherThan_36 : decode cX0_countNamedOtherThan 36 = .ok (.iload_n 2, 1) := by decide +kernel
theorem dX0_countNamedOtherThan_37 : decode cX0_countNamedOtherThan 37 = .ok (.ireturn, 1) := by decide +kernel
set_option maxRecDepth 20000 in
theorem ggX0_flowsTo_X0_isPlace : GoodIn wsX0_flowsTo wsX0_isPlace := goodIn_r _ [6, 7, 8, 9, 10, 11, 12, 13, 14, 15, 16, 17, 18, 19, 20, 21, 22, 23] (by decide +kernel) (by decide +kernel)
set_option maxRecDepth 20000 in
theorem gX0_flowsTo_X0_isPlace : GoodIn wsX0_flowsTo (wsV RX0 78 RX0 yX0_isPlace wsX0_isPlace) := goodIn_app (goodIn_of _ (by decide +kernel)) ggX0_flowsTo_X0_isPlace
theorem dX0_flowsTo_0 : decode cX0_flowsTo 0 = .ok (.aload_n 0, 1) := by decide +kernel
theorem dX0_flowsTo_1 : decode cX0_flowsTo 1 = .ok (.getfield 18, 3) := by decide +kernel
theorem dX0_flowsTo_4 : decode cX0_flowsTo 4 = .ok (.iload_n 1, 1) := by decide +kernel
theorem dX0_flowsTo_5 : decode cX0_flowsTo 5 = .ok (.iaload, 1) := by decide +kernel
theorem dX0_flowsTo_6 : decode cX0_flowsTo 6 = .ok (.istore_n 3, 1) := by decide +kernel
theorem dX0_flowsTo_7 : decode cX0_flowsTo 7 = .ok (.iconst 0, 1) := by decide +kernel
theorem dX0_flowsTo_8 : decode cX0_flowsTo 8 = .ok (.istore 4, 2) := by decide +kernel
theorem dX0_flowsTo_10 : decode cX0_flowsTo 10 = .ok (.iload 4, 2) := by decide +kernel
theorem dX0_flowsTo_12 : decode cX0_flowsTo 12 = .ok (.bipush 16, 2) := by decide +kernel
theorem dX0_flowsTo_14 : decode cX0_flowsTo 14 = .ok (.if_icmp .ge 31, 3) := by decide +kernel
theorem dX0_flowsTo_17 : decode cX0_flowsTo 17 = .ok (.aload_n 0, 1) := by decide +kernel
theorem dX0_flowsTo_18 : decode cX0_flowsTo 18 = .ok (.iload_n 3, 1) := by decide +kernel
theorem dX0_flowsTo_19 : decode cX0_flowsTo 19 = .ok (.invokevirtual 78, 3) := by decide +kernel
theorem dX0_flowsTo_22 : decode cX0_flowsTo 22 = .ok (.ifCond .eq 23, 3) := by decide +kernel
theorem dX0_flowsTo_25 : decode cX0_flowsTo 25 = .ok (.iload_n 3, 1) := by decide +kernel
theorem dX0_flowsTo_26 : decode cX0_flowsTo 26 = .ok (.iload_n 2, 1) := by decide +kernel
theorem dX0_flowsTo_27 : decode cX0_flowsTo 27 = .ok (.if_icmp .ne 5, 3) := by decide +kernel
theorem dX0_flowsTo_30 : decode cX0_flowsTo 30 = .ok (.iconst 1, 1) := by decide +kernel
theorem dX0_flowsTo_31 : decode cX0_flowsTo 31 = .ok (.ireturn, 1) := by decide +kernel
theorem dX0_flowsTo_32 : decode cX0_flowsTo 32 = .ok (.aload_n 0, 1) := by decide +kernel
theorem dX0_flowsTo_33 : decode cX0_flowsTo 33 = .ok (.getfield 18, 3) := by decide +kernel
theorem dX0_flowsTo_36 : decode cX0_flowsTo 36 = .ok (.iload_n 3, 1) := by decide +kernel
theorem dX0_flowsTo_37 : decode cX0_flowsTo 37 = .ok (.iaload, 1) := by decide +kernel
theorem dX0_flowsTo_38 : decode cX0_flowsTo 38 = .ok (.istore_n 3, 1) := by decide +kernel
theorem dX0_flowsTo_39 : decode cX0_flowsTo 39 = .ok (.iinc 4 1, 3) := by decide +kernel
theorem dX0_flowsTo_42 : decode cX0_flowsTo 42 = .ok (.goto (-32), 3) := by decide +kernel
theorem dX0_flowsTo_45 : decode cX0_flowsTo 45 = .ok (.iconst 0, 1) := by decide +kernel
theorem dX0_flowsTo_46 : decode cX0_flowsTo 46 = .ok (.ireturn, 1) := by decide +kernel
set_option maxRecDepth 20000 in
theorem ggX0_lastOnWay_X0_isPlace : GoodIn wsX0_lastOnWay wsX0_isPlace := goodIn_r _ [6, 7, 8, 9, 10, 11, 12, 13, 14, 15, 16, 17, 18, 19, 20, 21, 22, 23] (by decide +kernel) (by decide +kernel)
set_option maxRecDepth 20000 in
theorem gX0_lastOnWay_X0_isPlace : GoodIn wsX0_lastOnWay (wsV RX0 78 RX0 yX0_isPlace wsX0_isPlace) := goodIn_app (goodIn_of _ (by decide +kernel)) ggX0_lastOnWay_X0_isPlace
theorem dX0_lastOnWay_0 : decode cX0_lastOnWay 0 = .ok (.iload_n 1, 1) := by decide +kernel
theorem dX0_lastOnWay_1 : decode cX0_lastOnWay 1 = .ok (.istore_n 2, 1) := by decide +kernel
theorem dX0_lastOnWay_2 : decode cX0_lastOnWay 2 = .ok (.iconst 0, 1) := by decide +kernel
theorem dX0_lastOnWay_3 : decode cX0_lastOnWay 3 = .ok (.istore_n 3, 1) := by decide +kernel
theorem dX0_lastOnWay_4 : decode cX0_lastOnWay 4 = .ok (.iload_n 3, 1) := by decide +kernel
theorem dX0_lastOnWay_5 : decode cX0_lastOnWay 5 = .ok (.bipush 16, 2) := by decide +kernel
theorem dX0_lastOnWay_7 : decode cX0_lastOnWay 7 = .ok (.if_icmp .ge 29, 3) := by decide +kernel
theorem dX0_lastOnWay_10 : decode cX0_lastOnWay 10 = .ok (.aload_n 0, 1) := by decide +kernel
theorem dX0_lastOnWay_11 : decode cX0_lastOnWay 11 = .ok (.aload_n 0, 1) := by decide +kernel
theorem dX0_lastOnWay_12 : decode cX0_lastOnWay 12 = .ok (.getfield 18, 3) := by decide +kernel
theorem dX0_lastOnWay_15 : decode cX0_lastOnWay 15 = .ok (.iload_n 2, 1) := by decide +kernel
theorem dX0_lastOnWay_16 : decode cX0_lastOnWay 16 = .ok (.iaload, 1) := by decide +kernel
theorem dX0_lastOnWay_17 : decode cX0_lastOnWay 17 = .ok (.invokevirtual 78, 3) := by decide +kernel
theorem dX0_lastOnWay_20 : decode cX0_lastOnWay 20 = .ok (.ifCond .eq 16, 3) := by decide +kernel
theorem dX0_lastOnWay_23 : decode cX0_lastOnWay 23 = .ok (.aload_n 0, 1) := by decide +kernel
theorem dX0_lastOnWay_24 : decode cX0_lastOnWay 24 = .ok (.getfield 18, 3) := by decide +kernel
theorem dX0_lastOnWay_27 : decode cX0_lastOnWay 27 = .ok (.iload_n 2, 1) := by decide +kernel
theorem dX0_lastOnWay_28 : decode cX0_lastOnWay 28 = .ok (.iaload, 1) := by decide +kernel
theorem dX0_lastOnWay_29 : decode cX0_lastOnWay 29 = .ok (.istore_n 2, 1) := by decide +kernel
theorem dX0_lastOnWay_30 : decode cX0_lastOnWay 30 = .ok (.iinc 3 1, 3) := by decide +kernel
theorem dX0_lastOnWay_33 : decode cX0_lastOnWay 33 = .ok (.goto (-29), 3) := by decide +kernel
theorem dX0_lastOnWay_36 : decode cX0_lastOnWay 36 = .ok (.iload_n 2, 1) := by decide +kernel
theorem dX0_lastOnWay_37 : decode cX0_lastOnWay 37 = .ok (.ireturn, 1) := by decide +kernel
set_option maxRecDepth 20000 in
theorem ggX0_firstCommon_X0_isPlace : GoodIn wsX0_firstCommon wsX0_isPlace := goodIn_r _ [6, 7, 12, 13, 14, 15, 16, 17, 18, 19, 20, 21, 22, 23, 24, 25, 26, 27] (by decide +kernel) (by decide +kernel)
set_option maxRecDepth 20000 in
theorem gX0_firstCommon_X0_isPlace : GoodIn wsX0_firstCommon (wsV RX0 78 RX0 yX0_isPlace wsX0_isPlace) := goodIn_app (goodIn_of _ (by decide +kernel)) ggX0_firstCommon_X0_isPlace
set_option maxRecDepth 20000 in
theorem ggX0_firstCommon_X0_flowsTo : GoodIn wsX0_firstCommon wsX0_flowsTo := goodIn_r _ [11, 1, 2, 3, 4, 5, 6, 7, 12, 13, 14, 15, 16, 17, 18, 19, 20, 21, 22, 23, 24, 25, 26, 27] (by decide +kernel) (by decide +kernel)
set_option maxRecDepth 20000 in
theorem gX0_firstCommon_X0_flowsTo : GoodIn wsX0_firstCommon (wsV RX0 82 RX0 yX0_flowsTo wsX0_flowsTo) := goodIn_app (goodIn_of _ (by decide +kernel)) ggX0_firstCommon_X0_flowsTo
theorem dX0_firstCommon_0 : decode cX0_firstCommon 0 = .ok (.iload_n 1, 1) := by decide +kernel
theorem dX0_firstCommon_1 : decode cX0_firstCommon 1 = .ok (.istore_n 3, 1) := by decide +kernel
theorem dX0_firstCommon_2 : decode cX0_firstCommon 2 = .ok (.iconst 0, 1) := by decide +kernel
theorem dX0_firstCommon_3 : decode cX0_firstCommon 3 = .ok (.istore 4, 2) := by decide +kernel
theorem dX0_firstCommon_5 : decode cX0_firstCommon 5 = .ok (.iload 4, 2) := by decide +kernel
theorem dX0_firstCommon_7 : decode cX0_firstCommon 7 = .ok (.bipush 16, 2) := by decide +kernel
theorem dX0_firstCommon_9 : decode cX0_firstCommon 9 = .ok (.if_icmp .ge 40, 3) := by decide +kernel
theorem dX0_firstCommon_12 : decode cX0_firstCommon 12 = .ok (.aload_n 0, 1) := by decide +kernel
theorem dX0_firstCommon_13 : decode cX0_firstCommon 13 = .ok (.iload_n 3, 1) := by decide +kernel
theorem dX0_firstCommon_14 : decode cX0_firstCommon 14 = .ok (.invokevirtual 78, 3) := by decide +kernel
theorem dX0_firstCommon_17 : decode cX0_firstCommon 17 = .ok (.ifCond .eq 32, 3) := by decide +kernel
theorem dX0_firstCommon_20 : decode cX0_firstCommon 20 = .ok (.iload_n 3, 1) := by decide +kernel
theorem dX0_firstCommon_21 : decode cX0_firstCommon 21 = .ok (.iload_n 2, 1) := by decide +kernel
theorem dX0_firstCommon_22 : decode cX0_firstCommon 22 = .ok (.if_icmp .eq 12, 3) := by decide +kernel
theorem dX0_firstCommon_25 : decode cX0_firstCommon 25 = .ok (.aload_n 0, 1) := by decide +kernel
theorem dX0_firstCommon_26 : decode cX0_firstCommon 26 = .ok (.iload_n 2, 1) := by decide +kernel
theorem dX0_firstCommon_27 : decode cX0_firstCommon 27 = .ok (.iload_n 3, 1) := by decide +kernel
theorem dX0_firstCommon_28 : decode cX0_firstCommon 28 = .ok (.invokevirtual 82, 3) := by decide +kernel
theorem dX0_firstCommon_31 : decode cX0_firstCommon 31 = .ok (.ifCond .eq 5, 3) := by decide +kernel
theorem dX0_firstCommon_34 : decode cX0_firstCommon 34 = .ok (.iload_n 3, 1) := by decide +kernel
theorem dX0_firstCommon_35 : decode cX0_firstCommon 35 = .ok (.ireturn, 1) := by decide +kernel
theorem dX0_firstCommon_36 : decode cX0_firstCommon 36 = .ok (.aload_n 0, 1) := by decide +kernel
theorem dX0_firstCommon_37 : decode cX0_firstCommon 37 = .ok (.getfield 18, 3) := by decide +kernel
theorem dX0_firstCommon_40 : decode cX0_firstCommon 40 = .ok (.iload_n 3, 1) := by decide +kernel
theorem dX0_firstCommon_41 : decode cX0_firstCommon 41 = .ok (.iaload, 1) := by decide +kernel
theorem dX0_firstCommon_42 : decode cX0_firstCommon 42 = .ok (.istore_n 3, 1) := by decide +kernel
theorem dX0_firstCommon_43 : decode cX0_firstCommon 43 = .ok (.iinc 4 1, 3) := by decide +kernel
theorem dX0_firstCommon_46 : decode cX0_firstCommon 46 = .ok (.goto (-41), 3) := by decide +kernel
theorem dX0_firstCommon_49 : decode cX0_firstCommon 49 = .ok (.iconst (-1), 1) := by decide +kernel
theorem dX0_firstCommon_50 : decode cX0_firstCommon 50 = .ok (.ireturn, 1) := by decide +kernel
set_option maxRecDepth 20000 in
theorem ggX0_countSteps_X0_isPlace : GoodIn wsX0_countSteps wsX0_isPlace := goodIn_r _ [6, 7, 8, 9, 10, 11, 12, 13, 14, 15, 16, 17, 18, 19, 20, 21, 22, 23] (by decide +kernel) (by decide +kernel)
set_option maxRecDepth 20000 in
theorem gX0_countSteps_X0_isPlace : GoodIn wsX0_countSteps (wsV RX0 78 RX0 yX0_isPlace wsX0_isPlace) := goodIn_app (goodIn_of _ (by decide +kernel)) ggX0_countSteps_X0_isPlace
theorem dX0_countSteps_0 : decode cX0_countSteps 0 = .ok (.aload_n 0, 1) := by decide +kernel
theorem dX0_countSteps_1 : decode cX0_countSteps 1 = .ok (.getfield 18, 3) := by decide +kernel
theorem dX0_countSteps_4 : decode cX0_countSteps 4 = .ok (.iload_n 1, 1) := by decide +kernel
theorem dX0_countSteps_5 : decode cX0_countSteps 5 = .ok (.iaload, 1) := by decide +kernel
theorem dX0_countSteps_6 : decode cX0_countSteps 6 = .ok (.istore_n 2, 1) := by decide +kernel
theorem dX0_countSteps_7 : decode cX0_countSteps 7 = .ok (.iconst 0, 1) := by decide +kernel
theorem dX0_countSteps_8 : decode cX0_countSteps 8 = .ok (.istore_n 3, 1) := by decide +kernel
theorem dX0_countSteps_9 : decode cX0_countSteps 9 = .ok (.iload_n 3, 1) := by decide +kernel
theorem dX0_countSteps_10 : decode cX0_countSteps 10 = .ok (.bipush 16, 2) := by decide +kernel
theorem dX0_countSteps_12 : decode cX0_countSteps 12 = .ok (.if_icmp .ge 24, 3) := by decide +kernel
theorem dX0_countSteps_15 : decode cX0_countSteps 15 = .ok (.aload_n 0, 1) := by decide +kernel
theorem dX0_countSteps_16 : decode cX0_countSteps 16 = .ok (.iload_n 2, 1) := by decide +kernel
theorem dX0_countSteps_17 : decode cX0_countSteps 17 = .ok (.invokevirtual 78, 3) := by decide +kernel
theorem dX0_countSteps_20 : decode cX0_countSteps 20 = .ok (.ifCond .eq 16, 3) := by decide +kernel
theorem dX0_countSteps_23 : decode cX0_countSteps 23 = .ok (.iinc 3 1, 3) := by decide +kernel
theorem dX0_countSteps_26 : decode cX0_countSteps 26 = .ok (.aload_n 0, 1) := by decide +kernel
theorem dX0_countSteps_27 : decode cX0_countSteps 27 = .ok (.getfield 18, 3) := by decide +kernel
theorem dX0_countSteps_30 : decode cX0_countSteps 30 = .ok (.iload_n 2, 1) := by decide +kernel
theorem dX0_countSteps_31 : decode cX0_countSteps 31 = .ok (.iaload, 1) := by decide +kernel
theorem dX0_countSteps_32 : decode cX0_countSteps 32 = .ok (.istore_n 2, 1) := by decide +kernel
theorem dX0_countSteps_33 : decode cX0_countSteps 33 = .ok (.goto (-24), 3) := by decide +kernel
theorem dX0_countSteps_36 : decode cX0_countSteps 36 = .ok (.iload_n 3, 1) := by decide +kernel
theorem dX0_countSteps_37 : decode cX0_countSteps 37 = .ok (.ireturn, 1) := by decide +kernel
set_option maxRecDepth 20000 in
theorem ggX0_settle_X0_rise : GoodIn wsX0_settle wsX0_rise := goodIn_r _ [8, 9, 10, 11, 12, 13, 14, 15, 16, 17, 18, 19, 20, 21, 7, 22, 23, 36, 37, 38, 39, 40, 41, 42, 43, 44, 45, 46, 47, 48, 49, 50, 51] (by decide +kernel) (by decide +kernel)
set_option maxRecDepth 20000 in
theorem gX0_settle_X0_rise : GoodIn wsX0_settle (wsV RX0 86 RX0 yX0_rise wsX0_rise) := goodIn_app (goodIn_of _ (by decide +kernel)) ggX0_settle_X0_rise
set_option maxRecDepth 20000 in
theorem ggX0_settle_X0_flowOn : GoodIn wsX0_settle wsX0_flowOn := goodIn_r _ [27, 10, 11, 28, 29, 30, 31, 12, 17, 32, 33, 34, 7, 35, 1, 19, 20, 21, 22, 23, 13, 14, 15, 16, 36, 37, 38, 39, 40, 41, 42, 43, 44, 45, 46, 47, 48, 49, 50, 51] (by decide +kernel) (by decide +kernel)
set_option maxRecDepth 20000 in
theorem gX0_settle_X0_flowOn : GoodIn wsX0_settle (wsV RX0 90 RX0 yX0_flowOn wsX0_flowOn) := goodIn_app (goodIn_of _ (by decide +kernel)) ggX0_settle_X0_flowOn
theorem dX0_settle_0 : decode cX0_settle 0 = .ok (.iconst 0, 1) := by decide +kernel
theorem dX0_settle_1 : decode cX0_settle 1 = .ok (.istore_n 1, 1) := by decide +kernel
theorem dX0_settle_2 : decode cX0_settle 2 = .ok (.iload_n 1, 1) := by decide +kernel
theorem dX0_settle_3 : decode cX0_settle 3 = .ok (.aload_n 0, 1) := by decide +kernel
theorem dX0_settle_4 : decode cX0_settle 4 = .ok (.getfield 9, 3) := by decide +kernel
theorem dX0_settle_7 : decode cX0_settle 7 = .ok (.if_icmp .ge 14, 3) := by decide +kernel
theorem dX0_settle_10 : decode cX0_settle 10 = .ok (.aload_n 0, 1) := by decide +kernel
theorem dX0_settle_11 : decode cX0_settle 11 = .ok (.iload_n 1, 1) := by decide +kernel
theorem dX0_settle_12 : decode cX0_settle 12 = .ok (.invokevirtual 86, 3) := by decide +kernel
theorem dX0_settle_15 : decode cX0_settle 15 = .ok (.iinc 1 1, 3) := by decide +kernel
theorem dX0_settle_18 : decode cX0_settle 18 = .ok (.goto (-16), 3) := by decide +kernel
theorem dX0_settle_21 : decode cX0_settle 21 = .ok (.aload_n 0, 1) := by decide +kernel
theorem dX0_settle_22 : decode cX0_settle 22 = .ok (.getfield 9, 3) := by decide +kernel
theorem dX0_settle_25 : decode cX0_settle 25 = .ok (.iconst 1, 1) := by decide +kernel
theorem dX0_settle_26 : decode cX0_settle 26 = .ok (.isub, 1) := by decide +kernel
theorem dX0_settle_27 : decode cX0_settle 27 = .ok (.istore_n 1, 1) := by decide +kernel
theorem dX0_settle_28 : decode cX0_settle 28 = .ok (.iload_n 1, 1) := by decide +kernel
theorem dX0_settle_29 : decode cX0_settle 29 = .ok (.ifCond .lt 46, 3) := by decide +kernel
theorem dX0_settle_32 : decode cX0_settle 32 = .ok (.iconst 0, 1) := by decide +kernel
theorem dX0_settle_33 : decode cX0_settle 33 = .ok (.istore_n 2, 1) := by decide +kernel
theorem dX0_settle_34 : decode cX0_settle 34 = .ok (.iload_n 2, 1) := by decide +kernel
theorem dX0_settle_35 : decode cX0_settle 35 = .ok (.aload_n 0, 1) := by decide +kernel
theorem dX0_settle_36 : decode cX0_settle 36 = .ok (.getfield 9, 3) := by decide +kernel
theorem dX0_settle_39 : decode cX0_settle 39 = .ok (.if_icmp .ge 30, 3) := by decide +kernel
theorem dX0_settle_42 : decode cX0_settle 42 = .ok (.aload_n 0, 1) := by decide +kernel
theorem dX0_settle_43 : decode cX0_settle 43 = .ok (.getfield 22, 3) := by decide +kernel
theorem dX0_settle_46 : decode cX0_settle 46 = .ok (.iload_n 2, 1) := by decide +kernel
theorem dX0_settle_47 : decode cX0_settle 47 = .ok (.iaload, 1) := by decide +kernel
theorem dX0_settle_48 : decode cX0_settle 48 = .ok (.iload_n 1, 1) := by decide +kernel
theorem dX0_settle_49 : decode cX0_settle 49 = .ok (.if_icmp .ne 14, 3) := by decide +kernel
theorem dX0_settle_52 : decode cX0_settle 52 = .ok (.aload_n 0, 1) := by decide +kernel
theorem dX0_settle_53 : decode cX0_settle 53 = .ok (.iload_n 2, 1) := by decide +kernel
theorem dX0_settle_54 : decode cX0_settle 54 = .ok (.aload_n 0, 1) := by decide +kernel
theorem dX0_settle_55 : decode cX0_settle 55 = .ok (.getfield 18, 3) := by decide +kernel
theorem dX0_settle_58 : decode cX0_settle 58 = .ok (.iload_n 2, 1) := by decide +kernel
theorem dX0_settle_59 : decode cX0_settle 59 = .ok (.iaload, 1) := by decide +kernel
theorem dX0_settle_60 : decode cX0_settle 60 = .ok (.invokevirtual 90, 3) := by decide +kernel
theorem dX0_settle_63 : decode cX0_settle 63 = .ok (.iinc 2 1, 3) := by decide +kernel
theorem dX0_settle_66 : decode cX0_settle 66 = .ok (.goto (-32), 3) := by decide +kernel
theorem dX0_settle_69 : decode cX0_settle 69 = .ok (.iinc 1 (-1), 3) := by decide +kernel
theorem dX0_settle_72 : decode cX0_settle 72 = .ok (.goto (-44), 3) := by decide +kernel
theorem dX0_settle_75 : decode cX0_settle 75 = .ok (.return_, 1) := by decide +kernel
set_option maxRecDepth 20000 in
theorem ggX0_rise_X0_argue : GoodIn wsX0_rise wsX0_argue := goodIn_r _ [15, 16, 5, 4, 6, 7, 8, 17, 18, 19, 20, 21, 22, 23, 24, 25, 26, 27, 28, 29, 30, 31, 32] (by decide +kernel) (by decide +kernel)
set_option maxRecDepth 20000 in
theorem gX0_rise_X0_argue : GoodIn wsX0_rise (wsV RX0 94 RX0 yX0_argue wsX0_argue) := goodIn_app (goodIn_of _ (by decide +kernel)) ggX0_rise_X0_argue
theorem dX0_rise_0 : decode cX0_rise 0 = .ok (.aload_n 0, 1) := by decide +kernel
theorem dX0_rise_1 : decode cX0_rise 1 = .ok (.getfield 32, 3) := by decide +kernel
theorem dX0_rise_4 : decode cX0_rise 4 = .ok (.iload_n 1, 1) := by decide +kernel
theorem dX0_rise_5 : decode cX0_rise 5 = .ok (.iaload, 1) := by decide +kernel
theorem dX0_rise_6 : decode cX0_rise 6 = .ok (.ifCond .le 7, 3) := by decide +kernel
theorem dX0_rise_9 : decode cX0_rise 9 = .ok (.iconst 1, 1) := by decide +kernel
theorem dX0_rise_10 : decode cX0_rise 10 = .ok (.goto 4, 3) := by decide +kernel
theorem dX0_rise_13 : decode cX0_rise 13 = .ok (.iconst 0, 1) := by decide +kernel
theorem dX0_rise_14 : decode cX0_rise 14 = .ok (.istore_n 2, 1) := by decide +kernel
theorem dX0_rise_15 : decode cX0_rise 15 = .ok (.aload_n 0, 1) := by decide +kernel
theorem dX0_rise_16 : decode cX0_rise 16 = .ok (.getfield 41, 3) := by decide +kernel
theorem dX0_rise_19 : decode cX0_rise 19 = .ok (.iload_n 1, 1) := by decide +kernel
theorem dX0_rise_20 : decode cX0_rise 20 = .ok (.aload_n 0, 1) := by decide +kernel
theorem dX0_rise_21 : decode cX0_rise 21 = .ok (.getfield 32, 3) := by decide +kernel
theorem dX0_rise_24 : decode cX0_rise 24 = .ok (.iload_n 1, 1) := by decide +kernel
theorem dX0_rise_25 : decode cX0_rise 25 = .ok (.iaload, 1) := by decide +kernel
theorem dX0_rise_26 : decode cX0_rise 26 = .ok (.iastore, 1) := by decide +kernel
theorem dX0_rise_27 : decode cX0_rise 27 = .ok (.aload_n 0, 1) := by decide +kernel
theorem dX0_rise_28 : decode cX0_rise 28 = .ok (.getfield 44, 3) := by decide +kernel
theorem dX0_rise_31 : decode cX0_rise 31 = .ok (.iload_n 1, 1) := by decide +kernel
theorem dX0_rise_32 : decode cX0_rise 32 = .ok (.iload_n 2, 1) := by decide +kernel
theorem dX0_rise_33 : decode cX0_rise 33 = .ok (.ifCond .eq 7, 3) := by decide +kernel
theorem dX0_rise_36 : decode cX0_rise 36 = .ok (.iconst 1, 1) := by decide +kernel
theorem dX0_rise_37 : decode cX0_rise 37 = .ok (.goto 4, 3) := by decide +kernel
theorem dX0_rise_40 : decode cX0_rise 40 = .ok (.iconst 0, 1) := by decide +kernel
theorem dX0_rise_41 : decode cX0_rise 41 = .ok (.iastore, 1) := by decide +kernel
theorem dX0_rise_42 : decode cX0_rise 42 = .ok (.aload_n 0, 1) := by decide +kernel
theorem dX0_rise_43 : decode cX0_rise 43 = .ok (.getfield 47, 3) := by decide +kernel
theorem dX0_rise_46 : decode cX0_rise 46 = .ok (.iload_n 1, 1) := by decide +kernel
theorem dX0_rise_47 : decode cX0_rise 47 = .ok (.iconst (-1), 1) := by decide +kernel
theorem dX0_rise_48 : decode cX0_rise 48 = .ok (.iastore, 1) := by decide +kernel
theorem dX0_rise_49 : decode cX0_rise 49 = .ok (.aload_n 0, 1) := by decide +kernel
theorem dX0_rise_50 : decode cX0_rise 50 = .ok (.getfield 50, 3) := by decide +kernel
theorem dX0_rise_53 : decode cX0_rise 53 = .ok (.iload_n 1, 1) := by decide +kernel
theorem dX0_rise_54 : decode cX0_rise 54 = .ok (.iconst 0, 1) := by decide +kernel
theorem dX0_rise_55 : decode cX0_rise 55 = .ok (.iastore, 1) := by decide +kernel
theorem dX0_rise_56 : decode cX0_rise 56 = .ok (.aload_n 0, 1) := by decide +kernel
theorem dX0_rise_57 : decode cX0_rise 57 = .ok (.getfield 53, 3) := by decide +kernel
theorem dX0_rise_60 : decode cX0_rise 60 = .ok (.iload_n 1, 1) := by decide +kernel
theorem dX0_rise_61 : decode cX0_rise 61 = .ok (.iconst 0, 1) := by decide +kernel
theorem dX0_rise_62 : decode cX0_rise 62 = .ok (.bastore, 1) := by decide +kernel
theorem dX0_rise_63 : decode cX0_rise 63 = .ok (.aload_n 0, 1) := by decide +kernel
theorem dX0_rise_64 : decode cX0_rise 64 = .ok (.getfield 56, 3) := by decide +kernel
theorem dX0_rise_67 : decode cX0_rise 67 = .ok (.iload_n 1, 1) := by decide +kernel
theorem dX0_rise_68 : decode cX0_rise 68 = .ok (.iconst (-1), 1) := by decide +kernel
theorem dX0_rise_69 : decode cX0_rise 69 = .ok (.iastore, 1) := by decide +kernel
theorem dX0_rise_70 : decode cX0_rise 70 = .ok (.aload_n 0, 1) := by decide +kernel
theorem dX0_rise_71 : decode cX0_rise 71 = .ok (.getfield 59, 3) := by decide +kernel
theorem dX0_rise_74 : decode cX0_rise 74 = .ok (.iload_n 1, 1) := by decide +kernel
theorem dX0_rise_75 : decode cX0_rise 75 = .ok (.iconst 0, 1) := by decide +kernel
theorem dX0_rise_76 : decode cX0_rise 76 = .ok (.iastore, 1) := by decide +kernel
theorem dX0_rise_77 : decode cX0_rise 77 = .ok (.iload_n 2, 1) := by decide +kernel
theorem dX0_rise_78 : decode cX0_rise 78 = .ok (.ifCond .eq 34, 3) := by decide +kernel
theorem dX0_rise_81 : decode cX0_rise 81 = .ok (.aload_n 0, 1) := by decide +kernel
theorem dX0_rise_82 : decode cX0_rise 82 = .ok (.getfield 15, 3) := by decide +kernel
theorem dX0_rise_85 : decode cX0_rise 85 = .ok (.ifCond .ne 12, 3) := by decide +kernel
theorem dX0_rise_88 : decode cX0_rise 88 = .ok (.aload_n 0, 1) := by decide +kernel
theorem dX0_rise_89 : decode cX0_rise 89 = .ok (.getfield 32, 3) := by decide +kernel
theorem dX0_rise_92 : decode cX0_rise 92 = .ok (.iload_n 1, 1) := by decide +kernel
theorem dX0_rise_93 : decode cX0_rise 93 = .ok (.iaload, 1) := by decide +kernel
theorem dX0_rise_94 : decode cX0_rise 94 = .ok (.goto 4, 3) := by decide +kernel
theorem dX0_rise_97 : decode cX0_rise 97 = .ok (.iconst 0, 1) := by decide +kernel
theorem dX0_rise_98 : decode cX0_rise 98 = .ok (.istore_n 3, 1) := by decide +kernel
theorem dX0_rise_99 : decode cX0_rise 99 = .ok (.aload_n 0, 1) := by decide +kernel
theorem dX0_rise_100 : decode cX0_rise 100 = .ok (.iload_n 1, 1) := by decide +kernel
theorem dX0_rise_101 : decode cX0_rise 101 = .ok (.iload_n 1, 1) := by decide +kernel
theorem dX0_rise_102 : decode cX0_rise 102 = .ok (.aload_n 0, 1) := by decide +kernel
theorem dX0_rise_103 : decode cX0_rise 103 = .ok (.getfield 29, 3) := by decide +kernel
theorem dX0_rise_106 : decode cX0_rise 106 = .ok (.iload_n 1, 1) := by decide +kernel
theorem dX0_rise_107 : decode cX0_rise 107 = .ok (.iaload, 1) := by decide +kernel
theorem dX0_rise_108 : decode cX0_rise 108 = .ok (.iload_n 3, 1) := by decide +kernel
theorem dX0_rise_109 : decode cX0_rise 109 = .ok (.invokevirtual 94, 3) := by decide +kernel
theorem dX0_rise_112 : decode cX0_rise 112 = .ok (.return_, 1) := by decide +kernel
set_option maxRecDepth 20000 in
theorem ggX0_flowOn_X0_isPlace : GoodIn wsX0_flowOn wsX0_isPlace := goodIn_r _ [13, 14, 24, 25, 26, 27, 28, 29, 30, 31, 32, 33, 34, 35, 36, 37, 38, 39] (by decide +kernel) (by decide +kernel)
set_option maxRecDepth 20000 in
theorem gX0_flowOn_X0_isPlace : GoodIn wsX0_flowOn (wsV RX0 78 RX0 yX0_isPlace wsX0_isPlace) := goodIn_app (goodIn_of _ (by decide +kernel)) ggX0_flowOn_X0_isPlace
set_option maxRecDepth 20000 in
theorem ggX0_flowOn_X0_argue : GoodIn wsX0_flowOn wsX0_argue := goodIn_r _ [18, 19, 20, 7, 21, 22, 23, 24, 25, 26, 27, 28, 29, 30, 31, 32, 33, 34, 35, 36, 37, 38, 39] (by decide +kernel) (by decide +kernel)
set_option maxRecDepth 20000 in
theorem gX0_flowOn_X0_argue : GoodIn wsX0_flowOn (wsV RX0 94 RX0 yX0_argue wsX0_argue) := goodIn_app (goodIn_of _ (by decide +kernel)) ggX0_flowOn_X0_argue
theorem dX0_flowOn_0 : decode cX0_flowOn 0 = .ok (.aload_n 0, 1) := by decide +kernel
theorem dX0_flowOn_1 : decode cX0_flowOn 1 = .ok (.iload_n 2, 1) := by decide +kernel
theorem dX0_flowOn_2 : decode cX0_flowOn 2 = .ok (.invokevirtual 78, 3) := by decide +kernel
theorem dX0_flowOn_5 : decode cX0_flowOn 5 = .ok (.ifCond .ne 4, 3) := by decide +kernel
theorem dX0_flowOn_8 : decode cX0_flowOn 8 = .ok (.return_, 1) := by decide +kernel
theorem dX0_flowOn_9 : decode cX0_flowOn 9 = .ok (.aload_n 0, 1) := by decide +kernel
theorem dX0_flowOn_10 : decode cX0_flowOn 10 = .ok (.getfield 41, 3) := by decide +kernel
theorem dX0_flowOn_13 : decode cX0_flowOn 13 = .ok (.iload_n 2, 1) := by decide +kernel
theorem dX0_flowOn_14 : decode cX0_flowOn 14 = .ok (.dup2, 1) := by decide +kernel
theorem dX0_flowOn_15 : decode cX0_flowOn 15 = .ok (.iaload, 1) := by decide +kernel
theorem dX0_flowOn_16 : decode cX0_flowOn 16 = .ok (.aload_n 0, 1) := by decide +kernel
theorem dX0_flowOn_17 : decode cX0_flowOn 17 = .ok (.getfield 41, 3) := by decide +kernel
theorem dX0_flowOn_20 : decode cX0_flowOn 20 = .ok (.iload_n 1, 1) := by decide +kernel
theorem dX0_flowOn_21 : decode cX0_flowOn 21 = .ok (.iaload, 1) := by decide +kernel
theorem dX0_flowOn_22 : decode cX0_flowOn 22 = .ok (.iadd, 1) := by decide +kernel
theorem dX0_flowOn_23 : decode cX0_flowOn 23 = .ok (.iastore, 1) := by decide +kernel
theorem dX0_flowOn_24 : decode cX0_flowOn 24 = .ok (.aload_n 0, 1) := by decide +kernel
theorem dX0_flowOn_25 : decode cX0_flowOn 25 = .ok (.getfield 44, 3) := by decide +kernel
theorem dX0_flowOn_28 : decode cX0_flowOn 28 = .ok (.iload_n 1, 1) := by decide +kernel
theorem dX0_flowOn_29 : decode cX0_flowOn 29 = .ok (.iaload, 1) := by decide +kernel
theorem dX0_flowOn_30 : decode cX0_flowOn 30 = .ok (.ifCond .le 26, 3) := by decide +kernel
theorem dX0_flowOn_33 : decode cX0_flowOn 33 = .ok (.aload_n 0, 1) := by decide +kernel
theorem dX0_flowOn_34 : decode cX0_flowOn 34 = .ok (.getfield 44, 3) := by decide +kernel
theorem dX0_flowOn_37 : decode cX0_flowOn 37 = .ok (.iload_n 2, 1) := by decide +kernel
theorem dX0_flowOn_38 : decode cX0_flowOn 38 = .ok (.aload_n 0, 1) := by decide +kernel
theorem dX0_flowOn_39 : decode cX0_flowOn 39 = .ok (.getfield 44, 3) := by decide +kernel
theorem dX0_flowOn_42 : decode cX0_flowOn 42 = .ok (.iload_n 2, 1) := by decide +kernel
theorem dX0_flowOn_43 : decode cX0_flowOn 43 = .ok (.iaload, 1) := by decide +kernel
theorem dX0_flowOn_44 : decode cX0_flowOn 44 = .ok (.aload_n 0, 1) := by decide +kernel
theorem dX0_flowOn_45 : decode cX0_flowOn 45 = .ok (.getfield 44, 3) := by decide +kernel
theorem dX0_flowOn_48 : decode cX0_flowOn 48 = .ok (.iload_n 1, 1) := by decide +kernel
theorem dX0_flowOn_49 : decode cX0_flowOn 49 = .ok (.iaload, 1) := by decide +kernel
theorem dX0_flowOn_50 : decode cX0_flowOn 50 = .ok (.iconst 1, 1) := by decide +kernel
theorem dX0_flowOn_51 : decode cX0_flowOn 51 = .ok (.iadd, 1) := by decide +kernel
theorem dX0_flowOn_52 : decode cX0_flowOn 52 = .ok (.invokestatic 75, 3) := by decide +kernel
theorem dX0_flowOn_55 : decode cX0_flowOn 55 = .ok (.iastore, 1) := by decide +kernel
theorem dX0_flowOn_56 : decode cX0_flowOn 56 = .ok (.aload_n 0, 1) := by decide +kernel
theorem dX0_flowOn_57 : decode cX0_flowOn 57 = .ok (.getfield 47, 3) := by decide +kernel
theorem dX0_flowOn_60 : decode cX0_flowOn 60 = .ok (.iload_n 1, 1) := by decide +kernel
theorem dX0_flowOn_61 : decode cX0_flowOn 61 = .ok (.iaload, 1) := by decide +kernel
theorem dX0_flowOn_62 : decode cX0_flowOn 62 = .ok (.iconst (-1), 1) := by decide +kernel
theorem dX0_flowOn_63 : decode cX0_flowOn 63 = .ok (.if_icmp .eq 39, 3) := by decide +kernel
theorem dX0_flowOn_66 : decode cX0_flowOn 66 = .ok (.aload_n 0, 1) := by decide +kernel
theorem dX0_flowOn_67 : decode cX0_flowOn 67 = .ok (.getfield 15, 3) := by decide +kernel
theorem dX0_flowOn_70 : decode cX0_flowOn 70 = .ok (.ifCond .ne 12, 3) := by decide +kernel
theorem dX0_flowOn_73 : decode cX0_flowOn 73 = .ok (.aload_n 0, 1) := by decide +kernel
theorem dX0_flowOn_74 : decode cX0_flowOn 74 = .ok (.getfield 41, 3) := by decide +kernel
theorem dX0_flowOn_77 : decode cX0_flowOn 77 = .ok (.iload_n 1, 1) := by decide +kernel
theorem dX0_flowOn_78 : decode cX0_flowOn 78 = .ok (.iaload, 1) := by decide +kernel
theorem dX0_flowOn_79 : decode cX0_flowOn 79 = .ok (.goto 9, 3) := by decide +kernel
theorem dX0_flowOn_82 : decode cX0_flowOn 82 = .ok (.aload_n 0, 1) := by decide +kernel
theorem dX0_flowOn_83 : decode cX0_flowOn 83 = .ok (.getfield 44, 3) := by decide +kernel
theorem dX0_flowOn_86 : decode cX0_flowOn 86 = .ok (.iload_n 1, 1) := by decide +kernel
theorem dX0_flowOn_87 : decode cX0_flowOn 87 = .ok (.iaload, 1) := by decide +kernel
theorem dX0_flowOn_88 : decode cX0_flowOn 88 = .ok (.istore_n 3, 1) := by decide +kernel
theorem dX0_flowOn_89 : decode cX0_flowOn 89 = .ok (.aload_n 0, 1) := by decide +kernel
theorem dX0_flowOn_90 : decode cX0_flowOn 90 = .ok (.iload_n 2, 1) := by decide +kernel
theorem dX0_flowOn_91 : decode cX0_flowOn 91 = .ok (.iload_n 1, 1) := by decide +kernel
theorem dX0_flowOn_92 : decode cX0_flowOn 92 = .ok (.aload_n 0, 1) := by decide +kernel
theorem dX0_flowOn_93 : decode cX0_flowOn 93 = .ok (.getfield 47, 3) := by decide +kernel
theorem dX0_flowOn_96 : decode cX0_flowOn 96 = .ok (.iload_n 1, 1) := by decide +kernel
theorem dX0_flowOn_97 : decode cX0_flowOn 97 = .ok (.iaload, 1) := by decide +kernel
theorem dX0_flowOn_98 : decode cX0_flowOn 98 = .ok (.iload_n 3, 1) := by decide +kernel
theorem dX0_flowOn_99 : decode cX0_flowOn 99 = .ok (.invokevirtual 94, 3) := by decide +kernel
theorem dX0_flowOn_102 : decode cX0_flowOn 102 = .ok (.return_, 1) := by decide +kernel
theorem dX0_argue_0 : decode cX0_argue 0 = .ok (.aload_n 0, 1) := by decide +kernel
theorem dX0_argue_1 : decode cX0_argue 1 = .ok (.getfield 38, 3) := by decide +kernel
theorem dX0_argue_4 : decode cX0_argue 4 = .ok (.iload_n 1, 1) := by decide +kernel
theorem dX0_argue_5 : decode cX0_argue 5 = .ok (.baload, 1) := by decide +kernel
theorem dX0_argue_6 : decode cX0_argue 6 = .ok (.ifCond .eq 4, 3) := by decide +kernel
theorem dX0_argue_9 : decode cX0_argue 9 = .ok (.return_, 1) := by decide +kernel
theorem dX0_argue_10 : decode cX0_argue 10 = .ok (.aload_n 0, 1) := by decide +kernel
theorem dX0_argue_11 : decode cX0_argue 11 = .ok (.getfield 50, 3) := by decide +kernel
theorem dX0_argue_14 : decode cX0_argue 14 = .ok (.iload_n 1, 1) := by decide +kernel
theorem dX0_argue_15 : decode cX0_argue 15 = .ok (.iaload, 1) := by decide +kernel
theorem dX0_argue_16 : decode cX0_argue 16 = .ok (.ifCond .le 20, 3) := by decide +kernel
theorem dX0_argue_19 : decode cX0_argue 19 = .ok (.iload_n 3, 1) := by decide +kernel
theorem dX0_argue_20 : decode cX0_argue 20 = .ok (.aload_n 0, 1) := by decide +kernel
theorem dX0_argue_21 : decode cX0_argue 21 = .ok (.getfield 47, 3) := by decide +kernel
theorem dX0_argue_24 : decode cX0_argue 24 = .ok (.iload_n 1, 1) := by decide +kernel
theorem dX0_argue_25 : decode cX0_argue 25 = .ok (.iaload, 1) := by decide +kernel
theorem dX0_argue_26 : decode cX0_argue 26 = .ok (.if_icmp .eq 10, 3) := by decide +kernel
theorem dX0_argue_29 : decode cX0_argue 29 = .ok (.aload_n 0, 1) := by decide +kernel
theorem dX0_argue_30 : decode cX0_argue 30 = .ok (.getfield 53, 3) := by decide +kernel
theorem dX0_argue_33 : decode cX0_argue 33 = .ok (.iload_n 1, 1) := by decide +kernel
theorem dX0_argue_34 : decode cX0_argue 34 = .ok (.iconst 1, 1) := by decide +kernel
theorem dX0_argue_35 : decode cX0_argue 35 = .ok (.bastore, 1) := by decide +kernel
theorem dX0_argue_36 : decode cX0_argue 36 = .ok (.aload_n 0, 1) := by decide +kernel
theorem dX0_argue_37 : decode cX0_argue 37 = .ok (.getfield 50, 3) := by decide +kernel
theorem dX0_argue_40 : decode cX0_argue 40 = .ok (.iload_n 1, 1) := by decide +kernel
theorem dX0_argue_41 : decode cX0_argue 41 = .ok (.dup2, 1) := by decide +kernel
theorem dX0_argue_42 : decode cX0_argue 42 = .ok (.iaload, 1) := by decide +kernel
theorem dX0_argue_43 : decode cX0_argue 43 = .ok (.iconst 1, 1) := by decide +kernel
theorem dX0_argue_44 : decode cX0_argue 44 = .ok (.iadd, 1) := by decide +kernel
theorem dX0_argue_45 : decode cX0_argue 45 = .ok (.iastore, 1) := by decide +kernel
theorem dX0_argue_46 : decode cX0_argue 46 = .ok (.aload_n 0, 1) := by decide +kernel
theorem dX0_argue_47 : decode cX0_argue 47 = .ok (.getfield 56, 3) := by decide +kernel
theorem dX0_argue_50 : decode cX0_argue 50 = .ok (.iload_n 1, 1) := by decide +kernel
theorem dX0_argue_51 : decode cX0_argue 51 = .ok (.iaload, 1) := by decide +kernel
theorem dX0_argue_52 : decode cX0_argue 52 = .ok (.iconst (-1), 1) := by decide +kernel
theorem dX0_argue_53 : decode cX0_argue 53 = .ok (.if_icmp .eq 35, 3) := by decide +kernel
theorem dX0_argue_56 : decode cX0_argue 56 = .ok (.iload 4, 2) := by decide +kernel
theorem dX0_argue_58 : decode cX0_argue 58 = .ok (.aload_n 0, 1) := by decide +kernel
theorem dX0_argue_59 : decode cX0_argue 59 = .ok (.getfield 59, 3) := by decide +kernel
theorem dX0_argue_62 : decode cX0_argue 62 = .ok (.iload_n 1, 1) := by decide +kernel
theorem dX0_argue_63 : decode cX0_argue 63 = .ok (.iaload, 1) := by decide +kernel
theorem dX0_argue_64 : decode cX0_argue 64 = .ok (.if_icmp .gt 24, 3) := by decide +kernel
theorem dX0_argue_67 : decode cX0_argue 67 = .ok (.iload 4, 2) := by decide +kernel
theorem dX0_argue_69 : decode cX0_argue 69 = .ok (.aload_n 0, 1) := by decide +kernel
theorem dX0_argue_70 : decode cX0_argue 70 = .ok (.getfield 59, 3) := by decide +kernel
theorem dX0_argue_73 : decode cX0_argue 73 = .ok (.iload_n 1, 1) := by decide +kernel
theorem dX0_argue_74 : decode cX0_argue 74 = .ok (.iaload, 1) := by decide +kernel
theorem dX0_argue_75 : decode cX0_argue 75 = .ok (.if_icmp .ne 17, 3) := by decide +kernel
theorem dX0_argue_78 : decode cX0_argue 78 = .ok (.iload_n 2, 1) := by decide +kernel
theorem dX0_argue_79 : decode cX0_argue 79 = .ok (.aload_n 0, 1) := by decide +kernel
theorem dX0_argue_80 : decode cX0_argue 80 = .ok (.getfield 56, 3) := by decide +kernel
theorem dX0_argue_83 : decode cX0_argue 83 = .ok (.iload_n 1, 1) := by decide +kernel
theorem dX0_argue_84 : decode cX0_argue 84 = .ok (.iaload, 1) := by decide +kernel
theorem dX0_argue_85 : decode cX0_argue 85 = .ok (.if_icmp .ge 7, 3) := by decide +kernel
theorem dX0_argue_88 : decode cX0_argue 88 = .ok (.iconst 1, 1) := by decide +kernel
theorem dX0_argue_89 : decode cX0_argue 89 = .ok (.goto 4, 3) := by decide +kernel
theorem dX0_argue_92 : decode cX0_argue 92 = .ok (.iconst 0, 1) := by decide +kernel
theorem dX0_argue_93 : decode cX0_argue 93 = .ok (.istore 5, 2) := by decide +kernel
theorem dX0_argue_95 : decode cX0_argue 95 = .ok (.iload 5, 2) := by decide +kernel
theorem dX0_argue_97 : decode cX0_argue 97 = .ok (.ifCond .eq 25, 3) := by decide +kernel
theorem dX0_argue_100 : decode cX0_argue 100 = .ok (.aload_n 0, 1) := by decide +kernel
theorem dX0_argue_101 : decode cX0_argue 101 = .ok (.getfield 56, 3) := by decide +kernel
theorem dX0_argue_104 : decode cX0_argue 104 = .ok (.iload_n 1, 1) := by decide +kernel
theorem dX0_argue_105 : decode cX0_argue 105 = .ok (.iload_n 2, 1) := by decide +kernel
theorem dX0_argue_106 : decode cX0_argue 106 = .ok (.iastore, 1) := by decide +kernel
theorem dX0_argue_107 : decode cX0_argue 107 = .ok (.aload_n 0, 1) := by decide +kernel
theorem dX0_argue_108 : decode cX0_argue 108 = .ok (.getfield 59, 3) := by decide +kernel
theorem dX0_argue_111 : decode cX0_argue 111 = .ok (.iload_n 1, 1) := by decide +kernel
theorem dX0_argue_112 : decode cX0_argue 112 = .ok (.iload 4, 2) := by decide +kernel
theorem dX0_argue_114 : decode cX0_argue 114 = .ok (.iastore, 1) := by decide +kernel
theorem dX0_argue_115 : decode cX0_argue 115 = .ok (.aload_n 0, 1) := by decide +kernel
theorem dX0_argue_116 : decode cX0_argue 116 = .ok (.getfield 47, 3) := by decide +kernel
theorem dX0_argue_119 : decode cX0_argue 119 = .ok (.iload_n 1, 1) := by decide +kernel
theorem dX0_argue_120 : decode cX0_argue 120 = .ok (.iload_n 3, 1) := by decide +kernel
theorem dX0_argue_121 : decode cX0_argue 121 = .ok (.iastore, 1) := by decide +kernel
theorem dX0_argue_122 : decode cX0_argue 122 = .ok (.return_, 1) := by decide +kernel
