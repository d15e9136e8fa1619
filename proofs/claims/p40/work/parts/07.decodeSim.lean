theorem dX2_init_0 : decode cX2_init 0 = .ok (.aload_n 0, 1) := by decide +kernel
theorem dX2_init_1 : decode cX2_init 1 = .ok (.invokespecial 1, 3) := by decide +kernel
theorem dX2_init_4 : decode cX2_init 4 = .ok (.aload_n 0, 1) := by decide +kernel
theorem dX2_init_5 : decode cX2_init 5 = .ok (.iconst 0, 1) := by decide +kernel
theorem dX2_init_6 : decode cX2_init 6 = .ok (.anewarray 7, 3) := by decide +kernel
theorem dX2_init_9 : decode cX2_init 9 = .ok (.putfield 9, 3) := by decide +kernel
theorem dX2_init_12 : decode cX2_init 12 = .ok (.aload_n 0, 1) := by decide +kernel
theorem dX2_init_13 : decode cX2_init 13 = .ok (.iconst 0, 1) := by decide +kernel
theorem dX2_init_14 : decode cX2_init 14 = .ok (.anewarray 7, 3) := by decide +kernel
theorem dX2_init_17 : decode cX2_init 17 = .ok (.putfield 15, 3) := by decide +kernel
theorem dX2_init_20 : decode cX2_init 20 = .ok (.return_, 1) := by decide +kernel
theorem dX2_with_0 : decode cX2_with 0 = .ok (.aload_n 0, 1) := by decide +kernel
theorem dX2_with_1 : decode cX2_with 1 = .ok (.arraylength, 1) := by decide +kernel
theorem dX2_with_2 : decode cX2_with 2 = .ok (.iconst 1, 1) := by decide +kernel
theorem dX2_with_3 : decode cX2_with 3 = .ok (.iadd, 1) := by decide +kernel
theorem dX2_with_4 : decode cX2_with 4 = .ok (.anewarray 7, 3) := by decide +kernel
theorem dX2_with_7 : decode cX2_with 7 = .ok (.astore_n 2, 1) := by decide +kernel
theorem dX2_with_8 : decode cX2_with 8 = .ok (.iconst 0, 1) := by decide +kernel
theorem dX2_with_9 : decode cX2_with 9 = .ok (.istore_n 3, 1) := by decide +kernel
theorem dX2_with_10 : decode cX2_with 10 = .ok (.iload_n 3, 1) := by decide +kernel
theorem dX2_with_11 : decode cX2_with 11 = .ok (.aload_n 0, 1) := by decide +kernel
theorem dX2_with_12 : decode cX2_with 12 = .ok (.arraylength, 1) := by decide +kernel
theorem dX2_with_13 : decode cX2_with 13 = .ok (.if_icmp .ge 15, 3) := by decide +kernel
theorem dX2_with_16 : decode cX2_with 16 = .ok (.aload_n 2, 1) := by decide +kernel
theorem dX2_with_17 : decode cX2_with 17 = .ok (.iload_n 3, 1) := by decide +kernel
theorem dX2_with_18 : decode cX2_with 18 = .ok (.aload_n 0, 1) := by decide +kernel
theorem dX2_with_19 : decode cX2_with 19 = .ok (.iload_n 3, 1) := by decide +kernel
theorem dX2_with_20 : decode cX2_with 20 = .ok (.aaload, 1) := by decide +kernel
theorem dX2_with_21 : decode cX2_with 21 = .ok (.aastore, 1) := by decide +kernel
theorem dX2_with_22 : decode cX2_with 22 = .ok (.iinc 3 1, 3) := by decide +kernel
theorem dX2_with_25 : decode cX2_with 25 = .ok (.goto (-15), 3) := by decide +kernel
theorem dX2_with_28 : decode cX2_with 28 = .ok (.aload_n 2, 1) := by decide +kernel
theorem dX2_with_29 : decode cX2_with 29 = .ok (.aload_n 0, 1) := by decide +kernel
theorem dX2_with_30 : decode cX2_with 30 = .ok (.arraylength, 1) := by decide +kernel
theorem dX2_with_31 : decode cX2_with 31 = .ok (.aload_n 1, 1) := by decide +kernel
theorem dX2_with_32 : decode cX2_with 32 = .ok (.aastore, 1) := by decide +kernel
theorem dX2_with_33 : decode cX2_with 33 = .ok (.aload_n 2, 1) := by decide +kernel
theorem dX2_with_34 : decode cX2_with 34 = .ok (.areturn, 1) := by decide +kernel
theorem dX2_isAbove_0 : decode cX2_isAbove 0 = .ok (.aload_n 0, 1) := by decide +kernel
theorem dX2_isAbove_1 : decode cX2_isAbove 1 = .ok (.getfield 9, 3) := by decide +kernel
theorem dX2_isAbove_4 : decode cX2_isAbove 4 = .ok (.iload_n 1, 1) := by decide +kernel
theorem dX2_isAbove_5 : decode cX2_isAbove 5 = .ok (.aaload, 1) := by decide +kernel
theorem dX2_isAbove_6 : decode cX2_isAbove 6 = .ok (.iconst 0, 1) := by decide +kernel
theorem dX2_isAbove_7 : decode cX2_isAbove 7 = .ok (.iaload, 1) := by decide +kernel
theorem dX2_isAbove_8 : decode cX2_isAbove 8 = .ok (.istore_n 3, 1) := by decide +kernel
theorem dX2_isAbove_9 : decode cX2_isAbove 9 = .ok (.iload_n 3, 1) := by decide +kernel
theorem dX2_isAbove_10 : decode cX2_isAbove 10 = .ok (.ifCond .lt 22, 3) := by decide +kernel
theorem dX2_isAbove_13 : decode cX2_isAbove 13 = .ok (.iload_n 3, 1) := by decide +kernel
theorem dX2_isAbove_14 : decode cX2_isAbove 14 = .ok (.iload_n 2, 1) := by decide +kernel
theorem dX2_isAbove_15 : decode cX2_isAbove 15 = .ok (.if_icmp .ne 5, 3) := by decide +kernel
theorem dX2_isAbove_18 : decode cX2_isAbove 18 = .ok (.iconst 1, 1) := by decide +kernel
theorem dX2_isAbove_19 : decode cX2_isAbove 19 = .ok (.ireturn, 1) := by decide +kernel
theorem dX2_isAbove_20 : decode cX2_isAbove 20 = .ok (.aload_n 0, 1) := by decide +kernel
theorem dX2_isAbove_21 : decode cX2_isAbove 21 = .ok (.getfield 9, 3) := by decide +kernel
theorem dX2_isAbove_24 : decode cX2_isAbove 24 = .ok (.iload_n 3, 1) := by decide +kernel
theorem dX2_isAbove_25 : decode cX2_isAbove 25 = .ok (.aaload, 1) := by decide +kernel
theorem dX2_isAbove_26 : decode cX2_isAbove 26 = .ok (.iconst 0, 1) := by decide +kernel
theorem dX2_isAbove_27 : decode cX2_isAbove 27 = .ok (.iaload, 1) := by decide +kernel
theorem dX2_isAbove_28 : decode cX2_isAbove 28 = .ok (.istore_n 3, 1) := by decide +kernel
theorem dX2_isAbove_29 : decode cX2_isAbove 29 = .ok (.goto (-20), 3) := by decide +kernel
theorem dX2_isAbove_32 : decode cX2_isAbove 32 = .ok (.iconst 0, 1) := by decide +kernel
theorem dX2_isAbove_33 : decode cX2_isAbove 33 = .ok (.ireturn, 1) := by decide +kernel
theorem dX2_hasWater_0 : decode cX2_hasWater 0 = .ok (.aload_n 0, 1) := by decide +kernel
theorem dX2_hasWater_1 : decode cX2_hasWater 1 = .ok (.getfield 9, 3) := by decide +kernel
theorem dX2_hasWater_4 : decode cX2_hasWater 4 = .ok (.iload_n 1, 1) := by decide +kernel
theorem dX2_hasWater_5 : decode cX2_hasWater 5 = .ok (.aaload, 1) := by decide +kernel
theorem dX2_hasWater_6 : decode cX2_hasWater 6 = .ok (.iconst 1, 1) := by decide +kernel
theorem dX2_hasWater_7 : decode cX2_hasWater 7 = .ok (.iaload, 1) := by decide +kernel
theorem dX2_hasWater_8 : decode cX2_hasWater 8 = .ok (.iconst 1, 1) := by decide +kernel
theorem dX2_hasWater_9 : decode cX2_hasWater 9 = .ok (.if_icmp .ne 18, 3) := by decide +kernel
theorem dX2_hasWater_12 : decode cX2_hasWater 12 = .ok (.aload_n 0, 1) := by decide +kernel
theorem dX2_hasWater_13 : decode cX2_hasWater 13 = .ok (.getfield 9, 3) := by decide +kernel
theorem dX2_hasWater_16 : decode cX2_hasWater 16 = .ok (.iload_n 1, 1) := by decide +kernel
theorem dX2_hasWater_17 : decode cX2_hasWater 17 = .ok (.aaload, 1) := by decide +kernel
theorem dX2_hasWater_18 : decode cX2_hasWater 18 = .ok (.iconst 3, 1) := by decide +kernel
theorem dX2_hasWater_19 : decode cX2_hasWater 19 = .ok (.iaload, 1) := by decide +kernel
theorem dX2_hasWater_20 : decode cX2_hasWater 20 = .ok (.ifCond .le 7, 3) := by decide +kernel
theorem dX2_hasWater_23 : decode cX2_hasWater 23 = .ok (.iconst 1, 1) := by decide +kernel
theorem dX2_hasWater_24 : decode cX2_hasWater 24 = .ok (.goto 4, 3) := by decide +kernel
theorem dX2_hasWater_27 : decode cX2_hasWater 27 = .ok (.iconst 0, 1) := by decide +kernel
theorem dX2_hasWater_28 : decode cX2_hasWater 28 = .ok (.ireturn, 1) := by decide +kernel
set_option maxRecDepth 20000 in
theorem ggX2_flow_X2_hasWater : GoodIn wsX2_flow wsX2_hasWater := goodIn_r _ [9, 1, 23, 24, 25, 26] (by decide +kernel) (by decide +kernel)
set_option maxRecDepth 20000 in
theorem gX2_flow_X2_hasWater : GoodIn wsX2_flow (wsV RX2 35 RX2 yX2_hasWater wsX2_hasWater) := goodIn_app (goodIn_of _ (by decide +kernel)) ggX2_flow_X2_hasWater
set_option maxRecDepth 20000 in
theorem ggX2_flow_X2_winner : GoodIn wsX2_flow wsX2_winner := goodIn_r _ [13, 14, 1, 15, 16, 17, 8, 18, 3, 5, 6, 7, 9, 19, 20, 21, 22, 23, 24, 25, 26] (by decide +kernel) (by decide +kernel)
set_option maxRecDepth 20000 in
theorem gX2_flow_X2_winner : GoodIn wsX2_flow (wsV RX2 39 RX2 yX2_winner wsX2_winner) := goodIn_app (goodIn_of _ (by decide +kernel)) ggX2_flow_X2_winner
theorem dX2_flow_0 : decode cX2_flow 0 = .ok (.aload_n 0, 1) := by decide +kernel
theorem dX2_flow_1 : decode cX2_flow 1 = .ok (.getfield 9, 3) := by decide +kernel
theorem dX2_flow_4 : decode cX2_flow 4 = .ok (.arraylength, 1) := by decide +kernel
theorem dX2_flow_5 : decode cX2_flow 5 = .ok (.istore_n 1, 1) := by decide +kernel
theorem dX2_flow_6 : decode cX2_flow 6 = .ok (.iconst 3, 1) := by decide +kernel
theorem dX2_flow_7 : decode cX2_flow 7 = .ok (.iload_n 1, 1) := by decide +kernel
theorem dX2_flow_8 : decode cX2_flow 8 = .ok (.multianewarray 34 2, 4) := by decide +kernel
theorem dX2_flow_12 : decode cX2_flow 12 = .ok (.astore_n 2, 1) := by decide +kernel
theorem dX2_flow_13 : decode cX2_flow 13 = .ok (.iload_n 1, 1) := by decide +kernel
theorem dX2_flow_14 : decode cX2_flow 14 = .ok (.newarray .boolean, 2) := by decide +kernel
theorem dX2_flow_16 : decode cX2_flow 16 = .ok (.astore_n 3, 1) := by decide +kernel
theorem dX2_flow_17 : decode cX2_flow 17 = .ok (.iconst 0, 1) := by decide +kernel
theorem dX2_flow_18 : decode cX2_flow 18 = .ok (.istore 4, 2) := by decide +kernel
theorem dX2_flow_20 : decode cX2_flow 20 = .ok (.iload 4, 2) := by decide +kernel
theorem dX2_flow_22 : decode cX2_flow 22 = .ok (.iload_n 1, 1) := by decide +kernel
theorem dX2_flow_23 : decode cX2_flow 23 = .ok (.if_icmp .ge 239, 3) := by decide +kernel
theorem dX2_flow_26 : decode cX2_flow 26 = .ok (.iconst 0, 1) := by decide +kernel
theorem dX2_flow_27 : decode cX2_flow 27 = .ok (.istore 5, 2) := by decide +kernel
theorem dX2_flow_29 : decode cX2_flow 29 = .ok (.iload 5, 2) := by decide +kernel
theorem dX2_flow_31 : decode cX2_flow 31 = .ok (.iload_n 1, 1) := by decide +kernel
theorem dX2_flow_32 : decode cX2_flow 32 = .ok (.if_icmp .ge 224, 3) := by decide +kernel
theorem dX2_flow_35 : decode cX2_flow 35 = .ok (.aload_n 3, 1) := by decide +kernel
theorem dX2_flow_36 : decode cX2_flow 36 = .ok (.iload 5, 2) := by decide +kernel
theorem dX2_flow_38 : decode cX2_flow 38 = .ok (.baload, 1) := by decide +kernel
theorem dX2_flow_39 : decode cX2_flow 39 = .ok (.ifCond .ne 7, 3) := by decide +kernel
theorem dX2_flow_42 : decode cX2_flow 42 = .ok (.iconst 1, 1) := by decide +kernel
theorem dX2_flow_43 : decode cX2_flow 43 = .ok (.goto 4, 3) := by decide +kernel
theorem dX2_flow_46 : decode cX2_flow 46 = .ok (.iconst 0, 1) := by decide +kernel
theorem dX2_flow_47 : decode cX2_flow 47 = .ok (.istore 6, 2) := by decide +kernel
theorem dX2_flow_49 : decode cX2_flow 49 = .ok (.iconst 0, 1) := by decide +kernel
theorem dX2_flow_50 : decode cX2_flow 50 = .ok (.istore 7, 2) := by decide +kernel
theorem dX2_flow_52 : decode cX2_flow 52 = .ok (.iload 7, 2) := by decide +kernel
theorem dX2_flow_54 : decode cX2_flow 54 = .ok (.iload_n 1, 1) := by decide +kernel
theorem dX2_flow_55 : decode cX2_flow 55 = .ok (.if_icmp .ge 40, 3) := by decide +kernel
theorem dX2_flow_58 : decode cX2_flow 58 = .ok (.iload 6, 2) := by decide +kernel
theorem dX2_flow_60 : decode cX2_flow 60 = .ok (.aload_n 0, 1) := by decide +kernel
theorem dX2_flow_61 : decode cX2_flow 61 = .ok (.getfield 9, 3) := by decide +kernel
theorem dX2_flow_64 : decode cX2_flow 64 = .ok (.iload 7, 2) := by decide +kernel
theorem dX2_flow_66 : decode cX2_flow 66 = .ok (.aaload, 1) := by decide +kernel
theorem dX2_flow_67 : decode cX2_flow 67 = .ok (.iconst 0, 1) := by decide +kernel
theorem dX2_flow_68 : decode cX2_flow 68 = .ok (.iaload, 1) := by decide +kernel
theorem dX2_flow_69 : decode cX2_flow 69 = .ok (.iload 5, 2) := by decide +kernel
theorem dX2_flow_71 : decode cX2_flow 71 = .ok (.if_icmp .ne 10, 3) := by decide +kernel
theorem dX2_flow_74 : decode cX2_flow 74 = .ok (.aload_n 3, 1) := by decide +kernel
theorem dX2_flow_75 : decode cX2_flow 75 = .ok (.iload 7, 2) := by decide +kernel
theorem dX2_flow_77 : decode cX2_flow 77 = .ok (.baload, 1) := by decide +kernel
theorem dX2_flow_78 : decode cX2_flow 78 = .ok (.ifCond .eq 7, 3) := by decide +kernel
theorem dX2_flow_81 : decode cX2_flow 81 = .ok (.iconst 1, 1) := by decide +kernel
theorem dX2_flow_82 : decode cX2_flow 82 = .ok (.goto 4, 3) := by decide +kernel
theorem dX2_flow_85 : decode cX2_flow 85 = .ok (.iconst 0, 1) := by decide +kernel
theorem dX2_flow_86 : decode cX2_flow 86 = .ok (.iand, 1) := by decide +kernel
theorem dX2_flow_87 : decode cX2_flow 87 = .ok (.istore 6, 2) := by decide +kernel
theorem dX2_flow_89 : decode cX2_flow 89 = .ok (.iinc 7 1, 3) := by decide +kernel
theorem dX2_flow_92 : decode cX2_flow 92 = .ok (.goto (-40), 3) := by decide +kernel
theorem dX2_flow_95 : decode cX2_flow 95 = .ok (.iload 6, 2) := by decide +kernel
theorem dX2_flow_97 : decode cX2_flow 97 = .ok (.ifCond .ne 6, 3) := by decide +kernel
theorem dX2_flow_100 : decode cX2_flow 100 = .ok (.goto 150, 3) := by decide +kernel
theorem dX2_flow_103 : decode cX2_flow 103 = .ok (.aload_n 3, 1) := by decide +kernel
theorem dX2_flow_104 : decode cX2_flow 104 = .ok (.iload 5, 2) := by decide +kernel
theorem dX2_flow_106 : decode cX2_flow 106 = .ok (.iconst 1, 1) := by decide +kernel
theorem dX2_flow_107 : decode cX2_flow 107 = .ok (.bastore, 1) := by decide +kernel
theorem dX2_flow_108 : decode cX2_flow 108 = .ok (.aload_n 2, 1) := by decide +kernel
theorem dX2_flow_109 : decode cX2_flow 109 = .ok (.iconst 0, 1) := by decide +kernel
theorem dX2_flow_110 : decode cX2_flow 110 = .ok (.aaload, 1) := by decide +kernel
theorem dX2_flow_111 : decode cX2_flow 111 = .ok (.iload 5, 2) := by decide +kernel
theorem dX2_flow_113 : decode cX2_flow 113 = .ok (.aload_n 0, 1) := by decide +kernel
theorem dX2_flow_114 : decode cX2_flow 114 = .ok (.getfield 9, 3) := by decide +kernel
theorem dX2_flow_117 : decode cX2_flow 117 = .ok (.iload 5, 2) := by decide +kernel
theorem dX2_flow_119 : decode cX2_flow 119 = .ok (.aaload, 1) := by decide +kernel
theorem dX2_flow_120 : decode cX2_flow 120 = .ok (.iconst 3, 1) := by decide +kernel
theorem dX2_flow_121 : decode cX2_flow 121 = .ok (.iaload, 1) := by decide +kernel
theorem dX2_flow_122 : decode cX2_flow 122 = .ok (.iastore, 1) := by decide +kernel
theorem dX2_flow_123 : decode cX2_flow 123 = .ok (.iconst 0, 1) := by decide +kernel
theorem dX2_flow_124 : decode cX2_flow 124 = .ok (.istore 7, 2) := by decide +kernel
theorem dX2_flow_126 : decode cX2_flow 126 = .ok (.iload 7, 2) := by decide +kernel
theorem dX2_flow_128 : decode cX2_flow 128 = .ok (.iload_n 1, 1) := by decide +kernel
theorem dX2_flow_129 : decode cX2_flow 129 = .ok (.if_icmp .ge 83, 3) := by decide +kernel
theorem dX2_flow_132 : decode cX2_flow 132 = .ok (.aload_n 0, 1) := by decide +kernel
theorem dX2_flow_133 : decode cX2_flow 133 = .ok (.getfield 9, 3) := by decide +kernel
theorem dX2_flow_136 : decode cX2_flow 136 = .ok (.iload 7, 2) := by decide +kernel
theorem dX2_flow_138 : decode cX2_flow 138 = .ok (.aaload, 1) := by decide +kernel
theorem dX2_flow_139 : decode cX2_flow 139 = .ok (.iconst 0, 1) := by decide +kernel
theorem dX2_flow_140 : decode cX2_flow 140 = .ok (.iaload, 1) := by decide +kernel
theorem dX2_flow_141 : decode cX2_flow 141 = .ok (.iload 5, 2) := by decide +kernel
theorem dX2_flow_143 : decode cX2_flow 143 = .ok (.if_icmp .eq 6, 3) := by decide +kernel
theorem dX2_flow_146 : decode cX2_flow 146 = .ok (.goto 60, 3) := by decide +kernel
theorem dX2_flow_149 : decode cX2_flow 149 = .ok (.aload_n 2, 1) := by decide +kernel
theorem dX2_flow_150 : decode cX2_flow 150 = .ok (.iconst 0, 1) := by decide +kernel
theorem dX2_flow_151 : decode cX2_flow 151 = .ok (.aaload, 1) := by decide +kernel
theorem dX2_flow_152 : decode cX2_flow 152 = .ok (.iload 5, 2) := by decide +kernel
theorem dX2_flow_154 : decode cX2_flow 154 = .ok (.dup2, 1) := by decide +kernel
theorem dX2_flow_155 : decode cX2_flow 155 = .ok (.iaload, 1) := by decide +kernel
theorem dX2_flow_156 : decode cX2_flow 156 = .ok (.aload_n 2, 1) := by decide +kernel
theorem dX2_flow_157 : decode cX2_flow 157 = .ok (.iconst 0, 1) := by decide +kernel
theorem dX2_flow_158 : decode cX2_flow 158 = .ok (.aaload, 1) := by decide +kernel
theorem dX2_flow_159 : decode cX2_flow 159 = .ok (.iload 7, 2) := by decide +kernel
theorem dX2_flow_161 : decode cX2_flow 161 = .ok (.iaload, 1) := by decide +kernel
theorem dX2_flow_162 : decode cX2_flow 162 = .ok (.iadd, 1) := by decide +kernel
theorem dX2_flow_163 : decode cX2_flow 163 = .ok (.iastore, 1) := by decide +kernel
theorem dX2_flow_164 : decode cX2_flow 164 = .ok (.aload_n 2, 1) := by decide +kernel
theorem dX2_flow_165 : decode cX2_flow 165 = .ok (.iconst 1, 1) := by decide +kernel
theorem dX2_flow_166 : decode cX2_flow 166 = .ok (.aaload, 1) := by decide +kernel
theorem dX2_flow_167 : decode cX2_flow 167 = .ok (.iload 7, 2) := by decide +kernel
theorem dX2_flow_169 : decode cX2_flow 169 = .ok (.iaload, 1) := by decide +kernel
theorem dX2_flow_170 : decode cX2_flow 170 = .ok (.aload_n 2, 1) := by decide +kernel
theorem dX2_flow_171 : decode cX2_flow 171 = .ok (.iconst 1, 1) := by decide +kernel
theorem dX2_flow_172 : decode cX2_flow 172 = .ok (.aaload, 1) := by decide +kernel
theorem dX2_flow_173 : decode cX2_flow 173 = .ok (.iload 5, 2) := by decide +kernel
theorem dX2_flow_175 : decode cX2_flow 175 = .ok (.iaload, 1) := by decide +kernel
theorem dX2_flow_176 : decode cX2_flow 176 = .ok (.if_icmp .lt 30, 3) := by decide +kernel
theorem dX2_flow_179 : decode cX2_flow 179 = .ok (.aload_n 2, 1) := by decide +kernel
theorem dX2_flow_180 : decode cX2_flow 180 = .ok (.iconst 1, 1) := by decide +kernel
theorem dX2_flow_181 : decode cX2_flow 181 = .ok (.aaload, 1) := by decide +kernel
theorem dX2_flow_182 : decode cX2_flow 182 = .ok (.iload 5, 2) := by decide +kernel
theorem dX2_flow_184 : decode cX2_flow 184 = .ok (.aload_n 2, 1) := by decide +kernel
theorem dX2_flow_185 : decode cX2_flow 185 = .ok (.iconst 1, 1) := by decide +kernel
theorem dX2_flow_186 : decode cX2_flow 186 = .ok (.aaload, 1) := by decide +kernel
theorem dX2_flow_187 : decode cX2_flow 187 = .ok (.iload 7, 2) := by decide +kernel
theorem dX2_flow_189 : decode cX2_flow 189 = .ok (.iaload, 1) := by decide +kernel
theorem dX2_flow_190 : decode cX2_flow 190 = .ok (.ifCond .le 14, 3) := by decide +kernel
theorem dX2_flow_193 : decode cX2_flow 193 = .ok (.aload_n 2, 1) := by decide +kernel
theorem dX2_flow_194 : decode cX2_flow 194 = .ok (.iconst 1, 1) := by decide +kernel
theorem dX2_flow_195 : decode cX2_flow 195 = .ok (.aaload, 1) := by decide +kernel
theorem dX2_flow_196 : decode cX2_flow 196 = .ok (.iload 7, 2) := by decide +kernel
theorem dX2_flow_198 : decode cX2_flow 198 = .ok (.iaload, 1) := by decide +kernel
theorem dX2_flow_199 : decode cX2_flow 199 = .ok (.iconst 1, 1) := by decide +kernel
theorem dX2_flow_200 : decode cX2_flow 200 = .ok (.iadd, 1) := by decide +kernel
theorem dX2_flow_201 : decode cX2_flow 201 = .ok (.goto 4, 3) := by decide +kernel
theorem dX2_flow_204 : decode cX2_flow 204 = .ok (.iconst 0, 1) := by decide +kernel
theorem dX2_flow_205 : decode cX2_flow 205 = .ok (.iastore, 1) := by decide +kernel
theorem dX2_flow_206 : decode cX2_flow 206 = .ok (.iinc 7 1, 3) := by decide +kernel
theorem dX2_flow_209 : decode cX2_flow 209 = .ok (.goto (-83), 3) := by decide +kernel
theorem dX2_flow_212 : decode cX2_flow 212 = .ok (.aload_n 2, 1) := by decide +kernel
theorem dX2_flow_213 : decode cX2_flow 213 = .ok (.iconst 1, 1) := by decide +kernel
theorem dX2_flow_214 : decode cX2_flow 214 = .ok (.aaload, 1) := by decide +kernel
theorem dX2_flow_215 : decode cX2_flow 215 = .ok (.iload 5, 2) := by decide +kernel
theorem dX2_flow_217 : decode cX2_flow 217 = .ok (.iaload, 1) := by decide +kernel
theorem dX2_flow_218 : decode cX2_flow 218 = .ok (.ifCond .ne 19, 3) := by decide +kernel
theorem dX2_flow_221 : decode cX2_flow 221 = .ok (.aload_n 0, 1) := by decide +kernel
theorem dX2_flow_222 : decode cX2_flow 222 = .ok (.iload 5, 2) := by decide +kernel
theorem dX2_flow_224 : decode cX2_flow 224 = .ok (.invokevirtual 35, 3) := by decide +kernel
theorem dX2_flow_227 : decode cX2_flow 227 = .ok (.ifCond .eq 10, 3) := by decide +kernel
theorem dX2_flow_230 : decode cX2_flow 230 = .ok (.aload_n 2, 1) := by decide +kernel
theorem dX2_flow_231 : decode cX2_flow 231 = .ok (.iconst 1, 1) := by decide +kernel
theorem dX2_flow_232 : decode cX2_flow 232 = .ok (.aaload, 1) := by decide +kernel
theorem dX2_flow_233 : decode cX2_flow 233 = .ok (.iload 5, 2) := by decide +kernel
theorem dX2_flow_235 : decode cX2_flow 235 = .ok (.iconst 1, 1) := by decide +kernel
theorem dX2_flow_236 : decode cX2_flow 236 = .ok (.iastore, 1) := by decide +kernel
theorem dX2_flow_237 : decode cX2_flow 237 = .ok (.aload_n 2, 1) := by decide +kernel
theorem dX2_flow_238 : decode cX2_flow 238 = .ok (.iconst 2, 1) := by decide +kernel
theorem dX2_flow_239 : decode cX2_flow 239 = .ok (.aaload, 1) := by decide +kernel
theorem dX2_flow_240 : decode cX2_flow 240 = .ok (.iload 5, 2) := by decide +kernel
theorem dX2_flow_242 : decode cX2_flow 242 = .ok (.aload_n 0, 1) := by decide +kernel
theorem dX2_flow_243 : decode cX2_flow 243 = .ok (.iload 5, 2) := by decide +kernel
theorem dX2_flow_245 : decode cX2_flow 245 = .ok (.aload_n 2, 1) := by decide +kernel
theorem dX2_flow_246 : decode cX2_flow 246 = .ok (.invokevirtual 39, 3) := by decide +kernel
theorem dX2_flow_249 : decode cX2_flow 249 = .ok (.iastore, 1) := by decide +kernel
theorem dX2_flow_250 : decode cX2_flow 250 = .ok (.iinc 5 1, 3) := by decide +kernel
theorem dX2_flow_253 : decode cX2_flow 253 = .ok (.goto (-224), 3) := by decide +kernel
theorem dX2_flow_256 : decode cX2_flow 256 = .ok (.iinc 4 1, 3) := by decide +kernel
theorem dX2_flow_259 : decode cX2_flow 259 = .ok (.goto (-239), 3) := by decide +kernel
theorem dX2_flow_262 : decode cX2_flow 262 = .ok (.aload_n 2, 1) := by decide +kernel
theorem dX2_flow_263 : decode cX2_flow 263 = .ok (.areturn, 1) := by decide +kernel
set_option maxRecDepth 20000 in
theorem ggX2_arguers_X2_hasWater : GoodIn wsX2_arguers wsX2_hasWater := goodIn_r _ [7, 2, 8, 9, 10, 11] (by decide +kernel) (by decide +kernel)
set_option maxRecDepth 20000 in
theorem gX2_arguers_X2_hasWater : GoodIn wsX2_arguers (wsV RX2 35 RX2 yX2_hasWater wsX2_hasWater) := goodIn_app (goodIn_of _ (by decide +kernel)) ggX2_arguers_X2_hasWater
theorem dX2_arguers_0 : decode cX2_arguers 0 = .ok (.iconst 0, 1) := by decide +kernel
theorem dX2_arguers_1 : decode cX2_arguers 1 = .ok (.newarray .int, 2) := by decide +kernel
theorem dX2_arguers_3 : decode cX2_arguers 3 = .ok (.astore_n 3, 1) := by decide +kernel
theorem dX2_arguers_4 : decode cX2_arguers 4 = .ok (.iconst 0, 1) := by decide +kernel
theorem dX2_arguers_5 : decode cX2_arguers 5 = .ok (.istore 4, 2) := by decide +kernel
theorem dX2_arguers_7 : decode cX2_arguers 7 = .ok (.iload 4, 2) := by decide +kernel
theorem dX2_arguers_9 : decode cX2_arguers 9 = .ok (.aload_n 0, 1) := by decide +kernel
theorem dX2_arguers_10 : decode cX2_arguers 10 = .ok (.getfield 9, 3) := by decide +kernel
theorem dX2_arguers_13 : decode cX2_arguers 13 = .ok (.arraylength, 1) := by decide +kernel
theorem dX2_arguers_14 : decode cX2_arguers 14 = .ok (.if_icmp .ge 103, 3) := by decide +kernel
theorem dX2_arguers_17 : decode cX2_arguers 17 = .ok (.aload_n 0, 1) := by decide +kernel
theorem dX2_arguers_18 : decode cX2_arguers 18 = .ok (.getfield 9, 3) := by decide +kernel
theorem dX2_arguers_21 : decode cX2_arguers 21 = .ok (.iload_n 1, 1) := by decide +kernel
theorem dX2_arguers_22 : decode cX2_arguers 22 = .ok (.aaload, 1) := by decide +kernel
theorem dX2_arguers_23 : decode cX2_arguers 23 = .ok (.iconst 5, 1) := by decide +kernel
theorem dX2_arguers_24 : decode cX2_arguers 24 = .ok (.iaload, 1) := by decide +kernel
theorem dX2_arguers_25 : decode cX2_arguers 25 = .ok (.ifCond .ne 92, 3) := by decide +kernel
theorem dX2_arguers_28 : decode cX2_arguers 28 = .ok (.iload 4, 2) := by decide +kernel
theorem dX2_arguers_30 : decode cX2_arguers 30 = .ok (.iload_n 1, 1) := by decide +kernel
theorem dX2_arguers_31 : decode cX2_arguers 31 = .ok (.if_icmp .ne 14, 3) := by decide +kernel
theorem dX2_arguers_34 : decode cX2_arguers 34 = .ok (.aload_n 0, 1) := by decide +kernel
theorem dX2_arguers_35 : decode cX2_arguers 35 = .ok (.iload_n 1, 1) := by decide +kernel
theorem dX2_arguers_36 : decode cX2_arguers 36 = .ok (.invokevirtual 35, 3) := by decide +kernel
theorem dX2_arguers_39 : decode cX2_arguers 39 = .ok (.ifCond .ne 29, 3) := by decide +kernel
theorem dX2_arguers_42 : decode cX2_arguers 42 = .ok (.goto 69, 3) := by decide +kernel
theorem dX2_arguers_45 : decode cX2_arguers 45 = .ok (.aload_n 0, 1) := by decide +kernel
theorem dX2_arguers_46 : decode cX2_arguers 46 = .ok (.getfield 9, 3) := by decide +kernel
theorem dX2_arguers_49 : decode cX2_arguers 49 = .ok (.iload 4, 2) := by decide +kernel
theorem dX2_arguers_51 : decode cX2_arguers 51 = .ok (.aaload, 1) := by decide +kernel
theorem dX2_arguers_52 : decode cX2_arguers 52 = .ok (.iconst 0, 1) := by decide +kernel
theorem dX2_arguers_53 : decode cX2_arguers 53 = .ok (.iaload, 1) := by decide +kernel
theorem dX2_arguers_54 : decode cX2_arguers 54 = .ok (.iload_n 1, 1) := by decide +kernel
theorem dX2_arguers_55 : decode cX2_arguers 55 = .ok (.if_icmp .ne 56, 3) := by decide +kernel
theorem dX2_arguers_58 : decode cX2_arguers 58 = .ok (.aload_n 2, 1) := by decide +kernel
theorem dX2_arguers_59 : decode cX2_arguers 59 = .ok (.iload 4, 2) := by decide +kernel
theorem dX2_arguers_61 : decode cX2_arguers 61 = .ok (.iaload, 1) := by decide +kernel
theorem dX2_arguers_62 : decode cX2_arguers 62 = .ok (.ifCond .ge 6, 3) := by decide +kernel
theorem dX2_arguers_65 : decode cX2_arguers 65 = .ok (.goto 46, 3) := by decide +kernel
theorem dX2_arguers_68 : decode cX2_arguers 68 = .ok (.aload_n 3, 1) := by decide +kernel
theorem dX2_arguers_69 : decode cX2_arguers 69 = .ok (.arraylength, 1) := by decide +kernel
theorem dX2_arguers_70 : decode cX2_arguers 70 = .ok (.iconst 1, 1) := by decide +kernel
theorem dX2_arguers_71 : decode cX2_arguers 71 = .ok (.iadd, 1) := by decide +kernel
theorem dX2_arguers_72 : decode cX2_arguers 72 = .ok (.newarray .int, 2) := by decide +kernel
theorem dX2_arguers_74 : decode cX2_arguers 74 = .ok (.astore 5, 2) := by decide +kernel
theorem dX2_arguers_76 : decode cX2_arguers 76 = .ok (.iconst 0, 1) := by decide +kernel
theorem dX2_arguers_77 : decode cX2_arguers 77 = .ok (.istore 6, 2) := by decide +kernel
theorem dX2_arguers_79 : decode cX2_arguers 79 = .ok (.iload 6, 2) := by decide +kernel
theorem dX2_arguers_81 : decode cX2_arguers 81 = .ok (.aload_n 3, 1) := by decide +kernel
theorem dX2_arguers_82 : decode cX2_arguers 82 = .ok (.arraylength, 1) := by decide +kernel
theorem dX2_arguers_83 : decode cX2_arguers 83 = .ok (.if_icmp .ge 18, 3) := by decide +kernel
theorem dX2_arguers_86 : decode cX2_arguers 86 = .ok (.aload 5, 2) := by decide +kernel
theorem dX2_arguers_88 : decode cX2_arguers 88 = .ok (.iload 6, 2) := by decide +kernel
theorem dX2_arguers_90 : decode cX2_arguers 90 = .ok (.aload_n 3, 1) := by decide +kernel
theorem dX2_arguers_91 : decode cX2_arguers 91 = .ok (.iload 6, 2) := by decide +kernel
theorem dX2_arguers_93 : decode cX2_arguers 93 = .ok (.iaload, 1) := by decide +kernel
theorem dX2_arguers_94 : decode cX2_arguers 94 = .ok (.iastore, 1) := by decide +kernel
theorem dX2_arguers_95 : decode cX2_arguers 95 = .ok (.iinc 6 1, 3) := by decide +kernel
theorem dX2_arguers_98 : decode cX2_arguers 98 = .ok (.goto (-19), 3) := by decide +kernel
theorem dX2_arguers_101 : decode cX2_arguers 101 = .ok (.aload 5, 2) := by decide +kernel
theorem dX2_arguers_103 : decode cX2_arguers 103 = .ok (.aload_n 3, 1) := by decide +kernel
theorem dX2_arguers_104 : decode cX2_arguers 104 = .ok (.arraylength, 1) := by decide +kernel
theorem dX2_arguers_105 : decode cX2_arguers 105 = .ok (.iload 4, 2) := by decide +kernel
theorem dX2_arguers_107 : decode cX2_arguers 107 = .ok (.iastore, 1) := by decide +kernel
theorem dX2_arguers_108 : decode cX2_arguers 108 = .ok (.aload 5, 2) := by decide +kernel
theorem dX2_arguers_110 : decode cX2_arguers 110 = .ok (.astore_n 3, 1) := by decide +kernel
theorem dX2_arguers_111 : decode cX2_arguers 111 = .ok (.iinc 4 1, 3) := by decide +kernel
theorem dX2_arguers_114 : decode cX2_arguers 114 = .ok (.goto (-107), 3) := by decide +kernel
theorem dX2_arguers_117 : decode cX2_arguers 117 = .ok (.aload_n 3, 1) := by decide +kernel
theorem dX2_arguers_118 : decode cX2_arguers 118 = .ok (.areturn, 1) := by decide +kernel
theorem dX2_called_0 : decode cX2_called 0 = .ok (.iload_n 2, 1) := by decide +kernel
theorem dX2_called_1 : decode cX2_called 1 = .ok (.iload_n 1, 1) := by decide +kernel
theorem dX2_called_2 : decode cX2_called 2 = .ok (.if_icmp .ne 14, 3) := by decide +kernel
theorem dX2_called_5 : decode cX2_called 5 = .ok (.aload_n 0, 1) := by decide +kernel
theorem dX2_called_6 : decode cX2_called 6 = .ok (.getfield 9, 3) := by decide +kernel
theorem dX2_called_9 : decode cX2_called 9 = .ok (.iload_n 1, 1) := by decide +kernel
theorem dX2_called_10 : decode cX2_called 10 = .ok (.aaload, 1) := by decide +kernel
theorem dX2_called_11 : decode cX2_called 11 = .ok (.iconst 2, 1) := by decide +kernel
theorem dX2_called_12 : decode cX2_called 12 = .ok (.iaload, 1) := by decide +kernel
theorem dX2_called_13 : decode cX2_called 13 = .ok (.goto 6, 3) := by decide +kernel
theorem dX2_called_16 : decode cX2_called 16 = .ok (.aload_n 3, 1) := by decide +kernel
theorem dX2_called_17 : decode cX2_called 17 = .ok (.iload_n 2, 1) := by decide +kernel
theorem dX2_called_18 : decode cX2_called 18 = .ok (.iaload, 1) := by decide +kernel
theorem dX2_called_19 : decode cX2_called 19 = .ok (.ireturn, 1) := by decide +kernel
set_option maxRecDepth 20000 in
theorem ggX2_winner_X2_arguers : GoodIn wsX2_winner wsX2_arguers := goodIn_r _ [7, 8, 2, 9, 10, 11, 6, 12, 17, 18, 19, 20] (by decide +kernel) (by decide +kernel)
set_option maxRecDepth 20000 in
theorem gX2_winner_X2_arguers : GoodIn wsX2_winner (wsV RX2 43 RX2 yX2_arguers wsX2_arguers) := goodIn_app (goodIn_of _ (by decide +kernel)) ggX2_winner_X2_arguers
set_option maxRecDepth 20000 in
theorem ggX2_winner_X2_called : GoodIn wsX2_winner wsX2_called := goodIn_r _ [16, 2, 17, 18, 19, 20] (by decide +kernel) (by decide +kernel)
set_option maxRecDepth 20000 in
theorem gX2_winner_X2_called : GoodIn wsX2_winner (wsV RX2 47 RX2 yX2_called wsX2_called) := goodIn_app (goodIn_of _ (by decide +kernel)) ggX2_winner_X2_called
theorem dX2_winner_0 : decode cX2_winner 0 = .ok (.iconst (-1), 1) := by decide +kernel
theorem dX2_winner_1 : decode cX2_winner 1 = .ok (.istore_n 3, 1) := by decide +kernel
theorem dX2_winner_2 : decode cX2_winner 2 = .ok (.iconst 0, 1) := by decide +kernel
theorem dX2_winner_3 : decode cX2_winner 3 = .ok (.istore 4, 2) := by decide +kernel
theorem dX2_winner_5 : decode cX2_winner 5 = .ok (.aload_n 0, 1) := by decide +kernel
theorem dX2_winner_6 : decode cX2_winner 6 = .ok (.iload_n 1, 1) := by decide +kernel
theorem dX2_winner_7 : decode cX2_winner 7 = .ok (.aload_n 2, 1) := by decide +kernel
theorem dX2_winner_8 : decode cX2_winner 8 = .ok (.iconst 2, 1) := by decide +kernel
theorem dX2_winner_9 : decode cX2_winner 9 = .ok (.aaload, 1) := by decide +kernel
theorem dX2_winner_10 : decode cX2_winner 10 = .ok (.invokevirtual 43, 3) := by decide +kernel
theorem dX2_winner_13 : decode cX2_winner 13 = .ok (.astore 5, 2) := by decide +kernel
theorem dX2_winner_15 : decode cX2_winner 15 = .ok (.aload 5, 2) := by decide +kernel
theorem dX2_winner_17 : decode cX2_winner 17 = .ok (.arraylength, 1) := by decide +kernel
theorem dX2_winner_18 : decode cX2_winner 18 = .ok (.istore 6, 2) := by decide +kernel
theorem dX2_winner_20 : decode cX2_winner 20 = .ok (.iconst 0, 1) := by decide +kernel
theorem dX2_winner_21 : decode cX2_winner 21 = .ok (.istore 7, 2) := by decide +kernel
theorem dX2_winner_23 : decode cX2_winner 23 = .ok (.iload 7, 2) := by decide +kernel
theorem dX2_winner_25 : decode cX2_winner 25 = .ok (.iload 6, 2) := by decide +kernel
theorem dX2_winner_27 : decode cX2_winner 27 = .ok (.if_icmp .ge 89, 3) := by decide +kernel
theorem dX2_winner_30 : decode cX2_winner 30 = .ok (.aload 5, 2) := by decide +kernel
theorem dX2_winner_32 : decode cX2_winner 32 = .ok (.iload 7, 2) := by decide +kernel
theorem dX2_winner_34 : decode cX2_winner 34 = .ok (.iaload, 1) := by decide +kernel
theorem dX2_winner_35 : decode cX2_winner 35 = .ok (.istore 8, 2) := by decide +kernel
theorem dX2_winner_37 : decode cX2_winner 37 = .ok (.iload 8, 2) := by decide +kernel
theorem dX2_winner_39 : decode cX2_winner 39 = .ok (.iload_n 1, 1) := by decide +kernel
theorem dX2_winner_40 : decode cX2_winner 40 = .ok (.if_icmp .ne 25, 3) := by decide +kernel
theorem dX2_winner_43 : decode cX2_winner 43 = .ok (.aload_n 0, 1) := by decide +kernel
theorem dX2_winner_44 : decode cX2_winner 44 = .ok (.getfield 19, 3) := by decide +kernel
theorem dX2_winner_47 : decode cX2_winner 47 = .ok (.ifCond .ne 14, 3) := by decide +kernel
theorem dX2_winner_50 : decode cX2_winner 50 = .ok (.aload_n 0, 1) := by decide +kernel
theorem dX2_winner_51 : decode cX2_winner 51 = .ok (.getfield 9, 3) := by decide +kernel
theorem dX2_winner_54 : decode cX2_winner 54 = .ok (.iload_n 1, 1) := by decide +kernel
theorem dX2_winner_55 : decode cX2_winner 55 = .ok (.aaload, 1) := by decide +kernel
theorem dX2_winner_56 : decode cX2_winner 56 = .ok (.iconst 3, 1) := by decide +kernel
theorem dX2_winner_57 : decode cX2_winner 57 = .ok (.iaload, 1) := by decide +kernel
theorem dX2_winner_58 : decode cX2_winner 58 = .ok (.goto 29, 3) := by decide +kernel
theorem dX2_winner_61 : decode cX2_winner 61 = .ok (.iconst 0, 1) := by decide +kernel
theorem dX2_winner_62 : decode cX2_winner 62 = .ok (.goto 25, 3) := by decide +kernel
theorem dX2_winner_65 : decode cX2_winner 65 = .ok (.aload_n 0, 1) := by decide +kernel
theorem dX2_winner_66 : decode cX2_winner 66 = .ok (.getfield 19, 3) := by decide +kernel
theorem dX2_winner_69 : decode cX2_winner 69 = .ok (.ifCond .ne 12, 3) := by decide +kernel
theorem dX2_winner_72 : decode cX2_winner 72 = .ok (.aload_n 2, 1) := by decide +kernel
theorem dX2_winner_73 : decode cX2_winner 73 = .ok (.iconst 0, 1) := by decide +kernel
theorem dX2_winner_74 : decode cX2_winner 74 = .ok (.aaload, 1) := by decide +kernel
theorem dX2_winner_75 : decode cX2_winner 75 = .ok (.iload 8, 2) := by decide +kernel
theorem dX2_winner_77 : decode cX2_winner 77 = .ok (.iaload, 1) := by decide +kernel
theorem dX2_winner_78 : decode cX2_winner 78 = .ok (.goto 9, 3) := by decide +kernel
theorem dX2_winner_81 : decode cX2_winner 81 = .ok (.aload_n 2, 1) := by decide +kernel
theorem dX2_winner_82 : decode cX2_winner 82 = .ok (.iconst 1, 1) := by decide +kernel
theorem dX2_winner_83 : decode cX2_winner 83 = .ok (.aaload, 1) := by decide +kernel
theorem dX2_winner_84 : decode cX2_winner 84 = .ok (.iload 8, 2) := by decide +kernel
theorem dX2_winner_86 : decode cX2_winner 86 = .ok (.iaload, 1) := by decide +kernel
theorem dX2_winner_87 : decode cX2_winner 87 = .ok (.istore 9, 2) := by decide +kernel
theorem dX2_winner_89 : decode cX2_winner 89 = .ok (.iload_n 3, 1) := by decide +kernel
theorem dX2_winner_90 : decode cX2_winner 90 = .ok (.ifCond .lt 13, 3) := by decide +kernel
theorem dX2_winner_93 : decode cX2_winner 93 = .ok (.iload 9, 2) := by decide +kernel
theorem dX2_winner_95 : decode cX2_winner 95 = .ok (.iload 4, 2) := by decide +kernel
theorem dX2_winner_97 : decode cX2_winner 97 = .ok (.if_icmp .gt 6, 3) := by decide +kernel
theorem dX2_winner_100 : decode cX2_winner 100 = .ok (.goto 10, 3) := by decide +kernel
theorem dX2_winner_103 : decode cX2_winner 103 = .ok (.iload 8, 2) := by decide +kernel
theorem dX2_winner_105 : decode cX2_winner 105 = .ok (.istore_n 3, 1) := by decide +kernel
theorem dX2_winner_106 : decode cX2_winner 106 = .ok (.iload 9, 2) := by decide +kernel
theorem dX2_winner_108 : decode cX2_winner 108 = .ok (.istore 4, 2) := by decide +kernel
theorem dX2_winner_110 : decode cX2_winner 110 = .ok (.iinc 7 1, 3) := by decide +kernel
theorem dX2_winner_113 : decode cX2_winner 113 = .ok (.goto (-90), 3) := by decide +kernel
theorem dX2_winner_116 : decode cX2_winner 116 = .ok (.iload_n 3, 1) := by decide +kernel
theorem dX2_winner_117 : decode cX2_winner 117 = .ok (.ifCond .ge 7, 3) := by decide +kernel
theorem dX2_winner_120 : decode cX2_winner 120 = .ok (.iconst (-1), 1) := by decide +kernel
theorem dX2_winner_121 : decode cX2_winner 121 = .ok (.goto 12, 3) := by decide +kernel
theorem dX2_winner_124 : decode cX2_winner 124 = .ok (.aload_n 0, 1) := by decide +kernel
theorem dX2_winner_125 : decode cX2_winner 125 = .ok (.iload_n 1, 1) := by decide +kernel
theorem dX2_winner_126 : decode cX2_winner 126 = .ok (.iload_n 3, 1) := by decide +kernel
theorem dX2_winner_127 : decode cX2_winner 127 = .ok (.aload_n 2, 1) := by decide +kernel
theorem dX2_winner_128 : decode cX2_winner 128 = .ok (.iconst 2, 1) := by decide +kernel
theorem dX2_winner_129 : decode cX2_winner 129 = .ok (.aaload, 1) := by decide +kernel
theorem dX2_winner_130 : decode cX2_winner 130 = .ok (.invokevirtual 47, 3) := by decide +kernel
theorem dX2_winner_133 : decode cX2_winner 133 = .ok (.ireturn, 1) := by decide +kernel
set_option maxRecDepth 20000 in
theorem ggX2_names_X2_flow : GoodIn wsX2_names wsX2_flow := goodIn_r _ [5, 6, 7, 8, 9, 10, 11, 12, 4, 13, 14, 15, 16, 17, 18, 19, 20, 21, 22, 23, 24, 25, 26, 27, 28, 29, 30] (by decide +kernel) (by decide +kernel)
set_option maxRecDepth 20000 in
theorem gX2_names_X2_flow : GoodIn wsX2_names (wsV RX2 51 RX2 yX2_flow wsX2_flow) := goodIn_app (goodIn_of _ (by decide +kernel)) ggX2_names_X2_flow
theorem dX2_names_0 : decode cX2_names 0 = .ok (.aload_n 0, 1) := by decide +kernel
theorem dX2_names_1 : decode cX2_names 1 = .ok (.invokevirtual 51, 3) := by decide +kernel
theorem dX2_names_4 : decode cX2_names 4 = .ok (.iconst 2, 1) := by decide +kernel
theorem dX2_names_5 : decode cX2_names 5 = .ok (.aaload, 1) := by decide +kernel
theorem dX2_names_6 : decode cX2_names 6 = .ok (.areturn, 1) := by decide +kernel
theorem dX2_differ_0 : decode cX2_differ 0 = .ok (.iconst 0, 1) := by decide +kernel
theorem dX2_differ_1 : decode cX2_differ 1 = .ok (.istore_n 2, 1) := by decide +kernel
theorem dX2_differ_2 : decode cX2_differ 2 = .ok (.iconst 0, 1) := by decide +kernel
theorem dX2_differ_3 : decode cX2_differ 3 = .ok (.istore_n 3, 1) := by decide +kernel
theorem dX2_differ_4 : decode cX2_differ 4 = .ok (.iload_n 3, 1) := by decide +kernel
theorem dX2_differ_5 : decode cX2_differ 5 = .ok (.aload_n 0, 1) := by decide +kernel
theorem dX2_differ_6 : decode cX2_differ 6 = .ok (.arraylength, 1) := by decide +kernel
theorem dX2_differ_7 : decode cX2_differ 7 = .ok (.if_icmp .ge 26, 3) := by decide +kernel
theorem dX2_differ_10 : decode cX2_differ 10 = .ok (.iload_n 2, 1) := by decide +kernel
theorem dX2_differ_11 : decode cX2_differ 11 = .ok (.aload_n 0, 1) := by decide +kernel
theorem dX2_differ_12 : decode cX2_differ 12 = .ok (.iload_n 3, 1) := by decide +kernel
theorem dX2_differ_13 : decode cX2_differ 13 = .ok (.iaload, 1) := by decide +kernel
theorem dX2_differ_14 : decode cX2_differ 14 = .ok (.aload_n 1, 1) := by decide +kernel
theorem dX2_differ_15 : decode cX2_differ 15 = .ok (.iload_n 3, 1) := by decide +kernel
theorem dX2_differ_16 : decode cX2_differ 16 = .ok (.iaload, 1) := by decide +kernel
theorem dX2_differ_17 : decode cX2_differ 17 = .ok (.if_icmp .ne 7, 3) := by decide +kernel
theorem dX2_differ_20 : decode cX2_differ 20 = .ok (.iconst 0, 1) := by decide +kernel
theorem dX2_differ_21 : decode cX2_differ 21 = .ok (.goto 4, 3) := by decide +kernel
theorem dX2_differ_24 : decode cX2_differ 24 = .ok (.iconst 1, 1) := by decide +kernel
theorem dX2_differ_25 : decode cX2_differ 25 = .ok (.iadd, 1) := by decide +kernel
theorem dX2_differ_26 : decode cX2_differ 26 = .ok (.istore_n 2, 1) := by decide +kernel
theorem dX2_differ_27 : decode cX2_differ 27 = .ok (.iinc 3 1, 3) := by decide +kernel
theorem dX2_differ_30 : decode cX2_differ 30 = .ok (.goto (-26), 3) := by decide +kernel
theorem dX2_differ_33 : decode cX2_differ 33 = .ok (.iload_n 2, 1) := by decide +kernel
theorem dX2_differ_34 : decode cX2_differ 34 = .ok (.ireturn, 1) := by decide +kernel
theorem dX2_pass_0 : decode cX2_pass 0 = .ok (.iconst 0, 1) := by decide +kernel
theorem dX2_pass_1 : decode cX2_pass 1 = .ok (.istore_n 2, 1) := by decide +kernel
theorem dX2_pass_2 : decode cX2_pass 2 = .ok (.iload_n 2, 1) := by decide +kernel
theorem dX2_pass_3 : decode cX2_pass 3 = .ok (.iload_n 1, 1) := by decide +kernel
theorem dX2_pass_4 : decode cX2_pass 4 = .ok (.if_icmp .ge 96, 3) := by decide +kernel
theorem dX2_pass_7 : decode cX2_pass 7 = .ok (.aload_n 0, 1) := by decide +kernel
theorem dX2_pass_8 : decode cX2_pass 8 = .ok (.getfield 9, 3) := by decide +kernel
theorem dX2_pass_11 : decode cX2_pass 11 = .ok (.astore_n 3, 1) := by decide +kernel
theorem dX2_pass_12 : decode cX2_pass 12 = .ok (.aload_n 3, 1) := by decide +kernel
theorem dX2_pass_13 : decode cX2_pass 13 = .ok (.arraylength, 1) := by decide +kernel
theorem dX2_pass_14 : decode cX2_pass 14 = .ok (.istore 4, 2) := by decide +kernel
theorem dX2_pass_16 : decode cX2_pass 16 = .ok (.iconst 0, 1) := by decide +kernel
theorem dX2_pass_17 : decode cX2_pass 17 = .ok (.istore 5, 2) := by decide +kernel
theorem dX2_pass_19 : decode cX2_pass 19 = .ok (.iload 5, 2) := by decide +kernel
theorem dX2_pass_21 : decode cX2_pass 21 = .ok (.iload 4, 2) := by decide +kernel
theorem dX2_pass_23 : decode cX2_pass 23 = .ok (.if_icmp .ge 61, 3) := by decide +kernel
theorem dX2_pass_26 : decode cX2_pass 26 = .ok (.aload_n 3, 1) := by decide +kernel
theorem dX2_pass_27 : decode cX2_pass 27 = .ok (.iload 5, 2) := by decide +kernel
theorem dX2_pass_29 : decode cX2_pass 29 = .ok (.aaload, 1) := by decide +kernel
theorem dX2_pass_30 : decode cX2_pass 30 = .ok (.astore 6, 2) := by decide +kernel
theorem dX2_pass_32 : decode cX2_pass 32 = .ok (.aload 6, 2) := by decide +kernel
theorem dX2_pass_34 : decode cX2_pass 34 = .ok (.iconst 3, 1) := by decide +kernel
theorem dX2_pass_35 : decode cX2_pass 35 = .ok (.iaload, 1) := by decide +kernel
theorem dX2_pass_36 : decode cX2_pass 36 = .ok (.aload 6, 2) := by decide +kernel
theorem dX2_pass_38 : decode cX2_pass 38 = .ok (.iconst 4, 1) := by decide +kernel
theorem dX2_pass_39 : decode cX2_pass 39 = .ok (.iaload, 1) := by decide +kernel
theorem dX2_pass_40 : decode cX2_pass 40 = .ok (.iadd, 1) := by decide +kernel
theorem dX2_pass_41 : decode cX2_pass 41 = .ok (.istore 7, 2) := by decide +kernel
theorem dX2_pass_43 : decode cX2_pass 43 = .ok (.aload 6, 2) := by decide +kernel
theorem dX2_pass_45 : decode cX2_pass 45 = .ok (.iconst 1, 1) := by decide +kernel
theorem dX2_pass_46 : decode cX2_pass 46 = .ok (.iaload, 1) := by decide +kernel
theorem dX2_pass_47 : decode cX2_pass 47 = .ok (.iconst 1, 1) := by decide +kernel
theorem dX2_pass_48 : decode cX2_pass 48 = .ok (.if_icmp .ne 30, 3) := by decide +kernel
theorem dX2_pass_51 : decode cX2_pass 51 = .ok (.aload 6, 2) := by decide +kernel
theorem dX2_pass_53 : decode cX2_pass 53 = .ok (.iconst 3, 1) := by decide +kernel
theorem dX2_pass_54 : decode cX2_pass 54 = .ok (.iload 7, 2) := by decide +kernel
theorem dX2_pass_56 : decode cX2_pass 56 = .ok (.ifCond .ge 7, 3) := by decide +kernel
theorem dX2_pass_59 : decode cX2_pass 59 = .ok (.iconst 0, 1) := by decide +kernel
theorem dX2_pass_60 : decode cX2_pass 60 = .ok (.goto 17, 3) := by decide +kernel
theorem dX2_pass_63 : decode cX2_pass 63 = .ok (.iload 7, 2) := by decide +kernel
theorem dX2_pass_65 : decode cX2_pass 65 = .ok (.bipush 99, 2) := by decide +kernel
theorem dX2_pass_67 : decode cX2_pass 67 = .ok (.if_icmp .le 8, 3) := by decide +kernel
theorem dX2_pass_70 : decode cX2_pass 70 = .ok (.bipush 99, 2) := by decide +kernel
theorem dX2_pass_72 : decode cX2_pass 72 = .ok (.goto 5, 3) := by decide +kernel
theorem dX2_pass_75 : decode cX2_pass 75 = .ok (.iload 7, 2) := by decide +kernel
theorem dX2_pass_77 : decode cX2_pass 77 = .ok (.iastore, 1) := by decide +kernel
theorem dX2_pass_78 : decode cX2_pass 78 = .ok (.iinc 5 1, 3) := by decide +kernel
theorem dX2_pass_81 : decode cX2_pass 81 = .ok (.goto (-62), 3) := by decide +kernel
theorem dX2_pass_84 : decode cX2_pass 84 = .ok (.aload_n 0, 1) := by decide +kernel
theorem dX2_pass_85 : decode cX2_pass 85 = .ok (.dup, 1) := by decide +kernel
theorem dX2_pass_86 : decode cX2_pass 86 = .ok (.getfield 23, 3) := by decide +kernel
theorem dX2_pass_89 : decode cX2_pass 89 = .ok (.iconst 1, 1) := by decide +kernel
theorem dX2_pass_90 : decode cX2_pass 90 = .ok (.iadd, 1) := by decide +kernel
theorem dX2_pass_91 : decode cX2_pass 91 = .ok (.putfield 23, 3) := by decide +kernel
theorem dX2_pass_94 : decode cX2_pass 94 = .ok (.iinc 2 1, 3) := by decide +kernel
theorem dX2_pass_97 : decode cX2_pass 97 = .ok (.goto (-95), 3) := by decide +kernel
theorem dX2_pass_100 : decode cX2_pass 100 = .ok (.return_, 1) := by decide +kernel
theorem dX2_insults_0 : decode cX2_insults 0 = .ok (.iconst 0, 1) := by decide +kernel
theorem dX2_insults_1 : decode cX2_insults 1 = .ok (.istore_n 2, 1) := by decide +kernel
theorem dX2_insults_2 : decode cX2_insults 2 = .ok (.aload_n 0, 1) := by decide +kernel
theorem dX2_insults_3 : decode cX2_insults 3 = .ok (.getfield 15, 3) := by decide +kernel
theorem dX2_insults_6 : decode cX2_insults 6 = .ok (.astore_n 3, 1) := by decide +kernel
theorem dX2_insults_7 : decode cX2_insults 7 = .ok (.aload_n 3, 1) := by decide +kernel
theorem dX2_insults_8 : decode cX2_insults 8 = .ok (.arraylength, 1) := by decide +kernel
theorem dX2_insults_9 : decode cX2_insults 9 = .ok (.istore 4, 2) := by decide +kernel
theorem dX2_insults_11 : decode cX2_insults 11 = .ok (.iconst 0, 1) := by decide +kernel
theorem dX2_insults_12 : decode cX2_insults 12 = .ok (.istore 5, 2) := by decide +kernel
theorem dX2_insults_14 : decode cX2_insults 14 = .ok (.iload 5, 2) := by decide +kernel
theorem dX2_insults_16 : decode cX2_insults 16 = .ok (.iload 4, 2) := by decide +kernel
theorem dX2_insults_18 : decode cX2_insults 18 = .ok (.if_icmp .ge 43, 3) := by decide +kernel
theorem dX2_insults_21 : decode cX2_insults 21 = .ok (.aload_n 3, 1) := by decide +kernel
theorem dX2_insults_22 : decode cX2_insults 22 = .ok (.iload 5, 2) := by decide +kernel
theorem dX2_insults_24 : decode cX2_insults 24 = .ok (.aaload, 1) := by decide +kernel
theorem dX2_insults_25 : decode cX2_insults 25 = .ok (.astore 6, 2) := by decide +kernel
theorem dX2_insults_27 : decode cX2_insults 27 = .ok (.iload_n 2, 1) := by decide +kernel
theorem dX2_insults_28 : decode cX2_insults 28 = .ok (.aload 6, 2) := by decide +kernel
theorem dX2_insults_30 : decode cX2_insults 30 = .ok (.iconst 1, 1) := by decide +kernel
theorem dX2_insults_31 : decode cX2_insults 31 = .ok (.iaload, 1) := by decide +kernel
theorem dX2_insults_32 : decode cX2_insults 32 = .ok (.ifCond .lt 20, 3) := by decide +kernel
theorem dX2_insults_35 : decode cX2_insults 35 = .ok (.aload_n 1, 1) := by decide +kernel
theorem dX2_insults_36 : decode cX2_insults 36 = .ok (.aload 6, 2) := by decide +kernel
theorem dX2_insults_38 : decode cX2_insults 38 = .ok (.iconst 0, 1) := by decide +kernel
theorem dX2_insults_39 : decode cX2_insults 39 = .ok (.iaload, 1) := by decide +kernel
theorem dX2_insults_40 : decode cX2_insults 40 = .ok (.iaload, 1) := by decide +kernel
theorem dX2_insults_41 : decode cX2_insults 41 = .ok (.aload 6, 2) := by decide +kernel
theorem dX2_insults_43 : decode cX2_insults 43 = .ok (.iconst 1, 1) := by decide +kernel
theorem dX2_insults_44 : decode cX2_insults 44 = .ok (.iaload, 1) := by decide +kernel
theorem dX2_insults_45 : decode cX2_insults 45 = .ok (.if_icmp .eq 7, 3) := by decide +kernel
theorem dX2_insults_48 : decode cX2_insults 48 = .ok (.iconst 1, 1) := by decide +kernel
theorem dX2_insults_49 : decode cX2_insults 49 = .ok (.goto 4, 3) := by decide +kernel
theorem dX2_insults_52 : decode cX2_insults 52 = .ok (.iconst 0, 1) := by decide +kernel
theorem dX2_insults_53 : decode cX2_insults 53 = .ok (.iadd, 1) := by decide +kernel
theorem dX2_insults_54 : decode cX2_insults 54 = .ok (.istore_n 2, 1) := by decide +kernel
theorem dX2_insults_55 : decode cX2_insults 55 = .ok (.iinc 5 1, 3) := by decide +kernel
theorem dX2_insults_58 : decode cX2_insults 58 = .ok (.goto (-44), 3) := by decide +kernel
theorem dX2_insults_61 : decode cX2_insults 61 = .ok (.iload_n 2, 1) := by decide +kernel
theorem dX2_insults_62 : decode cX2_insults 62 = .ok (.ireturn, 1) := by decide +kernel
set_option maxRecDepth 20000 in
theorem ggX2_isSame_X2_flow : GoodIn wsX2_isSame wsX2_flow := goodIn_r _ [9, 1, 10, 2, 11, 12, 13, 14, 8, 15, 16, 17, 18, 19, 20, 21, 22, 23, 24, 25, 26, 27, 28, 218, 219, 220, 221] (by decide +kernel) (by decide +kernel)
set_option maxRecDepth 20000 in
theorem gX2_isSame_X2_flow : GoodIn wsX2_isSame (wsV RX2 51 RX2 yX2_flow wsX2_flow) := goodIn_app (goodIn_of _ (by decide +kernel)) ggX2_isSame_X2_flow
set_option maxRecDepth 20000 in
theorem ggX2_isSame_X2_isAbove : GoodIn wsX2_isSame wsX2_isAbove := goodIn_r _ [32, 1, 218, 219, 220, 221] (by decide +kernel) (by decide +kernel)
set_option maxRecDepth 20000 in
theorem gX2_isSame_X2_isAbove : GoodIn wsX2_isSame (wsV RX2 55 RX2 yX2_isAbove wsX2_isAbove) := goodIn_app (goodIn_of _ (by decide +kernel)) ggX2_isSame_X2_isAbove
set_option maxRecDepth 20000 in
theorem ggX2_isSame_X2_arguers : GoodIn wsX2_isSame wsX2_arguers := goodIn_r _ [24, 2, 1, 12, 13, 14, 8, 15, 218, 219, 220, 221] (by decide +kernel) (by decide +kernel)
set_option maxRecDepth 20000 in
theorem gX2_isSame_X2_arguers : GoodIn wsX2_isSame (wsV RX2 43 RX2 yX2_arguers wsX2_arguers) := goodIn_app (goodIn_of _ (by decide +kernel)) ggX2_isSame_X2_arguers
set_option maxRecDepth 20000 in
theorem ggX2_isSame_X2_called : GoodIn wsX2_isSame wsX2_called := goodIn_r _ [28, 1, 218, 219, 220, 221] (by decide +kernel) (by decide +kernel)
set_option maxRecDepth 20000 in
theorem gX2_isSame_X2_called : GoodIn wsX2_isSame (wsV RX2 47 RX2 yX2_called wsX2_called) := goodIn_app (goodIn_of _ (by decide +kernel)) ggX2_isSame_X2_called
set_option maxRecDepth 20000 in
theorem ggX2_isSame_X1_leadsTo : GoodIn wsX2_isSame wsX1_leadsTo := goodIn_ca (goodIn_r _ [37, 38, 39, 40, 41, 36, 42, 43, 44, 45, 46, 47, 48, 49, 50, 51, 52, 53, 54, 55, 222, 223, 224, 225, 226, 227, 228, 229, 230, 231, 232, 233, 234, 235, 236, 237, 238, 239, 240, 241, 242, 243] (by decide +kernel) (by decide +kernel)) (goodIn_sub (fun _ h => List.mem_cons_of_mem _ (List.mem_append_right _ h)) (by decide +kernel))
set_option maxRecDepth 20000 in
theorem gX2_isSame_X1_leadsTo : GoodIn wsX2_isSame (wsV RX2 59 RX1 yX1_leadsTo wsX1_leadsTo) := goodIn_app (goodIn_of _ (by decide +kernel)) ggX2_isSame_X1_leadsTo
set_option maxRecDepth 20000 in
theorem ggX2_isSame_X1_hasSpring : GoodIn wsX2_isSame wsX1_hasSpring := goodIn_ca (goodIn_r _ [59, 38, 39, 40, 41, 36, 42, 43, 44, 45, 46, 47, 48, 49, 50, 60, 61, 62, 63, 64, 222, 223, 224, 225, 226, 227, 228, 229, 230, 231, 232, 233, 234, 235, 236, 237, 238, 239, 240, 241, 242, 243] (by decide +kernel) (by decide +kernel)) (goodIn_sub (fun _ h => List.mem_cons_of_mem _ (List.mem_append_right _ h)) (by decide +kernel))
set_option maxRecDepth 20000 in
theorem gX2_isSame_X1_hasSpring : GoodIn wsX2_isSame (wsV RX2 65 RX1 yX1_hasSpring wsX1_hasSpring) := goodIn_app (goodIn_of _ (by decide +kernel)) ggX2_isSame_X1_hasSpring
set_option maxRecDepth 20000 in
theorem ggX2_isSame_X1_springOf : GoodIn wsX2_isSame wsX1_springOf := goodIn_ca (goodIn_r _ [68, 38, 39, 40, 41, 36, 42, 43, 44, 45, 46, 47, 48, 49, 50, 69, 70, 71, 72, 73, 222, 223, 224, 225, 226, 227, 228, 229, 230, 231, 232, 233, 234, 235, 236, 237, 238, 239, 240, 241, 242, 243] (by decide +kernel) (by decide +kernel)) (goodIn_sub (fun _ h => List.mem_cons_of_mem _ (List.mem_append_right _ h)) (by decide +kernel))
set_option maxRecDepth 20000 in
theorem gX2_isSame_X1_springOf : GoodIn wsX2_isSame (wsV RX2 68 RX1 yX1_springOf wsX1_springOf) := goodIn_app (goodIn_of _ (by decide +kernel)) ggX2_isSame_X1_springOf
set_option maxRecDepth 20000 in
theorem ggX2_isSame_X1_waterAt : GoodIn wsX2_isSame wsX1_waterAt := goodIn_ca (goodIn_r _ [77, 38, 39, 40, 41, 36, 42, 43, 44, 45, 46, 47, 48, 49, 50, 78, 79, 80, 81, 82, 222, 223, 224, 225, 226, 227, 228, 229, 230, 231, 232, 233, 234, 235, 236, 237, 238, 239, 240, 241, 242, 243] (by decide +kernel) (by decide +kernel)) (goodIn_sub (fun _ h => List.mem_cons_of_mem _ (List.mem_append_right _ h)) (by decide +kernel))
set_option maxRecDepth 20000 in
theorem gX2_isSame_X1_waterAt : GoodIn wsX2_isSame (wsV RX2 71 RX1 yX1_waterAt wsX1_waterAt) := goodIn_app (goodIn_of _ (by decide +kernel)) ggX2_isSame_X1_waterAt
set_option maxRecDepth 20000 in
theorem ggX2_isSame_X1_lengthAt : GoodIn wsX2_isSame wsX1_lengthAt := goodIn_ca (goodIn_r _ [86, 38, 39, 40, 41, 36, 42, 43, 44, 45, 46, 47, 48, 49, 50, 87, 88, 89, 90, 91, 222, 223, 224, 225, 226, 227, 228, 229, 230, 231, 232, 233, 234, 235, 236, 237, 238, 239, 240, 241, 242, 243] (by decide +kernel) (by decide +kernel)) (goodIn_sub (fun _ h => List.mem_cons_of_mem _ (List.mem_append_right _ h)) (by decide +kernel))
set_option maxRecDepth 20000 in
theorem gX2_isSame_X1_lengthAt : GoodIn wsX2_isSame (wsV RX2 74 RX1 yX1_lengthAt wsX1_lengthAt) := goodIn_app (goodIn_of _ (by decide +kernel)) ggX2_isSame_X1_lengthAt
set_option maxRecDepth 20000 in
theorem ggX2_isSame_X1_mouthOf : GoodIn wsX2_isSame wsX1_mouthOf := goodIn_ca (goodIn_r _ [95, 38, 39, 40, 41, 36, 42, 43, 44, 45, 46, 47, 48, 49, 50, 96, 97, 98, 99, 55, 100, 222, 223, 224, 225, 226, 227, 228, 229, 230, 231, 232, 233, 234, 235, 236, 237, 238, 239, 240, 241, 242, 243] (by decide +kernel) (by decide +kernel)) (goodIn_sub (fun _ h => List.mem_cons_of_mem _ (List.mem_append_right _ h)) (by decide +kernel))
set_option maxRecDepth 20000 in
theorem gX2_isSame_X1_mouthOf : GoodIn wsX2_isSame (wsV RX2 77 RX1 yX1_mouthOf wsX1_mouthOf) := goodIn_app (goodIn_of _ (by decide +kernel)) ggX2_isSame_X1_mouthOf
set_option maxRecDepth 20000 in
theorem ggX2_isSame_X1_placesAbove : GoodIn wsX2_isSame wsX1_placesAbove := goodIn_ca (goodIn_r _ [104, 38, 39, 40, 41, 36, 42, 43, 44, 45, 46, 47, 48, 49, 50, 105, 106, 107, 108, 109, 110, 111, 112, 55, 100, 222, 223, 224, 225, 226, 227, 228, 229, 230, 231, 232, 233, 234, 235, 236, 237, 238, 239, 240, 241, 242, 243] (by decide +kernel) (by decide +kernel)) (goodIn_sub (fun _ h => List.mem_cons_of_mem _ (List.mem_append_right _ h)) (by decide +kernel))
set_option maxRecDepth 20000 in
theorem gX2_isSame_X1_placesAbove : GoodIn wsX2_isSame (wsV RX2 80 RX1 yX1_placesAbove wsX1_placesAbove) := goodIn_app (goodIn_of _ (by decide +kernel)) ggX2_isSame_X1_placesAbove
set_option maxRecDepth 20000 in
theorem ggX2_isSame_X1_nameAt : GoodIn wsX2_isSame wsX1_nameAt := goodIn_ca (goodIn_r _ [116, 38, 39, 40, 41, 36, 42, 43, 44, 45, 46, 47, 48, 49, 50, 117, 118, 119, 120, 121, 222, 223, 224, 225, 226, 227, 228, 229, 230, 231, 232, 233, 234, 235, 236, 237, 238, 239, 240, 241, 242, 243] (by decide +kernel) (by decide +kernel)) (goodIn_sub (fun _ h => List.mem_cons_of_mem _ (List.mem_append_right _ h)) (by decide +kernel))
set_option maxRecDepth 20000 in
theorem gX2_isSame_X1_nameAt : GoodIn wsX2_isSame (wsV RX2 83 RX1 yX1_nameAt wsX1_nameAt) := goodIn_app (goodIn_of _ (by decide +kernel)) ggX2_isSame_X1_nameAt
set_option maxRecDepth 20000 in
theorem ggX2_isSame_X1_arguing : GoodIn wsX2_isSame wsX1_arguing := goodIn_ca (goodIn_r _ [125, 38, 39, 40, 41, 36, 42, 43, 44, 45, 46, 47, 48, 49, 50, 126, 127, 128, 129, 130, 222, 223, 224, 225, 226, 227, 228, 229, 230, 231, 232, 233, 234, 235, 236, 237, 238, 239, 240, 241, 242, 243] (by decide +kernel) (by decide +kernel)) (goodIn_sub (fun _ h => List.mem_cons_of_mem _ (List.mem_append_right _ h)) (by decide +kernel))
set_option maxRecDepth 20000 in
theorem gX2_isSame_X1_arguing : GoodIn wsX2_isSame (wsV RX2 86 RX1 yX1_arguing wsX1_arguing) := goodIn_app (goodIn_of _ (by decide +kernel)) ggX2_isSame_X1_arguing
set_option maxRecDepth 20000 in
theorem ggX2_isSame_X1_isArgued : GoodIn wsX2_isSame wsX1_isArgued := goodIn_ca (goodIn_r _ [134, 38, 39, 40, 41, 36, 42, 43, 44, 45, 46, 47, 48, 49, 50, 135, 136, 137, 138, 139, 222, 223, 224, 225, 226, 227, 228, 229, 230, 231, 232, 233, 234, 235, 236, 237, 238, 239, 240, 241, 242, 243] (by decide +kernel) (by decide +kernel)) (goodIn_sub (fun _ h => List.mem_cons_of_mem _ (List.mem_append_right _ h)) (by decide +kernel))
set_option maxRecDepth 20000 in
theorem gX2_isSame_X1_isArgued : GoodIn wsX2_isSame (wsV RX2 89 RX1 yX1_isArgued wsX1_isArgued) := goodIn_app (goodIn_of _ (by decide +kernel)) ggX2_isSame_X1_isArgued
set_option maxRecDepth 20000 in
theorem ggX2_isSame_X1_insultsAt : GoodIn wsX2_isSame wsX1_insultsAt := goodIn_ca (goodIn_r _ [143, 144, 145, 39, 40, 41, 36, 42, 43, 44, 38, 45, 46, 47, 48, 49, 50, 146, 147, 148, 149, 150, 117, 118, 119, 120, 121, 222, 223, 224, 225, 226, 227, 228, 229, 230, 231, 232, 233, 234, 235, 236, 237, 238, 239, 240, 241, 242, 243] (by decide +kernel) (by decide +kernel)) (goodIn_sub (fun _ h => List.mem_cons_of_mem _ (List.mem_append_right _ h)) (by decide +kernel))
set_option maxRecDepth 20000 in
theorem gX2_isSame_X1_insultsAt : GoodIn wsX2_isSame (wsV RX2 92 RX1 yX1_insultsAt wsX1_insultsAt) := goodIn_app (goodIn_of _ (by decide +kernel)) ggX2_isSame_X1_insultsAt
set_option maxRecDepth 20000 in
theorem ggX2_isSame_X1_placesNamed : GoodIn wsX2_isSame wsX1_placesNamed := goodIn_ca (goodIn_r _ [154, 38, 155, 156, 36, 157, 43, 44, 158, 159, 160, 161, 162, 163, 48, 164, 50, 121, 222, 223, 224, 225, 226, 227, 228, 229, 230, 231, 232, 233, 234, 235, 236, 237, 238, 239, 240, 241, 242, 243] (by decide +kernel) (by decide +kernel)) (goodIn_sub (fun _ h => List.mem_cons_of_mem _ (List.mem_append_right _ h)) (by decide +kernel))
set_option maxRecDepth 20000 in
theorem gX2_isSame_X1_placesNamed : GoodIn wsX2_isSame (wsV RX2 95 RX1 yX1_placesNamed wsX1_placesNamed) := goodIn_app (goodIn_of _ (by decide +kernel)) ggX2_isSame_X1_placesNamed
set_option maxRecDepth 20000 in
theorem ggX2_isSame_X1_placeOf : GoodIn wsX2_isSame wsX1_placeOf := goodIn_ca (goodIn_r _ [168, 145, 169, 170, 171, 36, 172, 43, 44, 144, 222, 223, 224, 225, 226, 227] (by decide +kernel) (by decide +kernel)) (goodIn_sub (fun _ h => List.mem_cons_of_mem _ (List.mem_append_right _ h)) (by decide +kernel))
set_option maxRecDepth 20000 in
theorem gX2_isSame_X1_placeOf : GoodIn wsX2_isSame (wsV RX2 98 RX1 yX1_placeOf wsX1_placeOf) := goodIn_app (goodIn_of _ (by decide +kernel)) ggX2_isSame_X1_placeOf
set_option maxRecDepth 20000 in
theorem ggX2_isSame_X1_keeps : GoodIn wsX2_isSame wsX1_keeps := goodIn_ca (goodIn_r _ [176, 150, 169, 170, 171, 36, 172, 43, 44, 144, 222, 223, 224, 225, 226, 227] (by decide +kernel) (by decide +kernel)) (goodIn_sub (fun _ h => List.mem_cons_of_mem _ (List.mem_append_right _ h)) (by decide +kernel))
set_option maxRecDepth 20000 in
theorem gX2_isSame_X1_keeps : GoodIn wsX2_isSame (wsV RX2 101 RX1 yX1_keeps wsX1_keeps) := goodIn_app (goodIn_of _ (by decide +kernel)) ggX2_isSame_X1_keeps
set_option maxRecDepth 20000 in
theorem ggX2_isSame_X1_isInsulted : GoodIn wsX2_isSame wsX1_isInsulted := goodIn_ca (goodIn_r _ [180, 169, 170, 171, 36, 172, 43, 44, 144, 146, 147, 148, 149, 150, 38, 145, 117, 118, 119, 48, 120, 121, 222, 223, 224, 225, 226, 227, 228, 229, 230, 231, 232, 233, 234, 235, 236, 237, 238, 239, 240, 241, 242, 243] (by decide +kernel) (by decide +kernel)) (goodIn_sub (fun _ h => List.mem_cons_of_mem _ (List.mem_append_right _ h)) (by decide +kernel))
set_option maxRecDepth 20000 in
theorem gX2_isSame_X1_isInsulted : GoodIn wsX2_isSame (wsV RX2 104 RX1 yX1_isInsulted wsX1_isInsulted) := goodIn_app (goodIn_of _ (by decide +kernel)) ggX2_isSame_X1_isInsulted
set_option maxRecDepth 20000 in
theorem ggX2_isSame_X1_year : GoodIn wsX2_isSame wsX1_year := goodIn_r _ [184, 185, 222, 223, 224, 225, 226, 227] (by decide +kernel) (by decide +kernel)
set_option maxRecDepth 20000 in
theorem gX2_isSame_X1_year : GoodIn wsX2_isSame (wsV RX2 107 RX1 yX1_year wsX1_year) := goodIn_app (goodIn_of _ (by decide +kernel)) ggX2_isSame_X1_year
set_option maxRecDepth 20000 in
theorem ggX2_isSame_X1_places : GoodIn wsX2_isSame wsX1_places := goodIn_r _ [189, 38, 105, 106, 107, 48, 108, 50, 222, 223, 224, 225, 226, 227, 228, 229, 230, 231, 232, 233, 234, 235, 236, 237, 238, 239, 240, 241, 242, 243] (by decide +kernel) (by decide +kernel)
set_option maxRecDepth 20000 in
theorem gX2_isSame_X1_places : GoodIn wsX2_isSame (wsV RX2 110 RX1 yX1_places wsX1_places) := goodIn_app (goodIn_of _ (by decide +kernel)) ggX2_isSame_X1_places
set_option maxRecDepth 20000 in
theorem ggX2_isSame_X1_bridges : GoodIn wsX2_isSame wsX1_bridges := goodIn_r _ [193, 144, 222, 223, 224, 225, 226, 227] (by decide +kernel) (by decide +kernel)
set_option maxRecDepth 20000 in
theorem gX2_isSame_X1_bridges : GoodIn wsX2_isSame (wsV RX2 112 RX1 yX1_bridges wsX1_bridges) := goodIn_app (goodIn_of _ (by decide +kernel)) ggX2_isSame_X1_bridges
set_option maxRecDepth 20000 in
theorem ggX2_isSame_X1_insults : GoodIn wsX2_isSame wsX1_insults := goodIn_r _ [197, 198, 199, 200, 36, 201, 144, 146, 147, 148, 149, 150, 38, 145, 117, 118, 119, 48, 120, 121, 222, 223, 224, 225, 226, 227, 228, 229, 230, 231, 232, 233, 234, 235, 236, 237, 238, 239, 240, 241, 242, 243] (by decide +kernel) (by decide +kernel)
set_option maxRecDepth 20000 in
theorem gX2_isSame_X1_insults : GoodIn wsX2_isSame (wsV RX2 114 RX1 yX1_insults wsX1_insults) := goodIn_app (goodIn_of _ (by decide +kernel)) ggX2_isSame_X1_insults
set_option maxRecDepth 20000 in
theorem ggX2_isSame_X2_insults : GoodIn wsX2_isSame wsX2_insults := goodIn_r _ [205, 3, 218, 219, 220, 221] (by decide +kernel) (by decide +kernel)
set_option maxRecDepth 20000 in
theorem gX2_isSame_X2_insults : GoodIn wsX2_isSame (wsV RX2 117 RX2 yX2_insults wsX2_insults) := goodIn_app (goodIn_of _ (by decide +kernel)) ggX2_isSame_X2_insults
set_option maxRecDepth 20000 in
theorem ggX2_isSame_X1_greatestName : GoodIn wsX2_isSame wsX1_greatestName := goodIn_r _ [209, 38, 161, 162, 163, 48, 164, 50, 121, 222, 223, 224, 225, 226, 227, 228, 229, 230, 231, 232, 233, 234, 235, 236, 237, 238, 239, 240, 241, 242, 243] (by decide +kernel) (by decide +kernel)
set_option maxRecDepth 20000 in
theorem gX2_isSame_X1_greatestName : GoodIn wsX2_isSame (wsV RX2 120 RX1 yX1_greatestName wsX1_greatestName) := goodIn_app (goodIn_of _ (by decide +kernel)) ggX2_isSame_X1_greatestName
set_option maxRecDepth 20000 in
theorem ggX2_isSame_X1_nameless : GoodIn wsX2_isSame wsX1_nameless := goodIn_r _ [213, 38, 161, 162, 163, 48, 164, 50, 121, 222, 223, 224, 225, 226, 227, 228, 229, 230, 231, 232, 233, 234, 235, 236, 237, 238, 239, 240, 241, 242, 243] (by decide +kernel) (by decide +kernel)
set_option maxRecDepth 20000 in
theorem gX2_isSame_X1_nameless : GoodIn wsX2_isSame (wsV RX2 123 RX1 yX1_nameless wsX1_nameless) := goodIn_app (goodIn_of _ (by decide +kernel)) ggX2_isSame_X1_nameless
set_option maxRecDepth 20000 in
theorem ggX2_isSame_X1_meanMouth : GoodIn wsX2_isSame wsX1_meanMouth := goodIn_r _ [217, 38, 105, 106, 107, 48, 108, 50, 51, 52, 53, 54, 55, 78, 79, 80, 81, 82, 222, 223, 224, 225, 226, 227, 228, 229, 230, 231, 232, 233, 234, 235, 236, 237, 238, 239, 240, 241, 242, 243] (by decide +kernel) (by decide +kernel)
set_option maxRecDepth 20000 in
theorem gX2_isSame_X1_meanMouth : GoodIn wsX2_isSame (wsV RX2 126 RX1 yX1_meanMouth wsX1_meanMouth) := goodIn_app (goodIn_of _ (by decide +kernel)) ggX2_isSame_X1_meanMouth
theorem dX2_isSame_0 : decode cX2_isSame 0 = .ok (.aload_n 0, 1) := by decide +kernel
theorem dX2_isSame_1 : decode cX2_isSame 1 = .ok (.invokevirtual 51, 3) := by decide +kernel
theorem dX2_isSame_4 : decode cX2_isSame 4 = .ok (.astore_n 2, 1) := by decide +kernel
theorem dX2_isSame_5 : decode cX2_isSame 5 = .ok (.aload_n 2, 1) := by decide +kernel
theorem dX2_isSame_6 : decode cX2_isSame 6 = .ok (.iconst 2, 1) := by decide +kernel
theorem dX2_isSame_7 : decode cX2_isSame 7 = .ok (.aaload, 1) := by decide +kernel
theorem dX2_isSame_8 : decode cX2_isSame 8 = .ok (.astore_n 3, 1) := by decide +kernel
theorem dX2_isSame_9 : decode cX2_isSame 9 = .ok (.aload_n 0, 1) := by decide +kernel
theorem dX2_isSame_10 : decode cX2_isSame 10 = .ok (.getfield 9, 3) := by decide +kernel
theorem dX2_isSame_13 : decode cX2_isSame 13 = .ok (.arraylength, 1) := by decide +kernel
theorem dX2_isSame_14 : decode cX2_isSame 14 = .ok (.istore 4, 2) := by decide +kernel
theorem dX2_isSame_16 : decode cX2_isSame 16 = .ok (.bipush 10, 2) := by decide +kernel
theorem dX2_isSame_18 : decode cX2_isSame 18 = .ok (.newarray .int, 2) := by decide +kernel
theorem dX2_isSame_20 : decode cX2_isSame 20 = .ok (.astore 5, 2) := by decide +kernel
theorem dX2_isSame_22 : decode cX2_isSame 22 = .ok (.iconst 0, 1) := by decide +kernel
theorem dX2_isSame_23 : decode cX2_isSame 23 = .ok (.istore 6, 2) := by decide +kernel
theorem dX2_isSame_25 : decode cX2_isSame 25 = .ok (.iconst 0, 1) := by decide +kernel
theorem dX2_isSame_26 : decode cX2_isSame 26 = .ok (.istore 7, 2) := by decide +kernel
theorem dX2_isSame_28 : decode cX2_isSame 28 = .ok (.iconst 0, 1) := by decide +kernel
theorem dX2_isSame_29 : decode cX2_isSame 29 = .ok (.istore 8, 2) := by decide +kernel
theorem dX2_isSame_31 : decode cX2_isSame 31 = .ok (.iconst 0, 1) := by decide +kernel
theorem dX2_isSame_32 : decode cX2_isSame 32 = .ok (.istore 9, 2) := by decide +kernel
theorem dX2_isSame_34 : decode cX2_isSame 34 = .ok (.iload 9, 2) := by decide +kernel
theorem dX2_isSame_36 : decode cX2_isSame 36 = .ok (.iload 4, 2) := by decide +kernel
theorem dX2_isSame_38 : decode cX2_isSame 38 = .ok (.if_icmp .ge 447, 3) := by decide +kernel
theorem dX2_isSame_41 : decode cX2_isSame 41 = .ok (.iconst 0, 1) := by decide +kernel
theorem dX2_isSame_42 : decode cX2_isSame 42 = .ok (.istore 10, 2) := by decide +kernel
theorem dX2_isSame_44 : decode cX2_isSame 44 = .ok (.iconst 0, 1) := by decide +kernel
theorem dX2_isSame_45 : decode cX2_isSame 45 = .ok (.istore 11, 2) := by decide +kernel
theorem dX2_isSame_47 : decode cX2_isSame 47 = .ok (.iload 11, 2) := by decide +kernel
theorem dX2_isSame_49 : decode cX2_isSame 49 = .ok (.iload 4, 2) := by decide +kernel
theorem dX2_isSame_51 : decode cX2_isSame 51 = .ok (.if_icmp .ge 30, 3) := by decide +kernel
theorem dX2_isSame_54 : decode cX2_isSame 54 = .ok (.iload 10, 2) := by decide +kernel
theorem dX2_isSame_56 : decode cX2_isSame 56 = .ok (.aload_n 0, 1) := by decide +kernel
theorem dX2_isSame_57 : decode cX2_isSame 57 = .ok (.iload 11, 2) := by decide +kernel
theorem dX2_isSame_59 : decode cX2_isSame 59 = .ok (.iload 9, 2) := by decide +kernel
theorem dX2_isSame_61 : decode cX2_isSame 61 = .ok (.invokevirtual 55, 3) := by decide +kernel
theorem dX2_isSame_64 : decode cX2_isSame 64 = .ok (.ifCond .eq 7, 3) := by decide +kernel
theorem dX2_isSame_67 : decode cX2_isSame 67 = .ok (.iconst 1, 1) := by decide +kernel
theorem dX2_isSame_68 : decode cX2_isSame 68 = .ok (.goto 4, 3) := by decide +kernel
theorem dX2_isSame_71 : decode cX2_isSame 71 = .ok (.iconst 0, 1) := by decide +kernel
theorem dX2_isSame_72 : decode cX2_isSame 72 = .ok (.iadd, 1) := by decide +kernel
theorem dX2_isSame_73 : decode cX2_isSame 73 = .ok (.istore 10, 2) := by decide +kernel
theorem dX2_isSame_75 : decode cX2_isSame 75 = .ok (.iinc 11 1, 3) := by decide +kernel
theorem dX2_isSame_78 : decode cX2_isSame 78 = .ok (.goto (-31), 3) := by decide +kernel
theorem dX2_isSame_81 : decode cX2_isSame 81 = .ok (.iload 9, 2) := by decide +kernel
theorem dX2_isSame_83 : decode cX2_isSame 83 = .ok (.istore 11, 2) := by decide +kernel
theorem dX2_isSame_85 : decode cX2_isSame 85 = .ok (.aload_n 0, 1) := by decide +kernel
theorem dX2_isSame_86 : decode cX2_isSame 86 = .ok (.getfield 9, 3) := by decide +kernel
theorem dX2_isSame_89 : decode cX2_isSame 89 = .ok (.iload 11, 2) := by decide +kernel
theorem dX2_isSame_91 : decode cX2_isSame 91 = .ok (.aaload, 1) := by decide +kernel
theorem dX2_isSame_92 : decode cX2_isSame 92 = .ok (.iconst 0, 1) := by decide +kernel
theorem dX2_isSame_93 : decode cX2_isSame 93 = .ok (.iaload, 1) := by decide +kernel
theorem dX2_isSame_94 : decode cX2_isSame 94 = .ok (.ifCond .lt 17, 3) := by decide +kernel
theorem dX2_isSame_97 : decode cX2_isSame 97 = .ok (.aload_n 0, 1) := by decide +kernel
theorem dX2_isSame_98 : decode cX2_isSame 98 = .ok (.getfield 9, 3) := by decide +kernel
theorem dX2_isSame_101 : decode cX2_isSame 101 = .ok (.iload 11, 2) := by decide +kernel
theorem dX2_isSame_103 : decode cX2_isSame 103 = .ok (.aaload, 1) := by decide +kernel
theorem dX2_isSame_104 : decode cX2_isSame 104 = .ok (.iconst 0, 1) := by decide +kernel
theorem dX2_isSame_105 : decode cX2_isSame 105 = .ok (.iaload, 1) := by decide +kernel
theorem dX2_isSame_106 : decode cX2_isSame 106 = .ok (.istore 11, 2) := by decide +kernel
theorem dX2_isSame_108 : decode cX2_isSame 108 = .ok (.goto (-23), 3) := by decide +kernel
theorem dX2_isSame_111 : decode cX2_isSame 111 = .ok (.aload_n 0, 1) := by decide +kernel
theorem dX2_isSame_112 : decode cX2_isSame 112 = .ok (.iload 9, 2) := by decide +kernel
theorem dX2_isSame_114 : decode cX2_isSame 114 = .ok (.aload_n 3, 1) := by decide +kernel
theorem dX2_isSame_115 : decode cX2_isSame 115 = .ok (.invokevirtual 43, 3) := by decide +kernel
theorem dX2_isSame_118 : decode cX2_isSame 118 = .ok (.astore 12, 2) := by decide +kernel
theorem dX2_isSame_120 : decode cX2_isSame 120 = .ok (.iconst 0, 1) := by decide +kernel
theorem dX2_isSame_121 : decode cX2_isSame 121 = .ok (.istore 13, 2) := by decide +kernel
theorem dX2_isSame_123 : decode cX2_isSame 123 = .ok (.aload 12, 2) := by decide +kernel
theorem dX2_isSame_125 : decode cX2_isSame 125 = .ok (.astore 14, 2) := by decide +kernel
theorem dX2_isSame_127 : decode cX2_isSame 127 = .ok (.aload 14, 2) := by decide +kernel
theorem dX2_isSame_129 : decode cX2_isSame 129 = .ok (.arraylength, 1) := by decide +kernel
theorem dX2_isSame_130 : decode cX2_isSame 130 = .ok (.istore 15, 2) := by decide +kernel
theorem dX2_isSame_132 : decode cX2_isSame 132 = .ok (.iconst 0, 1) := by decide +kernel
theorem dX2_isSame_133 : decode cX2_isSame 133 = .ok (.istore 16, 2) := by decide +kernel
theorem dX2_isSame_135 : decode cX2_isSame 135 = .ok (.iload 16, 2) := by decide +kernel
theorem dX2_isSame_137 : decode cX2_isSame 137 = .ok (.iload 15, 2) := by decide +kernel
theorem dX2_isSame_139 : decode cX2_isSame 139 = .ok (.if_icmp .ge 49, 3) := by decide +kernel
theorem dX2_isSame_142 : decode cX2_isSame 142 = .ok (.aload 14, 2) := by decide +kernel
theorem dX2_isSame_144 : decode cX2_isSame 144 = .ok (.iload 16, 2) := by decide +kernel
theorem dX2_isSame_146 : decode cX2_isSame 146 = .ok (.iaload, 1) := by decide +kernel
theorem dX2_isSame_147 : decode cX2_isSame 147 = .ok (.istore 17, 2) := by decide +kernel
theorem dX2_isSame_149 : decode cX2_isSame 149 = .ok (.iload 13, 2) := by decide +kernel
theorem dX2_isSame_151 : decode cX2_isSame 151 = .ok (.aload_n 0, 1) := by decide +kernel
theorem dX2_isSame_152 : decode cX2_isSame 152 = .ok (.iload 9, 2) := by decide +kernel
theorem dX2_isSame_154 : decode cX2_isSame 154 = .ok (.iload 17, 2) := by decide +kernel
theorem dX2_isSame_156 : decode cX2_isSame 156 = .ok (.aload_n 3, 1) := by decide +kernel
theorem dX2_isSame_157 : decode cX2_isSame 157 = .ok (.invokevirtual 47, 3) := by decide +kernel
theorem dX2_isSame_160 : decode cX2_isSame 160 = .ok (.aload_n 0, 1) := by decide +kernel
theorem dX2_isSame_161 : decode cX2_isSame 161 = .ok (.iload 9, 2) := by decide +kernel
theorem dX2_isSame_163 : decode cX2_isSame 163 = .ok (.aload 12, 2) := by decide +kernel
theorem dX2_isSame_165 : decode cX2_isSame 165 = .ok (.iconst 0, 1) := by decide +kernel
theorem dX2_isSame_166 : decode cX2_isSame 166 = .ok (.iaload, 1) := by decide +kernel
theorem dX2_isSame_167 : decode cX2_isSame 167 = .ok (.aload_n 3, 1) := by decide +kernel
theorem dX2_isSame_168 : decode cX2_isSame 168 = .ok (.invokevirtual 47, 3) := by decide +kernel
theorem dX2_isSame_171 : decode cX2_isSame 171 = .ok (.if_icmp .eq 7, 3) := by decide +kernel
theorem dX2_isSame_174 : decode cX2_isSame 174 = .ok (.iconst 1, 1) := by decide +kernel
theorem dX2_isSame_175 : decode cX2_isSame 175 = .ok (.goto 4, 3) := by decide +kernel
theorem dX2_isSame_178 : decode cX2_isSame 178 = .ok (.iconst 0, 1) := by decide +kernel
theorem dX2_isSame_179 : decode cX2_isSame 179 = .ok (.ior, 1) := by decide +kernel
theorem dX2_isSame_180 : decode cX2_isSame 180 = .ok (.istore 13, 2) := by decide +kernel
theorem dX2_isSame_182 : decode cX2_isSame 182 = .ok (.iinc 16 1, 3) := by decide +kernel
theorem dX2_isSame_185 : decode cX2_isSame 185 = .ok (.goto (-50), 3) := by decide +kernel
theorem dX2_isSame_188 : decode cX2_isSame 188 = .ok (.iconst 0, 1) := by decide +kernel
theorem dX2_isSame_189 : decode cX2_isSame 189 = .ok (.istore 14, 2) := by decide +kernel
theorem dX2_isSame_191 : decode cX2_isSame 191 = .ok (.aload_n 0, 1) := by decide +kernel
theorem dX2_isSame_192 : decode cX2_isSame 192 = .ok (.getfield 15, 3) := by decide +kernel
theorem dX2_isSame_195 : decode cX2_isSame 195 = .ok (.astore 15, 2) := by decide +kernel
theorem dX2_isSame_197 : decode cX2_isSame 197 = .ok (.aload 15, 2) := by decide +kernel
theorem dX2_isSame_199 : decode cX2_isSame 199 = .ok (.arraylength, 1) := by decide +kernel
theorem dX2_isSame_200 : decode cX2_isSame 200 = .ok (.istore 16, 2) := by decide +kernel
theorem dX2_isSame_202 : decode cX2_isSame 202 = .ok (.iconst 0, 1) := by decide +kernel
theorem dX2_isSame_203 : decode cX2_isSame 203 = .ok (.istore 17, 2) := by decide +kernel
theorem dX2_isSame_205 : decode cX2_isSame 205 = .ok (.iload 17, 2) := by decide +kernel
theorem dX2_isSame_207 : decode cX2_isSame 207 = .ok (.iload 16, 2) := by decide +kernel
theorem dX2_isSame_209 : decode cX2_isSame 209 = .ok (.if_icmp .ge 53, 3) := by decide +kernel
theorem dX2_isSame_212 : decode cX2_isSame 212 = .ok (.aload 15, 2) := by decide +kernel
theorem dX2_isSame_214 : decode cX2_isSame 214 = .ok (.iload 17, 2) := by decide +kernel
theorem dX2_isSame_216 : decode cX2_isSame 216 = .ok (.aaload, 1) := by decide +kernel
theorem dX2_isSame_217 : decode cX2_isSame 217 = .ok (.astore 18, 2) := by decide +kernel
theorem dX2_isSame_219 : decode cX2_isSame 219 = .ok (.iload 14, 2) := by decide +kernel
theorem dX2_isSame_221 : decode cX2_isSame 221 = .ok (.aload 18, 2) := by decide +kernel
theorem dX2_isSame_223 : decode cX2_isSame 223 = .ok (.iconst 0, 1) := by decide +kernel
theorem dX2_isSame_224 : decode cX2_isSame 224 = .ok (.iaload, 1) := by decide +kernel
theorem dX2_isSame_225 : decode cX2_isSame 225 = .ok (.iload 9, 2) := by decide +kernel
theorem dX2_isSame_227 : decode cX2_isSame 227 = .ok (.if_icmp .ne 25, 3) := by decide +kernel
theorem dX2_isSame_230 : decode cX2_isSame 230 = .ok (.aload 18, 2) := by decide +kernel
theorem dX2_isSame_232 : decode cX2_isSame 232 = .ok (.iconst 1, 1) := by decide +kernel
theorem dX2_isSame_233 : decode cX2_isSame 233 = .ok (.iaload, 1) := by decide +kernel
theorem dX2_isSame_234 : decode cX2_isSame 234 = .ok (.ifCond .lt 18, 3) := by decide +kernel
theorem dX2_isSame_237 : decode cX2_isSame 237 = .ok (.aload_n 3, 1) := by decide +kernel
theorem dX2_isSame_238 : decode cX2_isSame 238 = .ok (.iload 9, 2) := by decide +kernel
theorem dX2_isSame_240 : decode cX2_isSame 240 = .ok (.iaload, 1) := by decide +kernel
theorem dX2_isSame_241 : decode cX2_isSame 241 = .ok (.aload 18, 2) := by decide +kernel
theorem dX2_isSame_243 : decode cX2_isSame 243 = .ok (.iconst 1, 1) := by decide +kernel
theorem dX2_isSame_244 : decode cX2_isSame 244 = .ok (.iaload, 1) := by decide +kernel
theorem dX2_isSame_245 : decode cX2_isSame 245 = .ok (.if_icmp .eq 7, 3) := by decide +kernel
theorem dX2_isSame_248 : decode cX2_isSame 248 = .ok (.iconst 1, 1) := by decide +kernel
theorem dX2_isSame_249 : decode cX2_isSame 249 = .ok (.goto 4, 3) := by decide +kernel
theorem dX2_isSame_252 : decode cX2_isSame 252 = .ok (.iconst 0, 1) := by decide +kernel
theorem dX2_isSame_253 : decode cX2_isSame 253 = .ok (.iadd, 1) := by decide +kernel
theorem dX2_isSame_254 : decode cX2_isSame 254 = .ok (.istore 14, 2) := by decide +kernel
theorem dX2_isSame_256 : decode cX2_isSame 256 = .ok (.iinc 17 1, 3) := by decide +kernel
theorem dX2_isSame_259 : decode cX2_isSame 259 = .ok (.goto (-54), 3) := by decide +kernel
theorem dX2_isSame_262 : decode cX2_isSame 262 = .ok (.aload_n 1, 1) := by decide +kernel
theorem dX2_isSame_263 : decode cX2_isSame 263 = .ok (.iload 9, 2) := by decide +kernel
theorem dX2_isSame_265 : decode cX2_isSame 265 = .ok (.invokevirtual 59, 3) := by decide +kernel
theorem dX2_isSame_268 : decode cX2_isSame 268 = .ok (.aload_n 0, 1) := by decide +kernel
theorem dX2_isSame_269 : decode cX2_isSame 269 = .ok (.getfield 9, 3) := by decide +kernel
theorem dX2_isSame_272 : decode cX2_isSame 272 = .ok (.iload 9, 2) := by decide +kernel
theorem dX2_isSame_274 : decode cX2_isSame 274 = .ok (.aaload, 1) := by decide +kernel
theorem dX2_isSame_275 : decode cX2_isSame 275 = .ok (.iconst 0, 1) := by decide +kernel
theorem dX2_isSame_276 : decode cX2_isSame 276 = .ok (.iaload, 1) := by decide +kernel
theorem dX2_isSame_277 : decode cX2_isSame 277 = .ok (.if_icmp .ne 147, 3) := by decide +kernel
theorem dX2_isSame_280 : decode cX2_isSame 280 = .ok (.aload_n 1, 1) := by decide +kernel
theorem dX2_isSame_281 : decode cX2_isSame 281 = .ok (.iload 9, 2) := by decide +kernel
theorem dX2_isSame_283 : decode cX2_isSame 283 = .ok (.invokevirtual 65, 3) := by decide +kernel
theorem dX2_isSame_286 : decode cX2_isSame 286 = .ok (.aload_n 0, 1) := by decide +kernel
theorem dX2_isSame_287 : decode cX2_isSame 287 = .ok (.getfield 9, 3) := by decide +kernel
theorem dX2_isSame_290 : decode cX2_isSame 290 = .ok (.iload 9, 2) := by decide +kernel
theorem dX2_isSame_292 : decode cX2_isSame 292 = .ok (.aaload, 1) := by decide +kernel
theorem dX2_isSame_293 : decode cX2_isSame 293 = .ok (.iconst 1, 1) := by decide +kernel
theorem dX2_isSame_294 : decode cX2_isSame 294 = .ok (.iaload, 1) := by decide +kernel
theorem dX2_isSame_295 : decode cX2_isSame 295 = .ok (.iconst 1, 1) := by decide +kernel
theorem dX2_isSame_296 : decode cX2_isSame 296 = .ok (.if_icmp .ne 7, 3) := by decide +kernel
theorem dX2_isSame_299 : decode cX2_isSame 299 = .ok (.iconst 1, 1) := by decide +kernel
theorem dX2_isSame_300 : decode cX2_isSame 300 = .ok (.goto 4, 3) := by decide +kernel
theorem dX2_isSame_303 : decode cX2_isSame 303 = .ok (.iconst 0, 1) := by decide +kernel
theorem dX2_isSame_304 : decode cX2_isSame 304 = .ok (.if_icmp .ne 120, 3) := by decide +kernel
theorem dX2_isSame_307 : decode cX2_isSame 307 = .ok (.aload_n 1, 1) := by decide +kernel
theorem dX2_isSame_308 : decode cX2_isSame 308 = .ok (.iload 9, 2) := by decide +kernel
theorem dX2_isSame_310 : decode cX2_isSame 310 = .ok (.invokevirtual 68, 3) := by decide +kernel
theorem dX2_isSame_313 : decode cX2_isSame 313 = .ok (.aload_n 0, 1) := by decide +kernel
theorem dX2_isSame_314 : decode cX2_isSame 314 = .ok (.getfield 9, 3) := by decide +kernel
theorem dX2_isSame_317 : decode cX2_isSame 317 = .ok (.iload 9, 2) := by decide +kernel
theorem dX2_isSame_319 : decode cX2_isSame 319 = .ok (.aaload, 1) := by decide +kernel
theorem dX2_isSame_320 : decode cX2_isSame 320 = .ok (.iconst 3, 1) := by decide +kernel
theorem dX2_isSame_321 : decode cX2_isSame 321 = .ok (.iaload, 1) := by decide +kernel
theorem dX2_isSame_322 : decode cX2_isSame 322 = .ok (.if_icmp .ne 102, 3) := by decide +kernel
theorem dX2_isSame_325 : decode cX2_isSame 325 = .ok (.aload_n 1, 1) := by decide +kernel
theorem dX2_isSame_326 : decode cX2_isSame 326 = .ok (.iload 9, 2) := by decide +kernel
theorem dX2_isSame_328 : decode cX2_isSame 328 = .ok (.invokevirtual 71, 3) := by decide +kernel
theorem dX2_isSame_331 : decode cX2_isSame 331 = .ok (.aload_n 2, 1) := by decide +kernel
theorem dX2_isSame_332 : decode cX2_isSame 332 = .ok (.iconst 0, 1) := by decide +kernel
theorem dX2_isSame_333 : decode cX2_isSame 333 = .ok (.aaload, 1) := by decide +kernel
theorem dX2_isSame_334 : decode cX2_isSame 334 = .ok (.iload 9, 2) := by decide +kernel
theorem dX2_isSame_336 : decode cX2_isSame 336 = .ok (.iaload, 1) := by decide +kernel
theorem dX2_isSame_337 : decode cX2_isSame 337 = .ok (.if_icmp .ne 87, 3) := by decide +kernel
theorem dX2_isSame_340 : decode cX2_isSame 340 = .ok (.aload_n 1, 1) := by decide +kernel
theorem dX2_isSame_341 : decode cX2_isSame 341 = .ok (.iload 9, 2) := by decide +kernel
theorem dX2_isSame_343 : decode cX2_isSame 343 = .ok (.invokevirtual 74, 3) := by decide +kernel
theorem dX2_isSame_346 : decode cX2_isSame 346 = .ok (.aload_n 2, 1) := by decide +kernel
theorem dX2_isSame_347 : decode cX2_isSame 347 = .ok (.iconst 1, 1) := by decide +kernel
theorem dX2_isSame_348 : decode cX2_isSame 348 = .ok (.aaload, 1) := by decide +kernel
theorem dX2_isSame_349 : decode cX2_isSame 349 = .ok (.iload 9, 2) := by decide +kernel
theorem dX2_isSame_351 : decode cX2_isSame 351 = .ok (.iaload, 1) := by decide +kernel
theorem dX2_isSame_352 : decode cX2_isSame 352 = .ok (.if_icmp .ne 72, 3) := by decide +kernel
theorem dX2_isSame_355 : decode cX2_isSame 355 = .ok (.aload_n 1, 1) := by decide +kernel
theorem dX2_isSame_356 : decode cX2_isSame 356 = .ok (.iload 9, 2) := by decide +kernel
theorem dX2_isSame_358 : decode cX2_isSame 358 = .ok (.invokevirtual 77, 3) := by decide +kernel
theorem dX2_isSame_361 : decode cX2_isSame 361 = .ok (.iload 11, 2) := by decide +kernel
theorem dX2_isSame_363 : decode cX2_isSame 363 = .ok (.if_icmp .ne 61, 3) := by decide +kernel
theorem dX2_isSame_366 : decode cX2_isSame 366 = .ok (.aload_n 1, 1) := by decide +kernel
theorem dX2_isSame_367 : decode cX2_isSame 367 = .ok (.iload 9, 2) := by decide +kernel
theorem dX2_isSame_369 : decode cX2_isSame 369 = .ok (.invokevirtual 80, 3) := by decide +kernel
theorem dX2_isSame_372 : decode cX2_isSame 372 = .ok (.iload 10, 2) := by decide +kernel
theorem dX2_isSame_374 : decode cX2_isSame 374 = .ok (.if_icmp .ne 50, 3) := by decide +kernel
theorem dX2_isSame_377 : decode cX2_isSame 377 = .ok (.aload_n 1, 1) := by decide +kernel
theorem dX2_isSame_378 : decode cX2_isSame 378 = .ok (.iload 9, 2) := by decide +kernel
theorem dX2_isSame_380 : decode cX2_isSame 380 = .ok (.invokevirtual 83, 3) := by decide +kernel
theorem dX2_isSame_383 : decode cX2_isSame 383 = .ok (.aload_n 3, 1) := by decide +kernel
theorem dX2_isSame_384 : decode cX2_isSame 384 = .ok (.iload 9, 2) := by decide +kernel
theorem dX2_isSame_386 : decode cX2_isSame 386 = .ok (.iaload, 1) := by decide +kernel
theorem dX2_isSame_387 : decode cX2_isSame 387 = .ok (.if_icmp .ne 37, 3) := by decide +kernel
theorem dX2_isSame_390 : decode cX2_isSame 390 = .ok (.aload_n 1, 1) := by decide +kernel
theorem dX2_isSame_391 : decode cX2_isSame 391 = .ok (.iload 9, 2) := by decide +kernel
theorem dX2_isSame_393 : decode cX2_isSame 393 = .ok (.invokevirtual 86, 3) := by decide +kernel
theorem dX2_isSame_396 : decode cX2_isSame 396 = .ok (.aload 12, 2) := by decide +kernel
theorem dX2_isSame_398 : decode cX2_isSame 398 = .ok (.arraylength, 1) := by decide +kernel
theorem dX2_isSame_399 : decode cX2_isSame 399 = .ok (.if_icmp .ne 25, 3) := by decide +kernel
theorem dX2_isSame_402 : decode cX2_isSame 402 = .ok (.aload_n 1, 1) := by decide +kernel
theorem dX2_isSame_403 : decode cX2_isSame 403 = .ok (.iload 9, 2) := by decide +kernel
theorem dX2_isSame_405 : decode cX2_isSame 405 = .ok (.invokevirtual 89, 3) := by decide +kernel
theorem dX2_isSame_408 : decode cX2_isSame 408 = .ok (.iload 13, 2) := by decide +kernel
theorem dX2_isSame_410 : decode cX2_isSame 410 = .ok (.if_icmp .ne 14, 3) := by decide +kernel
theorem dX2_isSame_413 : decode cX2_isSame 413 = .ok (.aload_n 1, 1) := by decide +kernel
theorem dX2_isSame_414 : decode cX2_isSame 414 = .ok (.iload 9, 2) := by decide +kernel
theorem dX2_isSame_416 : decode cX2_isSame 416 = .ok (.invokevirtual 92, 3) := by decide +kernel
theorem dX2_isSame_419 : decode cX2_isSame 419 = .ok (.iload 14, 2) := by decide +kernel
theorem dX2_isSame_421 : decode cX2_isSame 421 = .ok (.if_icmp .eq 5, 3) := by decide +kernel
theorem dX2_isSame_424 : decode cX2_isSame 424 = .ok (.iconst 0, 1) := by decide +kernel
theorem dX2_isSame_425 : decode cX2_isSame 425 = .ok (.ireturn, 1) := by decide +kernel
theorem dX2_isSame_426 : decode cX2_isSame 426 = .ok (.aload_n 3, 1) := by decide +kernel
theorem dX2_isSame_427 : decode cX2_isSame 427 = .ok (.iload 9, 2) := by decide +kernel
theorem dX2_isSame_429 : decode cX2_isSame 429 = .ok (.iaload, 1) := by decide +kernel
theorem dX2_isSame_430 : decode cX2_isSame 430 = .ok (.ifCond .ge 9, 3) := by decide +kernel
theorem dX2_isSame_433 : decode cX2_isSame 433 = .ok (.iinc 6 1, 3) := by decide +kernel
theorem dX2_isSame_436 : decode cX2_isSame 436 = .ok (.goto 14, 3) := by decide +kernel
theorem dX2_isSame_439 : decode cX2_isSame 439 = .ok (.aload 5, 2) := by decide +kernel
theorem dX2_isSame_441 : decode cX2_isSame 441 = .ok (.aload_n 3, 1) := by decide +kernel
theorem dX2_isSame_442 : decode cX2_isSame 442 = .ok (.iload 9, 2) := by decide +kernel
theorem dX2_isSame_444 : decode cX2_isSame 444 = .ok (.iaload, 1) := by decide +kernel
theorem dX2_isSame_445 : decode cX2_isSame 445 = .ok (.dup2, 1) := by decide +kernel
theorem dX2_isSame_446 : decode cX2_isSame 446 = .ok (.iaload, 1) := by decide +kernel
theorem dX2_isSame_447 : decode cX2_isSame 447 = .ok (.iconst 1, 1) := by decide +kernel
theorem dX2_isSame_448 : decode cX2_isSame 448 = .ok (.iadd, 1) := by decide +kernel
theorem dX2_isSame_449 : decode cX2_isSame 449 = .ok (.iastore, 1) := by decide +kernel
theorem dX2_isSame_450 : decode cX2_isSame 450 = .ok (.aload_n 0, 1) := by decide +kernel
theorem dX2_isSame_451 : decode cX2_isSame 451 = .ok (.getfield 9, 3) := by decide +kernel
theorem dX2_isSame_454 : decode cX2_isSame 454 = .ok (.iload 9, 2) := by decide +kernel
theorem dX2_isSame_456 : decode cX2_isSame 456 = .ok (.aaload, 1) := by decide +kernel
theorem dX2_isSame_457 : decode cX2_isSame 457 = .ok (.iconst 0, 1) := by decide +kernel
theorem dX2_isSame_458 : decode cX2_isSame 458 = .ok (.iaload, 1) := by decide +kernel
theorem dX2_isSame_459 : decode cX2_isSame 459 = .ok (.ifCond .lt 6, 3) := by decide +kernel
theorem dX2_isSame_462 : decode cX2_isSame 462 = .ok (.goto 17, 3) := by decide +kernel
theorem dX2_isSame_465 : decode cX2_isSame 465 = .ok (.iinc 7 1, 3) := by decide +kernel
theorem dX2_isSame_468 : decode cX2_isSame 468 = .ok (.iload 8, 2) := by decide +kernel
theorem dX2_isSame_470 : decode cX2_isSame 470 = .ok (.aload_n 2, 1) := by decide +kernel
theorem dX2_isSame_471 : decode cX2_isSame 471 = .ok (.iconst 0, 1) := by decide +kernel
theorem dX2_isSame_472 : decode cX2_isSame 472 = .ok (.aaload, 1) := by decide +kernel
theorem dX2_isSame_473 : decode cX2_isSame 473 = .ok (.iload 9, 2) := by decide +kernel
theorem dX2_isSame_475 : decode cX2_isSame 475 = .ok (.iaload, 1) := by decide +kernel
theorem dX2_isSame_476 : decode cX2_isSame 476 = .ok (.iadd, 1) := by decide +kernel
theorem dX2_isSame_477 : decode cX2_isSame 477 = .ok (.istore 8, 2) := by decide +kernel
theorem dX2_isSame_479 : decode cX2_isSame 479 = .ok (.iinc 9 1, 3) := by decide +kernel
theorem dX2_isSame_482 : decode cX2_isSame 482 = .ok (.goto (-448), 3) := by decide +kernel
theorem dX2_isSame_485 : decode cX2_isSame 485 = .ok (.iconst (-1), 1) := by decide +kernel
theorem dX2_isSame_486 : decode cX2_isSame 486 = .ok (.istore 9, 2) := by decide +kernel
theorem dX2_isSame_488 : decode cX2_isSame 488 = .ok (.bipush 9, 2) := by decide +kernel
theorem dX2_isSame_490 : decode cX2_isSame 490 = .ok (.istore 10, 2) := by decide +kernel
theorem dX2_isSame_492 : decode cX2_isSame 492 = .ok (.iload 10, 2) := by decide +kernel
theorem dX2_isSame_494 : decode cX2_isSame 494 = .ok (.ifCond .lt 55, 3) := by decide +kernel
theorem dX2_isSame_497 : decode cX2_isSame 497 = .ok (.aload_n 1, 1) := by decide +kernel
theorem dX2_isSame_498 : decode cX2_isSame 498 = .ok (.iload 10, 2) := by decide +kernel
theorem dX2_isSame_500 : decode cX2_isSame 500 = .ok (.invokevirtual 95, 3) := by decide +kernel
theorem dX2_isSame_503 : decode cX2_isSame 503 = .ok (.aload 5, 2) := by decide +kernel
theorem dX2_isSame_505 : decode cX2_isSame 505 = .ok (.iload 10, 2) := by decide +kernel
theorem dX2_isSame_507 : decode cX2_isSame 507 = .ok (.iaload, 1) := by decide +kernel
theorem dX2_isSame_508 : decode cX2_isSame 508 = .ok (.if_icmp .eq 5, 3) := by decide +kernel
theorem dX2_isSame_511 : decode cX2_isSame 511 = .ok (.iconst 0, 1) := by decide +kernel
theorem dX2_isSame_512 : decode cX2_isSame 512 = .ok (.ireturn, 1) := by decide +kernel
theorem dX2_isSame_513 : decode cX2_isSame 513 = .ok (.aload 5, 2) := by decide +kernel
theorem dX2_isSame_515 : decode cX2_isSame 515 = .ok (.iload 10, 2) := by decide +kernel
theorem dX2_isSame_517 : decode cX2_isSame 517 = .ok (.iaload, 1) := by decide +kernel
theorem dX2_isSame_518 : decode cX2_isSame 518 = .ok (.ifCond .le 25, 3) := by decide +kernel
theorem dX2_isSame_521 : decode cX2_isSame 521 = .ok (.iload 9, 2) := by decide +kernel
theorem dX2_isSame_523 : decode cX2_isSame 523 = .ok (.ifCond .lt 16, 3) := by decide +kernel
theorem dX2_isSame_526 : decode cX2_isSame 526 = .ok (.aload 5, 2) := by decide +kernel
theorem dX2_isSame_528 : decode cX2_isSame 528 = .ok (.iload 10, 2) := by decide +kernel
theorem dX2_isSame_530 : decode cX2_isSame 530 = .ok (.iaload, 1) := by decide +kernel
theorem dX2_isSame_531 : decode cX2_isSame 531 = .ok (.aload 5, 2) := by decide +kernel
theorem dX2_isSame_533 : decode cX2_isSame 533 = .ok (.iload 9, 2) := by decide +kernel
theorem dX2_isSame_535 : decode cX2_isSame 535 = .ok (.iaload, 1) := by decide +kernel
theorem dX2_isSame_536 : decode cX2_isSame 536 = .ok (.if_icmp .lt 7, 3) := by decide +kernel
theorem dX2_isSame_539 : decode cX2_isSame 539 = .ok (.iload 10, 2) := by decide +kernel
theorem dX2_isSame_541 : decode cX2_isSame 541 = .ok (.istore 9, 2) := by decide +kernel
theorem dX2_isSame_543 : decode cX2_isSame 543 = .ok (.iinc 10 (-1), 3) := by decide +kernel
theorem dX2_isSame_546 : decode cX2_isSame 546 = .ok (.goto (-54), 3) := by decide +kernel
theorem dX2_isSame_549 : decode cX2_isSame 549 = .ok (.iconst 0, 1) := by decide +kernel
theorem dX2_isSame_550 : decode cX2_isSame 550 = .ok (.istore 10, 2) := by decide +kernel
theorem dX2_isSame_552 : decode cX2_isSame 552 = .ok (.iload 10, 2) := by decide +kernel
theorem dX2_isSame_554 : decode cX2_isSame 554 = .ok (.aload_n 0, 1) := by decide +kernel
theorem dX2_isSame_555 : decode cX2_isSame 555 = .ok (.getfield 15, 3) := by decide +kernel
theorem dX2_isSame_558 : decode cX2_isSame 558 = .ok (.arraylength, 1) := by decide +kernel
theorem dX2_isSame_559 : decode cX2_isSame 559 = .ok (.if_icmp .ge 96, 3) := by decide +kernel
theorem dX2_isSame_562 : decode cX2_isSame 562 = .ok (.aload_n 1, 1) := by decide +kernel
theorem dX2_isSame_563 : decode cX2_isSame 563 = .ok (.iload 10, 2) := by decide +kernel
theorem dX2_isSame_565 : decode cX2_isSame 565 = .ok (.invokevirtual 98, 3) := by decide +kernel
theorem dX2_isSame_568 : decode cX2_isSame 568 = .ok (.aload_n 0, 1) := by decide +kernel
theorem dX2_isSame_569 : decode cX2_isSame 569 = .ok (.getfield 15, 3) := by decide +kernel
theorem dX2_isSame_572 : decode cX2_isSame 572 = .ok (.iload 10, 2) := by decide +kernel
theorem dX2_isSame_574 : decode cX2_isSame 574 = .ok (.aaload, 1) := by decide +kernel
theorem dX2_isSame_575 : decode cX2_isSame 575 = .ok (.iconst 0, 1) := by decide +kernel
theorem dX2_isSame_576 : decode cX2_isSame 576 = .ok (.iaload, 1) := by decide +kernel
theorem dX2_isSame_577 : decode cX2_isSame 577 = .ok (.if_icmp .ne 70, 3) := by decide +kernel
theorem dX2_isSame_580 : decode cX2_isSame 580 = .ok (.aload_n 1, 1) := by decide +kernel
theorem dX2_isSame_581 : decode cX2_isSame 581 = .ok (.iload 10, 2) := by decide +kernel
theorem dX2_isSame_583 : decode cX2_isSame 583 = .ok (.invokevirtual 101, 3) := by decide +kernel
theorem dX2_isSame_586 : decode cX2_isSame 586 = .ok (.aload_n 0, 1) := by decide +kernel
theorem dX2_isSame_587 : decode cX2_isSame 587 = .ok (.getfield 15, 3) := by decide +kernel
theorem dX2_isSame_590 : decode cX2_isSame 590 = .ok (.iload 10, 2) := by decide +kernel
theorem dX2_isSame_592 : decode cX2_isSame 592 = .ok (.aaload, 1) := by decide +kernel
theorem dX2_isSame_593 : decode cX2_isSame 593 = .ok (.iconst 1, 1) := by decide +kernel
theorem dX2_isSame_594 : decode cX2_isSame 594 = .ok (.iaload, 1) := by decide +kernel
theorem dX2_isSame_595 : decode cX2_isSame 595 = .ok (.if_icmp .ne 52, 3) := by decide +kernel
theorem dX2_isSame_598 : decode cX2_isSame 598 = .ok (.aload_n 1, 1) := by decide +kernel
theorem dX2_isSame_599 : decode cX2_isSame 599 = .ok (.iload 10, 2) := by decide +kernel
theorem dX2_isSame_601 : decode cX2_isSame 601 = .ok (.invokevirtual 104, 3) := by decide +kernel
theorem dX2_isSame_604 : decode cX2_isSame 604 = .ok (.aload_n 0, 1) := by decide +kernel
theorem dX2_isSame_605 : decode cX2_isSame 605 = .ok (.getfield 15, 3) := by decide +kernel
theorem dX2_isSame_608 : decode cX2_isSame 608 = .ok (.iload 10, 2) := by decide +kernel
theorem dX2_isSame_610 : decode cX2_isSame 610 = .ok (.aaload, 1) := by decide +kernel
theorem dX2_isSame_611 : decode cX2_isSame 611 = .ok (.iconst 1, 1) := by decide +kernel
theorem dX2_isSame_612 : decode cX2_isSame 612 = .ok (.iaload, 1) := by decide +kernel
theorem dX2_isSame_613 : decode cX2_isSame 613 = .ok (.ifCond .lt 30, 3) := by decide +kernel
theorem dX2_isSame_616 : decode cX2_isSame 616 = .ok (.aload_n 3, 1) := by decide +kernel
theorem dX2_isSame_617 : decode cX2_isSame 617 = .ok (.aload_n 0, 1) := by decide +kernel
theorem dX2_isSame_618 : decode cX2_isSame 618 = .ok (.getfield 15, 3) := by decide +kernel
theorem dX2_isSame_621 : decode cX2_isSame 621 = .ok (.iload 10, 2) := by decide +kernel
theorem dX2_isSame_623 : decode cX2_isSame 623 = .ok (.aaload, 1) := by decide +kernel
theorem dX2_isSame_624 : decode cX2_isSame 624 = .ok (.iconst 0, 1) := by decide +kernel
theorem dX2_isSame_625 : decode cX2_isSame 625 = .ok (.iaload, 1) := by decide +kernel
theorem dX2_isSame_626 : decode cX2_isSame 626 = .ok (.iaload, 1) := by decide +kernel
theorem dX2_isSame_627 : decode cX2_isSame 627 = .ok (.aload_n 0, 1) := by decide +kernel
theorem dX2_isSame_628 : decode cX2_isSame 628 = .ok (.getfield 15, 3) := by decide +kernel
theorem dX2_isSame_631 : decode cX2_isSame 631 = .ok (.iload 10, 2) := by decide +kernel
theorem dX2_isSame_633 : decode cX2_isSame 633 = .ok (.aaload, 1) := by decide +kernel
theorem dX2_isSame_634 : decode cX2_isSame 634 = .ok (.iconst 1, 1) := by decide +kernel
theorem dX2_isSame_635 : decode cX2_isSame 635 = .ok (.iaload, 1) := by decide +kernel
theorem dX2_isSame_636 : decode cX2_isSame 636 = .ok (.if_icmp .eq 7, 3) := by decide +kernel
theorem dX2_isSame_639 : decode cX2_isSame 639 = .ok (.iconst 1, 1) := by decide +kernel
theorem dX2_isSame_640 : decode cX2_isSame 640 = .ok (.goto 4, 3) := by decide +kernel
theorem dX2_isSame_643 : decode cX2_isSame 643 = .ok (.iconst 0, 1) := by decide +kernel
theorem dX2_isSame_644 : decode cX2_isSame 644 = .ok (.if_icmp .eq 5, 3) := by decide +kernel
theorem dX2_isSame_647 : decode cX2_isSame 647 = .ok (.iconst 0, 1) := by decide +kernel
theorem dX2_isSame_648 : decode cX2_isSame 648 = .ok (.ireturn, 1) := by decide +kernel
theorem dX2_isSame_649 : decode cX2_isSame 649 = .ok (.iinc 10 1, 3) := by decide +kernel
theorem dX2_isSame_652 : decode cX2_isSame 652 = .ok (.goto (-100), 3) := by decide +kernel
theorem dX2_isSame_655 : decode cX2_isSame 655 = .ok (.aload_n 1, 1) := by decide +kernel
theorem dX2_isSame_656 : decode cX2_isSame 656 = .ok (.invokevirtual 107, 3) := by decide +kernel
theorem dX2_isSame_659 : decode cX2_isSame 659 = .ok (.aload_n 0, 1) := by decide +kernel
theorem dX2_isSame_660 : decode cX2_isSame 660 = .ok (.getfield 23, 3) := by decide +kernel
theorem dX2_isSame_663 : decode cX2_isSame 663 = .ok (.if_icmp .ne 82, 3) := by decide +kernel
theorem dX2_isSame_666 : decode cX2_isSame 666 = .ok (.aload_n 1, 1) := by decide +kernel
theorem dX2_isSame_667 : decode cX2_isSame 667 = .ok (.invokevirtual 110, 3) := by decide +kernel
theorem dX2_isSame_670 : decode cX2_isSame 670 = .ok (.iload 4, 2) := by decide +kernel
theorem dX2_isSame_672 : decode cX2_isSame 672 = .ok (.if_icmp .ne 73, 3) := by decide +kernel
theorem dX2_isSame_675 : decode cX2_isSame 675 = .ok (.aload_n 1, 1) := by decide +kernel
theorem dX2_isSame_676 : decode cX2_isSame 676 = .ok (.invokevirtual 112, 3) := by decide +kernel
theorem dX2_isSame_679 : decode cX2_isSame 679 = .ok (.aload_n 0, 1) := by decide +kernel
theorem dX2_isSame_680 : decode cX2_isSame 680 = .ok (.getfield 15, 3) := by decide +kernel
theorem dX2_isSame_683 : decode cX2_isSame 683 = .ok (.arraylength, 1) := by decide +kernel
theorem dX2_isSame_684 : decode cX2_isSame 684 = .ok (.if_icmp .ne 61, 3) := by decide +kernel
theorem dX2_isSame_687 : decode cX2_isSame 687 = .ok (.aload_n 1, 1) := by decide +kernel
theorem dX2_isSame_688 : decode cX2_isSame 688 = .ok (.invokevirtual 114, 3) := by decide +kernel
theorem dX2_isSame_691 : decode cX2_isSame 691 = .ok (.aload_n 0, 1) := by decide +kernel
theorem dX2_isSame_692 : decode cX2_isSame 692 = .ok (.aload_n 3, 1) := by decide +kernel
theorem dX2_isSame_693 : decode cX2_isSame 693 = .ok (.invokevirtual 117, 3) := by decide +kernel
theorem dX2_isSame_696 : decode cX2_isSame 696 = .ok (.if_icmp .ne 49, 3) := by decide +kernel
theorem dX2_isSame_699 : decode cX2_isSame 699 = .ok (.aload_n 1, 1) := by decide +kernel
theorem dX2_isSame_700 : decode cX2_isSame 700 = .ok (.invokevirtual 120, 3) := by decide +kernel
theorem dX2_isSame_703 : decode cX2_isSame 703 = .ok (.iload 9, 2) := by decide +kernel
theorem dX2_isSame_705 : decode cX2_isSame 705 = .ok (.if_icmp .ne 40, 3) := by decide +kernel
theorem dX2_isSame_708 : decode cX2_isSame 708 = .ok (.aload_n 1, 1) := by decide +kernel
theorem dX2_isSame_709 : decode cX2_isSame 709 = .ok (.invokevirtual 123, 3) := by decide +kernel
theorem dX2_isSame_712 : decode cX2_isSame 712 = .ok (.iload 6, 2) := by decide +kernel
theorem dX2_isSame_714 : decode cX2_isSame 714 = .ok (.if_icmp .ne 31, 3) := by decide +kernel
theorem dX2_isSame_717 : decode cX2_isSame 717 = .ok (.aload_n 1, 1) := by decide +kernel
theorem dX2_isSame_718 : decode cX2_isSame 718 = .ok (.invokevirtual 126, 3) := by decide +kernel
theorem dX2_isSame_721 : decode cX2_isSame 721 = .ok (.iload 7, 2) := by decide +kernel
theorem dX2_isSame_723 : decode cX2_isSame 723 = .ok (.ifCond .ne 7, 3) := by decide +kernel
theorem dX2_isSame_726 : decode cX2_isSame 726 = .ok (.dconst 0, 1) := by decide +kernel
theorem dX2_isSame_727 : decode cX2_isSame 727 = .ok (.goto 10, 3) := by decide +kernel
theorem dX2_isSame_730 : decode cX2_isSame 730 = .ok (.iload 8, 2) := by decide +kernel
theorem dX2_isSame_732 : decode cX2_isSame 732 = .ok (.i2d, 1) := by decide +kernel
theorem dX2_isSame_733 : decode cX2_isSame 733 = .ok (.iload 7, 2) := by decide +kernel
theorem dX2_isSame_735 : decode cX2_isSame 735 = .ok (.i2d, 1) := by decide +kernel
theorem dX2_isSame_736 : decode cX2_isSame 736 = .ok (.ddiv, 1) := by decide +kernel
theorem dX2_isSame_737 : decode cX2_isSame 737 = .ok (.dcmp .l, 1) := by decide +kernel
theorem dX2_isSame_738 : decode cX2_isSame 738 = .ok (.ifCond .ne 7, 3) := by decide +kernel
theorem dX2_isSame_741 : decode cX2_isSame 741 = .ok (.iconst 1, 1) := by decide +kernel
theorem dX2_isSame_742 : decode cX2_isSame 742 = .ok (.goto 4, 3) := by decide +kernel
theorem dX2_isSame_745 : decode cX2_isSame 745 = .ok (.iconst 0, 1) := by decide +kernel
theorem dX2_isSame_746 : decode cX2_isSame 746 = .ok (.ireturn, 1) := by decide +kernel
