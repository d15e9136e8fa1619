theorem dL_below_0 : decode cL_below 0 = .ok (.iload_n 0, 1) := by decide +kernel
theorem dL_below_1 : decode cL_below 1 = .ok (.ldc 7, 2) := by decide +kernel
theorem dL_below_3 : decode cL_below 3 = .ok (.iand, 1) := by decide +kernel
theorem dL_below_4 : decode cL_below 4 = .ok (.iload_n 1, 1) := by decide +kernel
theorem dL_below_5 : decode cL_below 5 = .ok (.irem, 1) := by decide +kernel
theorem dL_below_6 : decode cL_below 6 = .ok (.ireturn, 1) := by decide +kernel
theorem dL_cell_0 : decode cL_cell 0 = .ok (.iload_n 1, 1) := by decide +kernel
theorem dL_cell_1 : decode cL_cell 1 = .ok (.aload_n 0, 1) := by decide +kernel
theorem dL_cell_2 : decode cL_cell 2 = .ok (.arraylength, 1) := by decide +kernel
theorem dL_cell_3 : decode cL_cell 3 = .ok (.if_icmp .ge 9, 3) := by decide +kernel
theorem dL_cell_6 : decode cL_cell 6 = .ok (.aload_n 0, 1) := by decide +kernel
theorem dL_cell_7 : decode cL_cell 7 = .ok (.iload_n 1, 1) := by decide +kernel
theorem dL_cell_8 : decode cL_cell 8 = .ok (.iaload, 1) := by decide +kernel
theorem dL_cell_9 : decode cL_cell 9 = .ok (.goto 9, 3) := by decide +kernel
theorem dL_cell_12 : decode cL_cell 12 = .ok (.ldc 8, 2) := by decide +kernel
theorem dL_cell_14 : decode cL_cell 14 = .ok (.iload_n 1, 1) := by decide +kernel
theorem dL_cell_15 : decode cL_cell 15 = .ok (.iconst 3, 1) := by decide +kernel
theorem dL_cell_16 : decode cL_cell 16 = .ok (.iadd, 1) := by decide +kernel
theorem dL_cell_17 : decode cL_cell 17 = .ok (.imul, 1) := by decide +kernel
theorem dL_cell_18 : decode cL_cell 18 = .ok (.ireturn, 1) := by decide +kernel
set_option maxRecDepth 20000 in
theorem ggL_act_L_below : GoodIn wsL_act wsL_below := goodIn_r _ [9, 10] (by decide +kernel) (by decide +kernel)
set_option maxRecDepth 20000 in
theorem gL_act_L_below : GoodIn wsL_act (va_wsS RL 15 yL_below wsL_below) := goodIn_app (goodIn_of _ (by decide +kernel)) ggL_act_L_below
set_option maxRecDepth 20000 in
theorem ggL_act_X2_with : GoodIn wsL_act wsX2_with := goodIn_r _ [14, 15] (by decide +kernel) (by decide +kernel)
set_option maxRecDepth 20000 in
theorem gL_act_X2_with : GoodIn wsL_act (va_wsS RL 21 yX2_with wsX2_with) := goodIn_app (goodIn_of _ (by decide +kernel)) ggL_act_X2_with
set_option maxRecDepth 20000 in
theorem ggL_act_X1_addPlace : GoodIn wsL_act wsX1_addPlace := goodIn_ca (goodIn_r _ [20, 21, 22, 23, 24, 19, 25, 26, 27, 28, 29, 30, 31, 32, 33, 34, 35, 36, 37, 38, 39, 40, 41, 42, 43, 44, 45, 46, 47, 48, 49, 50, 51, 52, 53, 54, 55, 56, 57, 58, 59, 60, 61, 62, 63, 64, 65, 66, 67, 68, 69, 70, 71, 72, 73, 74, 224, 225, 226, 227, 228, 229, 230, 231, 232, 233, 234, 235, 236, 237, 238, 239, 240, 241, 242, 243, 244, 245] (by decide +kernel) (by decide +kernel)) (goodIn_sub (fun _ h => List.mem_cons_of_mem _ (List.mem_append_left _ (List.mem_append_left _ (List.mem_append_right _ h)))) (by decide +kernel))
set_option maxRecDepth 20000 in
theorem gL_act_X1_addPlace : GoodIn wsL_act (wsV RL 25 RX1 yX1_addPlace wsX1_addPlace) := goodIn_app (goodIn_of _ (by decide +kernel)) ggL_act_X1_addPlace
set_option maxRecDepth 20000 in
theorem ggL_act_X1_addSpring : GoodIn wsL_act wsX1_addSpring := goodIn_ca (goodIn_ca (goodIn_ca (goodIn_r _ [78, 79, 80, 21, 81, 82, 19, 83, 84, 85, 86, 87, 88, 22, 23, 24, 25, 26, 27, 28, 29, 30, 31, 32, 33, 89, 90, 91, 92, 38, 93, 57, 48, 94, 39, 40, 41, 42, 43, 44, 45, 46, 47, 49, 50, 51, 52, 53, 54, 55, 56, 58, 59, 60, 61, 62, 63, 64, 65, 66, 67, 68, 69, 70, 71, 72, 73, 74, 224, 225, 226, 227, 228, 229, 230, 231, 232, 233, 234, 235, 236, 237, 238, 239, 240, 241, 242, 243, 244, 245] (by decide +kernel) (by decide +kernel)) (goodIn_sub (fun _ h => List.mem_cons_of_mem _ (List.mem_append_left _ (List.mem_append_right _ h))) (by decide +kernel))) (goodIn_sub (fun _ h => List.mem_cons_of_mem _ (List.mem_append_right _ h)) (by decide +kernel))) (goodIn_sub (fun _ h => List.mem_cons_of_mem _ (List.mem_append_left _ (List.mem_append_left _ (List.mem_append_right _ h)))) (by decide +kernel))
set_option maxRecDepth 20000 in
theorem gL_act_X1_addSpring : GoodIn wsL_act (wsV RL 31 RX1 yX1_addSpring wsX1_addSpring) := goodIn_app (goodIn_of _ (by decide +kernel)) ggL_act_X1_addSpring
set_option maxRecDepth 20000 in
theorem ggL_act_X2_isAbove : GoodIn wsL_act wsX2_isAbove := goodIn_r _ [98, 99, 220, 221, 222, 223] (by decide +kernel) (by decide +kernel)
set_option maxRecDepth 20000 in
theorem gL_act_X2_isAbove : GoodIn wsL_act (wsV RL 35 RX2 yX2_isAbove wsX2_isAbove) := goodIn_app (goodIn_of _ (by decide +kernel)) ggL_act_X2_isAbove
set_option maxRecDepth 20000 in
theorem ggL_act_X1_lead : GoodIn wsL_act wsX1_lead := goodIn_ca (goodIn_ca (goodIn_r _ [103, 26, 27, 21, 104, 105, 106, 19, 107, 84, 85, 108, 72, 73, 31, 74, 33, 109, 110, 111, 112, 38, 71, 113, 114, 115, 116, 117, 118, 119, 120, 43, 121, 122, 123, 124, 39, 40, 41, 42, 44, 45, 46, 47, 48, 49, 50, 51, 52, 53, 54, 55, 56, 57, 58, 59, 60, 61, 62, 63, 64, 65, 66, 67, 68, 69, 70, 224, 225, 226, 227, 228, 229, 230, 231, 232, 233, 234, 235, 236, 237, 238, 239, 240, 241, 242, 243, 244, 245] (by decide +kernel) (by decide +kernel)) (goodIn_sub (fun _ h => List.mem_cons_of_mem _ (List.mem_append_left _ (List.mem_append_left _ (List.mem_append_right _ h)))) (by decide +kernel))) (goodIn_sub (fun _ h => List.mem_cons_of_mem _ (List.mem_append_right _ h)) (by decide +kernel))
set_option maxRecDepth 20000 in
theorem gL_act_X1_lead : GoodIn wsL_act (wsV RL 39 RX1 yX1_lead wsX1_lead) := goodIn_app (goodIn_of _ (by decide +kernel)) ggL_act_X1_lead
set_option maxRecDepth 20000 in
theorem ggL_act_X1_turnDelta : GoodIn wsL_act wsX1_turnDelta := goodIn_ca (goodIn_r _ [128, 21, 104, 105, 106, 19, 107, 84, 85, 108, 72, 73, 31, 74, 33, 129, 130, 131, 132, 62, 39, 40, 41, 42, 43, 38, 44, 45, 46, 47, 48, 49, 50, 51, 52, 53, 54, 55, 56, 57, 58, 59, 60, 61, 63, 64, 65, 66, 67, 68, 69, 70, 71, 133, 134, 135, 136, 224, 225, 226, 227, 228, 229, 230, 231, 232, 233, 234, 235, 236, 237, 238, 239, 240, 241, 242, 243, 244, 245] (by decide +kernel) (by decide +kernel)) (goodIn_sub (fun _ h => List.mem_cons_of_mem _ (List.mem_append_right _ h)) (by decide +kernel))
set_option maxRecDepth 20000 in
theorem gL_act_X1_turnDelta : GoodIn wsL_act (wsV RL 42 RX1 yX1_turnDelta wsX1_turnDelta) := goodIn_app (goodIn_of _ (by decide +kernel)) ggL_act_X1_turnDelta
set_option maxRecDepth 20000 in
theorem ggL_act_X1_setRule : GoodIn wsL_act wsX1_setRule := goodIn_ca (goodIn_r _ [140, 79, 80, 21, 86, 87, 19, 88, 141, 142, 143, 31, 144, 56, 145, 146, 147, 148, 39, 40, 41, 42, 33, 43, 38, 44, 45, 46, 47, 48, 49, 50, 51, 52, 53, 54, 55, 57, 58, 59, 60, 61, 62, 63, 64, 65, 66, 67, 68, 69, 70, 71, 72, 73, 74, 224, 225, 226, 227, 228, 229, 230, 231, 232, 233, 234, 235, 236, 237, 238, 239, 240, 241, 242, 243, 244, 245] (by decide +kernel) (by decide +kernel)) (goodIn_sub (fun _ h => List.mem_cons_of_mem _ (List.mem_append_left _ (List.mem_append_right _ h))) (by decide +kernel))
set_option maxRecDepth 20000 in
theorem gL_act_X1_setRule : GoodIn wsL_act (wsV RL 50 RX1 yX1_setRule wsX1_setRule) := goodIn_app (goodIn_of _ (by decide +kernel)) ggL_act_X1_setRule
set_option maxRecDepth 20000 in
theorem ggL_act_X2_names : GoodIn wsL_act wsX2_names := goodIn_r _ [152, 153, 154, 155, 13, 156, 99, 157, 3, 158, 159, 160, 161, 162, 163, 164, 165, 166, 167, 168, 169, 170, 171, 172, 173, 174, 175, 220, 221, 222, 223] (by decide +kernel) (by decide +kernel)
set_option maxRecDepth 20000 in
theorem gL_act_X2_names : GoodIn wsL_act (wsV RL 57 RX2 yX2_names wsX2_names) := goodIn_app (goodIn_of _ (by decide +kernel)) ggL_act_X2_names
set_option maxRecDepth 20000 in
theorem ggL_act_X1_build : GoodIn wsL_act wsX1_build := goodIn_ca (goodIn_ca (goodIn_r _ [179, 26, 27, 180, 181, 182, 21, 104, 105, 106, 19, 107, 84, 85, 108, 72, 73, 31, 74, 33, 183, 184, 185, 186, 51, 224, 225, 226, 227, 228, 229, 230, 231, 232, 233, 234, 235, 236, 237, 238, 239, 240, 241, 242, 243, 244, 245] (by decide +kernel) (by decide +kernel)) (goodIn_sub (fun _ h => List.mem_cons_of_mem _ (List.mem_append_left _ (List.mem_append_left _ (List.mem_append_right _ h)))) (by decide +kernel))) (goodIn_sub (fun _ h => List.mem_cons_of_mem _ (List.mem_append_right _ h)) (by decide +kernel))
set_option maxRecDepth 20000 in
theorem gL_act_X1_build : GoodIn wsL_act (wsV RL 61 RX1 yX1_build wsX1_build) := goodIn_app (goodIn_of _ (by decide +kernel)) ggL_act_X1_build
set_option maxRecDepth 20000 in
theorem ggL_act_X2_pass : GoodIn wsL_act wsX2_pass := goodIn_r _ [190, 99, 191, 220, 221, 222, 223] (by decide +kernel) (by decide +kernel)
set_option maxRecDepth 20000 in
theorem gL_act_X2_pass : GoodIn wsL_act (wsV RL 64 RX2 yX2_pass wsX2_pass) := goodIn_app (goodIn_of _ (by decide +kernel)) ggL_act_X2_pass
set_option maxRecDepth 20000 in
theorem ggL_act_X1_pass : GoodIn wsL_act wsX1_pass := goodIn_ca (goodIn_r _ [195, 21, 196, 197, 198, 19, 199, 79, 80, 86, 87, 88, 200, 201, 202, 31, 203, 33, 48, 94, 204, 205, 69, 206, 67, 68, 70, 39, 40, 41, 42, 43, 38, 44, 45, 46, 47, 49, 50, 51, 52, 53, 54, 55, 56, 57, 58, 59, 60, 61, 62, 63, 64, 65, 66, 71, 72, 73, 74, 207, 208, 209, 210, 180, 211, 212, 213, 214, 182, 181, 183, 184, 185, 186, 224, 225, 226, 227, 228, 229, 230, 231, 232, 233, 234, 235, 236, 237, 238, 239, 240, 241, 242, 243, 244, 245] (by decide +kernel) (by decide +kernel)) (goodIn_sub (fun _ h => List.mem_cons_of_mem _ (List.mem_append_left _ (List.mem_append_right _ h))) (by decide +kernel))
set_option maxRecDepth 20000 in
theorem gL_act_X1_pass : GoodIn wsL_act (wsV RL 68 RX1 yX1_pass wsX1_pass) := goodIn_app (goodIn_of _ (by decide +kernel)) ggL_act_X1_pass
set_option maxRecDepth 20000 in
theorem ggL_act_X2_insults : GoodIn wsL_act wsX2_insults := goodIn_r _ [218, 219, 220, 221, 222, 223] (by decide +kernel) (by decide +kernel)
set_option maxRecDepth 20000 in
theorem gL_act_X2_insults : GoodIn wsL_act (wsV RL 70 RX2 yX2_insults wsX2_insults) := goodIn_app (goodIn_of _ (by decide +kernel)) ggL_act_X2_insults
theorem dL_act_0 : decode cL_act 0 = .ok (.aload_n 1, 1) := by decide +kernel
theorem dL_act_1 : decode cL_act 1 = .ok (.getfield 9, 3) := by decide +kernel
theorem dL_act_4 : decode cL_act 4 = .ok (.arraylength, 1) := by decide +kernel
theorem dL_act_5 : decode cL_act 5 = .ok (.istore_n 3, 1) := by decide +kernel
theorem dL_act_6 : decode cL_act 6 = .ok (.iload_n 3, 1) := by decide +kernel
theorem dL_act_7 : decode cL_act 7 = .ok (.ifCond .ne 7, 3) := by decide +kernel
theorem dL_act_10 : decode cL_act 10 = .ok (.iconst 0, 1) := by decide +kernel
theorem dL_act_11 : decode cL_act 11 = .ok (.goto 10, 3) := by decide +kernel
theorem dL_act_14 : decode cL_act 14 = .ok (.iload_n 2, 1) := by decide +kernel
theorem dL_act_15 : decode cL_act 15 = .ok (.iconst 3, 1) := by decide +kernel
theorem dL_act_16 : decode cL_act 16 = .ok (.ishr, 1) := by decide +kernel
theorem dL_act_17 : decode cL_act 17 = .ok (.iload_n 3, 1) := by decide +kernel
theorem dL_act_18 : decode cL_act 18 = .ok (.invokestatic 15, 3) := by decide +kernel
theorem dL_act_21 : decode cL_act 21 = .ok (.istore 4, 2) := by decide +kernel
theorem dL_act_23 : decode cL_act 23 = .ok (.iload_n 3, 1) := by decide +kernel
theorem dL_act_24 : decode cL_act 24 = .ok (.bipush 16, 2) := by decide +kernel
theorem dL_act_26 : decode cL_act 26 = .ok (.if_icmp .ge 7, 3) := by decide +kernel
theorem dL_act_29 : decode cL_act 29 = .ok (.iconst 1, 1) := by decide +kernel
theorem dL_act_30 : decode cL_act 30 = .ok (.goto 4, 3) := by decide +kernel
theorem dL_act_33 : decode cL_act 33 = .ok (.iconst 0, 1) := by decide +kernel
theorem dL_act_34 : decode cL_act 34 = .ok (.istore 5, 2) := by decide +kernel
theorem dL_act_36 : decode cL_act 36 = .ok (.iload_n 2, 1) := by decide +kernel
theorem dL_act_37 : decode cL_act 37 = .ok (.bipush 14, 2) := by decide +kernel
theorem dL_act_39 : decode cL_act 39 = .ok (.invokestatic 15, 3) := by decide +kernel
theorem dL_act_42 : decode cL_act 42 = .ok (.tableswitch 500 0 9 #[54, 117, 117, 223, 223, 223, 315, 377, 416, 416], 54) := by decide +kernel
theorem dL_act_96 : decode cL_act 96 = .ok (.iload 5, 2) := by decide +kernel
theorem dL_act_98 : decode cL_act 98 = .ok (.ifCond .eq 42, 3) := by decide +kernel
theorem dL_act_101 : decode cL_act 101 = .ok (.aload_n 1, 1) := by decide +kernel
theorem dL_act_102 : decode cL_act 102 = .ok (.aload_n 1, 1) := by decide +kernel
theorem dL_act_103 : decode cL_act 103 = .ok (.getfield 9, 3) := by decide +kernel
theorem dL_act_106 : decode cL_act 106 = .ok (.bipush 6, 2) := by decide +kernel
theorem dL_act_108 : decode cL_act 108 = .ok (.newarray .int, 2) := by decide +kernel
theorem dL_act_110 : decode cL_act 110 = .ok (.dup, 1) := by decide +kernel
theorem dL_act_111 : decode cL_act 111 = .ok (.iconst 0, 1) := by decide +kernel
theorem dL_act_112 : decode cL_act 112 = .ok (.iconst (-1), 1) := by decide +kernel
theorem dL_act_113 : decode cL_act 113 = .ok (.iastore, 1) := by decide +kernel
theorem dL_act_114 : decode cL_act 114 = .ok (.dup, 1) := by decide +kernel
theorem dL_act_115 : decode cL_act 115 = .ok (.iconst 1, 1) := by decide +kernel
theorem dL_act_116 : decode cL_act 116 = .ok (.iconst 0, 1) := by decide +kernel
theorem dL_act_117 : decode cL_act 117 = .ok (.iastore, 1) := by decide +kernel
theorem dL_act_118 : decode cL_act 118 = .ok (.dup, 1) := by decide +kernel
theorem dL_act_119 : decode cL_act 119 = .ok (.iconst 2, 1) := by decide +kernel
theorem dL_act_120 : decode cL_act 120 = .ok (.iconst (-1), 1) := by decide +kernel
theorem dL_act_121 : decode cL_act 121 = .ok (.iastore, 1) := by decide +kernel
theorem dL_act_122 : decode cL_act 122 = .ok (.dup, 1) := by decide +kernel
theorem dL_act_123 : decode cL_act 123 = .ok (.iconst 3, 1) := by decide +kernel
theorem dL_act_124 : decode cL_act 124 = .ok (.iconst 0, 1) := by decide +kernel
theorem dL_act_125 : decode cL_act 125 = .ok (.iastore, 1) := by decide +kernel
theorem dL_act_126 : decode cL_act 126 = .ok (.dup, 1) := by decide +kernel
theorem dL_act_127 : decode cL_act 127 = .ok (.iconst 4, 1) := by decide +kernel
theorem dL_act_128 : decode cL_act 128 = .ok (.iconst 0, 1) := by decide +kernel
theorem dL_act_129 : decode cL_act 129 = .ok (.iastore, 1) := by decide +kernel
theorem dL_act_130 : decode cL_act 130 = .ok (.dup, 1) := by decide +kernel
theorem dL_act_131 : decode cL_act 131 = .ok (.iconst 5, 1) := by decide +kernel
theorem dL_act_132 : decode cL_act 132 = .ok (.iconst 0, 1) := by decide +kernel
theorem dL_act_133 : decode cL_act 133 = .ok (.iastore, 1) := by decide +kernel
theorem dL_act_134 : decode cL_act 134 = .ok (.invokestatic 21, 3) := by decide +kernel
theorem dL_act_137 : decode cL_act 137 = .ok (.putfield 9, 3) := by decide +kernel
theorem dL_act_140 : decode cL_act 140 = .ok (.aload_n 0, 1) := by decide +kernel
theorem dL_act_141 : decode cL_act 141 = .ok (.invokevirtual 25, 3) := by decide +kernel
theorem dL_act_144 : decode cL_act 144 = .ok (.iload_n 3, 1) := by decide +kernel
theorem dL_act_145 : decode cL_act 145 = .ok (.if_icmp .ne 12, 3) := by decide +kernel
theorem dL_act_148 : decode cL_act 148 = .ok (.iload 5, 2) := by decide +kernel
theorem dL_act_150 : decode cL_act 150 = .ok (.ifCond .eq 7, 3) := by decide +kernel
theorem dL_act_153 : decode cL_act 153 = .ok (.iconst 1, 1) := by decide +kernel
theorem dL_act_154 : decode cL_act 154 = .ok (.goto 4, 3) := by decide +kernel
theorem dL_act_157 : decode cL_act 157 = .ok (.iconst 0, 1) := by decide +kernel
theorem dL_act_158 : decode cL_act 158 = .ok (.ireturn, 1) := by decide +kernel
theorem dL_act_159 : decode cL_act 159 = .ok (.iload_n 2, 1) := by decide +kernel
theorem dL_act_160 : decode cL_act 160 = .ok (.iconst 4, 1) := by decide +kernel
theorem dL_act_161 : decode cL_act 161 = .ok (.ishr, 1) := by decide +kernel
theorem dL_act_162 : decode cL_act 162 = .ok (.bipush 10, 2) := by decide +kernel
theorem dL_act_164 : decode cL_act 164 = .ok (.invokestatic 15, 3) := by decide +kernel
theorem dL_act_167 : decode cL_act 167 = .ok (.istore 6, 2) := by decide +kernel
theorem dL_act_169 : decode cL_act 169 = .ok (.iload_n 2, 1) := by decide +kernel
theorem dL_act_170 : decode cL_act 170 = .ok (.bipush 6, 2) := by decide +kernel
theorem dL_act_172 : decode cL_act 172 = .ok (.ishr, 1) := by decide +kernel
theorem dL_act_173 : decode cL_act 173 = .ok (.bipush 100, 2) := by decide +kernel
theorem dL_act_175 : decode cL_act 175 = .ok (.invokestatic 15, 3) := by decide +kernel
theorem dL_act_178 : decode cL_act 178 = .ok (.istore 7, 2) := by decide +kernel
theorem dL_act_180 : decode cL_act 180 = .ok (.iload_n 2, 1) := by decide +kernel
theorem dL_act_181 : decode cL_act 181 = .ok (.iconst 5, 1) := by decide +kernel
theorem dL_act_182 : decode cL_act 182 = .ok (.ishr, 1) := by decide +kernel
theorem dL_act_183 : decode cL_act 183 = .ok (.bipush 19, 2) := by decide +kernel
theorem dL_act_185 : decode cL_act 185 = .ok (.invokestatic 15, 3) := by decide +kernel
theorem dL_act_188 : decode cL_act 188 = .ok (.bipush 9, 2) := by decide +kernel
theorem dL_act_190 : decode cL_act 190 = .ok (.isub, 1) := by decide +kernel
theorem dL_act_191 : decode cL_act 191 = .ok (.istore 8, 2) := by decide +kernel
theorem dL_act_193 : decode cL_act 193 = .ok (.iload 5, 2) := by decide +kernel
theorem dL_act_195 : decode cL_act 195 = .ok (.ifCond .eq 45, 3) := by decide +kernel
theorem dL_act_198 : decode cL_act 198 = .ok (.aload_n 1, 1) := by decide +kernel
theorem dL_act_199 : decode cL_act 199 = .ok (.aload_n 1, 1) := by decide +kernel
theorem dL_act_200 : decode cL_act 200 = .ok (.getfield 9, 3) := by decide +kernel
theorem dL_act_203 : decode cL_act 203 = .ok (.bipush 6, 2) := by decide +kernel
theorem dL_act_205 : decode cL_act 205 = .ok (.newarray .int, 2) := by decide +kernel
theorem dL_act_207 : decode cL_act 207 = .ok (.dup, 1) := by decide +kernel
theorem dL_act_208 : decode cL_act 208 = .ok (.iconst 0, 1) := by decide +kernel
theorem dL_act_209 : decode cL_act 209 = .ok (.iconst (-1), 1) := by decide +kernel
theorem dL_act_210 : decode cL_act 210 = .ok (.iastore, 1) := by decide +kernel
theorem dL_act_211 : decode cL_act 211 = .ok (.dup, 1) := by decide +kernel
theorem dL_act_212 : decode cL_act 212 = .ok (.iconst 1, 1) := by decide +kernel
theorem dL_act_213 : decode cL_act 213 = .ok (.iconst 1, 1) := by decide +kernel
theorem dL_act_214 : decode cL_act 214 = .ok (.iastore, 1) := by decide +kernel
theorem dL_act_215 : decode cL_act 215 = .ok (.dup, 1) := by decide +kernel
theorem dL_act_216 : decode cL_act 216 = .ok (.iconst 2, 1) := by decide +kernel
theorem dL_act_217 : decode cL_act 217 = .ok (.iload 6, 2) := by decide +kernel
theorem dL_act_219 : decode cL_act 219 = .ok (.iastore, 1) := by decide +kernel
theorem dL_act_220 : decode cL_act 220 = .ok (.dup, 1) := by decide +kernel
theorem dL_act_221 : decode cL_act 221 = .ok (.iconst 3, 1) := by decide +kernel
theorem dL_act_222 : decode cL_act 222 = .ok (.iload 7, 2) := by decide +kernel
theorem dL_act_224 : decode cL_act 224 = .ok (.iastore, 1) := by decide +kernel
theorem dL_act_225 : decode cL_act 225 = .ok (.dup, 1) := by decide +kernel
theorem dL_act_226 : decode cL_act 226 = .ok (.iconst 4, 1) := by decide +kernel
theorem dL_act_227 : decode cL_act 227 = .ok (.iload 8, 2) := by decide +kernel
theorem dL_act_229 : decode cL_act 229 = .ok (.iastore, 1) := by decide +kernel
theorem dL_act_230 : decode cL_act 230 = .ok (.dup, 1) := by decide +kernel
theorem dL_act_231 : decode cL_act 231 = .ok (.iconst 5, 1) := by decide +kernel
theorem dL_act_232 : decode cL_act 232 = .ok (.iconst 0, 1) := by decide +kernel
theorem dL_act_233 : decode cL_act 233 = .ok (.iastore, 1) := by decide +kernel
theorem dL_act_234 : decode cL_act 234 = .ok (.invokestatic 21, 3) := by decide +kernel
theorem dL_act_237 : decode cL_act 237 = .ok (.putfield 9, 3) := by decide +kernel
theorem dL_act_240 : decode cL_act 240 = .ok (.aload_n 0, 1) := by decide +kernel
theorem dL_act_241 : decode cL_act 241 = .ok (.iload 6, 2) := by decide +kernel
theorem dL_act_243 : decode cL_act 243 = .ok (.iload 7, 2) := by decide +kernel
theorem dL_act_245 : decode cL_act 245 = .ok (.iload 8, 2) := by decide +kernel
theorem dL_act_247 : decode cL_act 247 = .ok (.invokevirtual 31, 3) := by decide +kernel
theorem dL_act_250 : decode cL_act 250 = .ok (.iload_n 3, 1) := by decide +kernel
theorem dL_act_251 : decode cL_act 251 = .ok (.if_icmp .ne 12, 3) := by decide +kernel
theorem dL_act_254 : decode cL_act 254 = .ok (.iload 5, 2) := by decide +kernel
theorem dL_act_256 : decode cL_act 256 = .ok (.ifCond .eq 7, 3) := by decide +kernel
theorem dL_act_259 : decode cL_act 259 = .ok (.iconst 1, 1) := by decide +kernel
theorem dL_act_260 : decode cL_act 260 = .ok (.goto 4, 3) := by decide +kernel
theorem dL_act_263 : decode cL_act 263 = .ok (.iconst 0, 1) := by decide +kernel
theorem dL_act_264 : decode cL_act 264 = .ok (.ireturn, 1) := by decide +kernel
theorem dL_act_265 : decode cL_act 265 = .ok (.iload_n 3, 1) := by decide +kernel
theorem dL_act_266 : decode cL_act 266 = .ok (.ifCond .ne 5, 3) := by decide +kernel
theorem dL_act_269 : decode cL_act 269 = .ok (.iconst 1, 1) := by decide +kernel
theorem dL_act_270 : decode cL_act 270 = .ok (.ireturn, 1) := by decide +kernel
theorem dL_act_271 : decode cL_act 271 = .ok (.iload_n 2, 1) := by decide +kernel
theorem dL_act_272 : decode cL_act 272 = .ok (.bipush 6, 2) := by decide +kernel
theorem dL_act_274 : decode cL_act 274 = .ok (.ishr, 1) := by decide +kernel
theorem dL_act_275 : decode cL_act 275 = .ok (.iload_n 3, 1) := by decide +kernel
theorem dL_act_276 : decode cL_act 276 = .ok (.invokestatic 15, 3) := by decide +kernel
theorem dL_act_279 : decode cL_act 279 = .ok (.istore 6, 2) := by decide +kernel
theorem dL_act_281 : decode cL_act 281 = .ok (.iload 4, 2) := by decide +kernel
theorem dL_act_283 : decode cL_act 283 = .ok (.iload 6, 2) := by decide +kernel
theorem dL_act_285 : decode cL_act 285 = .ok (.if_icmp .eq 18, 3) := by decide +kernel
theorem dL_act_288 : decode cL_act 288 = .ok (.aload_n 1, 1) := by decide +kernel
theorem dL_act_289 : decode cL_act 289 = .ok (.iload 6, 2) := by decide +kernel
theorem dL_act_291 : decode cL_act 291 = .ok (.iload 4, 2) := by decide +kernel
theorem dL_act_293 : decode cL_act 293 = .ok (.invokevirtual 35, 3) := by decide +kernel
theorem dL_act_296 : decode cL_act 296 = .ok (.ifCond .ne 7, 3) := by decide +kernel
theorem dL_act_299 : decode cL_act 299 = .ok (.iconst 1, 1) := by decide +kernel
theorem dL_act_300 : decode cL_act 300 = .ok (.goto 4, 3) := by decide +kernel
theorem dL_act_303 : decode cL_act 303 = .ok (.iconst 0, 1) := by decide +kernel
theorem dL_act_304 : decode cL_act 304 = .ok (.istore 5, 2) := by decide +kernel
theorem dL_act_306 : decode cL_act 306 = .ok (.aload_n 1, 1) := by decide +kernel
theorem dL_act_307 : decode cL_act 307 = .ok (.getfield 9, 3) := by decide +kernel
theorem dL_act_310 : decode cL_act 310 = .ok (.iload 4, 2) := by decide +kernel
theorem dL_act_312 : decode cL_act 312 = .ok (.aaload, 1) := by decide +kernel
theorem dL_act_313 : decode cL_act 313 = .ok (.iconst 0, 1) := by decide +kernel
theorem dL_act_314 : decode cL_act 314 = .ok (.iaload, 1) := by decide +kernel
theorem dL_act_315 : decode cL_act 315 = .ok (.istore 7, 2) := by decide +kernel
theorem dL_act_317 : decode cL_act 317 = .ok (.iload 5, 2) := by decide +kernel
theorem dL_act_319 : decode cL_act 319 = .ok (.ifCond .eq 14, 3) := by decide +kernel
theorem dL_act_322 : decode cL_act 322 = .ok (.aload_n 1, 1) := by decide +kernel
theorem dL_act_323 : decode cL_act 323 = .ok (.getfield 9, 3) := by decide +kernel
theorem dL_act_326 : decode cL_act 326 = .ok (.iload 4, 2) := by decide +kernel
theorem dL_act_328 : decode cL_act 328 = .ok (.aaload, 1) := by decide +kernel
theorem dL_act_329 : decode cL_act 329 = .ok (.iconst 0, 1) := by decide +kernel
theorem dL_act_330 : decode cL_act 330 = .ok (.iload 6, 2) := by decide +kernel
theorem dL_act_332 : decode cL_act 332 = .ok (.iastore, 1) := by decide +kernel
theorem dL_act_333 : decode cL_act 333 = .ok (.aload_n 0, 1) := by decide +kernel
theorem dL_act_334 : decode cL_act 334 = .ok (.iload 4, 2) := by decide +kernel
theorem dL_act_336 : decode cL_act 336 = .ok (.iload 6, 2) := by decide +kernel
theorem dL_act_338 : decode cL_act 338 = .ok (.invokevirtual 39, 3) := by decide +kernel
theorem dL_act_341 : decode cL_act 341 = .ok (.iload 7, 2) := by decide +kernel
theorem dL_act_343 : decode cL_act 343 = .ok (.if_icmp .ne 12, 3) := by decide +kernel
theorem dL_act_346 : decode cL_act 346 = .ok (.iload 5, 2) := by decide +kernel
theorem dL_act_348 : decode cL_act 348 = .ok (.ifCond .eq 7, 3) := by decide +kernel
theorem dL_act_351 : decode cL_act 351 = .ok (.iconst 1, 1) := by decide +kernel
theorem dL_act_352 : decode cL_act 352 = .ok (.goto 4, 3) := by decide +kernel
theorem dL_act_355 : decode cL_act 355 = .ok (.iconst 0, 1) := by decide +kernel
theorem dL_act_356 : decode cL_act 356 = .ok (.ireturn, 1) := by decide +kernel
theorem dL_act_357 : decode cL_act 357 = .ok (.iload_n 3, 1) := by decide +kernel
theorem dL_act_358 : decode cL_act 358 = .ok (.ifCond .ne 5, 3) := by decide +kernel
theorem dL_act_361 : decode cL_act 361 = .ok (.iconst 1, 1) := by decide +kernel
theorem dL_act_362 : decode cL_act 362 = .ok (.ireturn, 1) := by decide +kernel
theorem dL_act_363 : decode cL_act 363 = .ok (.iconst 1, 1) := by decide +kernel
theorem dL_act_364 : decode cL_act 364 = .ok (.istore 5, 2) := by decide +kernel
theorem dL_act_366 : decode cL_act 366 = .ok (.aload_n 1, 1) := by decide +kernel
theorem dL_act_367 : decode cL_act 367 = .ok (.getfield 9, 3) := by decide +kernel
theorem dL_act_370 : decode cL_act 370 = .ok (.iload 4, 2) := by decide +kernel
theorem dL_act_372 : decode cL_act 372 = .ok (.aaload, 1) := by decide +kernel
theorem dL_act_373 : decode cL_act 373 = .ok (.iconst 5, 1) := by decide +kernel
theorem dL_act_374 : decode cL_act 374 = .ok (.iconst 1, 1) := by decide +kernel
theorem dL_act_375 : decode cL_act 375 = .ok (.aload_n 1, 1) := by decide +kernel
theorem dL_act_376 : decode cL_act 376 = .ok (.getfield 9, 3) := by decide +kernel
theorem dL_act_379 : decode cL_act 379 = .ok (.iload 4, 2) := by decide +kernel
theorem dL_act_381 : decode cL_act 381 = .ok (.aaload, 1) := by decide +kernel
theorem dL_act_382 : decode cL_act 382 = .ok (.iconst 5, 1) := by decide +kernel
theorem dL_act_383 : decode cL_act 383 = .ok (.iaload, 1) := by decide +kernel
theorem dL_act_384 : decode cL_act 384 = .ok (.isub, 1) := by decide +kernel
theorem dL_act_385 : decode cL_act 385 = .ok (.iastore, 1) := by decide +kernel
theorem dL_act_386 : decode cL_act 386 = .ok (.aload_n 0, 1) := by decide +kernel
theorem dL_act_387 : decode cL_act 387 = .ok (.iload 4, 2) := by decide +kernel
theorem dL_act_389 : decode cL_act 389 = .ok (.invokevirtual 42, 3) := by decide +kernel
theorem dL_act_392 : decode cL_act 392 = .ok (.aload_n 1, 1) := by decide +kernel
theorem dL_act_393 : decode cL_act 393 = .ok (.getfield 9, 3) := by decide +kernel
theorem dL_act_396 : decode cL_act 396 = .ok (.iload 4, 2) := by decide +kernel
theorem dL_act_398 : decode cL_act 398 = .ok (.aaload, 1) := by decide +kernel
theorem dL_act_399 : decode cL_act 399 = .ok (.iconst 5, 1) := by decide +kernel
theorem dL_act_400 : decode cL_act 400 = .ok (.iaload, 1) := by decide +kernel
theorem dL_act_401 : decode cL_act 401 = .ok (.iconst 1, 1) := by decide +kernel
theorem dL_act_402 : decode cL_act 402 = .ok (.if_icmp .ne 7, 3) := by decide +kernel
theorem dL_act_405 : decode cL_act 405 = .ok (.iconst 1, 1) := by decide +kernel
theorem dL_act_406 : decode cL_act 406 = .ok (.goto 4, 3) := by decide +kernel
theorem dL_act_409 : decode cL_act 409 = .ok (.iconst 0, 1) := by decide +kernel
theorem dL_act_410 : decode cL_act 410 = .ok (.if_icmp .ne 7, 3) := by decide +kernel
theorem dL_act_413 : decode cL_act 413 = .ok (.iconst 1, 1) := by decide +kernel
theorem dL_act_414 : decode cL_act 414 = .ok (.goto 4, 3) := by decide +kernel
theorem dL_act_417 : decode cL_act 417 = .ok (.iconst 0, 1) := by decide +kernel
theorem dL_act_418 : decode cL_act 418 = .ok (.ireturn, 1) := by decide +kernel
theorem dL_act_419 : decode cL_act 419 = .ok (.iconst 1, 1) := by decide +kernel
theorem dL_act_420 : decode cL_act 420 = .ok (.istore 5, 2) := by decide +kernel
theorem dL_act_422 : decode cL_act 422 = .ok (.aload_n 1, 1) := by decide +kernel
theorem dL_act_423 : decode cL_act 423 = .ok (.getfield 46, 3) := by decide +kernel
theorem dL_act_426 : decode cL_act 426 = .ok (.istore 6, 2) := by decide +kernel
theorem dL_act_428 : decode cL_act 428 = .ok (.aload_n 1, 1) := by decide +kernel
theorem dL_act_429 : decode cL_act 429 = .ok (.iload_n 2, 1) := by decide +kernel
theorem dL_act_430 : decode cL_act 430 = .ok (.iconst 4, 1) := by decide +kernel
theorem dL_act_431 : decode cL_act 431 = .ok (.ishr, 1) := by decide +kernel
theorem dL_act_432 : decode cL_act 432 = .ok (.iconst 2, 1) := by decide +kernel
theorem dL_act_433 : decode cL_act 433 = .ok (.invokestatic 15, 3) := by decide +kernel
theorem dL_act_436 : decode cL_act 436 = .ok (.putfield 46, 3) := by decide +kernel
theorem dL_act_439 : decode cL_act 439 = .ok (.aload_n 0, 1) := by decide +kernel
theorem dL_act_440 : decode cL_act 440 = .ok (.aload_n 1, 1) := by decide +kernel
theorem dL_act_441 : decode cL_act 441 = .ok (.getfield 46, 3) := by decide +kernel
theorem dL_act_444 : decode cL_act 444 = .ok (.invokevirtual 50, 3) := by decide +kernel
theorem dL_act_447 : decode cL_act 447 = .ok (.iload 6, 2) := by decide +kernel
theorem dL_act_449 : decode cL_act 449 = .ok (.if_icmp .ne 7, 3) := by decide +kernel
theorem dL_act_452 : decode cL_act 452 = .ok (.iconst 1, 1) := by decide +kernel
theorem dL_act_453 : decode cL_act 453 = .ok (.goto 4, 3) := by decide +kernel
theorem dL_act_456 : decode cL_act 456 = .ok (.iconst 0, 1) := by decide +kernel
theorem dL_act_457 : decode cL_act 457 = .ok (.ireturn, 1) := by decide +kernel
theorem dL_act_458 : decode cL_act 458 = .ok (.iload_n 3, 1) := by decide +kernel
theorem dL_act_459 : decode cL_act 459 = .ok (.ifCond .ne 5, 3) := by decide +kernel
theorem dL_act_462 : decode cL_act 462 = .ok (.iconst 1, 1) := by decide +kernel
theorem dL_act_463 : decode cL_act 463 = .ok (.ireturn, 1) := by decide +kernel
theorem dL_act_464 : decode cL_act 464 = .ok (.aload_n 1, 1) := by decide +kernel
theorem dL_act_465 : decode cL_act 465 = .ok (.getfield 54, 3) := by decide +kernel
theorem dL_act_468 : decode cL_act 468 = .ok (.arraylength, 1) := by decide +kernel
theorem dL_act_469 : decode cL_act 469 = .ok (.bipush 16, 2) := by decide +kernel
theorem dL_act_471 : decode cL_act 471 = .ok (.if_icmp .ge 7, 3) := by decide +kernel
theorem dL_act_474 : decode cL_act 474 = .ok (.iconst 1, 1) := by decide +kernel
theorem dL_act_475 : decode cL_act 475 = .ok (.goto 4, 3) := by decide +kernel
theorem dL_act_478 : decode cL_act 478 = .ok (.iconst 0, 1) := by decide +kernel
theorem dL_act_479 : decode cL_act 479 = .ok (.istore 5, 2) := by decide +kernel
theorem dL_act_481 : decode cL_act 481 = .ok (.iload 5, 2) := by decide +kernel
theorem dL_act_483 : decode cL_act 483 = .ok (.ifCond .eq 32, 3) := by decide +kernel
theorem dL_act_486 : decode cL_act 486 = .ok (.aload_n 1, 1) := by decide +kernel
theorem dL_act_487 : decode cL_act 487 = .ok (.aload_n 1, 1) := by decide +kernel
theorem dL_act_488 : decode cL_act 488 = .ok (.getfield 54, 3) := by decide +kernel
theorem dL_act_491 : decode cL_act 491 = .ok (.iconst 2, 1) := by decide +kernel
theorem dL_act_492 : decode cL_act 492 = .ok (.newarray .int, 2) := by decide +kernel
theorem dL_act_494 : decode cL_act 494 = .ok (.dup, 1) := by decide +kernel
theorem dL_act_495 : decode cL_act 495 = .ok (.iconst 0, 1) := by decide +kernel
theorem dL_act_496 : decode cL_act 496 = .ok (.iload 4, 2) := by decide +kernel
theorem dL_act_498 : decode cL_act 498 = .ok (.iastore, 1) := by decide +kernel
theorem dL_act_499 : decode cL_act 499 = .ok (.dup, 1) := by decide +kernel
theorem dL_act_500 : decode cL_act 500 = .ok (.iconst 1, 1) := by decide +kernel
theorem dL_act_501 : decode cL_act 501 = .ok (.aload_n 1, 1) := by decide +kernel
theorem dL_act_502 : decode cL_act 502 = .ok (.invokevirtual 57, 3) := by decide +kernel
theorem dL_act_505 : decode cL_act 505 = .ok (.iload 4, 2) := by decide +kernel
theorem dL_act_507 : decode cL_act 507 = .ok (.iaload, 1) := by decide +kernel
theorem dL_act_508 : decode cL_act 508 = .ok (.iastore, 1) := by decide +kernel
theorem dL_act_509 : decode cL_act 509 = .ok (.invokestatic 21, 3) := by decide +kernel
theorem dL_act_512 : decode cL_act 512 = .ok (.putfield 54, 3) := by decide +kernel
theorem dL_act_515 : decode cL_act 515 = .ok (.aload_n 0, 1) := by decide +kernel
theorem dL_act_516 : decode cL_act 516 = .ok (.iload 4, 2) := by decide +kernel
theorem dL_act_518 : decode cL_act 518 = .ok (.invokevirtual 61, 3) := by decide +kernel
theorem dL_act_521 : decode cL_act 521 = .ok (.aload_n 1, 1) := by decide +kernel
theorem dL_act_522 : decode cL_act 522 = .ok (.getfield 54, 3) := by decide +kernel
theorem dL_act_525 : decode cL_act 525 = .ok (.arraylength, 1) := by decide +kernel
theorem dL_act_526 : decode cL_act 526 = .ok (.iconst 1, 1) := by decide +kernel
theorem dL_act_527 : decode cL_act 527 = .ok (.isub, 1) := by decide +kernel
theorem dL_act_528 : decode cL_act 528 = .ok (.if_icmp .ne 12, 3) := by decide +kernel
theorem dL_act_531 : decode cL_act 531 = .ok (.iload 5, 2) := by decide +kernel
theorem dL_act_533 : decode cL_act 533 = .ok (.ifCond .eq 7, 3) := by decide +kernel
theorem dL_act_536 : decode cL_act 536 = .ok (.iconst 1, 1) := by decide +kernel
theorem dL_act_537 : decode cL_act 537 = .ok (.goto 4, 3) := by decide +kernel
theorem dL_act_540 : decode cL_act 540 = .ok (.iconst 0, 1) := by decide +kernel
theorem dL_act_541 : decode cL_act 541 = .ok (.ireturn, 1) := by decide +kernel
theorem dL_act_542 : decode cL_act 542 = .ok (.iconst 1, 1) := by decide +kernel
theorem dL_act_543 : decode cL_act 543 = .ok (.istore 5, 2) := by decide +kernel
theorem dL_act_545 : decode cL_act 545 = .ok (.iconst 1, 1) := by decide +kernel
theorem dL_act_546 : decode cL_act 546 = .ok (.iload_n 2, 1) := by decide +kernel
theorem dL_act_547 : decode cL_act 547 = .ok (.iconst 4, 1) := by decide +kernel
theorem dL_act_548 : decode cL_act 548 = .ok (.ishr, 1) := by decide +kernel
theorem dL_act_549 : decode cL_act 549 = .ok (.iload_n 2, 1) := by decide +kernel
theorem dL_act_550 : decode cL_act 550 = .ok (.bipush 7, 2) := by decide +kernel
theorem dL_act_552 : decode cL_act 552 = .ok (.ishr, 1) := by decide +kernel
theorem dL_act_553 : decode cL_act 553 = .ok (.iconst 4, 1) := by decide +kernel
theorem dL_act_554 : decode cL_act 554 = .ok (.invokestatic 15, 3) := by decide +kernel
theorem dL_act_557 : decode cL_act 557 = .ok (.ifCond .ne 8, 3) := by decide +kernel
theorem dL_act_560 : decode cL_act 560 = .ok (.bipush 50, 2) := by decide +kernel
theorem dL_act_562 : decode cL_act 562 = .ok (.goto 5, 3) := by decide +kernel
theorem dL_act_565 : decode cL_act 565 = .ok (.bipush 6, 2) := by decide +kernel
theorem dL_act_567 : decode cL_act 567 = .ok (.invokestatic 15, 3) := by decide +kernel
theorem dL_act_570 : decode cL_act 570 = .ok (.iadd, 1) := by decide +kernel
theorem dL_act_571 : decode cL_act 571 = .ok (.istore 6, 2) := by decide +kernel
theorem dL_act_573 : decode cL_act 573 = .ok (.aload_n 1, 1) := by decide +kernel
theorem dL_act_574 : decode cL_act 574 = .ok (.iload 6, 2) := by decide +kernel
theorem dL_act_576 : decode cL_act 576 = .ok (.invokevirtual 64, 3) := by decide +kernel
theorem dL_act_579 : decode cL_act 579 = .ok (.aload_n 0, 1) := by decide +kernel
theorem dL_act_580 : decode cL_act 580 = .ok (.iload 6, 2) := by decide +kernel
theorem dL_act_582 : decode cL_act 582 = .ok (.invokevirtual 68, 3) := by decide +kernel
theorem dL_act_585 : decode cL_act 585 = .ok (.aload_n 1, 1) := by decide +kernel
theorem dL_act_586 : decode cL_act 586 = .ok (.aload_n 1, 1) := by decide +kernel
theorem dL_act_587 : decode cL_act 587 = .ok (.invokevirtual 57, 3) := by decide +kernel
theorem dL_act_590 : decode cL_act 590 = .ok (.invokevirtual 70, 3) := by decide +kernel
theorem dL_act_593 : decode cL_act 593 = .ok (.if_icmp .ne 7, 3) := by decide +kernel
theorem dL_act_596 : decode cL_act 596 = .ok (.iconst 1, 1) := by decide +kernel
theorem dL_act_597 : decode cL_act 597 = .ok (.goto 4, 3) := by decide +kernel
theorem dL_act_600 : decode cL_act 600 = .ok (.iconst 0, 1) := by decide +kernel
theorem dL_act_601 : decode cL_act 601 = .ok (.ireturn, 1) := by decide +kernel
theorem dL_act_602 : decode cL_act 602 = .ok (.astore 6, 2) := by decide +kernel
theorem dL_act_604 : decode cL_act 604 = .ok (.iload 5, 2) := by decide +kernel
theorem dL_act_606 : decode cL_act 606 = .ok (.ifCond .ne 7, 3) := by decide +kernel
theorem dL_act_609 : decode cL_act 609 = .ok (.iconst 1, 1) := by decide +kernel
theorem dL_act_610 : decode cL_act 610 = .ok (.goto 4, 3) := by decide +kernel
theorem dL_act_613 : decode cL_act 613 = .ok (.iconst 0, 1) := by decide +kernel
theorem dL_act_614 : decode cL_act 614 = .ok (.ireturn, 1) := by decide +kernel
set_option maxRecDepth 20000 in
theorem ggL_build_X2_init : GoodIn wsL_build wsX2_init := goodIn_r _ [8, 9, 10, 11, 12, 13, 14, 147, 148, 149, 150] (by decide +kernel) (by decide +kernel)
set_option maxRecDepth 20000 in
theorem gL_build_X2_init_n76 : GoodIn wsL_build (wsX2_init) := ggL_build_X2_init
set_option maxRecDepth 20000 in
theorem ggL_build_L_cell : GoodIn wsL_build wsL_cell := goodIn_r _ [18, 19] (by decide +kernel) (by decide +kernel)
set_option maxRecDepth 20000 in
theorem gL_build_L_cell : GoodIn wsL_build (va_wsS RL 77 yL_cell wsL_cell) := goodIn_app (goodIn_of _ (by decide +kernel)) ggL_build_L_cell
set_option maxRecDepth 20000 in
theorem ggL_build_L_below : GoodIn wsL_build wsL_below := goodIn_r _ [22, 23] (by decide +kernel) (by decide +kernel)
set_option maxRecDepth 20000 in
theorem gL_build_L_below : GoodIn wsL_build (va_wsS RL 15 yL_below wsL_below) := goodIn_app (goodIn_of _ (by decide +kernel)) ggL_build_L_below
set_option maxRecDepth 20000 in
theorem ggL_build_X2_with : GoodIn wsL_build wsX2_with := goodIn_r _ [26, 12] (by decide +kernel) (by decide +kernel)
set_option maxRecDepth 20000 in
theorem gL_build_X2_with : GoodIn wsL_build (va_wsS RL 21 yX2_with wsX2_with) := goodIn_app (goodIn_of _ (by decide +kernel)) ggL_build_X2_with
set_option maxRecDepth 20000 in
theorem ggL_build_X1_addSpring : GoodIn wsL_build wsX1_addSpring := goodIn_ca (goodIn_ca (goodIn_ca (goodIn_r _ [31, 32, 33, 34, 35, 36, 30, 37, 38, 39, 40, 41, 42, 43, 44, 45, 46, 47, 48, 49, 50, 51, 52, 53, 54, 55, 56, 57, 58, 59, 60, 61, 62, 63, 64, 65, 66, 67, 68, 69, 70, 71, 72, 73, 74, 75, 76, 77, 78, 79, 80, 81, 82, 83, 84, 85, 86, 87, 88, 89, 90, 91, 92, 93, 94, 95, 96, 97, 151, 152, 153, 154, 155, 156, 157, 158, 159, 160, 161, 162, 163, 164, 165, 166, 167, 168, 169, 170, 171, 172] (by decide +kernel) (by decide +kernel)) (goodIn_sub (fun _ h => List.mem_cons_of_mem _ (List.mem_append_left _ (List.mem_append_left _ (List.mem_append_right _ h)))) (by decide +kernel))) (goodIn_sub (fun _ h => List.mem_cons_of_mem _ (List.mem_append_left _ (List.mem_append_right _ h))) (by decide +kernel))) (goodIn_sub (fun _ h => List.mem_cons_of_mem _ (List.mem_append_right _ h)) (by decide +kernel))
set_option maxRecDepth 20000 in
theorem gL_build_X1_addSpring : GoodIn wsL_build (wsV RL 31 RX1 yX1_addSpring wsX1_addSpring) := goodIn_app (goodIn_of _ (by decide +kernel)) ggL_build_X1_addSpring
set_option maxRecDepth 20000 in
theorem ggL_build_X1_addPlace : GoodIn wsL_build wsX1_addPlace := goodIn_ca (goodIn_r _ [101, 34, 43, 44, 45, 30, 46, 47, 48, 49, 50, 51, 52, 53, 54, 102, 103, 104, 105, 59, 64, 65, 66, 67, 68, 69, 70, 71, 72, 62, 73, 74, 75, 76, 77, 78, 79, 80, 61, 81, 82, 83, 84, 85, 86, 87, 88, 89, 90, 91, 92, 93, 94, 95, 96, 97, 151, 152, 153, 154, 155, 156, 157, 158, 159, 160, 161, 162, 163, 164, 165, 166, 167, 168, 169, 170, 171, 172] (by decide +kernel) (by decide +kernel)) (goodIn_sub (fun _ h => List.mem_cons_of_mem _ (List.mem_append_right _ h)) (by decide +kernel))
set_option maxRecDepth 20000 in
theorem gL_build_X1_addPlace : GoodIn wsL_build (wsV RL 25 RX1 yX1_addPlace wsX1_addPlace) := goodIn_app (goodIn_of _ (by decide +kernel)) ggL_build_X1_addPlace
set_option maxRecDepth 20000 in
theorem ggL_build_X2_isAbove : GoodIn wsL_build wsX2_isAbove := goodIn_r _ [109, 13, 147, 148, 149, 150] (by decide +kernel) (by decide +kernel)
set_option maxRecDepth 20000 in
theorem gL_build_X2_isAbove : GoodIn wsL_build (wsV RL 35 RX2 yX2_isAbove wsX2_isAbove) := goodIn_app (goodIn_of _ (by decide +kernel)) ggL_build_X2_isAbove
set_option maxRecDepth 20000 in
theorem ggL_build_X1_lead : GoodIn wsL_build wsX1_lead := goodIn_ca (goodIn_ca (goodIn_r _ [113, 47, 48, 34, 114, 115, 116, 30, 117, 38, 39, 118, 95, 96, 52, 97, 54, 119, 120, 121, 122, 59, 94, 123, 124, 125, 126, 127, 128, 129, 130, 68, 131, 132, 133, 134, 64, 65, 66, 67, 69, 70, 71, 72, 62, 73, 74, 75, 76, 77, 78, 79, 80, 61, 81, 82, 83, 84, 85, 86, 87, 88, 89, 90, 91, 92, 93, 151, 152, 153, 154, 155, 156, 157, 158, 159, 160, 161, 162, 163, 164, 165, 166, 167, 168, 169, 170, 171, 172] (by decide +kernel) (by decide +kernel)) (goodIn_sub (fun _ h => List.mem_cons_of_mem _ (List.mem_append_right _ h)) (by decide +kernel))) (goodIn_sub (fun _ h => List.mem_cons_of_mem _ (List.mem_append_left _ (List.mem_append_right _ h))) (by decide +kernel))
set_option maxRecDepth 20000 in
theorem gL_build_X1_lead : GoodIn wsL_build (wsV RL 39 RX1 yX1_lead wsX1_lead) := goodIn_app (goodIn_of _ (by decide +kernel)) ggL_build_X1_lead
set_option maxRecDepth 20000 in
theorem ggL_build_X1_setRule : GoodIn wsL_build wsX1_setRule := goodIn_ca (goodIn_r _ [138, 32, 33, 34, 40, 41, 30, 42, 139, 140, 141, 52, 142, 80, 143, 144, 145, 146, 64, 65, 66, 67, 54, 68, 59, 69, 70, 71, 72, 62, 73, 74, 75, 76, 77, 78, 79, 61, 81, 82, 83, 84, 85, 86, 87, 88, 89, 90, 91, 92, 93, 94, 95, 96, 97, 151, 152, 153, 154, 155, 156, 157, 158, 159, 160, 161, 162, 163, 164, 165, 166, 167, 168, 169, 170, 171, 172] (by decide +kernel) (by decide +kernel)) (goodIn_sub (fun _ h => List.mem_cons_of_mem _ (List.mem_append_left _ (List.mem_append_left _ (List.mem_append_right _ h)))) (by decide +kernel))
set_option maxRecDepth 20000 in
theorem gL_build_X1_setRule : GoodIn wsL_build (wsV RL 50 RX1 yX1_setRule wsX1_setRule) := goodIn_app (goodIn_of _ (by decide +kernel)) ggL_build_X1_setRule
theorem dL_build_0 : decode cL_build 0 = .ok (.new 10, 3) := by decide +kernel
theorem dL_build_3 : decode cL_build 3 = .ok (.dup, 1) := by decide +kernel
theorem dL_build_4 : decode cL_build 4 = .ok (.invokespecial 76, 3) := by decide +kernel
theorem dL_build_7 : decode cL_build 7 = .ok (.astore_n 2, 1) := by decide +kernel
theorem dL_build_8 : decode cL_build 8 = .ok (.iconst 3, 1) := by decide +kernel
theorem dL_build_9 : decode cL_build 9 = .ok (.aload_n 1, 1) := by decide +kernel
theorem dL_build_10 : decode cL_build 10 = .ok (.iconst 0, 1) := by decide +kernel
theorem dL_build_11 : decode cL_build 11 = .ok (.invokestatic 77, 3) := by decide +kernel
theorem dL_build_14 : decode cL_build 14 = .ok (.bipush 11, 2) := by decide +kernel
theorem dL_build_16 : decode cL_build 16 = .ok (.invokestatic 15, 3) := by decide +kernel
theorem dL_build_19 : decode cL_build 19 = .ok (.iadd, 1) := by decide +kernel
theorem dL_build_20 : decode cL_build 20 = .ok (.istore_n 3, 1) := by decide +kernel
theorem dL_build_21 : decode cL_build 21 = .ok (.iconst 0, 1) := by decide +kernel
theorem dL_build_22 : decode cL_build 22 = .ok (.istore 4, 2) := by decide +kernel
theorem dL_build_24 : decode cL_build 24 = .ok (.iload 4, 2) := by decide +kernel
theorem dL_build_26 : decode cL_build 26 = .ok (.iload_n 3, 1) := by decide +kernel
theorem dL_build_27 : decode cL_build 27 = .ok (.if_icmp .ge 180, 3) := by decide +kernel
theorem dL_build_30 : decode cL_build 30 = .ok (.aload_n 1, 1) := by decide +kernel
theorem dL_build_31 : decode cL_build 31 = .ok (.iconst 1, 1) := by decide +kernel
theorem dL_build_32 : decode cL_build 32 = .ok (.iload 4, 2) := by decide +kernel
theorem dL_build_34 : decode cL_build 34 = .ok (.iadd, 1) := by decide +kernel
theorem dL_build_35 : decode cL_build 35 = .ok (.invokestatic 77, 3) := by decide +kernel
theorem dL_build_38 : decode cL_build 38 = .ok (.iconst 1, 1) := by decide +kernel
theorem dL_build_39 : decode cL_build 39 = .ok (.ishr, 1) := by decide +kernel
theorem dL_build_40 : decode cL_build 40 = .ok (.istore 5, 2) := by decide +kernel
theorem dL_build_42 : decode cL_build 42 = .ok (.iload 5, 2) := by decide +kernel
theorem dL_build_44 : decode cL_build 44 = .ok (.iconst 5, 1) := by decide +kernel
theorem dL_build_45 : decode cL_build 45 = .ok (.invokestatic 15, 3) := by decide +kernel
theorem dL_build_48 : decode cL_build 48 = .ok (.iconst 3, 1) := by decide +kernel
theorem dL_build_49 : decode cL_build 49 = .ok (.if_icmp .ge 7, 3) := by decide +kernel
theorem dL_build_52 : decode cL_build 52 = .ok (.iconst 1, 1) := by decide +kernel
theorem dL_build_53 : decode cL_build 53 = .ok (.goto 4, 3) := by decide +kernel
theorem dL_build_56 : decode cL_build 56 = .ok (.iconst 0, 1) := by decide +kernel
theorem dL_build_57 : decode cL_build 57 = .ok (.istore 6, 2) := by decide +kernel
theorem dL_build_59 : decode cL_build 59 = .ok (.bipush 6, 2) := by decide +kernel
theorem dL_build_61 : decode cL_build 61 = .ok (.newarray .int, 2) := by decide +kernel
theorem dL_build_63 : decode cL_build 63 = .ok (.dup, 1) := by decide +kernel
theorem dL_build_64 : decode cL_build 64 = .ok (.iconst 0, 1) := by decide +kernel
theorem dL_build_65 : decode cL_build 65 = .ok (.iconst (-1), 1) := by decide +kernel
theorem dL_build_66 : decode cL_build 66 = .ok (.iastore, 1) := by decide +kernel
theorem dL_build_67 : decode cL_build 67 = .ok (.dup, 1) := by decide +kernel
theorem dL_build_68 : decode cL_build 68 = .ok (.iconst 1, 1) := by decide +kernel
theorem dL_build_69 : decode cL_build 69 = .ok (.iload 6, 2) := by decide +kernel
theorem dL_build_71 : decode cL_build 71 = .ok (.ifCond .eq 7, 3) := by decide +kernel
theorem dL_build_74 : decode cL_build 74 = .ok (.iconst 1, 1) := by decide +kernel
theorem dL_build_75 : decode cL_build 75 = .ok (.goto 4, 3) := by decide +kernel
theorem dL_build_78 : decode cL_build 78 = .ok (.iconst 0, 1) := by decide +kernel
theorem dL_build_79 : decode cL_build 79 = .ok (.iastore, 1) := by decide +kernel
theorem dL_build_80 : decode cL_build 80 = .ok (.dup, 1) := by decide +kernel
theorem dL_build_81 : decode cL_build 81 = .ok (.iconst 2, 1) := by decide +kernel
theorem dL_build_82 : decode cL_build 82 = .ok (.iload 6, 2) := by decide +kernel
theorem dL_build_84 : decode cL_build 84 = .ok (.ifCond .eq 15, 3) := by decide +kernel
theorem dL_build_87 : decode cL_build 87 = .ok (.iload 5, 2) := by decide +kernel
theorem dL_build_89 : decode cL_build 89 = .ok (.iconst 3, 1) := by decide +kernel
theorem dL_build_90 : decode cL_build 90 = .ok (.ishr, 1) := by decide +kernel
theorem dL_build_91 : decode cL_build 91 = .ok (.bipush 10, 2) := by decide +kernel
theorem dL_build_93 : decode cL_build 93 = .ok (.invokestatic 15, 3) := by decide +kernel
theorem dL_build_96 : decode cL_build 96 = .ok (.goto 4, 3) := by decide +kernel
theorem dL_build_99 : decode cL_build 99 = .ok (.iconst (-1), 1) := by decide +kernel
theorem dL_build_100 : decode cL_build 100 = .ok (.iastore, 1) := by decide +kernel
theorem dL_build_101 : decode cL_build 101 = .ok (.dup, 1) := by decide +kernel
theorem dL_build_102 : decode cL_build 102 = .ok (.iconst 3, 1) := by decide +kernel
theorem dL_build_103 : decode cL_build 103 = .ok (.iload 6, 2) := by decide +kernel
theorem dL_build_105 : decode cL_build 105 = .ok (.ifCond .eq 15, 3) := by decide +kernel
theorem dL_build_108 : decode cL_build 108 = .ok (.iload 5, 2) := by decide +kernel
theorem dL_build_110 : decode cL_build 110 = .ok (.iconst 4, 1) := by decide +kernel
theorem dL_build_111 : decode cL_build 111 = .ok (.ishr, 1) := by decide +kernel
theorem dL_build_112 : decode cL_build 112 = .ok (.bipush 100, 2) := by decide +kernel
theorem dL_build_114 : decode cL_build 114 = .ok (.invokestatic 15, 3) := by decide +kernel
theorem dL_build_117 : decode cL_build 117 = .ok (.goto 4, 3) := by decide +kernel
theorem dL_build_120 : decode cL_build 120 = .ok (.iconst 0, 1) := by decide +kernel
theorem dL_build_121 : decode cL_build 121 = .ok (.iastore, 1) := by decide +kernel
theorem dL_build_122 : decode cL_build 122 = .ok (.dup, 1) := by decide +kernel
theorem dL_build_123 : decode cL_build 123 = .ok (.iconst 4, 1) := by decide +kernel
theorem dL_build_124 : decode cL_build 124 = .ok (.iload 6, 2) := by decide +kernel
theorem dL_build_126 : decode cL_build 126 = .ok (.ifCond .eq 19, 3) := by decide +kernel
theorem dL_build_129 : decode cL_build 129 = .ok (.iload 5, 2) := by decide +kernel
theorem dL_build_131 : decode cL_build 131 = .ok (.bipush 6, 2) := by decide +kernel
theorem dL_build_133 : decode cL_build 133 = .ok (.ishr, 1) := by decide +kernel
theorem dL_build_134 : decode cL_build 134 = .ok (.bipush 19, 2) := by decide +kernel
theorem dL_build_136 : decode cL_build 136 = .ok (.invokestatic 15, 3) := by decide +kernel
theorem dL_build_139 : decode cL_build 139 = .ok (.bipush 9, 2) := by decide +kernel
theorem dL_build_141 : decode cL_build 141 = .ok (.isub, 1) := by decide +kernel
theorem dL_build_142 : decode cL_build 142 = .ok (.goto 4, 3) := by decide +kernel
theorem dL_build_145 : decode cL_build 145 = .ok (.iconst 0, 1) := by decide +kernel
theorem dL_build_146 : decode cL_build 146 = .ok (.iastore, 1) := by decide +kernel
theorem dL_build_147 : decode cL_build 147 = .ok (.dup, 1) := by decide +kernel
theorem dL_build_148 : decode cL_build 148 = .ok (.iconst 5, 1) := by decide +kernel
theorem dL_build_149 : decode cL_build 149 = .ok (.iconst 0, 1) := by decide +kernel
theorem dL_build_150 : decode cL_build 150 = .ok (.iastore, 1) := by decide +kernel
theorem dL_build_151 : decode cL_build 151 = .ok (.astore 7, 2) := by decide +kernel
theorem dL_build_153 : decode cL_build 153 = .ok (.aload_n 2, 1) := by decide +kernel
theorem dL_build_154 : decode cL_build 154 = .ok (.aload_n 2, 1) := by decide +kernel
theorem dL_build_155 : decode cL_build 155 = .ok (.getfield 9, 3) := by decide +kernel
theorem dL_build_158 : decode cL_build 158 = .ok (.aload 7, 2) := by decide +kernel
theorem dL_build_160 : decode cL_build 160 = .ok (.invokestatic 21, 3) := by decide +kernel
theorem dL_build_163 : decode cL_build 163 = .ok (.putfield 9, 3) := by decide +kernel
theorem dL_build_166 : decode cL_build 166 = .ok (.iload 6, 2) := by decide +kernel
theorem dL_build_168 : decode cL_build 168 = .ok (.ifCond .eq 22, 3) := by decide +kernel
theorem dL_build_171 : decode cL_build 171 = .ok (.aload_n 0, 1) := by decide +kernel
theorem dL_build_172 : decode cL_build 172 = .ok (.aload 7, 2) := by decide +kernel
theorem dL_build_174 : decode cL_build 174 = .ok (.iconst 2, 1) := by decide +kernel
theorem dL_build_175 : decode cL_build 175 = .ok (.iaload, 1) := by decide +kernel
theorem dL_build_176 : decode cL_build 176 = .ok (.aload 7, 2) := by decide +kernel
theorem dL_build_178 : decode cL_build 178 = .ok (.iconst 3, 1) := by decide +kernel
theorem dL_build_179 : decode cL_build 179 = .ok (.iaload, 1) := by decide +kernel
theorem dL_build_180 : decode cL_build 180 = .ok (.aload 7, 2) := by decide +kernel
theorem dL_build_182 : decode cL_build 182 = .ok (.iconst 4, 1) := by decide +kernel
theorem dL_build_183 : decode cL_build 183 = .ok (.iaload, 1) := by decide +kernel
theorem dL_build_184 : decode cL_build 184 = .ok (.invokevirtual 31, 3) := by decide +kernel
theorem dL_build_187 : decode cL_build 187 = .ok (.goto 7, 3) := by decide +kernel
theorem dL_build_190 : decode cL_build 190 = .ok (.aload_n 0, 1) := by decide +kernel
theorem dL_build_191 : decode cL_build 191 = .ok (.invokevirtual 25, 3) := by decide +kernel
theorem dL_build_194 : decode cL_build 194 = .ok (.iload 4, 2) := by decide +kernel
theorem dL_build_196 : decode cL_build 196 = .ok (.if_icmp .eq 5, 3) := by decide +kernel
theorem dL_build_199 : decode cL_build 199 = .ok (.aconst_null, 1) := by decide +kernel
theorem dL_build_200 : decode cL_build 200 = .ok (.areturn, 1) := by decide +kernel
theorem dL_build_201 : decode cL_build 201 = .ok (.iinc 4 1, 3) := by decide +kernel
theorem dL_build_204 : decode cL_build 204 = .ok (.goto (-180), 3) := by decide +kernel
theorem dL_build_207 : decode cL_build 207 = .ok (.iconst 0, 1) := by decide +kernel
theorem dL_build_208 : decode cL_build 208 = .ok (.istore 4, 2) := by decide +kernel
theorem dL_build_210 : decode cL_build 210 = .ok (.iload 4, 2) := by decide +kernel
theorem dL_build_212 : decode cL_build 212 = .ok (.iload_n 3, 1) := by decide +kernel
theorem dL_build_213 : decode cL_build 213 = .ok (.if_icmp .ge 87, 3) := by decide +kernel
theorem dL_build_216 : decode cL_build 216 = .ok (.aload_n 1, 1) := by decide +kernel
theorem dL_build_217 : decode cL_build 217 = .ok (.iconst 1, 1) := by decide +kernel
theorem dL_build_218 : decode cL_build 218 = .ok (.iload 4, 2) := by decide +kernel
theorem dL_build_220 : decode cL_build 220 = .ok (.iadd, 1) := by decide +kernel
theorem dL_build_221 : decode cL_build 221 = .ok (.invokestatic 77, 3) := by decide +kernel
theorem dL_build_224 : decode cL_build 224 = .ok (.iconst 5, 1) := by decide +kernel
theorem dL_build_225 : decode cL_build 225 = .ok (.ishr, 1) := by decide +kernel
theorem dL_build_226 : decode cL_build 226 = .ok (.iload_n 3, 1) := by decide +kernel
theorem dL_build_227 : decode cL_build 227 = .ok (.invokestatic 15, 3) := by decide +kernel
theorem dL_build_230 : decode cL_build 230 = .ok (.istore 5, 2) := by decide +kernel
theorem dL_build_232 : decode cL_build 232 = .ok (.iload 5, 2) := by decide +kernel
theorem dL_build_234 : decode cL_build 234 = .ok (.iload 4, 2) := by decide +kernel
theorem dL_build_236 : decode cL_build 236 = .ok (.if_icmp .eq 58, 3) := by decide +kernel
theorem dL_build_239 : decode cL_build 239 = .ok (.aload_n 2, 1) := by decide +kernel
theorem dL_build_240 : decode cL_build 240 = .ok (.iload 5, 2) := by decide +kernel
theorem dL_build_242 : decode cL_build 242 = .ok (.iload 4, 2) := by decide +kernel
theorem dL_build_244 : decode cL_build 244 = .ok (.invokevirtual 35, 3) := by decide +kernel
theorem dL_build_247 : decode cL_build 247 = .ok (.ifCond .ne 47, 3) := by decide +kernel
theorem dL_build_250 : decode cL_build 250 = .ok (.aload_n 1, 1) := by decide +kernel
theorem dL_build_251 : decode cL_build 251 = .ok (.iconst 2, 1) := by decide +kernel
theorem dL_build_252 : decode cL_build 252 = .ok (.iload 4, 2) := by decide +kernel
theorem dL_build_254 : decode cL_build 254 = .ok (.iadd, 1) := by decide +kernel
theorem dL_build_255 : decode cL_build 255 = .ok (.invokestatic 77, 3) := by decide +kernel
theorem dL_build_258 : decode cL_build 258 = .ok (.bipush 6, 2) := by decide +kernel
theorem dL_build_260 : decode cL_build 260 = .ok (.invokestatic 15, 3) := by decide +kernel
theorem dL_build_263 : decode cL_build 263 = .ok (.ifCond .ne 6, 3) := by decide +kernel
theorem dL_build_266 : decode cL_build 266 = .ok (.goto 28, 3) := by decide +kernel
theorem dL_build_269 : decode cL_build 269 = .ok (.aload_n 2, 1) := by decide +kernel
theorem dL_build_270 : decode cL_build 270 = .ok (.getfield 9, 3) := by decide +kernel
theorem dL_build_273 : decode cL_build 273 = .ok (.iload 4, 2) := by decide +kernel
theorem dL_build_275 : decode cL_build 275 = .ok (.aaload, 1) := by decide +kernel
theorem dL_build_276 : decode cL_build 276 = .ok (.iconst 0, 1) := by decide +kernel
theorem dL_build_277 : decode cL_build 277 = .ok (.iload 5, 2) := by decide +kernel
theorem dL_build_279 : decode cL_build 279 = .ok (.iastore, 1) := by decide +kernel
theorem dL_build_280 : decode cL_build 280 = .ok (.aload_n 0, 1) := by decide +kernel
theorem dL_build_281 : decode cL_build 281 = .ok (.iload 4, 2) := by decide +kernel
theorem dL_build_283 : decode cL_build 283 = .ok (.iload 5, 2) := by decide +kernel
theorem dL_build_285 : decode cL_build 285 = .ok (.invokevirtual 39, 3) := by decide +kernel
theorem dL_build_288 : decode cL_build 288 = .ok (.iconst (-1), 1) := by decide +kernel
theorem dL_build_289 : decode cL_build 289 = .ok (.if_icmp .eq 5, 3) := by decide +kernel
theorem dL_build_292 : decode cL_build 292 = .ok (.aconst_null, 1) := by decide +kernel
theorem dL_build_293 : decode cL_build 293 = .ok (.areturn, 1) := by decide +kernel
theorem dL_build_294 : decode cL_build 294 = .ok (.iinc 4 1, 3) := by decide +kernel
theorem dL_build_297 : decode cL_build 297 = .ok (.goto (-87), 3) := by decide +kernel
theorem dL_build_300 : decode cL_build 300 = .ok (.aload_n 2, 1) := by decide +kernel
theorem dL_build_301 : decode cL_build 301 = .ok (.aload_n 1, 1) := by decide +kernel
theorem dL_build_302 : decode cL_build 302 = .ok (.bipush 15, 2) := by decide +kernel
theorem dL_build_304 : decode cL_build 304 = .ok (.invokestatic 77, 3) := by decide +kernel
theorem dL_build_307 : decode cL_build 307 = .ok (.iconst 2, 1) := by decide +kernel
theorem dL_build_308 : decode cL_build 308 = .ok (.invokestatic 15, 3) := by decide +kernel
theorem dL_build_311 : decode cL_build 311 = .ok (.putfield 46, 3) := by decide +kernel
theorem dL_build_314 : decode cL_build 314 = .ok (.aload_n 0, 1) := by decide +kernel
theorem dL_build_315 : decode cL_build 315 = .ok (.aload_n 2, 1) := by decide +kernel
theorem dL_build_316 : decode cL_build 316 = .ok (.getfield 46, 3) := by decide +kernel
theorem dL_build_319 : decode cL_build 319 = .ok (.invokevirtual 50, 3) := by decide +kernel
theorem dL_build_322 : decode cL_build 322 = .ok (.ifCond .ne 7, 3) := by decide +kernel
theorem dL_build_325 : decode cL_build 325 = .ok (.aload_n 2, 1) := by decide +kernel
theorem dL_build_326 : decode cL_build 326 = .ok (.goto 4, 3) := by decide +kernel
theorem dL_build_329 : decode cL_build 329 = .ok (.aconst_null, 1) := by decide +kernel
theorem dL_build_330 : decode cL_build 330 = .ok (.areturn, 1) := by decide +kernel
set_option maxRecDepth 20000 in
theorem ggL_names_X1_places : GoodIn wsL_names wsX1_places := goodIn_r _ [6, 7, 8, 9, 10, 11, 12, 13, 33, 34, 35, 36, 37, 38, 39, 40, 41, 42, 43, 44, 45, 46, 47, 48, 49, 50, 51, 52, 53, 54] (by decide +kernel) (by decide +kernel)
set_option maxRecDepth 20000 in
theorem gL_names_X1_places : GoodIn wsL_names (wsV RL 93 RX1 yX1_places wsX1_places) := goodIn_app (goodIn_of _ (by decide +kernel)) ggL_names_X1_places
set_option maxRecDepth 20000 in
theorem ggL_names_X1_nameAt : GoodIn wsL_names wsX1_nameAt := goodIn_ca (goodIn_r _ [17, 7, 18, 19, 20, 5, 21, 22, 23, 24, 25, 26, 11, 27, 13, 28, 29, 30, 31, 32, 33, 34, 35, 36, 37, 38, 39, 40, 41, 42, 43, 44, 45, 46, 47, 48, 49, 50, 51, 52, 53, 54] (by decide +kernel) (by decide +kernel)) (goodIn_sub (fun _ h => List.mem_cons_of_mem _ (List.mem_append_right _ h)) (by decide +kernel))
set_option maxRecDepth 20000 in
theorem gL_names_X1_nameAt : GoodIn wsL_names (wsV RL 112 RX1 yX1_nameAt wsX1_nameAt) := goodIn_app (goodIn_of _ (by decide +kernel)) ggL_names_X1_nameAt
theorem dL_names_0 : decode cL_names 0 = .ok (.aload_n 0, 1) := by decide +kernel
theorem dL_names_1 : decode cL_names 1 = .ok (.invokevirtual 93, 3) := by decide +kernel
theorem dL_names_4 : decode cL_names 4 = .ok (.newarray .int, 2) := by decide +kernel
theorem dL_names_6 : decode cL_names 6 = .ok (.astore_n 1, 1) := by decide +kernel
theorem dL_names_7 : decode cL_names 7 = .ok (.iconst 0, 1) := by decide +kernel
theorem dL_names_8 : decode cL_names 8 = .ok (.istore_n 2, 1) := by decide +kernel
theorem dL_names_9 : decode cL_names 9 = .ok (.iload_n 2, 1) := by decide +kernel
theorem dL_names_10 : decode cL_names 10 = .ok (.aload_n 1, 1) := by decide +kernel
theorem dL_names_11 : decode cL_names 11 = .ok (.arraylength, 1) := by decide +kernel
theorem dL_names_12 : decode cL_names 12 = .ok (.if_icmp .ge 17, 3) := by decide +kernel
theorem dL_names_15 : decode cL_names 15 = .ok (.aload_n 1, 1) := by decide +kernel
theorem dL_names_16 : decode cL_names 16 = .ok (.iload_n 2, 1) := by decide +kernel
theorem dL_names_17 : decode cL_names 17 = .ok (.aload_n 0, 1) := by decide +kernel
theorem dL_names_18 : decode cL_names 18 = .ok (.iload_n 2, 1) := by decide +kernel
theorem dL_names_19 : decode cL_names 19 = .ok (.invokevirtual 112, 3) := by decide +kernel
theorem dL_names_22 : decode cL_names 22 = .ok (.iastore, 1) := by decide +kernel
theorem dL_names_23 : decode cL_names 23 = .ok (.iinc 2 1, 3) := by decide +kernel
theorem dL_names_26 : decode cL_names 26 = .ok (.goto (-17), 3) := by decide +kernel
theorem dL_names_29 : decode cL_names 29 = .ok (.aload_n 1, 1) := by decide +kernel
theorem dL_names_30 : decode cL_names 30 = .ok (.areturn, 1) := by decide +kernel
