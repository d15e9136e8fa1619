theorem dL_addPlace_0 : decode cL_addPlace 0 = .ok (.aload_n 1, 1) := by decide +kernel
theorem dL_addPlace_1 : decode cL_addPlace 1 = .ok (.iconst 0, 1) := by decide +kernel
theorem dL_addPlace_2 : decode cL_addPlace 2 = .ok (.aload_n 0, 1) := by decide +kernel
theorem dL_addPlace_3 : decode cL_addPlace 3 = .ok (.invokevirtual 7, 3) := by decide +kernel
theorem dL_addPlace_6 : decode cL_addPlace 6 = .ok (.i2l, 1) := by decide +kernel
theorem dL_addPlace_7 : decode cL_addPlace 7 = .ok (.lastore, 1) := by decide +kernel
theorem dL_addPlace_8 : decode cL_addPlace 8 = .ok (.goto 6, 3) := by decide +kernel
theorem dL_addPlace_11 : decode cL_addPlace 11 = .ok (.astore_n 2, 1) := by decide +kernel
theorem dL_addPlace_12 : decode cL_addPlace 12 = .ok (.iconst 1, 1) := by decide +kernel
theorem dL_addPlace_13 : decode cL_addPlace 13 = .ok (.ireturn, 1) := by decide +kernel
theorem dL_addPlace_14 : decode cL_addPlace 14 = .ok (.iconst 0, 1) := by decide +kernel
theorem dL_addPlace_15 : decode cL_addPlace 15 = .ok (.ireturn, 1) := by decide +kernel
set_option maxRecDepth 20000 in
theorem ggL_addSpring_X1_addSpring : GoodIn wsL_addSpring wsX1_addSpring := goodIn_ca (goodIn_ca (goodIn_ca (goodIn_r _ [8, 9, 10, 11, 12, 13, 7, 14, 15, 16, 17, 18, 19, 20, 21, 22, 23, 24, 25, 26, 27, 28, 29, 30, 31, 32, 33, 34, 35, 36, 37, 38, 39, 40, 41, 42, 43, 44, 45, 46, 47, 48, 49, 50, 51, 52, 53, 54, 55, 56, 57, 58, 59, 60, 61, 62, 63, 64, 65, 66, 67, 68, 69, 70, 71, 72, 73, 74, 75, 76, 77, 78, 79, 80, 81, 82, 83, 84, 85, 86, 87, 88, 89, 90, 91, 92, 93, 94, 95, 96] (by decide +kernel) (by decide +kernel)) (goodIn_sub (fun _ h => List.mem_cons_of_mem _ (List.mem_append_left _ (List.mem_append_left _ (List.mem_append_right _ h)))) (by decide +kernel))) (goodIn_sub (fun _ h => List.mem_cons_of_mem _ (List.mem_append_left _ (List.mem_append_right _ h))) (by decide +kernel))) (goodIn_sub (fun _ h => List.mem_cons_of_mem _ (List.mem_append_right _ h)) (by decide +kernel))
set_option maxRecDepth 20000 in
theorem gL_addSpring_X1_addSpring : GoodIn wsL_addSpring (wsV RL 15 RX1 yX1_addSpring wsX1_addSpring) := goodIn_app (goodIn_of _ (by decide +kernel)) ggL_addSpring_X1_addSpring
theorem dL_addSpring_0 : decode cL_addSpring 0 = .ok (.aload 4, 2) := by decide +kernel
theorem dL_addSpring_2 : decode cL_addSpring 2 = .ok (.iconst 0, 1) := by decide +kernel
theorem dL_addSpring_3 : decode cL_addSpring 3 = .ok (.aload_n 0, 1) := by decide +kernel
theorem dL_addSpring_4 : decode cL_addSpring 4 = .ok (.iload_n 1, 1) := by decide +kernel
theorem dL_addSpring_5 : decode cL_addSpring 5 = .ok (.iload_n 2, 1) := by decide +kernel
theorem dL_addSpring_6 : decode cL_addSpring 6 = .ok (.iload_n 3, 1) := by decide +kernel
theorem dL_addSpring_7 : decode cL_addSpring 7 = .ok (.invokevirtual 15, 3) := by decide +kernel
theorem dL_addSpring_10 : decode cL_addSpring 10 = .ok (.i2l, 1) := by decide +kernel
theorem dL_addSpring_11 : decode cL_addSpring 11 = .ok (.lastore, 1) := by decide +kernel
theorem dL_addSpring_12 : decode cL_addSpring 12 = .ok (.goto 15, 3) := by decide +kernel
theorem dL_addSpring_15 : decode cL_addSpring 15 = .ok (.astore 5, 2) := by decide +kernel
theorem dL_addSpring_17 : decode cL_addSpring 17 = .ok (.iconst 1, 1) := by decide +kernel
theorem dL_addSpring_18 : decode cL_addSpring 18 = .ok (.ireturn, 1) := by decide +kernel
theorem dL_addSpring_19 : decode cL_addSpring 19 = .ok (.astore 5, 2) := by decide +kernel
theorem dL_addSpring_21 : decode cL_addSpring 21 = .ok (.iconst 2, 1) := by decide +kernel
theorem dL_addSpring_22 : decode cL_addSpring 22 = .ok (.ireturn, 1) := by decide +kernel
theorem dL_addSpring_23 : decode cL_addSpring 23 = .ok (.astore 5, 2) := by decide +kernel
theorem dL_addSpring_25 : decode cL_addSpring 25 = .ok (.iconst 3, 1) := by decide +kernel
theorem dL_addSpring_26 : decode cL_addSpring 26 = .ok (.ireturn, 1) := by decide +kernel
theorem dL_addSpring_27 : decode cL_addSpring 27 = .ok (.iconst 0, 1) := by decide +kernel
theorem dL_addSpring_28 : decode cL_addSpring 28 = .ok (.ireturn, 1) := by decide +kernel
set_option maxRecDepth 20000 in
theorem ggL_lead_X1_lead : GoodIn wsL_lead wsX1_lead := goodIn_ca (goodIn_ca (goodIn_r _ [7, 8, 9, 10, 11, 12, 13, 6, 14, 15, 16, 17, 18, 19, 20, 21, 22, 23, 24, 25, 26, 27, 28, 29, 30, 31, 32, 33, 34, 35, 36, 37, 38, 39, 40, 41, 42, 43, 44, 45, 46, 47, 48, 49, 50, 51, 52, 53, 54, 55, 56, 57, 58, 59, 60, 61, 62, 63, 64, 65, 66, 67, 68, 69, 70, 71, 72, 73, 74, 75, 76, 77, 78, 79, 80, 81, 82, 83, 84, 85, 86, 87, 88, 89, 90, 91, 92, 93, 94] (by decide +kernel) (by decide +kernel)) (goodIn_sub (fun _ h => List.mem_cons_of_mem _ (List.mem_append_left _ (List.mem_append_right _ h))) (by decide +kernel))) (goodIn_sub (fun _ h => List.mem_cons_of_mem _ (List.mem_append_right _ h)) (by decide +kernel))
set_option maxRecDepth 20000 in
theorem gL_lead_X1_lead : GoodIn wsL_lead (wsV RL 23 RX1 yX1_lead wsX1_lead) := goodIn_app (goodIn_of _ (by decide +kernel)) ggL_lead_X1_lead
theorem dL_lead_0 : decode cL_lead 0 = .ok (.aload_n 3, 1) := by decide +kernel
theorem dL_lead_1 : decode cL_lead 1 = .ok (.iconst 0, 1) := by decide +kernel
theorem dL_lead_2 : decode cL_lead 2 = .ok (.aload_n 0, 1) := by decide +kernel
theorem dL_lead_3 : decode cL_lead 3 = .ok (.iload_n 1, 1) := by decide +kernel
theorem dL_lead_4 : decode cL_lead 4 = .ok (.iload_n 2, 1) := by decide +kernel
theorem dL_lead_5 : decode cL_lead 5 = .ok (.invokevirtual 23, 3) := by decide +kernel
theorem dL_lead_8 : decode cL_lead 8 = .ok (.i2l, 1) := by decide +kernel
theorem dL_lead_9 : decode cL_lead 9 = .ok (.lastore, 1) := by decide +kernel
theorem dL_lead_10 : decode cL_lead 10 = .ok (.goto 11, 3) := by decide +kernel
theorem dL_lead_13 : decode cL_lead 13 = .ok (.astore 4, 2) := by decide +kernel
theorem dL_lead_15 : decode cL_lead 15 = .ok (.iconst 1, 1) := by decide +kernel
theorem dL_lead_16 : decode cL_lead 16 = .ok (.ireturn, 1) := by decide +kernel
theorem dL_lead_17 : decode cL_lead 17 = .ok (.astore 4, 2) := by decide +kernel
theorem dL_lead_19 : decode cL_lead 19 = .ok (.iconst 2, 1) := by decide +kernel
theorem dL_lead_20 : decode cL_lead 20 = .ok (.ireturn, 1) := by decide +kernel
theorem dL_lead_21 : decode cL_lead 21 = .ok (.iconst 0, 1) := by decide +kernel
theorem dL_lead_22 : decode cL_lead 22 = .ok (.ireturn, 1) := by decide +kernel
set_option maxRecDepth 20000 in
theorem ggL_turnDelta_X1_turnDelta : GoodIn wsL_turnDelta wsX1_turnDelta := goodIn_ca (goodIn_r _ [6, 7, 8, 9, 10, 5, 11, 12, 13, 14, 15, 16, 17, 18, 19, 20, 21, 22, 23, 24, 25, 26, 27, 28, 29, 30, 31, 32, 33, 34, 35, 36, 37, 38, 39, 40, 41, 42, 43, 44, 45, 46, 47, 48, 49, 50, 51, 52, 53, 54, 55, 56, 57, 58, 59, 60, 61, 62, 63, 64, 65, 66, 67, 68, 69, 70, 71, 72, 73, 74, 75, 76, 77, 78, 79, 80, 81, 82, 83] (by decide +kernel) (by decide +kernel)) (goodIn_sub (fun _ h => List.mem_cons_of_mem _ (List.mem_append_right _ h)) (by decide +kernel))
set_option maxRecDepth 20000 in
theorem gL_turnDelta_X1_turnDelta : GoodIn wsL_turnDelta (wsV RL 27 RX1 yX1_turnDelta wsX1_turnDelta) := goodIn_app (goodIn_of _ (by decide +kernel)) ggL_turnDelta_X1_turnDelta
theorem dL_turnDelta_0 : decode cL_turnDelta 0 = .ok (.aload_n 2, 1) := by decide +kernel
theorem dL_turnDelta_1 : decode cL_turnDelta 1 = .ok (.iconst 0, 1) := by decide +kernel
theorem dL_turnDelta_2 : decode cL_turnDelta 2 = .ok (.aload_n 0, 1) := by decide +kernel
theorem dL_turnDelta_3 : decode cL_turnDelta 3 = .ok (.iload_n 1, 1) := by decide +kernel
theorem dL_turnDelta_4 : decode cL_turnDelta 4 = .ok (.invokevirtual 27, 3) := by decide +kernel
theorem dL_turnDelta_7 : decode cL_turnDelta 7 = .ok (.ifCond .eq 7, 3) := by decide +kernel
theorem dL_turnDelta_10 : decode cL_turnDelta 10 = .ok (.lconst 1, 1) := by decide +kernel
theorem dL_turnDelta_11 : decode cL_turnDelta 11 = .ok (.goto 4, 3) := by decide +kernel
theorem dL_turnDelta_14 : decode cL_turnDelta 14 = .ok (.lconst 0, 1) := by decide +kernel
theorem dL_turnDelta_15 : decode cL_turnDelta 15 = .ok (.lastore, 1) := by decide +kernel
theorem dL_turnDelta_16 : decode cL_turnDelta 16 = .ok (.goto 6, 3) := by decide +kernel
theorem dL_turnDelta_19 : decode cL_turnDelta 19 = .ok (.astore_n 3, 1) := by decide +kernel
theorem dL_turnDelta_20 : decode cL_turnDelta 20 = .ok (.iconst 1, 1) := by decide +kernel
theorem dL_turnDelta_21 : decode cL_turnDelta 21 = .ok (.ireturn, 1) := by decide +kernel
theorem dL_turnDelta_22 : decode cL_turnDelta 22 = .ok (.iconst 0, 1) := by decide +kernel
theorem dL_turnDelta_23 : decode cL_turnDelta 23 = .ok (.ireturn, 1) := by decide +kernel
set_option maxRecDepth 20000 in
theorem ggL_setRule_X1_setRule : GoodIn wsL_setRule wsX1_setRule := goodIn_ca (goodIn_r _ [6, 7, 8, 9, 10, 11, 5, 12, 13, 14, 15, 16, 17, 18, 19, 20, 21, 22, 23, 24, 25, 26, 27, 28, 29, 30, 31, 32, 33, 34, 35, 36, 37, 38, 39, 40, 41, 42, 43, 44, 45, 46, 47, 48, 49, 50, 51, 52, 53, 54, 55, 56, 57, 58, 59, 60, 61, 62, 63, 64, 65, 66, 67, 68, 69, 70, 71, 72, 73, 74, 75, 76, 77, 78, 79, 80, 81] (by decide +kernel) (by decide +kernel)) (goodIn_sub (fun _ h => List.mem_cons_of_mem _ (List.mem_append_right _ h)) (by decide +kernel))
set_option maxRecDepth 20000 in
theorem gL_setRule_X1_setRule : GoodIn wsL_setRule (wsV RL 31 RX1 yX1_setRule wsX1_setRule) := goodIn_app (goodIn_of _ (by decide +kernel)) ggL_setRule_X1_setRule
theorem dL_setRule_0 : decode cL_setRule 0 = .ok (.aload_n 2, 1) := by decide +kernel
theorem dL_setRule_1 : decode cL_setRule 1 = .ok (.iconst 0, 1) := by decide +kernel
theorem dL_setRule_2 : decode cL_setRule 2 = .ok (.aload_n 0, 1) := by decide +kernel
theorem dL_setRule_3 : decode cL_setRule 3 = .ok (.iload_n 1, 1) := by decide +kernel
theorem dL_setRule_4 : decode cL_setRule 4 = .ok (.invokevirtual 31, 3) := by decide +kernel
theorem dL_setRule_7 : decode cL_setRule 7 = .ok (.i2l, 1) := by decide +kernel
theorem dL_setRule_8 : decode cL_setRule 8 = .ok (.lastore, 1) := by decide +kernel
theorem dL_setRule_9 : decode cL_setRule 9 = .ok (.goto 6, 3) := by decide +kernel
theorem dL_setRule_12 : decode cL_setRule 12 = .ok (.astore_n 3, 1) := by decide +kernel
theorem dL_setRule_13 : decode cL_setRule 13 = .ok (.iconst 1, 1) := by decide +kernel
theorem dL_setRule_14 : decode cL_setRule 14 = .ok (.ireturn, 1) := by decide +kernel
theorem dL_setRule_15 : decode cL_setRule 15 = .ok (.iconst 0, 1) := by decide +kernel
theorem dL_setRule_16 : decode cL_setRule 16 = .ok (.ireturn, 1) := by decide +kernel
set_option maxRecDepth 20000 in
theorem ggL_build_X1_build : GoodIn wsL_build wsX1_build := goodIn_ca (goodIn_ca (goodIn_r _ [7, 8, 9, 10, 11, 12, 13, 14, 15, 16, 6, 17, 18, 19, 20, 21, 22, 23, 24, 25, 26, 27, 28, 29, 30, 31, 32, 33, 34, 35, 36, 37, 38, 39, 40, 41, 42, 43, 44, 45, 46, 47, 48, 49, 50, 51, 52] (by decide +kernel) (by decide +kernel)) (goodIn_sub (fun _ h => List.mem_cons_of_mem _ (List.mem_append_left _ (List.mem_append_right _ h))) (by decide +kernel))) (goodIn_sub (fun _ h => List.mem_cons_of_mem _ (List.mem_append_right _ h)) (by decide +kernel))
set_option maxRecDepth 20000 in
theorem gL_build_X1_build : GoodIn wsL_build (wsV RL 35 RX1 yX1_build wsX1_build) := goodIn_app (goodIn_of _ (by decide +kernel)) ggL_build_X1_build
theorem dL_build_0 : decode cL_build 0 = .ok (.aload_n 2, 1) := by decide +kernel
theorem dL_build_1 : decode cL_build 1 = .ok (.iconst 0, 1) := by decide +kernel
theorem dL_build_2 : decode cL_build 2 = .ok (.aload_n 0, 1) := by decide +kernel
theorem dL_build_3 : decode cL_build 3 = .ok (.iload_n 1, 1) := by decide +kernel
theorem dL_build_4 : decode cL_build 4 = .ok (.invokevirtual 35, 3) := by decide +kernel
theorem dL_build_7 : decode cL_build 7 = .ok (.i2l, 1) := by decide +kernel
theorem dL_build_8 : decode cL_build 8 = .ok (.lastore, 1) := by decide +kernel
theorem dL_build_9 : decode cL_build 9 = .ok (.goto 9, 3) := by decide +kernel
theorem dL_build_12 : decode cL_build 12 = .ok (.astore_n 3, 1) := by decide +kernel
theorem dL_build_13 : decode cL_build 13 = .ok (.iconst 1, 1) := by decide +kernel
theorem dL_build_14 : decode cL_build 14 = .ok (.ireturn, 1) := by decide +kernel
theorem dL_build_15 : decode cL_build 15 = .ok (.astore_n 3, 1) := by decide +kernel
theorem dL_build_16 : decode cL_build 16 = .ok (.iconst 2, 1) := by decide +kernel
theorem dL_build_17 : decode cL_build 17 = .ok (.ireturn, 1) := by decide +kernel
theorem dL_build_18 : decode cL_build 18 = .ok (.iconst 0, 1) := by decide +kernel
theorem dL_build_19 : decode cL_build 19 = .ok (.ireturn, 1) := by decide +kernel
set_option maxRecDepth 20000 in
theorem ggL_pass_X1_pass : GoodIn wsL_pass wsX1_pass := goodIn_ca (goodIn_r _ [6, 7, 8, 9, 10, 5, 11, 12, 13, 14, 15, 16, 17, 18, 19, 20, 21, 22, 23, 24, 25, 26, 27, 28, 29, 30, 31, 32, 33, 34, 35, 36, 37, 38, 39, 40, 41, 42, 43, 44, 45, 46, 47, 48, 49, 50, 51, 52, 53, 54, 55, 56, 57, 58, 59, 60, 61, 62, 63, 64, 65, 66, 67, 68, 69, 70, 71, 72, 73, 74, 75, 76, 77, 78, 79, 80, 81, 82, 83, 84, 85, 86, 87, 88, 89, 90, 91, 92, 93, 94, 95, 96, 97, 98, 99, 100] (by decide +kernel) (by decide +kernel)) (goodIn_sub (fun _ h => List.mem_cons_of_mem _ (List.mem_append_right _ h)) (by decide +kernel))
set_option maxRecDepth 20000 in
theorem gL_pass_X1_pass : GoodIn wsL_pass (wsV RL 38 RX1 yX1_pass wsX1_pass) := goodIn_app (goodIn_of _ (by decide +kernel)) ggL_pass_X1_pass
theorem dL_pass_0 : decode cL_pass 0 = .ok (.aload_n 2, 1) := by decide +kernel
theorem dL_pass_1 : decode cL_pass 1 = .ok (.iconst 0, 1) := by decide +kernel
theorem dL_pass_2 : decode cL_pass 2 = .ok (.aload_n 0, 1) := by decide +kernel
theorem dL_pass_3 : decode cL_pass 3 = .ok (.iload_n 1, 1) := by decide +kernel
theorem dL_pass_4 : decode cL_pass 4 = .ok (.invokevirtual 38, 3) := by decide +kernel
theorem dL_pass_7 : decode cL_pass 7 = .ok (.i2l, 1) := by decide +kernel
theorem dL_pass_8 : decode cL_pass 8 = .ok (.lastore, 1) := by decide +kernel
theorem dL_pass_9 : decode cL_pass 9 = .ok (.goto 6, 3) := by decide +kernel
theorem dL_pass_12 : decode cL_pass 12 = .ok (.astore_n 3, 1) := by decide +kernel
theorem dL_pass_13 : decode cL_pass 13 = .ok (.iconst 1, 1) := by decide +kernel
theorem dL_pass_14 : decode cL_pass 14 = .ok (.ireturn, 1) := by decide +kernel
theorem dL_pass_15 : decode cL_pass 15 = .ok (.iconst 0, 1) := by decide +kernel
theorem dL_pass_16 : decode cL_pass 16 = .ok (.ireturn, 1) := by decide +kernel
set_option maxRecDepth 20000 in
theorem ggL_leadsTo_X1_leadsTo : GoodIn wsL_leadsTo wsX1_leadsTo := goodIn_ca (goodIn_r _ [6, 7, 8, 9, 10, 5, 11, 12, 13, 14, 15, 16, 17, 18, 19, 20, 21, 22, 23, 24, 25, 26, 27, 28, 29, 30, 31, 32, 33, 34, 35, 36, 37, 38, 39, 40, 41, 42, 43, 44, 45, 46] (by decide +kernel) (by decide +kernel)) (goodIn_sub (fun _ h => List.mem_cons_of_mem _ (List.mem_append_right _ h)) (by decide +kernel))
set_option maxRecDepth 20000 in
theorem gL_leadsTo_X1_leadsTo : GoodIn wsL_leadsTo (wsV RL 41 RX1 yX1_leadsTo wsX1_leadsTo) := goodIn_app (goodIn_of _ (by decide +kernel)) ggL_leadsTo_X1_leadsTo
theorem dL_leadsTo_0 : decode cL_leadsTo 0 = .ok (.aload_n 2, 1) := by decide +kernel
theorem dL_leadsTo_1 : decode cL_leadsTo 1 = .ok (.iconst 0, 1) := by decide +kernel
theorem dL_leadsTo_2 : decode cL_leadsTo 2 = .ok (.aload_n 0, 1) := by decide +kernel
theorem dL_leadsTo_3 : decode cL_leadsTo 3 = .ok (.iload_n 1, 1) := by decide +kernel
theorem dL_leadsTo_4 : decode cL_leadsTo 4 = .ok (.invokevirtual 41, 3) := by decide +kernel
theorem dL_leadsTo_7 : decode cL_leadsTo 7 = .ok (.i2l, 1) := by decide +kernel
theorem dL_leadsTo_8 : decode cL_leadsTo 8 = .ok (.lastore, 1) := by decide +kernel
theorem dL_leadsTo_9 : decode cL_leadsTo 9 = .ok (.goto 6, 3) := by decide +kernel
theorem dL_leadsTo_12 : decode cL_leadsTo 12 = .ok (.astore_n 3, 1) := by decide +kernel
theorem dL_leadsTo_13 : decode cL_leadsTo 13 = .ok (.iconst 1, 1) := by decide +kernel
theorem dL_leadsTo_14 : decode cL_leadsTo 14 = .ok (.ireturn, 1) := by decide +kernel
theorem dL_leadsTo_15 : decode cL_leadsTo 15 = .ok (.iconst 0, 1) := by decide +kernel
theorem dL_leadsTo_16 : decode cL_leadsTo 16 = .ok (.ireturn, 1) := by decide +kernel
set_option maxRecDepth 20000 in
theorem ggL_hasSpring_X1_hasSpring : GoodIn wsL_hasSpring wsX1_hasSpring := goodIn_ca (goodIn_r _ [6, 7, 8, 9, 10, 5, 11, 12, 13, 14, 15, 16, 17, 18, 19, 20, 21, 22, 23, 24, 25, 26, 27, 28, 29, 30, 31, 32, 33, 34, 35, 36, 37, 38, 39, 40, 41, 42, 43, 44, 45, 46] (by decide +kernel) (by decide +kernel)) (goodIn_sub (fun _ h => List.mem_cons_of_mem _ (List.mem_append_right _ h)) (by decide +kernel))
set_option maxRecDepth 20000 in
theorem gL_hasSpring_X1_hasSpring : GoodIn wsL_hasSpring (wsV RL 44 RX1 yX1_hasSpring wsX1_hasSpring) := goodIn_app (goodIn_of _ (by decide +kernel)) ggL_hasSpring_X1_hasSpring
theorem dL_hasSpring_0 : decode cL_hasSpring 0 = .ok (.aload_n 2, 1) := by decide +kernel
theorem dL_hasSpring_1 : decode cL_hasSpring 1 = .ok (.iconst 0, 1) := by decide +kernel
theorem dL_hasSpring_2 : decode cL_hasSpring 2 = .ok (.aload_n 0, 1) := by decide +kernel
theorem dL_hasSpring_3 : decode cL_hasSpring 3 = .ok (.iload_n 1, 1) := by decide +kernel
theorem dL_hasSpring_4 : decode cL_hasSpring 4 = .ok (.invokevirtual 44, 3) := by decide +kernel
theorem dL_hasSpring_7 : decode cL_hasSpring 7 = .ok (.ifCond .eq 7, 3) := by decide +kernel
theorem dL_hasSpring_10 : decode cL_hasSpring 10 = .ok (.lconst 1, 1) := by decide +kernel
theorem dL_hasSpring_11 : decode cL_hasSpring 11 = .ok (.goto 4, 3) := by decide +kernel
theorem dL_hasSpring_14 : decode cL_hasSpring 14 = .ok (.lconst 0, 1) := by decide +kernel
theorem dL_hasSpring_15 : decode cL_hasSpring 15 = .ok (.lastore, 1) := by decide +kernel
theorem dL_hasSpring_16 : decode cL_hasSpring 16 = .ok (.goto 6, 3) := by decide +kernel
theorem dL_hasSpring_19 : decode cL_hasSpring 19 = .ok (.astore_n 3, 1) := by decide +kernel
theorem dL_hasSpring_20 : decode cL_hasSpring 20 = .ok (.iconst 1, 1) := by decide +kernel
theorem dL_hasSpring_21 : decode cL_hasSpring 21 = .ok (.ireturn, 1) := by decide +kernel
theorem dL_hasSpring_22 : decode cL_hasSpring 22 = .ok (.iconst 0, 1) := by decide +kernel
theorem dL_hasSpring_23 : decode cL_hasSpring 23 = .ok (.ireturn, 1) := by decide +kernel
set_option maxRecDepth 20000 in
theorem ggL_springOf_X1_springOf : GoodIn wsL_springOf wsX1_springOf := goodIn_ca (goodIn_r _ [6, 7, 8, 9, 10, 5, 11, 12, 13, 14, 15, 16, 17, 18, 19, 20, 21, 22, 23, 24, 25, 26, 27, 28, 29, 30, 31, 32, 33, 34, 35, 36, 37, 38, 39, 40, 41, 42, 43, 44, 45, 46] (by decide +kernel) (by decide +kernel)) (goodIn_sub (fun _ h => List.mem_cons_of_mem _ (List.mem_append_right _ h)) (by decide +kernel))
set_option maxRecDepth 20000 in
theorem gL_springOf_X1_springOf : GoodIn wsL_springOf (wsV RL 47 RX1 yX1_springOf wsX1_springOf) := goodIn_app (goodIn_of _ (by decide +kernel)) ggL_springOf_X1_springOf
theorem dL_springOf_0 : decode cL_springOf 0 = .ok (.aload_n 2, 1) := by decide +kernel
theorem dL_springOf_1 : decode cL_springOf 1 = .ok (.iconst 0, 1) := by decide +kernel
theorem dL_springOf_2 : decode cL_springOf 2 = .ok (.aload_n 0, 1) := by decide +kernel
theorem dL_springOf_3 : decode cL_springOf 3 = .ok (.iload_n 1, 1) := by decide +kernel
theorem dL_springOf_4 : decode cL_springOf 4 = .ok (.invokevirtual 47, 3) := by decide +kernel
theorem dL_springOf_7 : decode cL_springOf 7 = .ok (.i2l, 1) := by decide +kernel
theorem dL_springOf_8 : decode cL_springOf 8 = .ok (.lastore, 1) := by decide +kernel
theorem dL_springOf_9 : decode cL_springOf 9 = .ok (.goto 6, 3) := by decide +kernel
theorem dL_springOf_12 : decode cL_springOf 12 = .ok (.astore_n 3, 1) := by decide +kernel
theorem dL_springOf_13 : decode cL_springOf 13 = .ok (.iconst 1, 1) := by decide +kernel
theorem dL_springOf_14 : decode cL_springOf 14 = .ok (.ireturn, 1) := by decide +kernel
theorem dL_springOf_15 : decode cL_springOf 15 = .ok (.iconst 0, 1) := by decide +kernel
theorem dL_springOf_16 : decode cL_springOf 16 = .ok (.ireturn, 1) := by decide +kernel
set_option maxRecDepth 20000 in
theorem ggL_waterAt_X1_waterAt : GoodIn wsL_waterAt wsX1_waterAt := goodIn_ca (goodIn_r _ [6, 7, 8, 9, 10, 5, 11, 12, 13, 14, 15, 16, 17, 18, 19, 20, 21, 22, 23, 24, 25, 26, 27, 28, 29, 30, 31, 32, 33, 34, 35, 36, 37, 38, 39, 40, 41, 42, 43, 44, 45, 46] (by decide +kernel) (by decide +kernel)) (goodIn_sub (fun _ h => List.mem_cons_of_mem _ (List.mem_append_right _ h)) (by decide +kernel))
set_option maxRecDepth 20000 in
theorem gL_waterAt_X1_waterAt : GoodIn wsL_waterAt (wsV RL 50 RX1 yX1_waterAt wsX1_waterAt) := goodIn_app (goodIn_of _ (by decide +kernel)) ggL_waterAt_X1_waterAt
theorem dL_waterAt_0 : decode cL_waterAt 0 = .ok (.aload_n 2, 1) := by decide +kernel
theorem dL_waterAt_1 : decode cL_waterAt 1 = .ok (.iconst 0, 1) := by decide +kernel
theorem dL_waterAt_2 : decode cL_waterAt 2 = .ok (.aload_n 0, 1) := by decide +kernel
theorem dL_waterAt_3 : decode cL_waterAt 3 = .ok (.iload_n 1, 1) := by decide +kernel
theorem dL_waterAt_4 : decode cL_waterAt 4 = .ok (.invokevirtual 50, 3) := by decide +kernel
theorem dL_waterAt_7 : decode cL_waterAt 7 = .ok (.i2l, 1) := by decide +kernel
theorem dL_waterAt_8 : decode cL_waterAt 8 = .ok (.lastore, 1) := by decide +kernel
theorem dL_waterAt_9 : decode cL_waterAt 9 = .ok (.goto 6, 3) := by decide +kernel
theorem dL_waterAt_12 : decode cL_waterAt 12 = .ok (.astore_n 3, 1) := by decide +kernel
theorem dL_waterAt_13 : decode cL_waterAt 13 = .ok (.iconst 1, 1) := by decide +kernel
theorem dL_waterAt_14 : decode cL_waterAt 14 = .ok (.ireturn, 1) := by decide +kernel
theorem dL_waterAt_15 : decode cL_waterAt 15 = .ok (.iconst 0, 1) := by decide +kernel
theorem dL_waterAt_16 : decode cL_waterAt 16 = .ok (.ireturn, 1) := by decide +kernel
set_option maxRecDepth 20000 in
theorem ggL_lengthAt_X1_lengthAt : GoodIn wsL_lengthAt wsX1_lengthAt := goodIn_ca (goodIn_r _ [6, 7, 8, 9, 10, 5, 11, 12, 13, 14, 15, 16, 17, 18, 19, 20, 21, 22, 23, 24, 25, 26, 27, 28, 29, 30, 31, 32, 33, 34, 35, 36, 37, 38, 39, 40, 41, 42, 43, 44, 45, 46] (by decide +kernel) (by decide +kernel)) (goodIn_sub (fun _ h => List.mem_cons_of_mem _ (List.mem_append_right _ h)) (by decide +kernel))
set_option maxRecDepth 20000 in
theorem gL_lengthAt_X1_lengthAt : GoodIn wsL_lengthAt (wsV RL 53 RX1 yX1_lengthAt wsX1_lengthAt) := goodIn_app (goodIn_of _ (by decide +kernel)) ggL_lengthAt_X1_lengthAt
theorem dL_lengthAt_0 : decode cL_lengthAt 0 = .ok (.aload_n 2, 1) := by decide +kernel
theorem dL_lengthAt_1 : decode cL_lengthAt 1 = .ok (.iconst 0, 1) := by decide +kernel
theorem dL_lengthAt_2 : decode cL_lengthAt 2 = .ok (.aload_n 0, 1) := by decide +kernel
theorem dL_lengthAt_3 : decode cL_lengthAt 3 = .ok (.iload_n 1, 1) := by decide +kernel
theorem dL_lengthAt_4 : decode cL_lengthAt 4 = .ok (.invokevirtual 53, 3) := by decide +kernel
theorem dL_lengthAt_7 : decode cL_lengthAt 7 = .ok (.i2l, 1) := by decide +kernel
theorem dL_lengthAt_8 : decode cL_lengthAt 8 = .ok (.lastore, 1) := by decide +kernel
theorem dL_lengthAt_9 : decode cL_lengthAt 9 = .ok (.goto 6, 3) := by decide +kernel
theorem dL_lengthAt_12 : decode cL_lengthAt 12 = .ok (.astore_n 3, 1) := by decide +kernel
theorem dL_lengthAt_13 : decode cL_lengthAt 13 = .ok (.iconst 1, 1) := by decide +kernel
theorem dL_lengthAt_14 : decode cL_lengthAt 14 = .ok (.ireturn, 1) := by decide +kernel
theorem dL_lengthAt_15 : decode cL_lengthAt 15 = .ok (.iconst 0, 1) := by decide +kernel
theorem dL_lengthAt_16 : decode cL_lengthAt 16 = .ok (.ireturn, 1) := by decide +kernel
set_option maxRecDepth 20000 in
theorem ggL_mouthOf_X1_mouthOf : GoodIn wsL_mouthOf wsX1_mouthOf := goodIn_ca (goodIn_r _ [6, 7, 8, 9, 10, 5, 11, 12, 13, 14, 15, 16, 17, 18, 19, 20, 21, 22, 23, 24, 25, 26, 27, 28, 29, 30, 31, 32, 33, 34, 35, 36, 37, 38, 39, 40, 41, 42, 43, 44, 45, 46, 47] (by decide +kernel) (by decide +kernel)) (goodIn_sub (fun _ h => List.mem_cons_of_mem _ (List.mem_append_right _ h)) (by decide +kernel))
set_option maxRecDepth 20000 in
theorem gL_mouthOf_X1_mouthOf : GoodIn wsL_mouthOf (wsV RL 56 RX1 yX1_mouthOf wsX1_mouthOf) := goodIn_app (goodIn_of _ (by decide +kernel)) ggL_mouthOf_X1_mouthOf
theorem dL_mouthOf_0 : decode cL_mouthOf 0 = .ok (.aload_n 2, 1) := by decide +kernel
theorem dL_mouthOf_1 : decode cL_mouthOf 1 = .ok (.iconst 0, 1) := by decide +kernel
theorem dL_mouthOf_2 : decode cL_mouthOf 2 = .ok (.aload_n 0, 1) := by decide +kernel
theorem dL_mouthOf_3 : decode cL_mouthOf 3 = .ok (.iload_n 1, 1) := by decide +kernel
theorem dL_mouthOf_4 : decode cL_mouthOf 4 = .ok (.invokevirtual 56, 3) := by decide +kernel
theorem dL_mouthOf_7 : decode cL_mouthOf 7 = .ok (.i2l, 1) := by decide +kernel
theorem dL_mouthOf_8 : decode cL_mouthOf 8 = .ok (.lastore, 1) := by decide +kernel
theorem dL_mouthOf_9 : decode cL_mouthOf 9 = .ok (.goto 6, 3) := by decide +kernel
theorem dL_mouthOf_12 : decode cL_mouthOf 12 = .ok (.astore_n 3, 1) := by decide +kernel
theorem dL_mouthOf_13 : decode cL_mouthOf 13 = .ok (.iconst 1, 1) := by decide +kernel
theorem dL_mouthOf_14 : decode cL_mouthOf 14 = .ok (.ireturn, 1) := by decide +kernel
theorem dL_mouthOf_15 : decode cL_mouthOf 15 = .ok (.iconst 0, 1) := by decide +kernel
theorem dL_mouthOf_16 : decode cL_mouthOf 16 = .ok (.ireturn, 1) := by decide +kernel
set_option maxRecDepth 20000 in
theorem ggL_isAbove_X1_isAbove : GoodIn wsL_isAbove wsX1_isAbove := goodIn_ca (goodIn_r _ [6, 7, 8, 9, 10, 5, 11, 12, 13, 14, 15, 16, 17, 18, 19, 20, 21, 22, 23, 24, 25, 26, 27, 28, 29, 30, 31, 32, 33, 34, 35, 36, 37, 38, 39, 40, 41, 42, 43, 44, 45, 46, 47] (by decide +kernel) (by decide +kernel)) (goodIn_sub (fun _ h => List.mem_cons_of_mem _ (List.mem_append_right _ h)) (by decide +kernel))
set_option maxRecDepth 20000 in
theorem gL_isAbove_X1_isAbove : GoodIn wsL_isAbove (wsV RL 59 RX1 yX1_isAbove wsX1_isAbove) := goodIn_app (goodIn_of _ (by decide +kernel)) ggL_isAbove_X1_isAbove
theorem dL_isAbove_0 : decode cL_isAbove 0 = .ok (.aload_n 3, 1) := by decide +kernel
theorem dL_isAbove_1 : decode cL_isAbove 1 = .ok (.iconst 0, 1) := by decide +kernel
theorem dL_isAbove_2 : decode cL_isAbove 2 = .ok (.aload_n 0, 1) := by decide +kernel
theorem dL_isAbove_3 : decode cL_isAbove 3 = .ok (.iload_n 1, 1) := by decide +kernel
theorem dL_isAbove_4 : decode cL_isAbove 4 = .ok (.iload_n 2, 1) := by decide +kernel
theorem dL_isAbove_5 : decode cL_isAbove 5 = .ok (.invokevirtual 59, 3) := by decide +kernel
theorem dL_isAbove_8 : decode cL_isAbove 8 = .ok (.ifCond .eq 7, 3) := by decide +kernel
theorem dL_isAbove_11 : decode cL_isAbove 11 = .ok (.lconst 1, 1) := by decide +kernel
theorem dL_isAbove_12 : decode cL_isAbove 12 = .ok (.goto 4, 3) := by decide +kernel
theorem dL_isAbove_15 : decode cL_isAbove 15 = .ok (.lconst 0, 1) := by decide +kernel
theorem dL_isAbove_16 : decode cL_isAbove 16 = .ok (.lastore, 1) := by decide +kernel
theorem dL_isAbove_17 : decode cL_isAbove 17 = .ok (.goto 7, 3) := by decide +kernel
theorem dL_isAbove_20 : decode cL_isAbove 20 = .ok (.astore 4, 2) := by decide +kernel
theorem dL_isAbove_22 : decode cL_isAbove 22 = .ok (.iconst 1, 1) := by decide +kernel
theorem dL_isAbove_23 : decode cL_isAbove 23 = .ok (.ireturn, 1) := by decide +kernel
theorem dL_isAbove_24 : decode cL_isAbove 24 = .ok (.iconst 0, 1) := by decide +kernel
theorem dL_isAbove_25 : decode cL_isAbove 25 = .ok (.ireturn, 1) := by decide +kernel
set_option maxRecDepth 20000 in
theorem ggL_placesAbove_X1_placesAbove : GoodIn wsL_placesAbove wsX1_placesAbove := goodIn_ca (goodIn_r _ [6, 7, 8, 9, 10, 5, 11, 12, 13, 14, 15, 16, 17, 18, 19, 20, 21, 22, 23, 24, 25, 26, 27, 28, 29, 30, 31, 32, 33, 34, 35, 36, 37, 38, 39, 40, 41, 42, 43, 44, 45, 46, 47, 48, 49, 50, 51] (by decide +kernel) (by decide +kernel)) (goodIn_sub (fun _ h => List.mem_cons_of_mem _ (List.mem_append_right _ h)) (by decide +kernel))
set_option maxRecDepth 20000 in
theorem gL_placesAbove_X1_placesAbove : GoodIn wsL_placesAbove (wsV RL 63 RX1 yX1_placesAbove wsX1_placesAbove) := goodIn_app (goodIn_of _ (by decide +kernel)) ggL_placesAbove_X1_placesAbove
theorem dL_placesAbove_0 : decode cL_placesAbove 0 = .ok (.aload_n 2, 1) := by decide +kernel
theorem dL_placesAbove_1 : decode cL_placesAbove 1 = .ok (.iconst 0, 1) := by decide +kernel
theorem dL_placesAbove_2 : decode cL_placesAbove 2 = .ok (.aload_n 0, 1) := by decide +kernel
theorem dL_placesAbove_3 : decode cL_placesAbove 3 = .ok (.iload_n 1, 1) := by decide +kernel
theorem dL_placesAbove_4 : decode cL_placesAbove 4 = .ok (.invokevirtual 63, 3) := by decide +kernel
theorem dL_placesAbove_7 : decode cL_placesAbove 7 = .ok (.i2l, 1) := by decide +kernel
theorem dL_placesAbove_8 : decode cL_placesAbove 8 = .ok (.lastore, 1) := by decide +kernel
theorem dL_placesAbove_9 : decode cL_placesAbove 9 = .ok (.goto 6, 3) := by decide +kernel
theorem dL_placesAbove_12 : decode cL_placesAbove 12 = .ok (.astore_n 3, 1) := by decide +kernel
theorem dL_placesAbove_13 : decode cL_placesAbove 13 = .ok (.iconst 1, 1) := by decide +kernel
theorem dL_placesAbove_14 : decode cL_placesAbove 14 = .ok (.ireturn, 1) := by decide +kernel
theorem dL_placesAbove_15 : decode cL_placesAbove 15 = .ok (.iconst 0, 1) := by decide +kernel
theorem dL_placesAbove_16 : decode cL_placesAbove 16 = .ok (.ireturn, 1) := by decide +kernel
set_option maxRecDepth 20000 in
theorem ggL_meeting_X1_meeting : GoodIn wsL_meeting wsX1_meeting := goodIn_ca (goodIn_r _ [6, 7, 8, 9, 10, 5, 11, 12, 13, 14, 15, 16, 17, 18, 19, 20, 21, 22, 23, 24, 25, 26, 27, 28, 29, 30, 31, 32, 33, 34, 35, 36, 37, 38, 39, 40, 41, 42, 43, 44, 45, 46, 47, 48, 49, 50, 51] (by decide +kernel) (by decide +kernel)) (goodIn_sub (fun _ h => List.mem_cons_of_mem _ (List.mem_append_right _ h)) (by decide +kernel))
set_option maxRecDepth 20000 in
theorem gL_meeting_X1_meeting : GoodIn wsL_meeting (wsV RL 66 RX1 yX1_meeting wsX1_meeting) := goodIn_app (goodIn_of _ (by decide +kernel)) ggL_meeting_X1_meeting
theorem dL_meeting_0 : decode cL_meeting 0 = .ok (.aload_n 3, 1) := by decide +kernel
theorem dL_meeting_1 : decode cL_meeting 1 = .ok (.iconst 0, 1) := by decide +kernel
theorem dL_meeting_2 : decode cL_meeting 2 = .ok (.aload_n 0, 1) := by decide +kernel
theorem dL_meeting_3 : decode cL_meeting 3 = .ok (.iload_n 1, 1) := by decide +kernel
theorem dL_meeting_4 : decode cL_meeting 4 = .ok (.iload_n 2, 1) := by decide +kernel
theorem dL_meeting_5 : decode cL_meeting 5 = .ok (.invokevirtual 66, 3) := by decide +kernel
theorem dL_meeting_8 : decode cL_meeting 8 = .ok (.i2l, 1) := by decide +kernel
theorem dL_meeting_9 : decode cL_meeting 9 = .ok (.lastore, 1) := by decide +kernel
theorem dL_meeting_10 : decode cL_meeting 10 = .ok (.goto 7, 3) := by decide +kernel
theorem dL_meeting_13 : decode cL_meeting 13 = .ok (.astore 4, 2) := by decide +kernel
theorem dL_meeting_15 : decode cL_meeting 15 = .ok (.iconst 1, 1) := by decide +kernel
theorem dL_meeting_16 : decode cL_meeting 16 = .ok (.ireturn, 1) := by decide +kernel
theorem dL_meeting_17 : decode cL_meeting 17 = .ok (.iconst 0, 1) := by decide +kernel
theorem dL_meeting_18 : decode cL_meeting 18 = .ok (.ireturn, 1) := by decide +kernel
set_option maxRecDepth 20000 in
theorem ggL_nameAt_X1_nameAt : GoodIn wsL_nameAt wsX1_nameAt := goodIn_ca (goodIn_r _ [6, 7, 8, 9, 10, 5, 11, 12, 13, 14, 15, 16, 17, 18, 19, 20, 21, 22, 23, 24, 25, 26, 27, 28, 29, 30, 31, 32, 33, 34, 35, 36, 37, 38, 39, 40, 41, 42, 43, 44, 45, 46] (by decide +kernel) (by decide +kernel)) (goodIn_sub (fun _ h => List.mem_cons_of_mem _ (List.mem_append_right _ h)) (by decide +kernel))
set_option maxRecDepth 20000 in
theorem gL_nameAt_X1_nameAt : GoodIn wsL_nameAt (wsV RL 69 RX1 yX1_nameAt wsX1_nameAt) := goodIn_app (goodIn_of _ (by decide +kernel)) ggL_nameAt_X1_nameAt
theorem dL_nameAt_0 : decode cL_nameAt 0 = .ok (.aload_n 2, 1) := by decide +kernel
theorem dL_nameAt_1 : decode cL_nameAt 1 = .ok (.iconst 0, 1) := by decide +kernel
theorem dL_nameAt_2 : decode cL_nameAt 2 = .ok (.aload_n 0, 1) := by decide +kernel
theorem dL_nameAt_3 : decode cL_nameAt 3 = .ok (.iload_n 1, 1) := by decide +kernel
theorem dL_nameAt_4 : decode cL_nameAt 4 = .ok (.invokevirtual 69, 3) := by decide +kernel
theorem dL_nameAt_7 : decode cL_nameAt 7 = .ok (.i2l, 1) := by decide +kernel
theorem dL_nameAt_8 : decode cL_nameAt 8 = .ok (.lastore, 1) := by decide +kernel
theorem dL_nameAt_9 : decode cL_nameAt 9 = .ok (.goto 6, 3) := by decide +kernel
theorem dL_nameAt_12 : decode cL_nameAt 12 = .ok (.astore_n 3, 1) := by decide +kernel
theorem dL_nameAt_13 : decode cL_nameAt 13 = .ok (.iconst 1, 1) := by decide +kernel
theorem dL_nameAt_14 : decode cL_nameAt 14 = .ok (.ireturn, 1) := by decide +kernel
theorem dL_nameAt_15 : decode cL_nameAt 15 = .ok (.iconst 0, 1) := by decide +kernel
theorem dL_nameAt_16 : decode cL_nameAt 16 = .ok (.ireturn, 1) := by decide +kernel
set_option maxRecDepth 20000 in
theorem ggL_arguing_X1_arguing : GoodIn wsL_arguing wsX1_arguing := goodIn_ca (goodIn_r _ [6, 7, 8, 9, 10, 5, 11, 12, 13, 14, 15, 16, 17, 18, 19, 20, 21, 22, 23, 24, 25, 26, 27, 28, 29, 30, 31, 32, 33, 34, 35, 36, 37, 38, 39, 40, 41, 42, 43, 44, 45, 46] (by decide +kernel) (by decide +kernel)) (goodIn_sub (fun _ h => List.mem_cons_of_mem _ (List.mem_append_right _ h)) (by decide +kernel))
set_option maxRecDepth 20000 in
theorem gL_arguing_X1_arguing : GoodIn wsL_arguing (wsV RL 72 RX1 yX1_arguing wsX1_arguing) := goodIn_app (goodIn_of _ (by decide +kernel)) ggL_arguing_X1_arguing
theorem dL_arguing_0 : decode cL_arguing 0 = .ok (.aload_n 2, 1) := by decide +kernel
theorem dL_arguing_1 : decode cL_arguing 1 = .ok (.iconst 0, 1) := by decide +kernel
theorem dL_arguing_2 : decode cL_arguing 2 = .ok (.aload_n 0, 1) := by decide +kernel
theorem dL_arguing_3 : decode cL_arguing 3 = .ok (.iload_n 1, 1) := by decide +kernel
theorem dL_arguing_4 : decode cL_arguing 4 = .ok (.invokevirtual 72, 3) := by decide +kernel
theorem dL_arguing_7 : decode cL_arguing 7 = .ok (.i2l, 1) := by decide +kernel
theorem dL_arguing_8 : decode cL_arguing 8 = .ok (.lastore, 1) := by decide +kernel
theorem dL_arguing_9 : decode cL_arguing 9 = .ok (.goto 6, 3) := by decide +kernel
theorem dL_arguing_12 : decode cL_arguing 12 = .ok (.astore_n 3, 1) := by decide +kernel
theorem dL_arguing_13 : decode cL_arguing 13 = .ok (.iconst 1, 1) := by decide +kernel
theorem dL_arguing_14 : decode cL_arguing 14 = .ok (.ireturn, 1) := by decide +kernel
theorem dL_arguing_15 : decode cL_arguing 15 = .ok (.iconst 0, 1) := by decide +kernel
theorem dL_arguing_16 : decode cL_arguing 16 = .ok (.ireturn, 1) := by decide +kernel
set_option maxRecDepth 20000 in
theorem ggL_isArgued_X1_isArgued : GoodIn wsL_isArgued wsX1_isArgued := goodIn_ca (goodIn_r _ [6, 7, 8, 9, 10, 5, 11, 12, 13, 14, 15, 16, 17, 18, 19, 20, 21, 22, 23, 24, 25, 26, 27, 28, 29, 30, 31, 32, 33, 34, 35, 36, 37, 38, 39, 40, 41, 42, 43, 44, 45, 46] (by decide +kernel) (by decide +kernel)) (goodIn_sub (fun _ h => List.mem_cons_of_mem _ (List.mem_append_right _ h)) (by decide +kernel))
set_option maxRecDepth 20000 in
theorem gL_isArgued_X1_isArgued : GoodIn wsL_isArgued (wsV RL 75 RX1 yX1_isArgued wsX1_isArgued) := goodIn_app (goodIn_of _ (by decide +kernel)) ggL_isArgued_X1_isArgued
theorem dL_isArgued_0 : decode cL_isArgued 0 = .ok (.aload_n 2, 1) := by decide +kernel
theorem dL_isArgued_1 : decode cL_isArgued 1 = .ok (.iconst 0, 1) := by decide +kernel
theorem dL_isArgued_2 : decode cL_isArgued 2 = .ok (.aload_n 0, 1) := by decide +kernel
theorem dL_isArgued_3 : decode cL_isArgued 3 = .ok (.iload_n 1, 1) := by decide +kernel
theorem dL_isArgued_4 : decode cL_isArgued 4 = .ok (.invokevirtual 75, 3) := by decide +kernel
theorem dL_isArgued_7 : decode cL_isArgued 7 = .ok (.ifCond .eq 7, 3) := by decide +kernel
theorem dL_isArgued_10 : decode cL_isArgued 10 = .ok (.lconst 1, 1) := by decide +kernel
theorem dL_isArgued_11 : decode cL_isArgued 11 = .ok (.goto 4, 3) := by decide +kernel
theorem dL_isArgued_14 : decode cL_isArgued 14 = .ok (.lconst 0, 1) := by decide +kernel
theorem dL_isArgued_15 : decode cL_isArgued 15 = .ok (.lastore, 1) := by decide +kernel
theorem dL_isArgued_16 : decode cL_isArgued 16 = .ok (.goto 6, 3) := by decide +kernel
theorem dL_isArgued_19 : decode cL_isArgued 19 = .ok (.astore_n 3, 1) := by decide +kernel
theorem dL_isArgued_20 : decode cL_isArgued 20 = .ok (.iconst 1, 1) := by decide +kernel
theorem dL_isArgued_21 : decode cL_isArgued 21 = .ok (.ireturn, 1) := by decide +kernel
theorem dL_isArgued_22 : decode cL_isArgued 22 = .ok (.iconst 0, 1) := by decide +kernel
theorem dL_isArgued_23 : decode cL_isArgued 23 = .ok (.ireturn, 1) := by decide +kernel
set_option maxRecDepth 20000 in
theorem ggL_placesNamed_X1_placesNamed : GoodIn wsL_placesNamed wsX1_placesNamed := goodIn_ca (goodIn_r _ [6, 7, 8, 9, 5, 10, 11, 12, 13, 14, 15, 16, 17, 18, 19, 20, 21, 22, 23, 24, 25, 26, 27, 28, 29, 30, 31, 32, 33, 34, 35, 36, 37, 38, 39, 40, 41, 42, 43, 44] (by decide +kernel) (by decide +kernel)) (goodIn_sub (fun _ h => List.mem_cons_of_mem _ (List.mem_append_right _ h)) (by decide +kernel))
set_option maxRecDepth 20000 in
theorem gL_placesNamed_X1_placesNamed : GoodIn wsL_placesNamed (wsV RL 78 RX1 yX1_placesNamed wsX1_placesNamed) := goodIn_app (goodIn_of _ (by decide +kernel)) ggL_placesNamed_X1_placesNamed
theorem dL_placesNamed_0 : decode cL_placesNamed 0 = .ok (.aload_n 2, 1) := by decide +kernel
theorem dL_placesNamed_1 : decode cL_placesNamed 1 = .ok (.iconst 0, 1) := by decide +kernel
theorem dL_placesNamed_2 : decode cL_placesNamed 2 = .ok (.aload_n 0, 1) := by decide +kernel
theorem dL_placesNamed_3 : decode cL_placesNamed 3 = .ok (.iload_n 1, 1) := by decide +kernel
theorem dL_placesNamed_4 : decode cL_placesNamed 4 = .ok (.invokevirtual 78, 3) := by decide +kernel
theorem dL_placesNamed_7 : decode cL_placesNamed 7 = .ok (.i2l, 1) := by decide +kernel
theorem dL_placesNamed_8 : decode cL_placesNamed 8 = .ok (.lastore, 1) := by decide +kernel
theorem dL_placesNamed_9 : decode cL_placesNamed 9 = .ok (.goto 6, 3) := by decide +kernel
theorem dL_placesNamed_12 : decode cL_placesNamed 12 = .ok (.astore_n 3, 1) := by decide +kernel
theorem dL_placesNamed_13 : decode cL_placesNamed 13 = .ok (.iconst 1, 1) := by decide +kernel
theorem dL_placesNamed_14 : decode cL_placesNamed 14 = .ok (.ireturn, 1) := by decide +kernel
theorem dL_placesNamed_15 : decode cL_placesNamed 15 = .ok (.iconst 0, 1) := by decide +kernel
theorem dL_placesNamed_16 : decode cL_placesNamed 16 = .ok (.ireturn, 1) := by decide +kernel
set_option maxRecDepth 20000 in
theorem ggL_placeOf_X1_placeOf : GoodIn wsL_placeOf wsX1_placeOf := goodIn_ca (goodIn_r _ [6, 7, 8, 9, 10, 5, 11, 12, 13, 14, 15, 16, 17, 18, 19, 20] (by decide +kernel) (by decide +kernel)) (goodIn_sub (fun _ h => List.mem_cons_of_mem _ (List.mem_append_right _ h)) (by decide +kernel))
set_option maxRecDepth 20000 in
theorem gL_placeOf_X1_placeOf : GoodIn wsL_placeOf (wsV RL 81 RX1 yX1_placeOf wsX1_placeOf) := goodIn_app (goodIn_of _ (by decide +kernel)) ggL_placeOf_X1_placeOf
theorem dL_placeOf_0 : decode cL_placeOf 0 = .ok (.aload_n 2, 1) := by decide +kernel
theorem dL_placeOf_1 : decode cL_placeOf 1 = .ok (.iconst 0, 1) := by decide +kernel
theorem dL_placeOf_2 : decode cL_placeOf 2 = .ok (.aload_n 0, 1) := by decide +kernel
theorem dL_placeOf_3 : decode cL_placeOf 3 = .ok (.iload_n 1, 1) := by decide +kernel
theorem dL_placeOf_4 : decode cL_placeOf 4 = .ok (.invokevirtual 81, 3) := by decide +kernel
theorem dL_placeOf_7 : decode cL_placeOf 7 = .ok (.i2l, 1) := by decide +kernel
theorem dL_placeOf_8 : decode cL_placeOf 8 = .ok (.lastore, 1) := by decide +kernel
theorem dL_placeOf_9 : decode cL_placeOf 9 = .ok (.goto 6, 3) := by decide +kernel
theorem dL_placeOf_12 : decode cL_placeOf 12 = .ok (.astore_n 3, 1) := by decide +kernel
theorem dL_placeOf_13 : decode cL_placeOf 13 = .ok (.iconst 1, 1) := by decide +kernel
theorem dL_placeOf_14 : decode cL_placeOf 14 = .ok (.ireturn, 1) := by decide +kernel
theorem dL_placeOf_15 : decode cL_placeOf 15 = .ok (.iconst 0, 1) := by decide +kernel
theorem dL_placeOf_16 : decode cL_placeOf 16 = .ok (.ireturn, 1) := by decide +kernel
set_option maxRecDepth 20000 in
theorem ggL_keeps_X1_keeps : GoodIn wsL_keeps wsX1_keeps := goodIn_ca (goodIn_r _ [6, 7, 8, 9, 10, 5, 11, 12, 13, 14, 15, 16, 17, 18, 19, 20] (by decide +kernel) (by decide +kernel)) (goodIn_sub (fun _ h => List.mem_cons_of_mem _ (List.mem_append_right _ h)) (by decide +kernel))
set_option maxRecDepth 20000 in
theorem gL_keeps_X1_keeps : GoodIn wsL_keeps (wsV RL 84 RX1 yX1_keeps wsX1_keeps) := goodIn_app (goodIn_of _ (by decide +kernel)) ggL_keeps_X1_keeps
theorem dL_keeps_0 : decode cL_keeps 0 = .ok (.aload_n 2, 1) := by decide +kernel
theorem dL_keeps_1 : decode cL_keeps 1 = .ok (.iconst 0, 1) := by decide +kernel
theorem dL_keeps_2 : decode cL_keeps 2 = .ok (.aload_n 0, 1) := by decide +kernel
theorem dL_keeps_3 : decode cL_keeps 3 = .ok (.iload_n 1, 1) := by decide +kernel
theorem dL_keeps_4 : decode cL_keeps 4 = .ok (.invokevirtual 84, 3) := by decide +kernel
theorem dL_keeps_7 : decode cL_keeps 7 = .ok (.i2l, 1) := by decide +kernel
theorem dL_keeps_8 : decode cL_keeps 8 = .ok (.lastore, 1) := by decide +kernel
theorem dL_keeps_9 : decode cL_keeps 9 = .ok (.goto 6, 3) := by decide +kernel
theorem dL_keeps_12 : decode cL_keeps 12 = .ok (.astore_n 3, 1) := by decide +kernel
theorem dL_keeps_13 : decode cL_keeps 13 = .ok (.iconst 1, 1) := by decide +kernel
theorem dL_keeps_14 : decode cL_keeps 14 = .ok (.ireturn, 1) := by decide +kernel
theorem dL_keeps_15 : decode cL_keeps 15 = .ok (.iconst 0, 1) := by decide +kernel
theorem dL_keeps_16 : decode cL_keeps 16 = .ok (.ireturn, 1) := by decide +kernel
set_option maxRecDepth 20000 in
theorem ggL_isInsulted_X1_isInsulted : GoodIn wsL_isInsulted wsX1_isInsulted := goodIn_ca (goodIn_r _ [6, 7, 8, 9, 5, 10, 11, 12, 13, 14, 15, 16, 17, 18, 19, 20, 21, 22, 23, 24, 25, 26, 27, 28, 29, 30, 31, 32, 33, 34, 35, 36, 37, 38, 39, 40, 41, 42, 43, 44, 45, 46, 47, 48] (by decide +kernel) (by decide +kernel)) (goodIn_sub (fun _ h => List.mem_cons_of_mem _ (List.mem_append_right _ h)) (by decide +kernel))
set_option maxRecDepth 20000 in
theorem gL_isInsulted_X1_isInsulted : GoodIn wsL_isInsulted (wsV RL 87 RX1 yX1_isInsulted wsX1_isInsulted) := goodIn_app (goodIn_of _ (by decide +kernel)) ggL_isInsulted_X1_isInsulted
theorem dL_isInsulted_0 : decode cL_isInsulted 0 = .ok (.aload_n 2, 1) := by decide +kernel
theorem dL_isInsulted_1 : decode cL_isInsulted 1 = .ok (.iconst 0, 1) := by decide +kernel
theorem dL_isInsulted_2 : decode cL_isInsulted 2 = .ok (.aload_n 0, 1) := by decide +kernel
theorem dL_isInsulted_3 : decode cL_isInsulted 3 = .ok (.iload_n 1, 1) := by decide +kernel
theorem dL_isInsulted_4 : decode cL_isInsulted 4 = .ok (.invokevirtual 87, 3) := by decide +kernel
theorem dL_isInsulted_7 : decode cL_isInsulted 7 = .ok (.ifCond .eq 7, 3) := by decide +kernel
theorem dL_isInsulted_10 : decode cL_isInsulted 10 = .ok (.lconst 1, 1) := by decide +kernel
theorem dL_isInsulted_11 : decode cL_isInsulted 11 = .ok (.goto 4, 3) := by decide +kernel
theorem dL_isInsulted_14 : decode cL_isInsulted 14 = .ok (.lconst 0, 1) := by decide +kernel
theorem dL_isInsulted_15 : decode cL_isInsulted 15 = .ok (.lastore, 1) := by decide +kernel
theorem dL_isInsulted_16 : decode cL_isInsulted 16 = .ok (.goto 6, 3) := by decide +kernel
theorem dL_isInsulted_19 : decode cL_isInsulted 19 = .ok (.astore_n 3, 1) := by decide +kernel
theorem dL_isInsulted_20 : decode cL_isInsulted 20 = .ok (.iconst 1, 1) := by decide +kernel
theorem dL_isInsulted_21 : decode cL_isInsulted 21 = .ok (.ireturn, 1) := by decide +kernel
theorem dL_isInsulted_22 : decode cL_isInsulted 22 = .ok (.iconst 0, 1) := by decide +kernel
theorem dL_isInsulted_23 : decode cL_isInsulted 23 = .ok (.ireturn, 1) := by decide +kernel
set_option maxRecDepth 20000 in
theorem ggL_insultsAt_X1_insultsAt : GoodIn wsL_insultsAt wsX1_insultsAt := goodIn_ca (goodIn_r _ [6, 7, 8, 9, 10, 11, 5, 12, 13, 14, 15, 16, 17, 18, 19, 20, 21, 22, 23, 24, 25, 26, 27, 28, 29, 30, 31, 32, 33, 34, 35, 36, 37, 38, 39, 40, 41, 42, 43, 44, 45, 46, 47, 48, 49, 50, 51, 52, 53] (by decide +kernel) (by decide +kernel)) (goodIn_sub (fun _ h => List.mem_cons_of_mem _ (List.mem_append_right _ h)) (by decide +kernel))
set_option maxRecDepth 20000 in
theorem gL_insultsAt_X1_insultsAt : GoodIn wsL_insultsAt (wsV RL 90 RX1 yX1_insultsAt wsX1_insultsAt) := goodIn_app (goodIn_of _ (by decide +kernel)) ggL_insultsAt_X1_insultsAt
theorem dL_insultsAt_0 : decode cL_insultsAt 0 = .ok (.aload_n 2, 1) := by decide +kernel
theorem dL_insultsAt_1 : decode cL_insultsAt 1 = .ok (.iconst 0, 1) := by decide +kernel
theorem dL_insultsAt_2 : decode cL_insultsAt 2 = .ok (.aload_n 0, 1) := by decide +kernel
theorem dL_insultsAt_3 : decode cL_insultsAt 3 = .ok (.iload_n 1, 1) := by decide +kernel
theorem dL_insultsAt_4 : decode cL_insultsAt 4 = .ok (.invokevirtual 90, 3) := by decide +kernel
theorem dL_insultsAt_7 : decode cL_insultsAt 7 = .ok (.i2l, 1) := by decide +kernel
theorem dL_insultsAt_8 : decode cL_insultsAt 8 = .ok (.lastore, 1) := by decide +kernel
theorem dL_insultsAt_9 : decode cL_insultsAt 9 = .ok (.goto 6, 3) := by decide +kernel
theorem dL_insultsAt_12 : decode cL_insultsAt 12 = .ok (.astore_n 3, 1) := by decide +kernel
theorem dL_insultsAt_13 : decode cL_insultsAt 13 = .ok (.iconst 1, 1) := by decide +kernel
theorem dL_insultsAt_14 : decode cL_insultsAt 14 = .ok (.ireturn, 1) := by decide +kernel
theorem dL_insultsAt_15 : decode cL_insultsAt 15 = .ok (.iconst 0, 1) := by decide +kernel
theorem dL_insultsAt_16 : decode cL_insultsAt 16 = .ok (.ireturn, 1) := by decide +kernel
set_option maxRecDepth 20000 in
theorem ggL_nameIn_X1_nameIn : GoodIn wsL_nameIn wsX1_nameIn := goodIn_ca (goodIn_ca (goodIn_r _ [7, 8, 9, 10, 11, 12, 6, 13, 14, 15, 16, 17, 18, 19, 20, 21, 22, 23, 24, 25, 26, 27, 28, 29, 30, 31, 32, 33, 34, 35, 36, 37, 38, 39, 40, 41, 42, 43, 44, 45, 46, 47, 48, 49, 50, 51, 52, 53, 54, 55, 56, 57, 58, 59, 60, 61, 62, 63, 64, 65, 66, 67, 68, 69, 70, 71, 72, 73, 74, 75, 76, 77, 78, 79, 80, 81, 82, 83, 84, 85, 86, 87, 88, 89, 90, 91, 92, 93, 94, 95, 96, 97, 98, 99, 100, 101, 102] (by decide +kernel) (by decide +kernel)) (goodIn_sub (fun _ h => List.mem_cons_of_mem _ (List.mem_append_left _ (List.mem_append_right _ h))) (by decide +kernel))) (goodIn_sub (fun _ h => List.mem_cons_of_mem _ (List.mem_append_right _ h)) (by decide +kernel))
set_option maxRecDepth 20000 in
theorem gL_nameIn_X1_nameIn : GoodIn wsL_nameIn (wsV RL 93 RX1 yX1_nameIn wsX1_nameIn) := goodIn_app (goodIn_of _ (by decide +kernel)) ggL_nameIn_X1_nameIn
theorem dL_nameIn_0 : decode cL_nameIn 0 = .ok (.aload_n 3, 1) := by decide +kernel
theorem dL_nameIn_1 : decode cL_nameIn 1 = .ok (.iconst 0, 1) := by decide +kernel
theorem dL_nameIn_2 : decode cL_nameIn 2 = .ok (.aload_n 0, 1) := by decide +kernel
theorem dL_nameIn_3 : decode cL_nameIn 3 = .ok (.iload_n 1, 1) := by decide +kernel
theorem dL_nameIn_4 : decode cL_nameIn 4 = .ok (.iload_n 2, 1) := by decide +kernel
theorem dL_nameIn_5 : decode cL_nameIn 5 = .ok (.invokevirtual 93, 3) := by decide +kernel
theorem dL_nameIn_8 : decode cL_nameIn 8 = .ok (.i2l, 1) := by decide +kernel
theorem dL_nameIn_9 : decode cL_nameIn 9 = .ok (.lastore, 1) := by decide +kernel
theorem dL_nameIn_10 : decode cL_nameIn 10 = .ok (.goto 11, 3) := by decide +kernel
theorem dL_nameIn_13 : decode cL_nameIn 13 = .ok (.astore 4, 2) := by decide +kernel
theorem dL_nameIn_15 : decode cL_nameIn 15 = .ok (.iconst 1, 1) := by decide +kernel
theorem dL_nameIn_16 : decode cL_nameIn 16 = .ok (.ireturn, 1) := by decide +kernel
theorem dL_nameIn_17 : decode cL_nameIn 17 = .ok (.astore 4, 2) := by decide +kernel
theorem dL_nameIn_19 : decode cL_nameIn 19 = .ok (.iconst 2, 1) := by decide +kernel
theorem dL_nameIn_20 : decode cL_nameIn 20 = .ok (.ireturn, 1) := by decide +kernel
theorem dL_nameIn_21 : decode cL_nameIn 21 = .ok (.iconst 0, 1) := by decide +kernel
theorem dL_nameIn_22 : decode cL_nameIn 22 = .ok (.ireturn, 1) := by decide +kernel
set_option maxRecDepth 20000 in
theorem ggL_yearsUntilRenamed_X1_yearsUntilRenamed : GoodIn wsL_yearsUntilRenamed wsX1_yearsUntilRenamed := goodIn_ca (goodIn_r _ [6, 7, 8, 9, 10, 11, 5, 12, 13, 14, 15, 16, 17, 18, 19, 20, 21, 22, 23, 24, 25, 26, 27, 28, 29, 30, 31, 32, 33, 34, 35, 36, 37, 38, 39, 40, 41, 42, 43, 44, 45, 46, 47, 48, 49, 50, 51, 52, 53, 54, 55, 56, 57, 58, 59, 60, 61, 62, 63, 64, 65, 66, 67, 68, 69, 70, 71, 72, 73, 74, 75, 76, 77, 78, 79, 80, 81, 82, 83, 84, 85, 86, 87, 88, 89, 90, 91, 92, 93] (by decide +kernel) (by decide +kernel)) (goodIn_sub (fun _ h => List.mem_cons_of_mem _ (List.mem_append_right _ h)) (by decide +kernel))
set_option maxRecDepth 20000 in
theorem gL_yearsUntilRenamed_X1_yearsUntilRenamed : GoodIn wsL_yearsUntilRenamed (wsV RL 96 RX1 yX1_yearsUntilRenamed wsX1_yearsUntilRenamed) := goodIn_app (goodIn_of _ (by decide +kernel)) ggL_yearsUntilRenamed_X1_yearsUntilRenamed
theorem dL_yearsUntilRenamed_0 : decode cL_yearsUntilRenamed 0 = .ok (.aload_n 2, 1) := by decide +kernel
theorem dL_yearsUntilRenamed_1 : decode cL_yearsUntilRenamed 1 = .ok (.iconst 0, 1) := by decide +kernel
theorem dL_yearsUntilRenamed_2 : decode cL_yearsUntilRenamed 2 = .ok (.aload_n 0, 1) := by decide +kernel
theorem dL_yearsUntilRenamed_3 : decode cL_yearsUntilRenamed 3 = .ok (.iload_n 1, 1) := by decide +kernel
theorem dL_yearsUntilRenamed_4 : decode cL_yearsUntilRenamed 4 = .ok (.invokevirtual 96, 3) := by decide +kernel
theorem dL_yearsUntilRenamed_7 : decode cL_yearsUntilRenamed 7 = .ok (.i2l, 1) := by decide +kernel
theorem dL_yearsUntilRenamed_8 : decode cL_yearsUntilRenamed 8 = .ok (.lastore, 1) := by decide +kernel
theorem dL_yearsUntilRenamed_9 : decode cL_yearsUntilRenamed 9 = .ok (.goto 6, 3) := by decide +kernel
theorem dL_yearsUntilRenamed_12 : decode cL_yearsUntilRenamed 12 = .ok (.astore_n 3, 1) := by decide +kernel
theorem dL_yearsUntilRenamed_13 : decode cL_yearsUntilRenamed 13 = .ok (.iconst 1, 1) := by decide +kernel
theorem dL_yearsUntilRenamed_14 : decode cL_yearsUntilRenamed 14 = .ok (.ireturn, 1) := by decide +kernel
theorem dL_yearsUntilRenamed_15 : decode cL_yearsUntilRenamed 15 = .ok (.iconst 0, 1) := by decide +kernel
theorem dL_yearsUntilRenamed_16 : decode cL_yearsUntilRenamed 16 = .ok (.ireturn, 1) := by decide +kernel
set_option maxRecDepth 20000 in
theorem ggL_renamedByDelta_X1_renamedByDelta : GoodIn wsL_renamedByDelta wsX1_renamedByDelta := goodIn_ca (goodIn_r _ [6, 7, 8, 9, 10, 11, 5, 12, 13, 14, 15, 16, 17, 18, 19, 20, 21, 22, 23, 24, 25, 26, 27, 28, 29, 30, 31, 32, 33, 34, 35, 36, 37, 38, 39, 40, 41, 42, 43, 44, 45, 46, 47, 48, 49, 50, 51, 52, 53, 54, 55, 56, 57, 58, 59, 60, 61, 62, 63, 64, 65, 66, 67, 68, 69, 70, 71, 72, 73, 74, 75, 76, 77, 78, 79, 80, 81, 82, 83, 84, 85, 86, 87, 88, 89, 90] (by decide +kernel) (by decide +kernel)) (goodIn_sub (fun _ h => List.mem_cons_of_mem _ (List.mem_append_right _ h)) (by decide +kernel))
set_option maxRecDepth 20000 in
theorem gL_renamedByDelta_X1_renamedByDelta : GoodIn wsL_renamedByDelta (wsV RL 99 RX1 yX1_renamedByDelta wsX1_renamedByDelta) := goodIn_app (goodIn_of _ (by decide +kernel)) ggL_renamedByDelta_X1_renamedByDelta
theorem dL_renamedByDelta_0 : decode cL_renamedByDelta 0 = .ok (.aload_n 2, 1) := by decide +kernel
theorem dL_renamedByDelta_1 : decode cL_renamedByDelta 1 = .ok (.iconst 0, 1) := by decide +kernel
theorem dL_renamedByDelta_2 : decode cL_renamedByDelta 2 = .ok (.aload_n 0, 1) := by decide +kernel
theorem dL_renamedByDelta_3 : decode cL_renamedByDelta 3 = .ok (.iload_n 1, 1) := by decide +kernel
theorem dL_renamedByDelta_4 : decode cL_renamedByDelta 4 = .ok (.invokevirtual 99, 3) := by decide +kernel
theorem dL_renamedByDelta_7 : decode cL_renamedByDelta 7 = .ok (.i2l, 1) := by decide +kernel
theorem dL_renamedByDelta_8 : decode cL_renamedByDelta 8 = .ok (.lastore, 1) := by decide +kernel
theorem dL_renamedByDelta_9 : decode cL_renamedByDelta 9 = .ok (.goto 6, 3) := by decide +kernel
theorem dL_renamedByDelta_12 : decode cL_renamedByDelta 12 = .ok (.astore_n 3, 1) := by decide +kernel
theorem dL_renamedByDelta_13 : decode cL_renamedByDelta 13 = .ok (.iconst 1, 1) := by decide +kernel
theorem dL_renamedByDelta_14 : decode cL_renamedByDelta 14 = .ok (.ireturn, 1) := by decide +kernel
theorem dL_renamedByDelta_15 : decode cL_renamedByDelta 15 = .ok (.iconst 0, 1) := by decide +kernel
theorem dL_renamedByDelta_16 : decode cL_renamedByDelta 16 = .ok (.ireturn, 1) := by decide +kernel
