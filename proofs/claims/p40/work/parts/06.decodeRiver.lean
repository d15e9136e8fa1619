set_option maxRecDepth 20000 in
theorem ggX1_init_X0_init : GoodIn wsX1_init wsX0_init := goodIn_r _ [16, 17, 2, 3, 18, 19, 9, 20, 21, 22, 23, 24, 25, 26, 27, 28, 29, 30, 31, 32, 33, 34, 35, 36, 37, 38, 39, 40, 41, 42, 43, 44, 45, 46, 47, 48, 49, 50] (by decide +kernel) (by decide +kernel)
set_option maxRecDepth 20000 in
theorem gX1_init_X0_init : GoodIn wsX1_init (wsX0_init) := ggX1_init_X0_init
theorem dX1_init_0 : decode cX1_init 0 = .ok (.aload_n 0, 1) := by decide +kernel
theorem dX1_init_1 : decode cX1_init 1 = .ok (.invokespecial 1, 3) := by decide +kernel
theorem dX1_init_4 : decode cX1_init 4 = .ok (.aload_n 0, 1) := by decide +kernel
theorem dX1_init_5 : decode cX1_init 5 = .ok (.new 7, 3) := by decide +kernel
theorem dX1_init_8 : decode cX1_init 8 = .ok (.dup, 1) := by decide +kernel
theorem dX1_init_9 : decode cX1_init 9 = .ok (.invokespecial 9, 3) := by decide +kernel
theorem dX1_init_12 : decode cX1_init 12 = .ok (.putfield 10, 3) := by decide +kernel
theorem dX1_init_15 : decode cX1_init 15 = .ok (.aload_n 0, 1) := by decide +kernel
theorem dX1_init_16 : decode cX1_init 16 = .ok (.new 7, 3) := by decide +kernel
theorem dX1_init_19 : decode cX1_init 19 = .ok (.dup, 1) := by decide +kernel
theorem dX1_init_20 : decode cX1_init 20 = .ok (.invokespecial 9, 3) := by decide +kernel
theorem dX1_init_23 : decode cX1_init 23 = .ok (.putfield 16, 3) := by decide +kernel
theorem dX1_init_26 : decode cX1_init 26 = .ok (.aload_n 0, 1) := by decide +kernel
theorem dX1_init_27 : decode cX1_init 27 = .ok (.bipush 16, 2) := by decide +kernel
theorem dX1_init_29 : decode cX1_init 29 = .ok (.newarray .int, 2) := by decide +kernel
theorem dX1_init_31 : decode cX1_init 31 = .ok (.putfield 19, 3) := by decide +kernel
theorem dX1_init_34 : decode cX1_init 34 = .ok (.aload_n 0, 1) := by decide +kernel
theorem dX1_init_35 : decode cX1_init 35 = .ok (.bipush 16, 2) := by decide +kernel
theorem dX1_init_37 : decode cX1_init 37 = .ok (.newarray .int, 2) := by decide +kernel
theorem dX1_init_39 : decode cX1_init 39 = .ok (.putfield 23, 3) := by decide +kernel
theorem dX1_init_42 : decode cX1_init 42 = .ok (.aload_n 0, 1) := by decide +kernel
theorem dX1_init_43 : decode cX1_init 43 = .ok (.iconst 0, 1) := by decide +kernel
theorem dX1_init_44 : decode cX1_init 44 = .ok (.putfield 26, 3) := by decide +kernel
theorem dX1_init_47 : decode cX1_init 47 = .ok (.aload_n 0, 1) := by decide +kernel
theorem dX1_init_48 : decode cX1_init 48 = .ok (.iconst 0, 1) := by decide +kernel
theorem dX1_init_49 : decode cX1_init 49 = .ok (.putfield 30, 3) := by decide +kernel
theorem dX1_init_52 : decode cX1_init 52 = .ok (.return_, 1) := by decide +kernel
set_option maxRecDepth 20000 in
theorem ggX1_addPlace_X1_requireRoomForPlace : GoodIn wsX1_addPlace wsX1_requireRoomForPlace := goodIn_ca (goodIn_r _ [6, 7, 8, 1, 9, 10, 11, 12, 13, 14, 56, 57, 58, 59, 60, 61, 62, 63, 64, 65, 66, 67, 68, 69, 70, 71, 72, 73, 74, 75, 76, 77] (by decide +kernel) (by decide +kernel)) (goodIn_sub (fun _ h => List.mem_cons_of_mem _ (List.mem_append_right _ h)) (by decide +kernel))
set_option maxRecDepth 20000 in
theorem gX1_addPlace_X1_requireRoomForPlace : GoodIn wsX1_addPlace (wsV RX1 33 RX1 yX1_requireRoomForPlace wsX1_requireRoomForPlace) := goodIn_app (goodIn_of _ (by decide +kernel)) ggX1_addPlace_X1_requireRoomForPlace
set_option maxRecDepth 20000 in
theorem ggX1_addPlace_X0_addBare : GoodIn wsX1_addPlace wsX0_addBare := goodIn_r _ [18, 14, 19, 20, 21, 22, 12, 23, 24, 25, 26, 27, 28, 29, 30, 31, 32, 33, 34, 35, 36, 37, 38, 39, 40, 41, 42, 43, 44, 45, 46, 47, 48, 49, 50, 51, 52, 53, 54, 55, 62, 63, 64, 65, 66, 67, 68, 69, 70, 71, 72, 73, 74, 75, 76, 77] (by decide +kernel) (by decide +kernel)
set_option maxRecDepth 20000 in
theorem gX1_addPlace_X0_addBare : GoodIn wsX1_addPlace (wsV RX1 36 RX0 yX0_addBare wsX0_addBare) := goodIn_app (goodIn_of _ (by decide +kernel)) ggX1_addPlace_X0_addBare
theorem dX1_addPlace_0 : decode cX1_addPlace 0 = .ok (.aload_n 0, 1) := by decide +kernel
theorem dX1_addPlace_1 : decode cX1_addPlace 1 = .ok (.invokevirtual 33, 3) := by decide +kernel
theorem dX1_addPlace_4 : decode cX1_addPlace 4 = .ok (.aload_n 0, 1) := by decide +kernel
theorem dX1_addPlace_5 : decode cX1_addPlace 5 = .ok (.getfield 10, 3) := by decide +kernel
theorem dX1_addPlace_8 : decode cX1_addPlace 8 = .ok (.invokevirtual 36, 3) := by decide +kernel
theorem dX1_addPlace_11 : decode cX1_addPlace 11 = .ok (.ireturn, 1) := by decide +kernel
set_option maxRecDepth 20000 in
theorem ggX1_addSpring_X1_requireName : GoodIn wsX1_addSpring wsX1_requireName := goodIn_ca (goodIn_r _ [7, 8, 9, 10, 11, 6, 12] (by decide +kernel) (by decide +kernel)) (goodIn_sub (fun _ h => List.mem_cons_of_mem _ (List.mem_append_left _ (List.mem_append_right _ h))) (by decide +kernel))
set_option maxRecDepth 20000 in
theorem gX1_addSpring_X1_requireName : GoodIn wsX1_addSpring (va_wsS RX1 40 yX1_requireName wsX1_requireName) := goodIn_app (goodIn_of _ (by decide +kernel)) ggX1_addSpring_X1_requireName
set_option maxRecDepth 20000 in
theorem ggX1_addSpring_X1_isWithin : GoodIn wsX1_addSpring wsX1_isWithin := goodIn_r _ [12] (by decide +kernel) (by decide +kernel)
set_option maxRecDepth 20000 in
theorem gX1_addSpring_X1_isWithin : GoodIn wsX1_addSpring (va_wsS RX1 44 yX1_isWithin wsX1_isWithin) := goodIn_app (goodIn_of _ (by decide +kernel)) ggX1_addSpring_X1_isWithin
set_option maxRecDepth 20000 in
theorem ggX1_addSpring_X1_requireRoomForPlace : GoodIn wsX1_addSpring wsX1_requireRoomForPlace := goodIn_ca (goodIn_r _ [16, 17, 18, 3, 19, 20, 21, 22, 23, 24, 68, 69, 70, 71, 72, 73, 74, 75, 76, 77, 78, 79, 80, 81, 82, 83, 84, 85, 86, 87, 88, 89] (by decide +kernel) (by decide +kernel)) (goodIn_sub (fun _ h => List.mem_cons_of_mem _ (List.mem_append_right _ h)) (by decide +kernel))
set_option maxRecDepth 20000 in
theorem gX1_addSpring_X1_requireRoomForPlace : GoodIn wsX1_addSpring (wsV RX1 33 RX1 yX1_requireRoomForPlace wsX1_requireRoomForPlace) := goodIn_app (goodIn_of _ (by decide +kernel)) ggX1_addSpring_X1_requireRoomForPlace
set_option maxRecDepth 20000 in
theorem ggX1_addSpring_X0_addSprung : GoodIn wsX1_addSpring wsX0_addSprung := goodIn_r _ [28, 24, 29, 30, 31, 32, 33, 34, 35, 36, 22, 37, 38, 39, 40, 41, 42, 43, 44, 45, 46, 47, 48, 49, 50, 51, 52, 53, 54, 55, 56, 57, 58, 59, 60, 61, 62, 63, 64, 65, 66, 67, 74, 75, 76, 77, 78, 79, 80, 81, 82, 83, 84, 85, 86, 87, 88, 89] (by decide +kernel) (by decide +kernel)
set_option maxRecDepth 20000 in
theorem gX1_addSpring_X0_addSprung : GoodIn wsX1_addSpring (wsV RX1 57 RX0 yX0_addSprung wsX0_addSprung) := goodIn_app (goodIn_of _ (by decide +kernel)) ggX1_addSpring_X0_addSprung
theorem dX1_addSpring_0 : decode cX1_addSpring 0 = .ok (.iload_n 1, 1) := by decide +kernel
theorem dX1_addSpring_1 : decode cX1_addSpring 1 = .ok (.invokestatic 40, 3) := by decide +kernel
theorem dX1_addSpring_4 : decode cX1_addSpring 4 = .ok (.iload_n 2, 1) := by decide +kernel
theorem dX1_addSpring_5 : decode cX1_addSpring 5 = .ok (.iconst 0, 1) := by decide +kernel
theorem dX1_addSpring_6 : decode cX1_addSpring 6 = .ok (.bipush 99, 2) := by decide +kernel
theorem dX1_addSpring_8 : decode cX1_addSpring 8 = .ok (.invokestatic 44, 3) := by decide +kernel
theorem dX1_addSpring_11 : decode cX1_addSpring 11 = .ok (.ifCond .ne 13, 3) := by decide +kernel
theorem dX1_addSpring_14 : decode cX1_addSpring 14 = .ok (.new 48, 3) := by decide +kernel
theorem dX1_addSpring_17 : decode cX1_addSpring 17 = .ok (.dup, 1) := by decide +kernel
theorem dX1_addSpring_18 : decode cX1_addSpring 18 = .ok (.ldc 50, 2) := by decide +kernel
theorem dX1_addSpring_20 : decode cX1_addSpring 20 = .ok (.invokespecial 52, 3) := by decide +kernel
theorem dX1_addSpring_23 : decode cX1_addSpring 23 = .ok (.athrow, 1) := by decide +kernel
theorem dX1_addSpring_24 : decode cX1_addSpring 24 = .ok (.iload_n 3, 1) := by decide +kernel
theorem dX1_addSpring_25 : decode cX1_addSpring 25 = .ok (.bipush (-9), 2) := by decide +kernel
theorem dX1_addSpring_27 : decode cX1_addSpring 27 = .ok (.bipush 9, 2) := by decide +kernel
theorem dX1_addSpring_29 : decode cX1_addSpring 29 = .ok (.invokestatic 44, 3) := by decide +kernel
theorem dX1_addSpring_32 : decode cX1_addSpring 32 = .ok (.ifCond .ne 13, 3) := by decide +kernel
theorem dX1_addSpring_35 : decode cX1_addSpring 35 = .ok (.new 48, 3) := by decide +kernel
theorem dX1_addSpring_38 : decode cX1_addSpring 38 = .ok (.dup, 1) := by decide +kernel
theorem dX1_addSpring_39 : decode cX1_addSpring 39 = .ok (.ldc 55, 2) := by decide +kernel
theorem dX1_addSpring_41 : decode cX1_addSpring 41 = .ok (.invokespecial 52, 3) := by decide +kernel
theorem dX1_addSpring_44 : decode cX1_addSpring 44 = .ok (.athrow, 1) := by decide +kernel
theorem dX1_addSpring_45 : decode cX1_addSpring 45 = .ok (.aload_n 0, 1) := by decide +kernel
theorem dX1_addSpring_46 : decode cX1_addSpring 46 = .ok (.invokevirtual 33, 3) := by decide +kernel
theorem dX1_addSpring_49 : decode cX1_addSpring 49 = .ok (.aload_n 0, 1) := by decide +kernel
theorem dX1_addSpring_50 : decode cX1_addSpring 50 = .ok (.getfield 10, 3) := by decide +kernel
theorem dX1_addSpring_53 : decode cX1_addSpring 53 = .ok (.iload_n 1, 1) := by decide +kernel
theorem dX1_addSpring_54 : decode cX1_addSpring 54 = .ok (.iload_n 2, 1) := by decide +kernel
theorem dX1_addSpring_55 : decode cX1_addSpring 55 = .ok (.iload_n 3, 1) := by decide +kernel
theorem dX1_addSpring_56 : decode cX1_addSpring 56 = .ok (.invokevirtual 57, 3) := by decide +kernel
theorem dX1_addSpring_59 : decode cX1_addSpring 59 = .ok (.ireturn, 1) := by decide +kernel
set_option maxRecDepth 20000 in
theorem ggX1_lead_X1_requirePlace : GoodIn wsX1_lead wsX1_requirePlace := goodIn_ca (goodIn_r _ [8, 9, 10, 3, 11, 12, 13, 14, 15, 16, 67, 68, 69, 70, 71, 72, 73, 74, 75, 76, 77, 78, 79, 80, 81, 82, 83, 84, 85, 86, 87, 88] (by decide +kernel) (by decide +kernel)) (goodIn_sub (fun _ h => List.mem_cons_of_mem _ (List.mem_append_right _ h)) (by decide +kernel))
set_option maxRecDepth 20000 in
theorem gX1_lead_X1_requirePlace : GoodIn wsX1_lead (wsV RX1 61 RX1 yX1_requirePlace wsX1_requirePlace) := goodIn_app (goodIn_of _ (by decide +kernel)) ggX1_lead_X1_requirePlace
set_option maxRecDepth 20000 in
theorem ggX1_lead_X0_flowsTo : GoodIn wsX1_lead wsX0_flowsTo := goodIn_r _ [20, 21, 22, 12, 13, 14, 15, 16, 73, 74, 75, 76, 77, 78, 79, 80, 81, 82, 83, 84, 85, 86, 87, 88] (by decide +kernel) (by decide +kernel)
set_option maxRecDepth 20000 in
theorem gX1_lead_X0_flowsTo : GoodIn wsX1_lead (wsV RX1 69 RX0 yX0_flowsTo wsX0_flowsTo) := goodIn_app (goodIn_of _ (by decide +kernel)) ggX1_lead_X0_flowsTo
set_option maxRecDepth 20000 in
theorem ggX1_lead_X0_next : GoodIn wsX1_lead wsX0_next := goodIn_r _ [26, 21, 73, 74, 75, 76, 77, 78, 79, 80, 81, 82, 83, 84, 85, 86, 87, 88] (by decide +kernel) (by decide +kernel)
set_option maxRecDepth 20000 in
theorem gX1_lead_X0_next : GoodIn wsX1_lead (wsV RX1 75 RX0 yX0_next wsX0_next) := goodIn_app (goodIn_of _ (by decide +kernel)) ggX1_lead_X0_next
set_option maxRecDepth 20000 in
theorem ggX1_lead_X0_leadOn : GoodIn wsX1_lead wsX0_leadOn := goodIn_r _ [30, 21, 16, 31, 32, 33, 34, 14, 35, 22, 12, 13, 15, 36, 37, 38, 39, 40, 41, 42, 43, 44, 45, 46, 47, 48, 49, 50, 51, 52, 53, 54, 55, 56, 57, 58, 59, 60, 61, 62, 63, 64, 65, 66, 73, 74, 75, 76, 77, 78, 79, 80, 81, 82, 83, 84, 85, 86, 87, 88] (by decide +kernel) (by decide +kernel)
set_option maxRecDepth 20000 in
theorem gX1_lead_X0_leadOn : GoodIn wsX1_lead (wsV RX1 79 RX0 yX0_leadOn wsX0_leadOn) := goodIn_app (goodIn_of _ (by decide +kernel)) ggX1_lead_X0_leadOn
theorem dX1_lead_0 : decode cX1_lead 0 = .ok (.aload_n 0, 1) := by decide +kernel
theorem dX1_lead_1 : decode cX1_lead 1 = .ok (.iload_n 1, 1) := by decide +kernel
theorem dX1_lead_2 : decode cX1_lead 2 = .ok (.invokevirtual 61, 3) := by decide +kernel
theorem dX1_lead_5 : decode cX1_lead 5 = .ok (.aload_n 0, 1) := by decide +kernel
theorem dX1_lead_6 : decode cX1_lead 6 = .ok (.iload_n 2, 1) := by decide +kernel
theorem dX1_lead_7 : decode cX1_lead 7 = .ok (.invokevirtual 61, 3) := by decide +kernel
theorem dX1_lead_10 : decode cX1_lead 10 = .ok (.iload_n 1, 1) := by decide +kernel
theorem dX1_lead_11 : decode cX1_lead 11 = .ok (.iload_n 2, 1) := by decide +kernel
theorem dX1_lead_12 : decode cX1_lead 12 = .ok (.if_icmp .ne 13, 3) := by decide +kernel
theorem dX1_lead_15 : decode cX1_lead 15 = .ok (.new 64, 3) := by decide +kernel
theorem dX1_lead_18 : decode cX1_lead 18 = .ok (.dup, 1) := by decide +kernel
theorem dX1_lead_19 : decode cX1_lead 19 = .ok (.ldc 66, 2) := by decide +kernel
theorem dX1_lead_21 : decode cX1_lead 21 = .ok (.invokespecial 68, 3) := by decide +kernel
theorem dX1_lead_24 : decode cX1_lead 24 = .ok (.athrow, 1) := by decide +kernel
theorem dX1_lead_25 : decode cX1_lead 25 = .ok (.aload_n 0, 1) := by decide +kernel
theorem dX1_lead_26 : decode cX1_lead 26 = .ok (.getfield 10, 3) := by decide +kernel
theorem dX1_lead_29 : decode cX1_lead 29 = .ok (.iload_n 2, 1) := by decide +kernel
theorem dX1_lead_30 : decode cX1_lead 30 = .ok (.iload_n 1, 1) := by decide +kernel
theorem dX1_lead_31 : decode cX1_lead 31 = .ok (.invokevirtual 69, 3) := by decide +kernel
theorem dX1_lead_34 : decode cX1_lead 34 = .ok (.ifCond .eq 13, 3) := by decide +kernel
theorem dX1_lead_37 : decode cX1_lead 37 = .ok (.new 64, 3) := by decide +kernel
theorem dX1_lead_40 : decode cX1_lead 40 = .ok (.dup, 1) := by decide +kernel
theorem dX1_lead_41 : decode cX1_lead 41 = .ok (.ldc 73, 2) := by decide +kernel
theorem dX1_lead_43 : decode cX1_lead 43 = .ok (.invokespecial 68, 3) := by decide +kernel
theorem dX1_lead_46 : decode cX1_lead 46 = .ok (.athrow, 1) := by decide +kernel
theorem dX1_lead_47 : decode cX1_lead 47 = .ok (.aload_n 0, 1) := by decide +kernel
theorem dX1_lead_48 : decode cX1_lead 48 = .ok (.getfield 10, 3) := by decide +kernel
theorem dX1_lead_51 : decode cX1_lead 51 = .ok (.iload_n 1, 1) := by decide +kernel
theorem dX1_lead_52 : decode cX1_lead 52 = .ok (.invokevirtual 75, 3) := by decide +kernel
theorem dX1_lead_55 : decode cX1_lead 55 = .ok (.istore_n 3, 1) := by decide +kernel
theorem dX1_lead_56 : decode cX1_lead 56 = .ok (.aload_n 0, 1) := by decide +kernel
theorem dX1_lead_57 : decode cX1_lead 57 = .ok (.getfield 10, 3) := by decide +kernel
theorem dX1_lead_60 : decode cX1_lead 60 = .ok (.iload_n 1, 1) := by decide +kernel
theorem dX1_lead_61 : decode cX1_lead 61 = .ok (.iload_n 2, 1) := by decide +kernel
theorem dX1_lead_62 : decode cX1_lead 62 = .ok (.invokevirtual 79, 3) := by decide +kernel
theorem dX1_lead_65 : decode cX1_lead 65 = .ok (.iload_n 3, 1) := by decide +kernel
theorem dX1_lead_66 : decode cX1_lead 66 = .ok (.ireturn, 1) := by decide +kernel
set_option maxRecDepth 20000 in
theorem ggX1_turnDelta_X1_requirePlace : GoodIn wsX1_turnDelta wsX1_requirePlace := goodIn_ca (goodIn_r _ [6, 7, 8, 1, 9, 10, 11, 12, 13, 14, 57, 58, 59, 60, 61, 62, 63, 64, 65, 66, 67, 68, 69, 70, 71, 72, 73, 74, 75, 76, 77, 78] (by decide +kernel) (by decide +kernel)) (goodIn_sub (fun _ h => List.mem_cons_of_mem _ (List.mem_append_right _ h)) (by decide +kernel))
set_option maxRecDepth 20000 in
theorem gX1_turnDelta_X1_requirePlace : GoodIn wsX1_turnDelta (wsV RX1 61 RX1 yX1_requirePlace wsX1_requirePlace) := goodIn_app (goodIn_of _ (by decide +kernel)) ggX1_turnDelta_X1_requirePlace
set_option maxRecDepth 20000 in
theorem ggX1_turnDelta_X0_toggleDelta : GoodIn wsX1_turnDelta wsX0_toggleDelta := goodIn_r _ [18, 19, 20, 21, 22, 12, 23, 14, 24, 25, 26, 27, 28, 29, 30, 31, 32, 33, 34, 35, 36, 37, 38, 39, 40, 41, 42, 43, 44, 45, 46, 47, 48, 49, 50, 51, 52, 10, 11, 13, 63, 64, 65, 66, 67, 68, 69, 70, 71, 72, 73, 74, 75, 76, 77, 78] (by decide +kernel) (by decide +kernel)
set_option maxRecDepth 20000 in
theorem gX1_turnDelta_X0_toggleDelta : GoodIn wsX1_turnDelta (wsV RX1 83 RX0 yX0_toggleDelta wsX0_toggleDelta) := goodIn_app (goodIn_of _ (by decide +kernel)) ggX1_turnDelta_X0_toggleDelta
set_option maxRecDepth 20000 in
theorem ggX1_turnDelta_X0_isDelta : GoodIn wsX1_turnDelta wsX0_isDelta := goodIn_r _ [56, 19, 63, 64, 65, 66, 67, 68, 69, 70, 71, 72, 73, 74, 75, 76, 77, 78] (by decide +kernel) (by decide +kernel)
set_option maxRecDepth 20000 in
theorem gX1_turnDelta_X0_isDelta : GoodIn wsX1_turnDelta (wsV RX1 86 RX0 yX0_isDelta wsX0_isDelta) := goodIn_app (goodIn_of _ (by decide +kernel)) ggX1_turnDelta_X0_isDelta
theorem dX1_turnDelta_0 : decode cX1_turnDelta 0 = .ok (.aload_n 0, 1) := by decide +kernel
theorem dX1_turnDelta_1 : decode cX1_turnDelta 1 = .ok (.iload_n 1, 1) := by decide +kernel
theorem dX1_turnDelta_2 : decode cX1_turnDelta 2 = .ok (.invokevirtual 61, 3) := by decide +kernel
theorem dX1_turnDelta_5 : decode cX1_turnDelta 5 = .ok (.aload_n 0, 1) := by decide +kernel
theorem dX1_turnDelta_6 : decode cX1_turnDelta 6 = .ok (.getfield 10, 3) := by decide +kernel
theorem dX1_turnDelta_9 : decode cX1_turnDelta 9 = .ok (.iload_n 1, 1) := by decide +kernel
theorem dX1_turnDelta_10 : decode cX1_turnDelta 10 = .ok (.invokevirtual 83, 3) := by decide +kernel
theorem dX1_turnDelta_13 : decode cX1_turnDelta 13 = .ok (.aload_n 0, 1) := by decide +kernel
theorem dX1_turnDelta_14 : decode cX1_turnDelta 14 = .ok (.getfield 10, 3) := by decide +kernel
theorem dX1_turnDelta_17 : decode cX1_turnDelta 17 = .ok (.iload_n 1, 1) := by decide +kernel
theorem dX1_turnDelta_18 : decode cX1_turnDelta 18 = .ok (.invokevirtual 86, 3) := by decide +kernel
theorem dX1_turnDelta_21 : decode cX1_turnDelta 21 = .ok (.ireturn, 1) := by decide +kernel
set_option maxRecDepth 20000 in
theorem ggX1_setRule_X1_isWithin : GoodIn wsX1_setRule wsX1_isWithin := goodIn_r _ [7] (by decide +kernel) (by decide +kernel)
set_option maxRecDepth 20000 in
theorem gX1_setRule_X1_isWithin : GoodIn wsX1_setRule (va_wsS RX1 44 yX1_isWithin wsX1_isWithin) := goodIn_app (goodIn_of _ (by decide +kernel)) ggX1_setRule_X1_isWithin
set_option maxRecDepth 20000 in
theorem ggX1_setRule_X0_ruleNow : GoodIn wsX1_setRule wsX0_ruleNow := goodIn_r _ [12, 13, 61, 62, 63, 64, 65, 66, 67, 68, 69, 70, 71, 72, 73, 74, 75, 76] (by decide +kernel) (by decide +kernel)
set_option maxRecDepth 20000 in
theorem gX1_setRule_X0_ruleNow : GoodIn wsX1_setRule (wsV RX1 92 RX0 yX0_ruleNow wsX0_ruleNow) := goodIn_app (goodIn_of _ (by decide +kernel)) ggX1_setRule_X0_ruleNow
set_option maxRecDepth 20000 in
theorem ggX1_setRule_X0_useRule : GoodIn wsX1_setRule wsX0_useRule := goodIn_r _ [17, 13, 18, 19, 20, 11, 21, 22, 23, 24, 25, 26, 27, 28, 29, 30, 31, 32, 33, 34, 35, 36, 37, 38, 39, 40, 41, 42, 43, 44, 45, 46, 47, 48, 49, 50, 51, 52, 53, 54, 61, 62, 63, 64, 65, 66, 67, 68, 69, 70, 71, 72, 73, 74, 75, 76] (by decide +kernel) (by decide +kernel)
set_option maxRecDepth 20000 in
theorem gX1_setRule_X0_useRule : GoodIn wsX1_setRule (wsV RX1 95 RX0 yX0_useRule wsX0_useRule) := goodIn_app (goodIn_of _ (by decide +kernel)) ggX1_setRule_X0_useRule
theorem dX1_setRule_0 : decode cX1_setRule 0 = .ok (.iload_n 1, 1) := by decide +kernel
theorem dX1_setRule_1 : decode cX1_setRule 1 = .ok (.iconst 0, 1) := by decide +kernel
theorem dX1_setRule_2 : decode cX1_setRule 2 = .ok (.iconst 1, 1) := by decide +kernel
theorem dX1_setRule_3 : decode cX1_setRule 3 = .ok (.invokestatic 44, 3) := by decide +kernel
theorem dX1_setRule_6 : decode cX1_setRule 6 = .ok (.ifCond .ne 13, 3) := by decide +kernel
theorem dX1_setRule_9 : decode cX1_setRule 9 = .ok (.new 48, 3) := by decide +kernel
theorem dX1_setRule_12 : decode cX1_setRule 12 = .ok (.dup, 1) := by decide +kernel
theorem dX1_setRule_13 : decode cX1_setRule 13 = .ok (.ldc 90, 2) := by decide +kernel
theorem dX1_setRule_15 : decode cX1_setRule 15 = .ok (.invokespecial 52, 3) := by decide +kernel
theorem dX1_setRule_18 : decode cX1_setRule 18 = .ok (.athrow, 1) := by decide +kernel
theorem dX1_setRule_19 : decode cX1_setRule 19 = .ok (.aload_n 0, 1) := by decide +kernel
theorem dX1_setRule_20 : decode cX1_setRule 20 = .ok (.getfield 10, 3) := by decide +kernel
theorem dX1_setRule_23 : decode cX1_setRule 23 = .ok (.invokevirtual 92, 3) := by decide +kernel
theorem dX1_setRule_26 : decode cX1_setRule 26 = .ok (.istore_n 2, 1) := by decide +kernel
theorem dX1_setRule_27 : decode cX1_setRule 27 = .ok (.aload_n 0, 1) := by decide +kernel
theorem dX1_setRule_28 : decode cX1_setRule 28 = .ok (.getfield 10, 3) := by decide +kernel
theorem dX1_setRule_31 : decode cX1_setRule 31 = .ok (.iload_n 1, 1) := by decide +kernel
theorem dX1_setRule_32 : decode cX1_setRule 32 = .ok (.invokevirtual 95, 3) := by decide +kernel
theorem dX1_setRule_35 : decode cX1_setRule 35 = .ok (.iload_n 2, 1) := by decide +kernel
theorem dX1_setRule_36 : decode cX1_setRule 36 = .ok (.ireturn, 1) := by decide +kernel
set_option maxRecDepth 20000 in
theorem ggX1_build_X1_requirePlace : GoodIn wsX1_build wsX1_requirePlace := goodIn_ca (goodIn_r _ [11, 12, 13, 6, 14, 15, 16, 17, 18, 19, 25, 26, 27, 28, 29, 30, 31, 32, 33, 34, 35, 36, 37, 38, 39, 40, 41, 42, 43, 44, 45, 46] (by decide +kernel) (by decide +kernel)) (goodIn_sub (fun _ h => List.mem_cons_of_mem _ (List.mem_append_right _ h)) (by decide +kernel))
set_option maxRecDepth 20000 in
theorem gX1_build_X1_requirePlace : GoodIn wsX1_build (wsV RX1 61 RX1 yX1_requirePlace wsX1_requirePlace) := goodIn_app (goodIn_of _ (by decide +kernel)) ggX1_build_X1_requirePlace
set_option maxRecDepth 20000 in
theorem ggX1_build_X0_nameOf : GoodIn wsX1_build wsX0_nameOf := goodIn_r _ [23, 24, 31, 32, 33, 34, 35, 36, 37, 38, 39, 40, 41, 42, 43, 44, 45, 46] (by decide +kernel) (by decide +kernel)
set_option maxRecDepth 20000 in
theorem gX1_build_X0_nameOf : GoodIn wsX1_build (wsV RX1 100 RX0 yX0_nameOf wsX0_nameOf) := goodIn_app (goodIn_of _ (by decide +kernel)) ggX1_build_X0_nameOf
theorem dX1_build_0 : decode cX1_build 0 = .ok (.aload_n 0, 1) := by decide +kernel
theorem dX1_build_1 : decode cX1_build 1 = .ok (.iload_n 1, 1) := by decide +kernel
theorem dX1_build_2 : decode cX1_build 2 = .ok (.invokevirtual 61, 3) := by decide +kernel
theorem dX1_build_5 : decode cX1_build 5 = .ok (.aload_n 0, 1) := by decide +kernel
theorem dX1_build_6 : decode cX1_build 6 = .ok (.getfield 26, 3) := by decide +kernel
theorem dX1_build_9 : decode cX1_build 9 = .ok (.bipush 16, 2) := by decide +kernel
theorem dX1_build_11 : decode cX1_build 11 = .ok (.if_icmp .lt 13, 3) := by decide +kernel
theorem dX1_build_14 : decode cX1_build 14 = .ok (.new 64, 3) := by decide +kernel
theorem dX1_build_17 : decode cX1_build 17 = .ok (.dup, 1) := by decide +kernel
theorem dX1_build_18 : decode cX1_build 18 = .ok (.ldc 98, 2) := by decide +kernel
theorem dX1_build_20 : decode cX1_build 20 = .ok (.invokespecial 68, 3) := by decide +kernel
theorem dX1_build_23 : decode cX1_build 23 = .ok (.athrow, 1) := by decide +kernel
theorem dX1_build_24 : decode cX1_build 24 = .ok (.aload_n 0, 1) := by decide +kernel
theorem dX1_build_25 : decode cX1_build 25 = .ok (.getfield 26, 3) := by decide +kernel
theorem dX1_build_28 : decode cX1_build 28 = .ok (.istore_n 2, 1) := by decide +kernel
theorem dX1_build_29 : decode cX1_build 29 = .ok (.aload_n 0, 1) := by decide +kernel
theorem dX1_build_30 : decode cX1_build 30 = .ok (.getfield 19, 3) := by decide +kernel
theorem dX1_build_33 : decode cX1_build 33 = .ok (.iload_n 2, 1) := by decide +kernel
theorem dX1_build_34 : decode cX1_build 34 = .ok (.iload_n 1, 1) := by decide +kernel
theorem dX1_build_35 : decode cX1_build 35 = .ok (.iastore, 1) := by decide +kernel
theorem dX1_build_36 : decode cX1_build 36 = .ok (.aload_n 0, 1) := by decide +kernel
theorem dX1_build_37 : decode cX1_build 37 = .ok (.getfield 23, 3) := by decide +kernel
theorem dX1_build_40 : decode cX1_build 40 = .ok (.iload_n 2, 1) := by decide +kernel
theorem dX1_build_41 : decode cX1_build 41 = .ok (.aload_n 0, 1) := by decide +kernel
theorem dX1_build_42 : decode cX1_build 42 = .ok (.getfield 10, 3) := by decide +kernel
theorem dX1_build_45 : decode cX1_build 45 = .ok (.iload_n 1, 1) := by decide +kernel
theorem dX1_build_46 : decode cX1_build 46 = .ok (.invokevirtual 100, 3) := by decide +kernel
theorem dX1_build_49 : decode cX1_build 49 = .ok (.iastore, 1) := by decide +kernel
theorem dX1_build_50 : decode cX1_build 50 = .ok (.aload_n 0, 1) := by decide +kernel
theorem dX1_build_51 : decode cX1_build 51 = .ok (.dup, 1) := by decide +kernel
theorem dX1_build_52 : decode cX1_build 52 = .ok (.getfield 26, 3) := by decide +kernel
theorem dX1_build_55 : decode cX1_build 55 = .ok (.iconst 1, 1) := by decide +kernel
theorem dX1_build_56 : decode cX1_build 56 = .ok (.iadd, 1) := by decide +kernel
theorem dX1_build_57 : decode cX1_build 57 = .ok (.putfield 26, 3) := by decide +kernel
theorem dX1_build_60 : decode cX1_build 60 = .ok (.iload_n 2, 1) := by decide +kernel
theorem dX1_build_61 : decode cX1_build 61 = .ok (.ireturn, 1) := by decide +kernel
set_option maxRecDepth 20000 in
theorem ggX1_pass_X1_requireYears : GoodIn wsX1_pass wsX1_requireYears := goodIn_ca (goodIn_r _ [6, 7, 8, 9, 10, 5, 11] (by decide +kernel) (by decide +kernel)) (goodIn_sub (fun _ h => List.mem_cons_of_mem _ (List.mem_append_right _ h)) (by decide +kernel))
set_option maxRecDepth 20000 in
theorem gX1_pass_X1_requireYears : GoodIn wsX1_pass (va_wsS RX1 103 yX1_requireYears wsX1_requireYears) := goodIn_app (goodIn_of _ (by decide +kernel)) ggX1_pass_X1_requireYears
set_option maxRecDepth 20000 in
theorem ggX1_pass_X0_swellFor : GoodIn wsX1_pass wsX0_swellFor := goodIn_r _ [16, 17, 18, 19, 20, 21, 22, 23, 24, 25, 26, 27, 28, 29, 15, 30, 31, 32, 33, 34, 35, 36, 37, 38, 39, 40, 41, 42, 43, 44, 45, 46, 47, 48, 49, 50, 51, 52, 53, 54, 55, 56, 57, 58, 80, 81, 82, 83, 84, 85, 86, 87, 88, 89, 90, 91, 92, 93, 94, 95] (by decide +kernel) (by decide +kernel)
set_option maxRecDepth 20000 in
theorem gX1_pass_X0_swellFor : GoodIn wsX1_pass (wsV RX1 106 RX0 yX0_swellFor wsX0_swellFor) := goodIn_app (goodIn_of _ (by decide +kernel)) ggX1_pass_X0_swellFor
set_option maxRecDepth 20000 in
theorem ggX1_pass_X1_countInsults : GoodIn wsX1_pass wsX1_countInsults := goodIn_r _ [62, 63, 64, 65, 66, 5, 67, 68, 1, 69, 70, 71, 72, 15, 73, 39, 74, 75, 76, 77, 78, 79, 80, 81, 82, 83, 84, 85, 86, 87, 88, 89, 90, 91, 92, 93, 94, 95] (by decide +kernel) (by decide +kernel)
set_option maxRecDepth 20000 in
theorem gX1_pass_X1_countInsults : GoodIn wsX1_pass (wsV RX1 109 RX1 yX1_countInsults wsX1_countInsults) := goodIn_app (goodIn_of _ (by decide +kernel)) ggX1_pass_X1_countInsults
theorem dX1_pass_0 : decode cX1_pass 0 = .ok (.iload_n 1, 1) := by decide +kernel
theorem dX1_pass_1 : decode cX1_pass 1 = .ok (.invokestatic 103, 3) := by decide +kernel
theorem dX1_pass_4 : decode cX1_pass 4 = .ok (.aload_n 0, 1) := by decide +kernel
theorem dX1_pass_5 : decode cX1_pass 5 = .ok (.getfield 10, 3) := by decide +kernel
theorem dX1_pass_8 : decode cX1_pass 8 = .ok (.iload_n 1, 1) := by decide +kernel
theorem dX1_pass_9 : decode cX1_pass 9 = .ok (.invokevirtual 106, 3) := by decide +kernel
theorem dX1_pass_12 : decode cX1_pass 12 = .ok (.aload_n 0, 1) := by decide +kernel
theorem dX1_pass_13 : decode cX1_pass 13 = .ok (.dup, 1) := by decide +kernel
theorem dX1_pass_14 : decode cX1_pass 14 = .ok (.getfield 30, 3) := by decide +kernel
theorem dX1_pass_17 : decode cX1_pass 17 = .ok (.iload_n 1, 1) := by decide +kernel
theorem dX1_pass_18 : decode cX1_pass 18 = .ok (.iadd, 1) := by decide +kernel
theorem dX1_pass_19 : decode cX1_pass 19 = .ok (.putfield 30, 3) := by decide +kernel
theorem dX1_pass_22 : decode cX1_pass 22 = .ok (.aload_n 0, 1) := by decide +kernel
theorem dX1_pass_23 : decode cX1_pass 23 = .ok (.invokevirtual 109, 3) := by decide +kernel
theorem dX1_pass_26 : decode cX1_pass 26 = .ok (.ireturn, 1) := by decide +kernel
theorem dX1_year_0 : decode cX1_year 0 = .ok (.aload_n 0, 1) := by decide +kernel
theorem dX1_year_1 : decode cX1_year 1 = .ok (.getfield 30, 3) := by decide +kernel
theorem dX1_year_4 : decode cX1_year 4 = .ok (.ireturn, 1) := by decide +kernel
set_option maxRecDepth 20000 in
theorem ggX1_places_X0_size : GoodIn wsX1_places wsX0_size := goodIn_r _ [6, 7, 14, 15, 16, 17, 18, 19, 20, 21, 22, 23, 24, 25, 26, 27, 28, 29] (by decide +kernel) (by decide +kernel)
set_option maxRecDepth 20000 in
theorem gX1_places_X0_size : GoodIn wsX1_places (wsV RX1 112 RX0 yX0_size wsX0_size) := goodIn_app (goodIn_of _ (by decide +kernel)) ggX1_places_X0_size
theorem dX1_places_0 : decode cX1_places 0 = .ok (.aload_n 0, 1) := by decide +kernel
theorem dX1_places_1 : decode cX1_places 1 = .ok (.getfield 10, 3) := by decide +kernel
theorem dX1_places_4 : decode cX1_places 4 = .ok (.invokevirtual 112, 3) := by decide +kernel
theorem dX1_places_7 : decode cX1_places 7 = .ok (.ireturn, 1) := by decide +kernel
set_option maxRecDepth 20000 in
theorem ggX1_leadsTo_X1_requirePlace : GoodIn wsX1_leadsTo wsX1_requirePlace := goodIn_ca (goodIn_r _ [6, 7, 8, 1, 9, 10, 11, 12, 13, 14, 20, 21, 22, 23, 24, 25, 26, 27, 28, 29, 30, 31, 32, 33, 34, 35, 36, 37, 38, 39, 40, 41] (by decide +kernel) (by decide +kernel)) (goodIn_sub (fun _ h => List.mem_cons_of_mem _ (List.mem_append_right _ h)) (by decide +kernel))
set_option maxRecDepth 20000 in
theorem gX1_leadsTo_X1_requirePlace : GoodIn wsX1_leadsTo (wsV RX1 61 RX1 yX1_requirePlace wsX1_requirePlace) := goodIn_app (goodIn_of _ (by decide +kernel)) ggX1_leadsTo_X1_requirePlace
set_option maxRecDepth 20000 in
theorem ggX1_leadsTo_X0_next : GoodIn wsX1_leadsTo wsX0_next := goodIn_r _ [18, 19, 26, 27, 28, 29, 30, 31, 32, 33, 34, 35, 36, 37, 38, 39, 40, 41] (by decide +kernel) (by decide +kernel)
set_option maxRecDepth 20000 in
theorem gX1_leadsTo_X0_next : GoodIn wsX1_leadsTo (wsV RX1 75 RX0 yX0_next wsX0_next) := goodIn_app (goodIn_of _ (by decide +kernel)) ggX1_leadsTo_X0_next
theorem dX1_leadsTo_0 : decode cX1_leadsTo 0 = .ok (.aload_n 0, 1) := by decide +kernel
theorem dX1_leadsTo_1 : decode cX1_leadsTo 1 = .ok (.iload_n 1, 1) := by decide +kernel
theorem dX1_leadsTo_2 : decode cX1_leadsTo 2 = .ok (.invokevirtual 61, 3) := by decide +kernel
theorem dX1_leadsTo_5 : decode cX1_leadsTo 5 = .ok (.aload_n 0, 1) := by decide +kernel
theorem dX1_leadsTo_6 : decode cX1_leadsTo 6 = .ok (.getfield 10, 3) := by decide +kernel
theorem dX1_leadsTo_9 : decode cX1_leadsTo 9 = .ok (.iload_n 1, 1) := by decide +kernel
theorem dX1_leadsTo_10 : decode cX1_leadsTo 10 = .ok (.invokevirtual 75, 3) := by decide +kernel
theorem dX1_leadsTo_13 : decode cX1_leadsTo 13 = .ok (.ireturn, 1) := by decide +kernel
set_option maxRecDepth 20000 in
theorem ggX1_hasSpring_X1_requirePlace : GoodIn wsX1_hasSpring wsX1_requirePlace := goodIn_ca (goodIn_r _ [6, 7, 8, 1, 9, 10, 11, 12, 13, 14, 20, 21, 22, 23, 24, 25, 26, 27, 28, 29, 30, 31, 32, 33, 34, 35, 36, 37, 38, 39, 40, 41] (by decide +kernel) (by decide +kernel)) (goodIn_sub (fun _ h => List.mem_cons_of_mem _ (List.mem_append_right _ h)) (by decide +kernel))
set_option maxRecDepth 20000 in
theorem gX1_hasSpring_X1_requirePlace : GoodIn wsX1_hasSpring (wsV RX1 61 RX1 yX1_requirePlace wsX1_requirePlace) := goodIn_app (goodIn_of _ (by decide +kernel)) ggX1_hasSpring_X1_requirePlace
set_option maxRecDepth 20000 in
theorem ggX1_hasSpring_X0_isSprung : GoodIn wsX1_hasSpring wsX0_isSprung := goodIn_r _ [18, 19, 26, 27, 28, 29, 30, 31, 32, 33, 34, 35, 36, 37, 38, 39, 40, 41] (by decide +kernel) (by decide +kernel)
set_option maxRecDepth 20000 in
theorem gX1_hasSpring_X0_isSprung : GoodIn wsX1_hasSpring (wsV RX1 115 RX0 yX0_isSprung wsX0_isSprung) := goodIn_app (goodIn_of _ (by decide +kernel)) ggX1_hasSpring_X0_isSprung
theorem dX1_hasSpring_0 : decode cX1_hasSpring 0 = .ok (.aload_n 0, 1) := by decide +kernel
theorem dX1_hasSpring_1 : decode cX1_hasSpring 1 = .ok (.iload_n 1, 1) := by decide +kernel
theorem dX1_hasSpring_2 : decode cX1_hasSpring 2 = .ok (.invokevirtual 61, 3) := by decide +kernel
theorem dX1_hasSpring_5 : decode cX1_hasSpring 5 = .ok (.aload_n 0, 1) := by decide +kernel
theorem dX1_hasSpring_6 : decode cX1_hasSpring 6 = .ok (.getfield 10, 3) := by decide +kernel
theorem dX1_hasSpring_9 : decode cX1_hasSpring 9 = .ok (.iload_n 1, 1) := by decide +kernel
theorem dX1_hasSpring_10 : decode cX1_hasSpring 10 = .ok (.invokevirtual 115, 3) := by decide +kernel
theorem dX1_hasSpring_13 : decode cX1_hasSpring 13 = .ok (.ireturn, 1) := by decide +kernel
set_option maxRecDepth 20000 in
theorem ggX1_springOf_X1_requirePlace : GoodIn wsX1_springOf wsX1_requirePlace := goodIn_ca (goodIn_r _ [6, 7, 8, 1, 9, 10, 11, 12, 13, 14, 20, 21, 22, 23, 24, 25, 26, 27, 28, 29, 30, 31, 32, 33, 34, 35, 36, 37, 38, 39, 40, 41] (by decide +kernel) (by decide +kernel)) (goodIn_sub (fun _ h => List.mem_cons_of_mem _ (List.mem_append_right _ h)) (by decide +kernel))
set_option maxRecDepth 20000 in
theorem gX1_springOf_X1_requirePlace : GoodIn wsX1_springOf (wsV RX1 61 RX1 yX1_requirePlace wsX1_requirePlace) := goodIn_app (goodIn_of _ (by decide +kernel)) ggX1_springOf_X1_requirePlace
set_option maxRecDepth 20000 in
theorem ggX1_springOf_X0_springWaterOf : GoodIn wsX1_springOf wsX0_springWaterOf := goodIn_r _ [18, 19, 26, 27, 28, 29, 30, 31, 32, 33, 34, 35, 36, 37, 38, 39, 40, 41] (by decide +kernel) (by decide +kernel)
set_option maxRecDepth 20000 in
theorem gX1_springOf_X0_springWaterOf : GoodIn wsX1_springOf (wsV RX1 118 RX0 yX0_springWaterOf wsX0_springWaterOf) := goodIn_app (goodIn_of _ (by decide +kernel)) ggX1_springOf_X0_springWaterOf
theorem dX1_springOf_0 : decode cX1_springOf 0 = .ok (.aload_n 0, 1) := by decide +kernel
theorem dX1_springOf_1 : decode cX1_springOf 1 = .ok (.iload_n 1, 1) := by decide +kernel
theorem dX1_springOf_2 : decode cX1_springOf 2 = .ok (.invokevirtual 61, 3) := by decide +kernel
theorem dX1_springOf_5 : decode cX1_springOf 5 = .ok (.aload_n 0, 1) := by decide +kernel
theorem dX1_springOf_6 : decode cX1_springOf 6 = .ok (.getfield 10, 3) := by decide +kernel
theorem dX1_springOf_9 : decode cX1_springOf 9 = .ok (.iload_n 1, 1) := by decide +kernel
theorem dX1_springOf_10 : decode cX1_springOf 10 = .ok (.invokevirtual 118, 3) := by decide +kernel
theorem dX1_springOf_13 : decode cX1_springOf 13 = .ok (.ireturn, 1) := by decide +kernel
set_option maxRecDepth 20000 in
theorem ggX1_waterAt_X1_requirePlace : GoodIn wsX1_waterAt wsX1_requirePlace := goodIn_ca (goodIn_r _ [6, 7, 8, 1, 9, 10, 11, 12, 13, 14, 20, 21, 22, 23, 24, 25, 26, 27, 28, 29, 30, 31, 32, 33, 34, 35, 36, 37, 38, 39, 40, 41] (by decide +kernel) (by decide +kernel)) (goodIn_sub (fun _ h => List.mem_cons_of_mem _ (List.mem_append_right _ h)) (by decide +kernel))
set_option maxRecDepth 20000 in
theorem gX1_waterAt_X1_requirePlace : GoodIn wsX1_waterAt (wsV RX1 61 RX1 yX1_requirePlace wsX1_requirePlace) := goodIn_app (goodIn_of _ (by decide +kernel)) ggX1_waterAt_X1_requirePlace
set_option maxRecDepth 20000 in
theorem ggX1_waterAt_X0_waterOf : GoodIn wsX1_waterAt wsX0_waterOf := goodIn_r _ [18, 19, 26, 27, 28, 29, 30, 31, 32, 33, 34, 35, 36, 37, 38, 39, 40, 41] (by decide +kernel) (by decide +kernel)
set_option maxRecDepth 20000 in
theorem gX1_waterAt_X0_waterOf : GoodIn wsX1_waterAt (wsV RX1 121 RX0 yX0_waterOf wsX0_waterOf) := goodIn_app (goodIn_of _ (by decide +kernel)) ggX1_waterAt_X0_waterOf
theorem dX1_waterAt_0 : decode cX1_waterAt 0 = .ok (.aload_n 0, 1) := by decide +kernel
theorem dX1_waterAt_1 : decode cX1_waterAt 1 = .ok (.iload_n 1, 1) := by decide +kernel
theorem dX1_waterAt_2 : decode cX1_waterAt 2 = .ok (.invokevirtual 61, 3) := by decide +kernel
theorem dX1_waterAt_5 : decode cX1_waterAt 5 = .ok (.aload_n 0, 1) := by decide +kernel
theorem dX1_waterAt_6 : decode cX1_waterAt 6 = .ok (.getfield 10, 3) := by decide +kernel
theorem dX1_waterAt_9 : decode cX1_waterAt 9 = .ok (.iload_n 1, 1) := by decide +kernel
theorem dX1_waterAt_10 : decode cX1_waterAt 10 = .ok (.invokevirtual 121, 3) := by decide +kernel
theorem dX1_waterAt_13 : decode cX1_waterAt 13 = .ok (.ireturn, 1) := by decide +kernel
set_option maxRecDepth 20000 in
theorem ggX1_lengthAt_X1_requirePlace : GoodIn wsX1_lengthAt wsX1_requirePlace := goodIn_ca (goodIn_r _ [6, 7, 8, 1, 9, 10, 11, 12, 13, 14, 20, 21, 22, 23, 24, 25, 26, 27, 28, 29, 30, 31, 32, 33, 34, 35, 36, 37, 38, 39, 40, 41] (by decide +kernel) (by decide +kernel)) (goodIn_sub (fun _ h => List.mem_cons_of_mem _ (List.mem_append_right _ h)) (by decide +kernel))
set_option maxRecDepth 20000 in
theorem gX1_lengthAt_X1_requirePlace : GoodIn wsX1_lengthAt (wsV RX1 61 RX1 yX1_requirePlace wsX1_requirePlace) := goodIn_app (goodIn_of _ (by decide +kernel)) ggX1_lengthAt_X1_requirePlace
set_option maxRecDepth 20000 in
theorem ggX1_lengthAt_X0_lengthOf : GoodIn wsX1_lengthAt wsX0_lengthOf := goodIn_r _ [18, 19, 26, 27, 28, 29, 30, 31, 32, 33, 34, 35, 36, 37, 38, 39, 40, 41] (by decide +kernel) (by decide +kernel)
set_option maxRecDepth 20000 in
theorem gX1_lengthAt_X0_lengthOf : GoodIn wsX1_lengthAt (wsV RX1 124 RX0 yX0_lengthOf wsX0_lengthOf) := goodIn_app (goodIn_of _ (by decide +kernel)) ggX1_lengthAt_X0_lengthOf
theorem dX1_lengthAt_0 : decode cX1_lengthAt 0 = .ok (.aload_n 0, 1) := by decide +kernel
theorem dX1_lengthAt_1 : decode cX1_lengthAt 1 = .ok (.iload_n 1, 1) := by decide +kernel
theorem dX1_lengthAt_2 : decode cX1_lengthAt 2 = .ok (.invokevirtual 61, 3) := by decide +kernel
theorem dX1_lengthAt_5 : decode cX1_lengthAt 5 = .ok (.aload_n 0, 1) := by decide +kernel
theorem dX1_lengthAt_6 : decode cX1_lengthAt 6 = .ok (.getfield 10, 3) := by decide +kernel
theorem dX1_lengthAt_9 : decode cX1_lengthAt 9 = .ok (.iload_n 1, 1) := by decide +kernel
theorem dX1_lengthAt_10 : decode cX1_lengthAt 10 = .ok (.invokevirtual 124, 3) := by decide +kernel
theorem dX1_lengthAt_13 : decode cX1_lengthAt 13 = .ok (.ireturn, 1) := by decide +kernel
set_option maxRecDepth 20000 in
theorem ggX1_mouthOf_X1_requirePlace : GoodIn wsX1_mouthOf wsX1_requirePlace := goodIn_ca (goodIn_r _ [6, 7, 8, 1, 9, 10, 11, 12, 13, 14, 21, 22, 23, 24, 25, 26, 27, 28, 29, 30, 31, 32, 33, 34, 35, 36, 37, 38, 39, 40, 41, 42] (by decide +kernel) (by decide +kernel)) (goodIn_sub (fun _ h => List.mem_cons_of_mem _ (List.mem_append_right _ h)) (by decide +kernel))
set_option maxRecDepth 20000 in
theorem gX1_mouthOf_X1_requirePlace : GoodIn wsX1_mouthOf (wsV RX1 61 RX1 yX1_requirePlace wsX1_requirePlace) := goodIn_app (goodIn_of _ (by decide +kernel)) ggX1_mouthOf_X1_requirePlace
set_option maxRecDepth 20000 in
theorem ggX1_mouthOf_X0_lastOnWay : GoodIn wsX1_mouthOf wsX0_lastOnWay := goodIn_r _ [18, 19, 20, 10, 11, 12, 13, 14, 27, 28, 29, 30, 31, 32, 33, 34, 35, 36, 37, 38, 39, 40, 41, 42] (by decide +kernel) (by decide +kernel)
set_option maxRecDepth 20000 in
theorem gX1_mouthOf_X0_lastOnWay : GoodIn wsX1_mouthOf (wsV RX1 127 RX0 yX0_lastOnWay wsX0_lastOnWay) := goodIn_app (goodIn_of _ (by decide +kernel)) ggX1_mouthOf_X0_lastOnWay
theorem dX1_mouthOf_0 : decode cX1_mouthOf 0 = .ok (.aload_n 0, 1) := by decide +kernel
theorem dX1_mouthOf_1 : decode cX1_mouthOf 1 = .ok (.iload_n 1, 1) := by decide +kernel
theorem dX1_mouthOf_2 : decode cX1_mouthOf 2 = .ok (.invokevirtual 61, 3) := by decide +kernel
theorem dX1_mouthOf_5 : decode cX1_mouthOf 5 = .ok (.aload_n 0, 1) := by decide +kernel
theorem dX1_mouthOf_6 : decode cX1_mouthOf 6 = .ok (.getfield 10, 3) := by decide +kernel
theorem dX1_mouthOf_9 : decode cX1_mouthOf 9 = .ok (.iload_n 1, 1) := by decide +kernel
theorem dX1_mouthOf_10 : decode cX1_mouthOf 10 = .ok (.invokevirtual 127, 3) := by decide +kernel
theorem dX1_mouthOf_13 : decode cX1_mouthOf 13 = .ok (.ireturn, 1) := by decide +kernel
set_option maxRecDepth 20000 in
theorem ggX1_isAbove_X1_requirePlace : GoodIn wsX1_isAbove wsX1_requirePlace := goodIn_ca (goodIn_r _ [6, 7, 8, 1, 9, 10, 11, 12, 13, 14, 21, 22, 23, 24, 25, 26, 27, 28, 29, 30, 31, 32, 33, 34, 35, 36, 37, 38, 39, 40, 41, 42] (by decide +kernel) (by decide +kernel)) (goodIn_sub (fun _ h => List.mem_cons_of_mem _ (List.mem_append_right _ h)) (by decide +kernel))
set_option maxRecDepth 20000 in
theorem gX1_isAbove_X1_requirePlace : GoodIn wsX1_isAbove (wsV RX1 61 RX1 yX1_requirePlace wsX1_requirePlace) := goodIn_app (goodIn_of _ (by decide +kernel)) ggX1_isAbove_X1_requirePlace
set_option maxRecDepth 20000 in
theorem ggX1_isAbove_X0_flowsTo : GoodIn wsX1_isAbove wsX0_flowsTo := goodIn_r _ [18, 19, 20, 10, 11, 12, 13, 14, 27, 28, 29, 30, 31, 32, 33, 34, 35, 36, 37, 38, 39, 40, 41, 42] (by decide +kernel) (by decide +kernel)
set_option maxRecDepth 20000 in
theorem gX1_isAbove_X0_flowsTo : GoodIn wsX1_isAbove (wsV RX1 69 RX0 yX0_flowsTo wsX0_flowsTo) := goodIn_app (goodIn_of _ (by decide +kernel)) ggX1_isAbove_X0_flowsTo
theorem dX1_isAbove_0 : decode cX1_isAbove 0 = .ok (.aload_n 0, 1) := by decide +kernel
theorem dX1_isAbove_1 : decode cX1_isAbove 1 = .ok (.iload_n 1, 1) := by decide +kernel
theorem dX1_isAbove_2 : decode cX1_isAbove 2 = .ok (.invokevirtual 61, 3) := by decide +kernel
theorem dX1_isAbove_5 : decode cX1_isAbove 5 = .ok (.aload_n 0, 1) := by decide +kernel
theorem dX1_isAbove_6 : decode cX1_isAbove 6 = .ok (.iload_n 2, 1) := by decide +kernel
theorem dX1_isAbove_7 : decode cX1_isAbove 7 = .ok (.invokevirtual 61, 3) := by decide +kernel
theorem dX1_isAbove_10 : decode cX1_isAbove 10 = .ok (.aload_n 0, 1) := by decide +kernel
theorem dX1_isAbove_11 : decode cX1_isAbove 11 = .ok (.getfield 10, 3) := by decide +kernel
theorem dX1_isAbove_14 : decode cX1_isAbove 14 = .ok (.iload_n 1, 1) := by decide +kernel
theorem dX1_isAbove_15 : decode cX1_isAbove 15 = .ok (.iload_n 2, 1) := by decide +kernel
theorem dX1_isAbove_16 : decode cX1_isAbove 16 = .ok (.invokevirtual 69, 3) := by decide +kernel
theorem dX1_isAbove_19 : decode cX1_isAbove 19 = .ok (.ireturn, 1) := by decide +kernel
set_option maxRecDepth 20000 in
theorem ggX1_placesAbove_X1_requirePlace : GoodIn wsX1_placesAbove wsX1_requirePlace := goodIn_ca (goodIn_r _ [6, 7, 8, 1, 9, 10, 11, 12, 13, 14, 25, 26, 27, 28, 29, 30, 31, 32, 33, 34, 35, 36, 37, 38, 39, 40, 41, 42, 43, 44, 45, 46] (by decide +kernel) (by decide +kernel)) (goodIn_sub (fun _ h => List.mem_cons_of_mem _ (List.mem_append_right _ h)) (by decide +kernel))
set_option maxRecDepth 20000 in
theorem gX1_placesAbove_X1_requirePlace : GoodIn wsX1_placesAbove (wsV RX1 61 RX1 yX1_requirePlace wsX1_requirePlace) := goodIn_app (goodIn_of _ (by decide +kernel)) ggX1_placesAbove_X1_requirePlace
set_option maxRecDepth 20000 in
theorem ggX1_placesAbove_X0_size : GoodIn wsX1_placesAbove wsX0_size := goodIn_r _ [18, 14, 31, 32, 33, 34, 35, 36, 37, 38, 39, 40, 41, 42, 43, 44, 45, 46] (by decide +kernel) (by decide +kernel)
set_option maxRecDepth 20000 in
theorem gX1_placesAbove_X0_size : GoodIn wsX1_placesAbove (wsV RX1 112 RX0 yX0_size wsX0_size) := goodIn_app (goodIn_of _ (by decide +kernel)) ggX1_placesAbove_X0_size
set_option maxRecDepth 20000 in
theorem ggX1_placesAbove_X0_flowsTo : GoodIn wsX1_placesAbove wsX0_flowsTo := goodIn_r _ [22, 23, 24, 10, 11, 12, 13, 14, 31, 32, 33, 34, 35, 36, 37, 38, 39, 40, 41, 42, 43, 44, 45, 46] (by decide +kernel) (by decide +kernel)
set_option maxRecDepth 20000 in
theorem gX1_placesAbove_X0_flowsTo : GoodIn wsX1_placesAbove (wsV RX1 69 RX0 yX0_flowsTo wsX0_flowsTo) := goodIn_app (goodIn_of _ (by decide +kernel)) ggX1_placesAbove_X0_flowsTo
theorem dX1_placesAbove_0 : decode cX1_placesAbove 0 = .ok (.aload_n 0, 1) := by decide +kernel
theorem dX1_placesAbove_1 : decode cX1_placesAbove 1 = .ok (.iload_n 1, 1) := by decide +kernel
theorem dX1_placesAbove_2 : decode cX1_placesAbove 2 = .ok (.invokevirtual 61, 3) := by decide +kernel
theorem dX1_placesAbove_5 : decode cX1_placesAbove 5 = .ok (.iconst 0, 1) := by decide +kernel
theorem dX1_placesAbove_6 : decode cX1_placesAbove 6 = .ok (.istore_n 2, 1) := by decide +kernel
theorem dX1_placesAbove_7 : decode cX1_placesAbove 7 = .ok (.iconst 0, 1) := by decide +kernel
theorem dX1_placesAbove_8 : decode cX1_placesAbove 8 = .ok (.istore_n 3, 1) := by decide +kernel
theorem dX1_placesAbove_9 : decode cX1_placesAbove 9 = .ok (.iload_n 3, 1) := by decide +kernel
theorem dX1_placesAbove_10 : decode cX1_placesAbove 10 = .ok (.aload_n 0, 1) := by decide +kernel
theorem dX1_placesAbove_11 : decode cX1_placesAbove 11 = .ok (.getfield 10, 3) := by decide +kernel
theorem dX1_placesAbove_14 : decode cX1_placesAbove 14 = .ok (.invokevirtual 112, 3) := by decide +kernel
theorem dX1_placesAbove_17 : decode cX1_placesAbove 17 = .ok (.if_icmp .ge 24, 3) := by decide +kernel
theorem dX1_placesAbove_20 : decode cX1_placesAbove 20 = .ok (.aload_n 0, 1) := by decide +kernel
theorem dX1_placesAbove_21 : decode cX1_placesAbove 21 = .ok (.getfield 10, 3) := by decide +kernel
theorem dX1_placesAbove_24 : decode cX1_placesAbove 24 = .ok (.iload_n 3, 1) := by decide +kernel
theorem dX1_placesAbove_25 : decode cX1_placesAbove 25 = .ok (.iload_n 1, 1) := by decide +kernel
theorem dX1_placesAbove_26 : decode cX1_placesAbove 26 = .ok (.invokevirtual 69, 3) := by decide +kernel
theorem dX1_placesAbove_29 : decode cX1_placesAbove 29 = .ok (.ifCond .eq 6, 3) := by decide +kernel
theorem dX1_placesAbove_32 : decode cX1_placesAbove 32 = .ok (.iinc 2 1, 3) := by decide +kernel
theorem dX1_placesAbove_35 : decode cX1_placesAbove 35 = .ok (.iinc 3 1, 3) := by decide +kernel
theorem dX1_placesAbove_38 : decode cX1_placesAbove 38 = .ok (.goto (-29), 3) := by decide +kernel
theorem dX1_placesAbove_41 : decode cX1_placesAbove 41 = .ok (.iload_n 2, 1) := by decide +kernel
theorem dX1_placesAbove_42 : decode cX1_placesAbove 42 = .ok (.ireturn, 1) := by decide +kernel
set_option maxRecDepth 20000 in
theorem ggX1_meeting_X1_requirePlace : GoodIn wsX1_meeting wsX1_requirePlace := goodIn_ca (goodIn_r _ [6, 7, 8, 1, 9, 10, 11, 12, 13, 14, 25, 26, 27, 28, 29, 30, 31, 32, 33, 34, 35, 36, 37, 38, 39, 40, 41, 42, 43, 44, 45, 46] (by decide +kernel) (by decide +kernel)) (goodIn_sub (fun _ h => List.mem_cons_of_mem _ (List.mem_append_right _ h)) (by decide +kernel))
set_option maxRecDepth 20000 in
theorem gX1_meeting_X1_requirePlace : GoodIn wsX1_meeting (wsV RX1 61 RX1 yX1_requirePlace wsX1_requirePlace) := goodIn_app (goodIn_of _ (by decide +kernel)) ggX1_meeting_X1_requirePlace
set_option maxRecDepth 20000 in
theorem ggX1_meeting_X0_firstCommon : GoodIn wsX1_meeting wsX0_firstCommon := goodIn_r _ [18, 19, 20, 10, 11, 12, 13, 14, 21, 22, 23, 24, 31, 32, 33, 34, 35, 36, 37, 38, 39, 40, 41, 42, 43, 44, 45, 46] (by decide +kernel) (by decide +kernel)
set_option maxRecDepth 20000 in
theorem gX1_meeting_X0_firstCommon : GoodIn wsX1_meeting (wsV RX1 130 RX0 yX0_firstCommon wsX0_firstCommon) := goodIn_app (goodIn_of _ (by decide +kernel)) ggX1_meeting_X0_firstCommon
theorem dX1_meeting_0 : decode cX1_meeting 0 = .ok (.aload_n 0, 1) := by decide +kernel
theorem dX1_meeting_1 : decode cX1_meeting 1 = .ok (.iload_n 1, 1) := by decide +kernel
theorem dX1_meeting_2 : decode cX1_meeting 2 = .ok (.invokevirtual 61, 3) := by decide +kernel
theorem dX1_meeting_5 : decode cX1_meeting 5 = .ok (.aload_n 0, 1) := by decide +kernel
theorem dX1_meeting_6 : decode cX1_meeting 6 = .ok (.iload_n 2, 1) := by decide +kernel
theorem dX1_meeting_7 : decode cX1_meeting 7 = .ok (.invokevirtual 61, 3) := by decide +kernel
theorem dX1_meeting_10 : decode cX1_meeting 10 = .ok (.aload_n 0, 1) := by decide +kernel
theorem dX1_meeting_11 : decode cX1_meeting 11 = .ok (.getfield 10, 3) := by decide +kernel
theorem dX1_meeting_14 : decode cX1_meeting 14 = .ok (.iload_n 1, 1) := by decide +kernel
theorem dX1_meeting_15 : decode cX1_meeting 15 = .ok (.iload_n 2, 1) := by decide +kernel
theorem dX1_meeting_16 : decode cX1_meeting 16 = .ok (.invokevirtual 130, 3) := by decide +kernel
theorem dX1_meeting_19 : decode cX1_meeting 19 = .ok (.ireturn, 1) := by decide +kernel
set_option maxRecDepth 20000 in
theorem ggX1_nameAt_X1_requirePlace : GoodIn wsX1_nameAt wsX1_requirePlace := goodIn_ca (goodIn_r _ [6, 7, 8, 1, 9, 10, 11, 12, 13, 14, 20, 21, 22, 23, 24, 25, 26, 27, 28, 29, 30, 31, 32, 33, 34, 35, 36, 37, 38, 39, 40, 41] (by decide +kernel) (by decide +kernel)) (goodIn_sub (fun _ h => List.mem_cons_of_mem _ (List.mem_append_right _ h)) (by decide +kernel))
set_option maxRecDepth 20000 in
theorem gX1_nameAt_X1_requirePlace : GoodIn wsX1_nameAt (wsV RX1 61 RX1 yX1_requirePlace wsX1_requirePlace) := goodIn_app (goodIn_of _ (by decide +kernel)) ggX1_nameAt_X1_requirePlace
set_option maxRecDepth 20000 in
theorem ggX1_nameAt_X0_nameOf : GoodIn wsX1_nameAt wsX0_nameOf := goodIn_r _ [18, 19, 26, 27, 28, 29, 30, 31, 32, 33, 34, 35, 36, 37, 38, 39, 40, 41] (by decide +kernel) (by decide +kernel)
set_option maxRecDepth 20000 in
theorem gX1_nameAt_X0_nameOf : GoodIn wsX1_nameAt (wsV RX1 100 RX0 yX0_nameOf wsX0_nameOf) := goodIn_app (goodIn_of _ (by decide +kernel)) ggX1_nameAt_X0_nameOf
theorem dX1_nameAt_0 : decode cX1_nameAt 0 = .ok (.aload_n 0, 1) := by decide +kernel
theorem dX1_nameAt_1 : decode cX1_nameAt 1 = .ok (.iload_n 1, 1) := by decide +kernel
theorem dX1_nameAt_2 : decode cX1_nameAt 2 = .ok (.invokevirtual 61, 3) := by decide +kernel
theorem dX1_nameAt_5 : decode cX1_nameAt 5 = .ok (.aload_n 0, 1) := by decide +kernel
theorem dX1_nameAt_6 : decode cX1_nameAt 6 = .ok (.getfield 10, 3) := by decide +kernel
theorem dX1_nameAt_9 : decode cX1_nameAt 9 = .ok (.iload_n 1, 1) := by decide +kernel
theorem dX1_nameAt_10 : decode cX1_nameAt 10 = .ok (.invokevirtual 100, 3) := by decide +kernel
theorem dX1_nameAt_13 : decode cX1_nameAt 13 = .ok (.ireturn, 1) := by decide +kernel
set_option maxRecDepth 20000 in
theorem ggX1_arguing_X1_requirePlace : GoodIn wsX1_arguing wsX1_requirePlace := goodIn_ca (goodIn_r _ [6, 7, 8, 1, 9, 10, 11, 12, 13, 14, 20, 21, 22, 23, 24, 25, 26, 27, 28, 29, 30, 31, 32, 33, 34, 35, 36, 37, 38, 39, 40, 41] (by decide +kernel) (by decide +kernel)) (goodIn_sub (fun _ h => List.mem_cons_of_mem _ (List.mem_append_right _ h)) (by decide +kernel))
set_option maxRecDepth 20000 in
theorem gX1_arguing_X1_requirePlace : GoodIn wsX1_arguing (wsV RX1 61 RX1 yX1_requirePlace wsX1_requirePlace) := goodIn_app (goodIn_of _ (by decide +kernel)) ggX1_arguing_X1_requirePlace
set_option maxRecDepth 20000 in
theorem ggX1_arguing_X0_arguersAt : GoodIn wsX1_arguing wsX0_arguersAt := goodIn_r _ [18, 19, 26, 27, 28, 29, 30, 31, 32, 33, 34, 35, 36, 37, 38, 39, 40, 41] (by decide +kernel) (by decide +kernel)
set_option maxRecDepth 20000 in
theorem gX1_arguing_X0_arguersAt : GoodIn wsX1_arguing (wsV RX1 134 RX0 yX0_arguersAt wsX0_arguersAt) := goodIn_app (goodIn_of _ (by decide +kernel)) ggX1_arguing_X0_arguersAt
theorem dX1_arguing_0 : decode cX1_arguing 0 = .ok (.aload_n 0, 1) := by decide +kernel
theorem dX1_arguing_1 : decode cX1_arguing 1 = .ok (.iload_n 1, 1) := by decide +kernel
theorem dX1_arguing_2 : decode cX1_arguing 2 = .ok (.invokevirtual 61, 3) := by decide +kernel
theorem dX1_arguing_5 : decode cX1_arguing 5 = .ok (.aload_n 0, 1) := by decide +kernel
theorem dX1_arguing_6 : decode cX1_arguing 6 = .ok (.getfield 10, 3) := by decide +kernel
theorem dX1_arguing_9 : decode cX1_arguing 9 = .ok (.iload_n 1, 1) := by decide +kernel
theorem dX1_arguing_10 : decode cX1_arguing 10 = .ok (.invokevirtual 134, 3) := by decide +kernel
theorem dX1_arguing_13 : decode cX1_arguing 13 = .ok (.ireturn, 1) := by decide +kernel
set_option maxRecDepth 20000 in
theorem ggX1_isArgued_X1_requirePlace : GoodIn wsX1_isArgued wsX1_requirePlace := goodIn_ca (goodIn_r _ [6, 7, 8, 1, 9, 10, 11, 12, 13, 14, 20, 21, 22, 23, 24, 25, 26, 27, 28, 29, 30, 31, 32, 33, 34, 35, 36, 37, 38, 39, 40, 41] (by decide +kernel) (by decide +kernel)) (goodIn_sub (fun _ h => List.mem_cons_of_mem _ (List.mem_append_right _ h)) (by decide +kernel))
set_option maxRecDepth 20000 in
theorem gX1_isArgued_X1_requirePlace : GoodIn wsX1_isArgued (wsV RX1 61 RX1 yX1_requirePlace wsX1_requirePlace) := goodIn_app (goodIn_of _ (by decide +kernel)) ggX1_isArgued_X1_requirePlace
set_option maxRecDepth 20000 in
theorem ggX1_isArgued_X0_isDisputed : GoodIn wsX1_isArgued wsX0_isDisputed := goodIn_r _ [18, 19, 26, 27, 28, 29, 30, 31, 32, 33, 34, 35, 36, 37, 38, 39, 40, 41] (by decide +kernel) (by decide +kernel)
set_option maxRecDepth 20000 in
theorem gX1_isArgued_X0_isDisputed : GoodIn wsX1_isArgued (wsV RX1 137 RX0 yX0_isDisputed wsX0_isDisputed) := goodIn_app (goodIn_of _ (by decide +kernel)) ggX1_isArgued_X0_isDisputed
theorem dX1_isArgued_0 : decode cX1_isArgued 0 = .ok (.aload_n 0, 1) := by decide +kernel
theorem dX1_isArgued_1 : decode cX1_isArgued 1 = .ok (.iload_n 1, 1) := by decide +kernel
theorem dX1_isArgued_2 : decode cX1_isArgued 2 = .ok (.invokevirtual 61, 3) := by decide +kernel
theorem dX1_isArgued_5 : decode cX1_isArgued 5 = .ok (.aload_n 0, 1) := by decide +kernel
theorem dX1_isArgued_6 : decode cX1_isArgued 6 = .ok (.getfield 10, 3) := by decide +kernel
theorem dX1_isArgued_9 : decode cX1_isArgued 9 = .ok (.iload_n 1, 1) := by decide +kernel
theorem dX1_isArgued_10 : decode cX1_isArgued 10 = .ok (.invokevirtual 137, 3) := by decide +kernel
theorem dX1_isArgued_13 : decode cX1_isArgued 13 = .ok (.ireturn, 1) := by decide +kernel
set_option maxRecDepth 20000 in
theorem ggX1_placesNamed_X1_requireName : GoodIn wsX1_placesNamed wsX1_requireName := goodIn_ca (goodIn_r _ [5, 6, 7, 8, 9, 4, 10] (by decide +kernel) (by decide +kernel)) (goodIn_sub (fun _ h => List.mem_cons_of_mem _ (List.mem_append_right _ h)) (by decide +kernel))
set_option maxRecDepth 20000 in
theorem gX1_placesNamed_X1_requireName : GoodIn wsX1_placesNamed (va_wsS RX1 40 yX1_requireName wsX1_requireName) := goodIn_app (goodIn_of _ (by decide +kernel)) ggX1_placesNamed_X1_requireName
set_option maxRecDepth 20000 in
theorem ggX1_placesNamed_X0_countNamed : GoodIn wsX1_placesNamed wsX0_countNamed := goodIn_r _ [15, 16, 17, 24, 25, 26, 27, 28, 29, 30, 31, 32, 33, 34, 35, 36, 37, 38, 39] (by decide +kernel) (by decide +kernel)
set_option maxRecDepth 20000 in
theorem gX1_placesNamed_X0_countNamed : GoodIn wsX1_placesNamed (wsV RX1 140 RX0 yX0_countNamed wsX0_countNamed) := goodIn_app (goodIn_of _ (by decide +kernel)) ggX1_placesNamed_X0_countNamed
theorem dX1_placesNamed_0 : decode cX1_placesNamed 0 = .ok (.iload_n 1, 1) := by decide +kernel
theorem dX1_placesNamed_1 : decode cX1_placesNamed 1 = .ok (.invokestatic 40, 3) := by decide +kernel
theorem dX1_placesNamed_4 : decode cX1_placesNamed 4 = .ok (.aload_n 0, 1) := by decide +kernel
theorem dX1_placesNamed_5 : decode cX1_placesNamed 5 = .ok (.getfield 10, 3) := by decide +kernel
theorem dX1_placesNamed_8 : decode cX1_placesNamed 8 = .ok (.iload_n 1, 1) := by decide +kernel
theorem dX1_placesNamed_9 : decode cX1_placesNamed 9 = .ok (.invokevirtual 140, 3) := by decide +kernel
theorem dX1_placesNamed_12 : decode cX1_placesNamed 12 = .ok (.ireturn, 1) := by decide +kernel
set_option maxRecDepth 20000 in
theorem ggX1_greatestName_X0_countNamed : GoodIn wsX1_greatestName wsX0_countNamed := goodIn_r _ [6, 7, 8, 15, 16, 17, 18, 19, 20, 21, 22, 23, 24, 25, 26, 27, 28, 29, 30] (by decide +kernel) (by decide +kernel)
set_option maxRecDepth 20000 in
theorem gX1_greatestName_X0_countNamed : GoodIn wsX1_greatestName (wsV RX1 140 RX0 yX0_countNamed wsX0_countNamed) := goodIn_app (goodIn_of _ (by decide +kernel)) ggX1_greatestName_X0_countNamed
theorem dX1_greatestName_0 : decode cX1_greatestName 0 = .ok (.iconst (-1), 1) := by decide +kernel
theorem dX1_greatestName_1 : decode cX1_greatestName 1 = .ok (.istore_n 1, 1) := by decide +kernel
theorem dX1_greatestName_2 : decode cX1_greatestName 2 = .ok (.iconst 0, 1) := by decide +kernel
theorem dX1_greatestName_3 : decode cX1_greatestName 3 = .ok (.istore_n 2, 1) := by decide +kernel
theorem dX1_greatestName_4 : decode cX1_greatestName 4 = .ok (.iconst 0, 1) := by decide +kernel
theorem dX1_greatestName_5 : decode cX1_greatestName 5 = .ok (.istore_n 3, 1) := by decide +kernel
theorem dX1_greatestName_6 : decode cX1_greatestName 6 = .ok (.iload_n 3, 1) := by decide +kernel
theorem dX1_greatestName_7 : decode cX1_greatestName 7 = .ok (.bipush 10, 2) := by decide +kernel
theorem dX1_greatestName_9 : decode cX1_greatestName 9 = .ok (.if_icmp .ge 30, 3) := by decide +kernel
theorem dX1_greatestName_12 : decode cX1_greatestName 12 = .ok (.aload_n 0, 1) := by decide +kernel
theorem dX1_greatestName_13 : decode cX1_greatestName 13 = .ok (.getfield 10, 3) := by decide +kernel
theorem dX1_greatestName_16 : decode cX1_greatestName 16 = .ok (.iload_n 3, 1) := by decide +kernel
theorem dX1_greatestName_17 : decode cX1_greatestName 17 = .ok (.invokevirtual 140, 3) := by decide +kernel
theorem dX1_greatestName_20 : decode cX1_greatestName 20 = .ok (.istore 4, 2) := by decide +kernel
theorem dX1_greatestName_22 : decode cX1_greatestName 22 = .ok (.iload 4, 2) := by decide +kernel
theorem dX1_greatestName_24 : decode cX1_greatestName 24 = .ok (.iload_n 2, 1) := by decide +kernel
theorem dX1_greatestName_25 : decode cX1_greatestName 25 = .ok (.if_icmp .le 8, 3) := by decide +kernel
theorem dX1_greatestName_28 : decode cX1_greatestName 28 = .ok (.iload 4, 2) := by decide +kernel
theorem dX1_greatestName_30 : decode cX1_greatestName 30 = .ok (.istore_n 2, 1) := by decide +kernel
theorem dX1_greatestName_31 : decode cX1_greatestName 31 = .ok (.iload_n 3, 1) := by decide +kernel
theorem dX1_greatestName_32 : decode cX1_greatestName 32 = .ok (.istore_n 1, 1) := by decide +kernel
theorem dX1_greatestName_33 : decode cX1_greatestName 33 = .ok (.iinc 3 1, 3) := by decide +kernel
theorem dX1_greatestName_36 : decode cX1_greatestName 36 = .ok (.goto (-30), 3) := by decide +kernel
theorem dX1_greatestName_39 : decode cX1_greatestName 39 = .ok (.iload_n 1, 1) := by decide +kernel
theorem dX1_greatestName_40 : decode cX1_greatestName 40 = .ok (.ireturn, 1) := by decide +kernel
set_option maxRecDepth 20000 in
theorem ggX1_nameless_X0_countNamed : GoodIn wsX1_nameless wsX0_countNamed := goodIn_r _ [6, 7, 8, 15, 16, 17, 18, 19, 20, 21, 22, 23, 24, 25, 26, 27, 28, 29, 30] (by decide +kernel) (by decide +kernel)
set_option maxRecDepth 20000 in
theorem gX1_nameless_X0_countNamed : GoodIn wsX1_nameless (wsV RX1 140 RX0 yX0_countNamed wsX0_countNamed) := goodIn_app (goodIn_of _ (by decide +kernel)) ggX1_nameless_X0_countNamed
theorem dX1_nameless_0 : decode cX1_nameless 0 = .ok (.aload_n 0, 1) := by decide +kernel
theorem dX1_nameless_1 : decode cX1_nameless 1 = .ok (.getfield 10, 3) := by decide +kernel
theorem dX1_nameless_4 : decode cX1_nameless 4 = .ok (.iconst (-1), 1) := by decide +kernel
theorem dX1_nameless_5 : decode cX1_nameless 5 = .ok (.invokevirtual 140, 3) := by decide +kernel
theorem dX1_nameless_8 : decode cX1_nameless 8 = .ok (.ireturn, 1) := by decide +kernel
theorem dX1_bridges_0 : decode cX1_bridges 0 = .ok (.aload_n 0, 1) := by decide +kernel
theorem dX1_bridges_1 : decode cX1_bridges 1 = .ok (.getfield 26, 3) := by decide +kernel
theorem dX1_bridges_4 : decode cX1_bridges 4 = .ok (.ireturn, 1) := by decide +kernel
set_option maxRecDepth 20000 in
theorem ggX1_placeOf_X1_requireBridge : GoodIn wsX1_placeOf wsX1_requireBridge := goodIn_ca (goodIn_r _ [6, 7, 8, 9, 10, 11, 12, 13, 14, 15] (by decide +kernel) (by decide +kernel)) (goodIn_sub (fun _ h => List.mem_cons_of_mem _ (List.mem_append_right _ h)) (by decide +kernel))
set_option maxRecDepth 20000 in
theorem gX1_placeOf_X1_requireBridge : GoodIn wsX1_placeOf (wsV RX1 143 RX1 yX1_requireBridge wsX1_requireBridge) := goodIn_app (goodIn_of _ (by decide +kernel)) ggX1_placeOf_X1_requireBridge
theorem dX1_placeOf_0 : decode cX1_placeOf 0 = .ok (.aload_n 0, 1) := by decide +kernel
theorem dX1_placeOf_1 : decode cX1_placeOf 1 = .ok (.iload_n 1, 1) := by decide +kernel
theorem dX1_placeOf_2 : decode cX1_placeOf 2 = .ok (.invokevirtual 143, 3) := by decide +kernel
theorem dX1_placeOf_5 : decode cX1_placeOf 5 = .ok (.aload_n 0, 1) := by decide +kernel
theorem dX1_placeOf_6 : decode cX1_placeOf 6 = .ok (.getfield 19, 3) := by decide +kernel
theorem dX1_placeOf_9 : decode cX1_placeOf 9 = .ok (.iload_n 1, 1) := by decide +kernel
theorem dX1_placeOf_10 : decode cX1_placeOf 10 = .ok (.iaload, 1) := by decide +kernel
theorem dX1_placeOf_11 : decode cX1_placeOf 11 = .ok (.ireturn, 1) := by decide +kernel
set_option maxRecDepth 20000 in
theorem ggX1_keeps_X1_requireBridge : GoodIn wsX1_keeps wsX1_requireBridge := goodIn_ca (goodIn_r _ [6, 7, 8, 9, 10, 11, 12, 13, 14, 15] (by decide +kernel) (by decide +kernel)) (goodIn_sub (fun _ h => List.mem_cons_of_mem _ (List.mem_append_right _ h)) (by decide +kernel))
set_option maxRecDepth 20000 in
theorem gX1_keeps_X1_requireBridge : GoodIn wsX1_keeps (wsV RX1 143 RX1 yX1_requireBridge wsX1_requireBridge) := goodIn_app (goodIn_of _ (by decide +kernel)) ggX1_keeps_X1_requireBridge
theorem dX1_keeps_0 : decode cX1_keeps 0 = .ok (.aload_n 0, 1) := by decide +kernel
theorem dX1_keeps_1 : decode cX1_keeps 1 = .ok (.iload_n 1, 1) := by decide +kernel
theorem dX1_keeps_2 : decode cX1_keeps 2 = .ok (.invokevirtual 143, 3) := by decide +kernel
theorem dX1_keeps_5 : decode cX1_keeps 5 = .ok (.aload_n 0, 1) := by decide +kernel
theorem dX1_keeps_6 : decode cX1_keeps 6 = .ok (.getfield 23, 3) := by decide +kernel
theorem dX1_keeps_9 : decode cX1_keeps 9 = .ok (.iload_n 1, 1) := by decide +kernel
theorem dX1_keeps_10 : decode cX1_keeps 10 = .ok (.iaload, 1) := by decide +kernel
theorem dX1_keeps_11 : decode cX1_keeps 11 = .ok (.ireturn, 1) := by decide +kernel
set_option maxRecDepth 20000 in
theorem ggX1_isInsulted_X1_requireBridge : GoodIn wsX1_isInsulted wsX1_requireBridge := goodIn_ca (goodIn_r _ [5, 6, 7, 8, 22, 23, 24, 25, 26, 27] (by decide +kernel) (by decide +kernel)) (goodIn_sub (fun _ h => List.mem_cons_of_mem _ (List.mem_append_right _ h)) (by decide +kernel))
set_option maxRecDepth 20000 in
theorem gX1_isInsulted_X1_requireBridge : GoodIn wsX1_isInsulted (wsV RX1 143 RX1 yX1_requireBridge wsX1_requireBridge) := goodIn_app (goodIn_of _ (by decide +kernel)) ggX1_isInsulted_X1_requireBridge
set_option maxRecDepth 20000 in
theorem ggX1_isInsulted_X1_suffersInsult : GoodIn wsX1_isInsulted wsX1_suffersInsult := goodIn_r _ [12, 13, 14, 15, 16, 17, 18, 19, 20, 21, 22, 23, 24, 25, 26, 27, 28, 29, 30, 31, 32, 33, 34, 35, 36, 37, 38, 39, 40, 41, 42, 43] (by decide +kernel) (by decide +kernel)
set_option maxRecDepth 20000 in
theorem gX1_isInsulted_X1_suffersInsult : GoodIn wsX1_isInsulted (wsV RX1 146 RX1 yX1_suffersInsult wsX1_suffersInsult) := goodIn_app (goodIn_of _ (by decide +kernel)) ggX1_isInsulted_X1_suffersInsult
theorem dX1_isInsulted_0 : decode cX1_isInsulted 0 = .ok (.aload_n 0, 1) := by decide +kernel
theorem dX1_isInsulted_1 : decode cX1_isInsulted 1 = .ok (.iload_n 1, 1) := by decide +kernel
theorem dX1_isInsulted_2 : decode cX1_isInsulted 2 = .ok (.invokevirtual 143, 3) := by decide +kernel
theorem dX1_isInsulted_5 : decode cX1_isInsulted 5 = .ok (.aload_n 0, 1) := by decide +kernel
theorem dX1_isInsulted_6 : decode cX1_isInsulted 6 = .ok (.iload_n 1, 1) := by decide +kernel
theorem dX1_isInsulted_7 : decode cX1_isInsulted 7 = .ok (.invokevirtual 146, 3) := by decide +kernel
theorem dX1_isInsulted_10 : decode cX1_isInsulted 10 = .ok (.ireturn, 1) := by decide +kernel
set_option maxRecDepth 20000 in
theorem ggX1_insults_X1_countInsults : GoodIn wsX1_insults wsX1_countInsults := goodIn_r _ [5, 6, 7, 8, 9, 4, 10, 11, 12, 13, 14, 15, 16, 17, 18, 19, 20, 21, 22, 23, 24, 25, 26, 27, 28, 29, 30, 31, 32, 33, 34, 35, 36, 37, 38, 39, 40, 41] (by decide +kernel) (by decide +kernel)
set_option maxRecDepth 20000 in
theorem gX1_insults_X1_countInsults : GoodIn wsX1_insults (wsV RX1 109 RX1 yX1_countInsults wsX1_countInsults) := goodIn_app (goodIn_of _ (by decide +kernel)) ggX1_insults_X1_countInsults
theorem dX1_insults_0 : decode cX1_insults 0 = .ok (.aload_n 0, 1) := by decide +kernel
theorem dX1_insults_1 : decode cX1_insults 1 = .ok (.invokevirtual 109, 3) := by decide +kernel
theorem dX1_insults_4 : decode cX1_insults 4 = .ok (.ireturn, 1) := by decide +kernel
set_option maxRecDepth 20000 in
theorem ggX1_insultsAt_X1_requirePlace : GoodIn wsX1_insultsAt wsX1_requirePlace := goodIn_ca (goodIn_r _ [7, 8, 9, 10, 11, 12, 13, 14, 15, 16, 27, 28, 29, 30, 31, 32, 33, 34, 35, 36, 37, 38, 39, 40, 41, 42, 43, 44, 45, 46, 47, 48] (by decide +kernel) (by decide +kernel)) (goodIn_sub (fun _ h => List.mem_cons_of_mem _ (List.mem_append_right _ h)) (by decide +kernel))
set_option maxRecDepth 20000 in
theorem gX1_insultsAt_X1_requirePlace : GoodIn wsX1_insultsAt (wsV RX1 61 RX1 yX1_requirePlace wsX1_requirePlace) := goodIn_app (goodIn_of _ (by decide +kernel)) ggX1_insultsAt_X1_requirePlace
set_option maxRecDepth 20000 in
theorem ggX1_insultsAt_X1_suffersInsult : GoodIn wsX1_insultsAt wsX1_suffersInsult := goodIn_r _ [20, 21, 10, 2, 22, 23, 24, 14, 25, 26, 27, 28, 29, 30, 31, 32, 33, 34, 35, 36, 37, 38, 39, 40, 41, 42, 43, 44, 45, 46, 47, 48] (by decide +kernel) (by decide +kernel)
set_option maxRecDepth 20000 in
theorem gX1_insultsAt_X1_suffersInsult : GoodIn wsX1_insultsAt (wsV RX1 146 RX1 yX1_suffersInsult wsX1_suffersInsult) := goodIn_app (goodIn_of _ (by decide +kernel)) ggX1_insultsAt_X1_suffersInsult
theorem dX1_insultsAt_0 : decode cX1_insultsAt 0 = .ok (.aload_n 0, 1) := by decide +kernel
theorem dX1_insultsAt_1 : decode cX1_insultsAt 1 = .ok (.iload_n 1, 1) := by decide +kernel
theorem dX1_insultsAt_2 : decode cX1_insultsAt 2 = .ok (.invokevirtual 61, 3) := by decide +kernel
theorem dX1_insultsAt_5 : decode cX1_insultsAt 5 = .ok (.iconst 0, 1) := by decide +kernel
theorem dX1_insultsAt_6 : decode cX1_insultsAt 6 = .ok (.istore_n 2, 1) := by decide +kernel
theorem dX1_insultsAt_7 : decode cX1_insultsAt 7 = .ok (.iconst 0, 1) := by decide +kernel
theorem dX1_insultsAt_8 : decode cX1_insultsAt 8 = .ok (.istore_n 3, 1) := by decide +kernel
theorem dX1_insultsAt_9 : decode cX1_insultsAt 9 = .ok (.iload_n 3, 1) := by decide +kernel
theorem dX1_insultsAt_10 : decode cX1_insultsAt 10 = .ok (.aload_n 0, 1) := by decide +kernel
theorem dX1_insultsAt_11 : decode cX1_insultsAt 11 = .ok (.getfield 26, 3) := by decide +kernel
theorem dX1_insultsAt_14 : decode cX1_insultsAt 14 = .ok (.if_icmp .ge 30, 3) := by decide +kernel
theorem dX1_insultsAt_17 : decode cX1_insultsAt 17 = .ok (.aload_n 0, 1) := by decide +kernel
theorem dX1_insultsAt_18 : decode cX1_insultsAt 18 = .ok (.getfield 19, 3) := by decide +kernel
theorem dX1_insultsAt_21 : decode cX1_insultsAt 21 = .ok (.iload_n 3, 1) := by decide +kernel
theorem dX1_insultsAt_22 : decode cX1_insultsAt 22 = .ok (.iaload, 1) := by decide +kernel
theorem dX1_insultsAt_23 : decode cX1_insultsAt 23 = .ok (.iload_n 1, 1) := by decide +kernel
theorem dX1_insultsAt_24 : decode cX1_insultsAt 24 = .ok (.if_icmp .ne 14, 3) := by decide +kernel
theorem dX1_insultsAt_27 : decode cX1_insultsAt 27 = .ok (.aload_n 0, 1) := by decide +kernel
theorem dX1_insultsAt_28 : decode cX1_insultsAt 28 = .ok (.iload_n 3, 1) := by decide +kernel
theorem dX1_insultsAt_29 : decode cX1_insultsAt 29 = .ok (.invokevirtual 146, 3) := by decide +kernel
theorem dX1_insultsAt_32 : decode cX1_insultsAt 32 = .ok (.ifCond .eq 6, 3) := by decide +kernel
theorem dX1_insultsAt_35 : decode cX1_insultsAt 35 = .ok (.iinc 2 1, 3) := by decide +kernel
theorem dX1_insultsAt_38 : decode cX1_insultsAt 38 = .ok (.iinc 3 1, 3) := by decide +kernel
theorem dX1_insultsAt_41 : decode cX1_insultsAt 41 = .ok (.goto (-32), 3) := by decide +kernel
theorem dX1_insultsAt_44 : decode cX1_insultsAt 44 = .ok (.iload_n 2, 1) := by decide +kernel
theorem dX1_insultsAt_45 : decode cX1_insultsAt 45 = .ok (.ireturn, 1) := by decide +kernel
set_option maxRecDepth 20000 in
theorem ggX1_nameIn_X1_requirePlace : GoodIn wsX1_nameIn wsX1_requirePlace := goodIn_ca (goodIn_r _ [7, 8, 9, 2, 10, 11, 12, 13, 14, 15, 75, 76, 77, 78, 79, 80, 81, 82, 83, 84, 85, 86, 87, 88, 89, 90, 91, 92, 93, 94, 95, 96] (by decide +kernel) (by decide +kernel)) (goodIn_sub (fun _ h => List.mem_cons_of_mem _ (List.mem_append_left _ (List.mem_append_right _ h))) (by decide +kernel))
set_option maxRecDepth 20000 in
theorem gX1_nameIn_X1_requirePlace : GoodIn wsX1_nameIn (wsV RX1 61 RX1 yX1_requirePlace wsX1_requirePlace) := goodIn_app (goodIn_of _ (by decide +kernel)) ggX1_nameIn_X1_requirePlace
set_option maxRecDepth 20000 in
theorem ggX1_nameIn_X1_requireYears : GoodIn wsX1_nameIn wsX1_requireYears := goodIn_ca (goodIn_r _ [18, 19, 20, 21, 22, 6, 23] (by decide +kernel) (by decide +kernel)) (goodIn_sub (fun _ h => List.mem_cons_of_mem _ (List.mem_append_right _ h)) (by decide +kernel))
set_option maxRecDepth 20000 in
theorem gX1_nameIn_X1_requireYears : GoodIn wsX1_nameIn (va_wsS RX1 103 yX1_requireYears wsX1_requireYears) := goodIn_app (goodIn_of _ (by decide +kernel)) ggX1_nameIn_X1_requireYears
set_option maxRecDepth 20000 in
theorem ggX1_nameIn_X0_takeOver : GoodIn wsX1_nameIn wsX0_takeOver := goodIn_r _ [27, 15, 28, 29, 30, 31, 32, 33, 34, 35, 81, 82, 83, 84, 85, 86, 87, 88, 89, 90, 91, 92, 93, 94, 95, 96] (by decide +kernel) (by decide +kernel)
set_option maxRecDepth 20000 in
theorem gX1_nameIn_X0_takeOver : GoodIn wsX1_nameIn (wsV RX1 149 RX0 yX0_takeOver wsX0_takeOver) := goodIn_app (goodIn_of _ (by decide +kernel)) ggX1_nameIn_X0_takeOver
set_option maxRecDepth 20000 in
theorem ggX1_nameIn_X0_swellFor : GoodIn wsX1_nameIn wsX0_swellFor := goodIn_r _ [39, 15, 33, 34, 40, 41, 42, 43, 44, 45, 46, 47, 48, 49, 13, 50, 30, 29, 51, 52, 53, 54, 55, 56, 57, 58, 59, 60, 61, 28, 32, 62, 63, 64, 65, 35, 66, 67, 68, 69, 70, 11, 12, 14, 81, 82, 83, 84, 85, 86, 87, 88, 89, 90, 91, 92, 93, 94, 95, 96] (by decide +kernel) (by decide +kernel)
set_option maxRecDepth 20000 in
theorem gX1_nameIn_X0_swellFor : GoodIn wsX1_nameIn (wsV RX1 106 RX0 yX0_swellFor wsX0_swellFor) := goodIn_app (goodIn_of _ (by decide +kernel)) ggX1_nameIn_X0_swellFor
set_option maxRecDepth 20000 in
theorem ggX1_nameIn_X0_nameOf : GoodIn wsX1_nameIn wsX0_nameOf := goodIn_r _ [74, 57, 81, 82, 83, 84, 85, 86, 87, 88, 89, 90, 91, 92, 93, 94, 95, 96] (by decide +kernel) (by decide +kernel)
set_option maxRecDepth 20000 in
theorem gX1_nameIn_X0_nameOf : GoodIn wsX1_nameIn (wsV RX1 100 RX0 yX0_nameOf wsX0_nameOf) := goodIn_app (goodIn_of _ (by decide +kernel)) ggX1_nameIn_X0_nameOf
theorem dX1_nameIn_0 : decode cX1_nameIn 0 = .ok (.aload_n 0, 1) := by decide +kernel
theorem dX1_nameIn_1 : decode cX1_nameIn 1 = .ok (.iload_n 1, 1) := by decide +kernel
theorem dX1_nameIn_2 : decode cX1_nameIn 2 = .ok (.invokevirtual 61, 3) := by decide +kernel
theorem dX1_nameIn_5 : decode cX1_nameIn 5 = .ok (.iload_n 2, 1) := by decide +kernel
theorem dX1_nameIn_6 : decode cX1_nameIn 6 = .ok (.invokestatic 103, 3) := by decide +kernel
theorem dX1_nameIn_9 : decode cX1_nameIn 9 = .ok (.aload_n 0, 1) := by decide +kernel
theorem dX1_nameIn_10 : decode cX1_nameIn 10 = .ok (.getfield 16, 3) := by decide +kernel
theorem dX1_nameIn_13 : decode cX1_nameIn 13 = .ok (.aload_n 0, 1) := by decide +kernel
theorem dX1_nameIn_14 : decode cX1_nameIn 14 = .ok (.getfield 10, 3) := by decide +kernel
theorem dX1_nameIn_17 : decode cX1_nameIn 17 = .ok (.invokevirtual 149, 3) := by decide +kernel
theorem dX1_nameIn_20 : decode cX1_nameIn 20 = .ok (.aload_n 0, 1) := by decide +kernel
theorem dX1_nameIn_21 : decode cX1_nameIn 21 = .ok (.getfield 16, 3) := by decide +kernel
theorem dX1_nameIn_24 : decode cX1_nameIn 24 = .ok (.iload_n 2, 1) := by decide +kernel
theorem dX1_nameIn_25 : decode cX1_nameIn 25 = .ok (.invokevirtual 106, 3) := by decide +kernel
theorem dX1_nameIn_28 : decode cX1_nameIn 28 = .ok (.aload_n 0, 1) := by decide +kernel
theorem dX1_nameIn_29 : decode cX1_nameIn 29 = .ok (.getfield 16, 3) := by decide +kernel
theorem dX1_nameIn_32 : decode cX1_nameIn 32 = .ok (.iload_n 1, 1) := by decide +kernel
theorem dX1_nameIn_33 : decode cX1_nameIn 33 = .ok (.invokevirtual 100, 3) := by decide +kernel
theorem dX1_nameIn_36 : decode cX1_nameIn 36 = .ok (.ireturn, 1) := by decide +kernel
set_option maxRecDepth 20000 in
theorem ggX1_yearsUntilRenamed_X1_requirePlace : GoodIn wsX1_yearsUntilRenamed wsX1_requirePlace := goodIn_ca (goodIn_r _ [7, 8, 9, 2, 10, 11, 12, 13, 14, 15, 67, 68, 69, 70, 71, 72, 73, 74, 75, 76, 77, 78, 79, 80, 81, 82, 83, 84, 85, 86, 87, 88] (by decide +kernel) (by decide +kernel)) (goodIn_sub (fun _ h => List.mem_cons_of_mem _ (List.mem_append_right _ h)) (by decide +kernel))
set_option maxRecDepth 20000 in
theorem gX1_yearsUntilRenamed_X1_requirePlace : GoodIn wsX1_yearsUntilRenamed (wsV RX1 61 RX1 yX1_requirePlace wsX1_requirePlace) := goodIn_app (goodIn_of _ (by decide +kernel)) ggX1_yearsUntilRenamed_X1_requirePlace
set_option maxRecDepth 20000 in
theorem ggX1_yearsUntilRenamed_X0_takeOver : GoodIn wsX1_yearsUntilRenamed wsX0_takeOver := goodIn_r _ [19, 15, 20, 21, 22, 23, 24, 25, 26, 27, 73, 74, 75, 76, 77, 78, 79, 80, 81, 82, 83, 84, 85, 86, 87, 88] (by decide +kernel) (by decide +kernel)
set_option maxRecDepth 20000 in
theorem gX1_yearsUntilRenamed_X0_takeOver : GoodIn wsX1_yearsUntilRenamed (wsV RX1 149 RX0 yX0_takeOver wsX0_takeOver) := goodIn_app (goodIn_of _ (by decide +kernel)) ggX1_yearsUntilRenamed_X0_takeOver
set_option maxRecDepth 20000 in
theorem ggX1_yearsUntilRenamed_X0_swellFor : GoodIn wsX1_yearsUntilRenamed wsX0_swellFor := goodIn_r _ [31, 15, 25, 26, 32, 33, 34, 35, 36, 37, 38, 39, 40, 41, 13, 42, 22, 21, 43, 44, 45, 46, 47, 48, 49, 50, 51, 52, 53, 20, 24, 54, 55, 56, 57, 27, 58, 59, 60, 61, 62, 11, 12, 14, 73, 74, 75, 76, 77, 78, 79, 80, 81, 82, 83, 84, 85, 86, 87, 88] (by decide +kernel) (by decide +kernel)
set_option maxRecDepth 20000 in
theorem gX1_yearsUntilRenamed_X0_swellFor : GoodIn wsX1_yearsUntilRenamed (wsV RX1 106 RX0 yX0_swellFor wsX0_swellFor) := goodIn_app (goodIn_of _ (by decide +kernel)) ggX1_yearsUntilRenamed_X0_swellFor
set_option maxRecDepth 20000 in
theorem ggX1_yearsUntilRenamed_X0_nameOf : GoodIn wsX1_yearsUntilRenamed wsX0_nameOf := goodIn_r _ [66, 49, 73, 74, 75, 76, 77, 78, 79, 80, 81, 82, 83, 84, 85, 86, 87, 88] (by decide +kernel) (by decide +kernel)
set_option maxRecDepth 20000 in
theorem gX1_yearsUntilRenamed_X0_nameOf : GoodIn wsX1_yearsUntilRenamed (wsV RX1 100 RX0 yX0_nameOf wsX0_nameOf) := goodIn_app (goodIn_of _ (by decide +kernel)) ggX1_yearsUntilRenamed_X0_nameOf
theorem dX1_yearsUntilRenamed_0 : decode cX1_yearsUntilRenamed 0 = .ok (.aload_n 0, 1) := by decide +kernel
theorem dX1_yearsUntilRenamed_1 : decode cX1_yearsUntilRenamed 1 = .ok (.iload_n 1, 1) := by decide +kernel
theorem dX1_yearsUntilRenamed_2 : decode cX1_yearsUntilRenamed 2 = .ok (.invokevirtual 61, 3) := by decide +kernel
theorem dX1_yearsUntilRenamed_5 : decode cX1_yearsUntilRenamed 5 = .ok (.aload_n 0, 1) := by decide +kernel
theorem dX1_yearsUntilRenamed_6 : decode cX1_yearsUntilRenamed 6 = .ok (.getfield 16, 3) := by decide +kernel
theorem dX1_yearsUntilRenamed_9 : decode cX1_yearsUntilRenamed 9 = .ok (.aload_n 0, 1) := by decide +kernel
theorem dX1_yearsUntilRenamed_10 : decode cX1_yearsUntilRenamed 10 = .ok (.getfield 10, 3) := by decide +kernel
theorem dX1_yearsUntilRenamed_13 : decode cX1_yearsUntilRenamed 13 = .ok (.invokevirtual 149, 3) := by decide +kernel
theorem dX1_yearsUntilRenamed_16 : decode cX1_yearsUntilRenamed 16 = .ok (.iconst 1, 1) := by decide +kernel
theorem dX1_yearsUntilRenamed_17 : decode cX1_yearsUntilRenamed 17 = .ok (.istore_n 2, 1) := by decide +kernel
theorem dX1_yearsUntilRenamed_18 : decode cX1_yearsUntilRenamed 18 = .ok (.iload_n 2, 1) := by decide +kernel
theorem dX1_yearsUntilRenamed_19 : decode cX1_yearsUntilRenamed 19 = .ok (.bipush 50, 2) := by decide +kernel
theorem dX1_yearsUntilRenamed_21 : decode cX1_yearsUntilRenamed 21 = .ok (.if_icmp .gt 38, 3) := by decide +kernel
theorem dX1_yearsUntilRenamed_24 : decode cX1_yearsUntilRenamed 24 = .ok (.aload_n 0, 1) := by decide +kernel
theorem dX1_yearsUntilRenamed_25 : decode cX1_yearsUntilRenamed 25 = .ok (.getfield 16, 3) := by decide +kernel
theorem dX1_yearsUntilRenamed_28 : decode cX1_yearsUntilRenamed 28 = .ok (.iconst 1, 1) := by decide +kernel
theorem dX1_yearsUntilRenamed_29 : decode cX1_yearsUntilRenamed 29 = .ok (.invokevirtual 106, 3) := by decide +kernel
theorem dX1_yearsUntilRenamed_32 : decode cX1_yearsUntilRenamed 32 = .ok (.aload_n 0, 1) := by decide +kernel
theorem dX1_yearsUntilRenamed_33 : decode cX1_yearsUntilRenamed 33 = .ok (.getfield 16, 3) := by decide +kernel
theorem dX1_yearsUntilRenamed_36 : decode cX1_yearsUntilRenamed 36 = .ok (.iload_n 1, 1) := by decide +kernel
theorem dX1_yearsUntilRenamed_37 : decode cX1_yearsUntilRenamed 37 = .ok (.invokevirtual 100, 3) := by decide +kernel
theorem dX1_yearsUntilRenamed_40 : decode cX1_yearsUntilRenamed 40 = .ok (.aload_n 0, 1) := by decide +kernel
theorem dX1_yearsUntilRenamed_41 : decode cX1_yearsUntilRenamed 41 = .ok (.getfield 10, 3) := by decide +kernel
theorem dX1_yearsUntilRenamed_44 : decode cX1_yearsUntilRenamed 44 = .ok (.iload_n 1, 1) := by decide +kernel
theorem dX1_yearsUntilRenamed_45 : decode cX1_yearsUntilRenamed 45 = .ok (.invokevirtual 100, 3) := by decide +kernel
theorem dX1_yearsUntilRenamed_48 : decode cX1_yearsUntilRenamed 48 = .ok (.if_icmp .eq 5, 3) := by decide +kernel
theorem dX1_yearsUntilRenamed_51 : decode cX1_yearsUntilRenamed 51 = .ok (.iload_n 2, 1) := by decide +kernel
theorem dX1_yearsUntilRenamed_52 : decode cX1_yearsUntilRenamed 52 = .ok (.ireturn, 1) := by decide +kernel
theorem dX1_yearsUntilRenamed_53 : decode cX1_yearsUntilRenamed 53 = .ok (.iinc 2 1, 3) := by decide +kernel
theorem dX1_yearsUntilRenamed_56 : decode cX1_yearsUntilRenamed 56 = .ok (.goto (-38), 3) := by decide +kernel
theorem dX1_yearsUntilRenamed_59 : decode cX1_yearsUntilRenamed 59 = .ok (.iconst (-1), 1) := by decide +kernel
theorem dX1_yearsUntilRenamed_60 : decode cX1_yearsUntilRenamed 60 = .ok (.ireturn, 1) := by decide +kernel
set_option maxRecDepth 20000 in
theorem ggX1_weightiestSpring_X0_size : GoodIn wsX1_weightiestSpring wsX0_size := goodIn_r _ [7, 8, 70, 71, 72, 73, 74, 75, 76, 77, 78, 79, 80, 81, 82, 83, 84, 85] (by decide +kernel) (by decide +kernel)
set_option maxRecDepth 20000 in
theorem gX1_weightiestSpring_X0_size : GoodIn wsX1_weightiestSpring (wsV RX1 112 RX0 yX0_size wsX0_size) := goodIn_app (goodIn_of _ (by decide +kernel)) ggX1_weightiestSpring_X0_size
set_option maxRecDepth 20000 in
theorem ggX1_weightiestSpring_X0_springWaterOf : GoodIn wsX1_weightiestSpring wsX0_springWaterOf := goodIn_r _ [12, 13, 70, 71, 72, 73, 74, 75, 76, 77, 78, 79, 80, 81, 82, 83, 84, 85] (by decide +kernel) (by decide +kernel)
set_option maxRecDepth 20000 in
theorem gX1_weightiestSpring_X0_springWaterOf : GoodIn wsX1_weightiestSpring (wsV RX1 118 RX0 yX0_springWaterOf wsX0_springWaterOf) := goodIn_app (goodIn_of _ (by decide +kernel)) ggX1_weightiestSpring_X0_springWaterOf
set_option maxRecDepth 20000 in
theorem ggX1_weightiestSpring_X0_takeOver : GoodIn wsX1_weightiestSpring wsX0_takeOver := goodIn_r _ [17, 8, 18, 19, 20, 21, 22, 13, 23, 24, 70, 71, 72, 73, 74, 75, 76, 77, 78, 79, 80, 81, 82, 83, 84, 85] (by decide +kernel) (by decide +kernel)
set_option maxRecDepth 20000 in
theorem gX1_weightiestSpring_X0_takeOver : GoodIn wsX1_weightiestSpring (wsV RX1 149 RX0 yX0_takeOver wsX0_takeOver) := goodIn_app (goodIn_of _ (by decide +kernel)) ggX1_weightiestSpring_X0_takeOver
set_option maxRecDepth 20000 in
theorem ggX1_weightiestSpring_X0_dryUp : GoodIn wsX1_weightiestSpring wsX0_dryUp := goodIn_r _ [28, 13, 29, 30, 31, 6, 32, 8, 20, 19, 33, 34, 35, 36, 37, 38, 39, 40, 41, 42, 43, 18, 22, 44, 45, 46, 47, 24, 48, 49, 50, 51, 52, 53, 54, 55, 56, 57, 58, 59, 70, 71, 72, 73, 74, 75, 76, 77, 78, 79, 80, 81, 82, 83, 84, 85] (by decide +kernel) (by decide +kernel)
set_option maxRecDepth 20000 in
theorem gX1_weightiestSpring_X0_dryUp : GoodIn wsX1_weightiestSpring (wsV RX1 153 RX0 yX0_dryUp wsX0_dryUp) := goodIn_app (goodIn_of _ (by decide +kernel)) ggX1_weightiestSpring_X0_dryUp
set_option maxRecDepth 20000 in
theorem ggX1_weightiestSpring_X0_countNamedOtherThan : GoodIn wsX1_weightiestSpring wsX0_countNamedOtherThan := goodIn_r _ [63, 8, 39, 70, 71, 72, 73, 74, 75, 76, 77, 78, 79, 80, 81, 82, 83, 84, 85] (by decide +kernel) (by decide +kernel)
set_option maxRecDepth 20000 in
theorem gX1_weightiestSpring_X0_countNamedOtherThan : GoodIn wsX1_weightiestSpring (wsV RX1 156 RX0 yX0_countNamedOtherThan wsX0_countNamedOtherThan) := goodIn_app (goodIn_of _ (by decide +kernel)) ggX1_weightiestSpring_X0_countNamedOtherThan
theorem dX1_weightiestSpring_0 : decode cX1_weightiestSpring 0 = .ok (.iconst (-1), 1) := by decide +kernel
theorem dX1_weightiestSpring_1 : decode cX1_weightiestSpring 1 = .ok (.istore_n 1, 1) := by decide +kernel
theorem dX1_weightiestSpring_2 : decode cX1_weightiestSpring 2 = .ok (.iconst (-1), 1) := by decide +kernel
theorem dX1_weightiestSpring_3 : decode cX1_weightiestSpring 3 = .ok (.istore_n 2, 1) := by decide +kernel
theorem dX1_weightiestSpring_4 : decode cX1_weightiestSpring 4 = .ok (.iconst 0, 1) := by decide +kernel
theorem dX1_weightiestSpring_5 : decode cX1_weightiestSpring 5 = .ok (.istore_n 3, 1) := by decide +kernel
theorem dX1_weightiestSpring_6 : decode cX1_weightiestSpring 6 = .ok (.iload_n 3, 1) := by decide +kernel
theorem dX1_weightiestSpring_7 : decode cX1_weightiestSpring 7 = .ok (.aload_n 0, 1) := by decide +kernel
theorem dX1_weightiestSpring_8 : decode cX1_weightiestSpring 8 = .ok (.getfield 10, 3) := by decide +kernel
theorem dX1_weightiestSpring_11 : decode cX1_weightiestSpring 11 = .ok (.invokevirtual 112, 3) := by decide +kernel
theorem dX1_weightiestSpring_14 : decode cX1_weightiestSpring 14 = .ok (.if_icmp .ge 66, 3) := by decide +kernel
theorem dX1_weightiestSpring_17 : decode cX1_weightiestSpring 17 = .ok (.aload_n 0, 1) := by decide +kernel
theorem dX1_weightiestSpring_18 : decode cX1_weightiestSpring 18 = .ok (.getfield 10, 3) := by decide +kernel
theorem dX1_weightiestSpring_21 : decode cX1_weightiestSpring 21 = .ok (.iload_n 3, 1) := by decide +kernel
theorem dX1_weightiestSpring_22 : decode cX1_weightiestSpring 22 = .ok (.invokevirtual 118, 3) := by decide +kernel
theorem dX1_weightiestSpring_25 : decode cX1_weightiestSpring 25 = .ok (.ifCond .ne 6, 3) := by decide +kernel
theorem dX1_weightiestSpring_28 : decode cX1_weightiestSpring 28 = .ok (.goto 46, 3) := by decide +kernel
theorem dX1_weightiestSpring_31 : decode cX1_weightiestSpring 31 = .ok (.aload_n 0, 1) := by decide +kernel
theorem dX1_weightiestSpring_32 : decode cX1_weightiestSpring 32 = .ok (.getfield 16, 3) := by decide +kernel
theorem dX1_weightiestSpring_35 : decode cX1_weightiestSpring 35 = .ok (.aload_n 0, 1) := by decide +kernel
theorem dX1_weightiestSpring_36 : decode cX1_weightiestSpring 36 = .ok (.getfield 10, 3) := by decide +kernel
theorem dX1_weightiestSpring_39 : decode cX1_weightiestSpring 39 = .ok (.invokevirtual 149, 3) := by decide +kernel
theorem dX1_weightiestSpring_42 : decode cX1_weightiestSpring 42 = .ok (.aload_n 0, 1) := by decide +kernel
theorem dX1_weightiestSpring_43 : decode cX1_weightiestSpring 43 = .ok (.getfield 16, 3) := by decide +kernel
theorem dX1_weightiestSpring_46 : decode cX1_weightiestSpring 46 = .ok (.iload_n 3, 1) := by decide +kernel
theorem dX1_weightiestSpring_47 : decode cX1_weightiestSpring 47 = .ok (.invokevirtual 153, 3) := by decide +kernel
theorem dX1_weightiestSpring_50 : decode cX1_weightiestSpring 50 = .ok (.aload_n 0, 1) := by decide +kernel
theorem dX1_weightiestSpring_51 : decode cX1_weightiestSpring 51 = .ok (.getfield 16, 3) := by decide +kernel
theorem dX1_weightiestSpring_54 : decode cX1_weightiestSpring 54 = .ok (.aload_n 0, 1) := by decide +kernel
theorem dX1_weightiestSpring_55 : decode cX1_weightiestSpring 55 = .ok (.getfield 10, 3) := by decide +kernel
theorem dX1_weightiestSpring_58 : decode cX1_weightiestSpring 58 = .ok (.invokevirtual 156, 3) := by decide +kernel
theorem dX1_weightiestSpring_61 : decode cX1_weightiestSpring 61 = .ok (.istore 4, 2) := by decide +kernel
theorem dX1_weightiestSpring_63 : decode cX1_weightiestSpring 63 = .ok (.iload 4, 2) := by decide +kernel
theorem dX1_weightiestSpring_65 : decode cX1_weightiestSpring 65 = .ok (.iload_n 2, 1) := by decide +kernel
theorem dX1_weightiestSpring_66 : decode cX1_weightiestSpring 66 = .ok (.if_icmp .le 8, 3) := by decide +kernel
theorem dX1_weightiestSpring_69 : decode cX1_weightiestSpring 69 = .ok (.iload 4, 2) := by decide +kernel
theorem dX1_weightiestSpring_71 : decode cX1_weightiestSpring 71 = .ok (.istore_n 2, 1) := by decide +kernel
theorem dX1_weightiestSpring_72 : decode cX1_weightiestSpring 72 = .ok (.iload_n 3, 1) := by decide +kernel
theorem dX1_weightiestSpring_73 : decode cX1_weightiestSpring 73 = .ok (.istore_n 1, 1) := by decide +kernel
theorem dX1_weightiestSpring_74 : decode cX1_weightiestSpring 74 = .ok (.iinc 3 1, 3) := by decide +kernel
theorem dX1_weightiestSpring_77 : decode cX1_weightiestSpring 77 = .ok (.goto (-71), 3) := by decide +kernel
theorem dX1_weightiestSpring_80 : decode cX1_weightiestSpring 80 = .ok (.iload_n 1, 1) := by decide +kernel
theorem dX1_weightiestSpring_81 : decode cX1_weightiestSpring 81 = .ok (.ireturn, 1) := by decide +kernel
set_option maxRecDepth 20000 in
theorem ggX1_renamedByDelta_X1_requirePlace : GoodIn wsX1_renamedByDelta wsX1_requirePlace := goodIn_ca (goodIn_r _ [7, 8, 9, 2, 10, 11, 12, 13, 14, 15, 64, 65, 66, 67, 68, 69, 70, 71, 72, 73, 74, 75, 76, 77, 78, 79, 80, 81, 82, 83, 84, 85] (by decide +kernel) (by decide +kernel)) (goodIn_sub (fun _ h => List.mem_cons_of_mem _ (List.mem_append_right _ h)) (by decide +kernel))
set_option maxRecDepth 20000 in
theorem gX1_renamedByDelta_X1_requirePlace : GoodIn wsX1_renamedByDelta (wsV RX1 61 RX1 yX1_requirePlace wsX1_requirePlace) := goodIn_app (goodIn_of _ (by decide +kernel)) ggX1_renamedByDelta_X1_requirePlace
set_option maxRecDepth 20000 in
theorem ggX1_renamedByDelta_X0_takeOver : GoodIn wsX1_renamedByDelta wsX0_takeOver := goodIn_r _ [19, 15, 20, 21, 22, 23, 24, 25, 26, 27, 70, 71, 72, 73, 74, 75, 76, 77, 78, 79, 80, 81, 82, 83, 84, 85] (by decide +kernel) (by decide +kernel)
set_option maxRecDepth 20000 in
theorem gX1_renamedByDelta_X0_takeOver : GoodIn wsX1_renamedByDelta (wsV RX1 149 RX0 yX0_takeOver wsX0_takeOver) := goodIn_app (goodIn_of _ (by decide +kernel)) ggX1_renamedByDelta_X0_takeOver
set_option maxRecDepth 20000 in
theorem ggX1_renamedByDelta_X0_toggleDelta : GoodIn wsX1_renamedByDelta wsX0_toggleDelta := goodIn_r _ [31, 27, 32, 33, 34, 13, 35, 15, 22, 21, 36, 37, 38, 39, 25, 40, 41, 42, 43, 44, 45, 46, 20, 24, 47, 48, 49, 50, 51, 52, 53, 54, 55, 56, 57, 58, 59, 11, 12, 14, 70, 71, 72, 73, 74, 75, 76, 77, 78, 79, 80, 81, 82, 83, 84, 85] (by decide +kernel) (by decide +kernel)
set_option maxRecDepth 20000 in
theorem gX1_renamedByDelta_X0_toggleDelta : GoodIn wsX1_renamedByDelta (wsV RX1 83 RX0 yX0_toggleDelta wsX0_toggleDelta) := goodIn_app (goodIn_of _ (by decide +kernel)) ggX1_renamedByDelta_X0_toggleDelta
set_option maxRecDepth 20000 in
theorem ggX1_renamedByDelta_X0_countNamedOtherThan : GoodIn wsX1_renamedByDelta wsX0_countNamedOtherThan := goodIn_r _ [63, 15, 42, 70, 71, 72, 73, 74, 75, 76, 77, 78, 79, 80, 81, 82, 83, 84, 85] (by decide +kernel) (by decide +kernel)
set_option maxRecDepth 20000 in
theorem gX1_renamedByDelta_X0_countNamedOtherThan : GoodIn wsX1_renamedByDelta (wsV RX1 156 RX0 yX0_countNamedOtherThan wsX0_countNamedOtherThan) := goodIn_app (goodIn_of _ (by decide +kernel)) ggX1_renamedByDelta_X0_countNamedOtherThan
theorem dX1_renamedByDelta_0 : decode cX1_renamedByDelta 0 = .ok (.aload_n 0, 1) := by decide +kernel
theorem dX1_renamedByDelta_1 : decode cX1_renamedByDelta 1 = .ok (.iload_n 1, 1) := by decide +kernel
theorem dX1_renamedByDelta_2 : decode cX1_renamedByDelta 2 = .ok (.invokevirtual 61, 3) := by decide +kernel
theorem dX1_renamedByDelta_5 : decode cX1_renamedByDelta 5 = .ok (.aload_n 0, 1) := by decide +kernel
theorem dX1_renamedByDelta_6 : decode cX1_renamedByDelta 6 = .ok (.getfield 16, 3) := by decide +kernel
theorem dX1_renamedByDelta_9 : decode cX1_renamedByDelta 9 = .ok (.aload_n 0, 1) := by decide +kernel
theorem dX1_renamedByDelta_10 : decode cX1_renamedByDelta 10 = .ok (.getfield 10, 3) := by decide +kernel
theorem dX1_renamedByDelta_13 : decode cX1_renamedByDelta 13 = .ok (.invokevirtual 149, 3) := by decide +kernel
theorem dX1_renamedByDelta_16 : decode cX1_renamedByDelta 16 = .ok (.aload_n 0, 1) := by decide +kernel
theorem dX1_renamedByDelta_17 : decode cX1_renamedByDelta 17 = .ok (.getfield 16, 3) := by decide +kernel
theorem dX1_renamedByDelta_20 : decode cX1_renamedByDelta 20 = .ok (.iload_n 1, 1) := by decide +kernel
theorem dX1_renamedByDelta_21 : decode cX1_renamedByDelta 21 = .ok (.invokevirtual 83, 3) := by decide +kernel
theorem dX1_renamedByDelta_24 : decode cX1_renamedByDelta 24 = .ok (.aload_n 0, 1) := by decide +kernel
theorem dX1_renamedByDelta_25 : decode cX1_renamedByDelta 25 = .ok (.getfield 16, 3) := by decide +kernel
theorem dX1_renamedByDelta_28 : decode cX1_renamedByDelta 28 = .ok (.aload_n 0, 1) := by decide +kernel
theorem dX1_renamedByDelta_29 : decode cX1_renamedByDelta 29 = .ok (.getfield 10, 3) := by decide +kernel
theorem dX1_renamedByDelta_32 : decode cX1_renamedByDelta 32 = .ok (.invokevirtual 156, 3) := by decide +kernel
theorem dX1_renamedByDelta_35 : decode cX1_renamedByDelta 35 = .ok (.ireturn, 1) := by decide +kernel
set_option maxRecDepth 20000 in
theorem ggX1_renamedByRule_X0_takeOver : GoodIn wsX1_renamedByRule wsX0_takeOver := goodIn_r _ [7, 8, 9, 10, 11, 12, 13, 14, 15, 16, 66, 67, 68, 69, 70, 71, 72, 73, 74, 75, 76, 77, 78, 79, 80, 81] (by decide +kernel) (by decide +kernel)
set_option maxRecDepth 20000 in
theorem gX1_renamedByRule_X0_takeOver : GoodIn wsX1_renamedByRule (wsV RX1 149 RX0 yX0_takeOver wsX0_takeOver) := goodIn_app (goodIn_of _ (by decide +kernel)) ggX1_renamedByRule_X0_takeOver
set_option maxRecDepth 20000 in
theorem ggX1_renamedByRule_X0_ruleNow : GoodIn wsX1_renamedByRule wsX0_ruleNow := goodIn_r _ [20, 9, 66, 67, 68, 69, 70, 71, 72, 73, 74, 75, 76, 77, 78, 79, 80, 81] (by decide +kernel) (by decide +kernel)
set_option maxRecDepth 20000 in
theorem gX1_renamedByRule_X0_ruleNow : GoodIn wsX1_renamedByRule (wsV RX1 92 RX0 yX0_ruleNow wsX0_ruleNow) := goodIn_app (goodIn_of _ (by decide +kernel)) ggX1_renamedByRule_X0_ruleNow
set_option maxRecDepth 20000 in
theorem ggX1_renamedByRule_X0_useRule : GoodIn wsX1_renamedByRule wsX0_useRule := goodIn_r _ [24, 9, 25, 26, 27, 6, 28, 8, 11, 10, 29, 30, 31, 32, 14, 33, 34, 35, 36, 37, 38, 39, 13, 40, 41, 42, 43, 16, 44, 45, 46, 47, 48, 49, 50, 51, 52, 53, 54, 55, 66, 67, 68, 69, 70, 71, 72, 73, 74, 75, 76, 77, 78, 79, 80, 81] (by decide +kernel) (by decide +kernel)
set_option maxRecDepth 20000 in
theorem gX1_renamedByRule_X0_useRule : GoodIn wsX1_renamedByRule (wsV RX1 95 RX0 yX0_useRule wsX0_useRule) := goodIn_app (goodIn_of _ (by decide +kernel)) ggX1_renamedByRule_X0_useRule
set_option maxRecDepth 20000 in
theorem ggX1_renamedByRule_X0_countNamedOtherThan : GoodIn wsX1_renamedByRule wsX0_countNamedOtherThan := goodIn_r _ [59, 8, 35, 66, 67, 68, 69, 70, 71, 72, 73, 74, 75, 76, 77, 78, 79, 80, 81] (by decide +kernel) (by decide +kernel)
set_option maxRecDepth 20000 in
theorem gX1_renamedByRule_X0_countNamedOtherThan : GoodIn wsX1_renamedByRule (wsV RX1 156 RX0 yX0_countNamedOtherThan wsX0_countNamedOtherThan) := goodIn_app (goodIn_of _ (by decide +kernel)) ggX1_renamedByRule_X0_countNamedOtherThan
theorem dX1_renamedByRule_0 : decode cX1_renamedByRule 0 = .ok (.aload_n 0, 1) := by decide +kernel
theorem dX1_renamedByRule_1 : decode cX1_renamedByRule 1 = .ok (.getfield 16, 3) := by decide +kernel
theorem dX1_renamedByRule_4 : decode cX1_renamedByRule 4 = .ok (.aload_n 0, 1) := by decide +kernel
theorem dX1_renamedByRule_5 : decode cX1_renamedByRule 5 = .ok (.getfield 10, 3) := by decide +kernel
theorem dX1_renamedByRule_8 : decode cX1_renamedByRule 8 = .ok (.invokevirtual 149, 3) := by decide +kernel
theorem dX1_renamedByRule_11 : decode cX1_renamedByRule 11 = .ok (.aload_n 0, 1) := by decide +kernel
theorem dX1_renamedByRule_12 : decode cX1_renamedByRule 12 = .ok (.getfield 16, 3) := by decide +kernel
theorem dX1_renamedByRule_15 : decode cX1_renamedByRule 15 = .ok (.aload_n 0, 1) := by decide +kernel
theorem dX1_renamedByRule_16 : decode cX1_renamedByRule 16 = .ok (.getfield 10, 3) := by decide +kernel
theorem dX1_renamedByRule_19 : decode cX1_renamedByRule 19 = .ok (.invokevirtual 92, 3) := by decide +kernel
theorem dX1_renamedByRule_22 : decode cX1_renamedByRule 22 = .ok (.ifCond .ne 7, 3) := by decide +kernel
theorem dX1_renamedByRule_25 : decode cX1_renamedByRule 25 = .ok (.iconst 1, 1) := by decide +kernel
theorem dX1_renamedByRule_26 : decode cX1_renamedByRule 26 = .ok (.goto 4, 3) := by decide +kernel
theorem dX1_renamedByRule_29 : decode cX1_renamedByRule 29 = .ok (.iconst 0, 1) := by decide +kernel
theorem dX1_renamedByRule_30 : decode cX1_renamedByRule 30 = .ok (.invokevirtual 95, 3) := by decide +kernel
theorem dX1_renamedByRule_33 : decode cX1_renamedByRule 33 = .ok (.aload_n 0, 1) := by decide +kernel
theorem dX1_renamedByRule_34 : decode cX1_renamedByRule 34 = .ok (.getfield 16, 3) := by decide +kernel
theorem dX1_renamedByRule_37 : decode cX1_renamedByRule 37 = .ok (.aload_n 0, 1) := by decide +kernel
theorem dX1_renamedByRule_38 : decode cX1_renamedByRule 38 = .ok (.getfield 10, 3) := by decide +kernel
theorem dX1_renamedByRule_41 : decode cX1_renamedByRule 41 = .ok (.invokevirtual 156, 3) := by decide +kernel
theorem dX1_renamedByRule_44 : decode cX1_renamedByRule 44 = .ok (.ireturn, 1) := by decide +kernel
set_option maxRecDepth 20000 in
theorem ggX1_meanMouth_X0_size : GoodIn wsX1_meanMouth wsX0_size := goodIn_r _ [6, 7, 24, 25, 26, 27, 28, 29, 30, 31, 32, 33, 34, 35, 36, 37, 38, 39] (by decide +kernel) (by decide +kernel)
set_option maxRecDepth 20000 in
theorem gX1_meanMouth_X0_size : GoodIn wsX1_meanMouth (wsV RX1 112 RX0 yX0_size wsX0_size) := goodIn_app (goodIn_of _ (by decide +kernel)) ggX1_meanMouth_X0_size
set_option maxRecDepth 20000 in
theorem ggX1_meanMouth_X0_next : GoodIn wsX1_meanMouth wsX0_next := goodIn_r _ [11, 12, 24, 25, 26, 27, 28, 29, 30, 31, 32, 33, 34, 35, 36, 37, 38, 39] (by decide +kernel) (by decide +kernel)
set_option maxRecDepth 20000 in
theorem gX1_meanMouth_X0_next : GoodIn wsX1_meanMouth (wsV RX1 75 RX0 yX0_next wsX0_next) := goodIn_app (goodIn_of _ (by decide +kernel)) ggX1_meanMouth_X0_next
set_option maxRecDepth 20000 in
theorem ggX1_meanMouth_X0_waterOf : GoodIn wsX1_meanMouth wsX0_waterOf := goodIn_r _ [16, 17, 24, 25, 26, 27, 28, 29, 30, 31, 32, 33, 34, 35, 36, 37, 38, 39] (by decide +kernel) (by decide +kernel)
set_option maxRecDepth 20000 in
theorem gX1_meanMouth_X0_waterOf : GoodIn wsX1_meanMouth (wsV RX1 121 RX0 yX0_waterOf wsX0_waterOf) := goodIn_app (goodIn_of _ (by decide +kernel)) ggX1_meanMouth_X0_waterOf
theorem dX1_meanMouth_0 : decode cX1_meanMouth 0 = .ok (.iconst 0, 1) := by decide +kernel
theorem dX1_meanMouth_1 : decode cX1_meanMouth 1 = .ok (.istore_n 1, 1) := by decide +kernel
theorem dX1_meanMouth_2 : decode cX1_meanMouth 2 = .ok (.iconst 0, 1) := by decide +kernel
theorem dX1_meanMouth_3 : decode cX1_meanMouth 3 = .ok (.istore_n 2, 1) := by decide +kernel
theorem dX1_meanMouth_4 : decode cX1_meanMouth 4 = .ok (.iconst 0, 1) := by decide +kernel
theorem dX1_meanMouth_5 : decode cX1_meanMouth 5 = .ok (.istore_n 3, 1) := by decide +kernel
theorem dX1_meanMouth_6 : decode cX1_meanMouth 6 = .ok (.iload_n 3, 1) := by decide +kernel
theorem dX1_meanMouth_7 : decode cX1_meanMouth 7 = .ok (.aload_n 0, 1) := by decide +kernel
theorem dX1_meanMouth_8 : decode cX1_meanMouth 8 = .ok (.getfield 10, 3) := by decide +kernel
theorem dX1_meanMouth_11 : decode cX1_meanMouth 11 = .ok (.invokevirtual 112, 3) := by decide +kernel
theorem dX1_meanMouth_14 : decode cX1_meanMouth 14 = .ok (.if_icmp .ge 35, 3) := by decide +kernel
theorem dX1_meanMouth_17 : decode cX1_meanMouth 17 = .ok (.aload_n 0, 1) := by decide +kernel
theorem dX1_meanMouth_18 : decode cX1_meanMouth 18 = .ok (.getfield 10, 3) := by decide +kernel
theorem dX1_meanMouth_21 : decode cX1_meanMouth 21 = .ok (.iload_n 3, 1) := by decide +kernel
theorem dX1_meanMouth_22 : decode cX1_meanMouth 22 = .ok (.invokevirtual 75, 3) := by decide +kernel
theorem dX1_meanMouth_25 : decode cX1_meanMouth 25 = .ok (.iconst (-1), 1) := by decide +kernel
theorem dX1_meanMouth_26 : decode cX1_meanMouth 26 = .ok (.if_icmp .ne 17, 3) := by decide +kernel
theorem dX1_meanMouth_29 : decode cX1_meanMouth 29 = .ok (.iinc 1 1, 3) := by decide +kernel
theorem dX1_meanMouth_32 : decode cX1_meanMouth 32 = .ok (.iload_n 2, 1) := by decide +kernel
theorem dX1_meanMouth_33 : decode cX1_meanMouth 33 = .ok (.aload_n 0, 1) := by decide +kernel
theorem dX1_meanMouth_34 : decode cX1_meanMouth 34 = .ok (.getfield 10, 3) := by decide +kernel
theorem dX1_meanMouth_37 : decode cX1_meanMouth 37 = .ok (.iload_n 3, 1) := by decide +kernel
theorem dX1_meanMouth_38 : decode cX1_meanMouth 38 = .ok (.invokevirtual 121, 3) := by decide +kernel
theorem dX1_meanMouth_41 : decode cX1_meanMouth 41 = .ok (.iadd, 1) := by decide +kernel
theorem dX1_meanMouth_42 : decode cX1_meanMouth 42 = .ok (.istore_n 2, 1) := by decide +kernel
theorem dX1_meanMouth_43 : decode cX1_meanMouth 43 = .ok (.iinc 3 1, 3) := by decide +kernel
theorem dX1_meanMouth_46 : decode cX1_meanMouth 46 = .ok (.goto (-40), 3) := by decide +kernel
theorem dX1_meanMouth_49 : decode cX1_meanMouth 49 = .ok (.iload_n 1, 1) := by decide +kernel
theorem dX1_meanMouth_50 : decode cX1_meanMouth 50 = .ok (.ifCond .ne 7, 3) := by decide +kernel
theorem dX1_meanMouth_53 : decode cX1_meanMouth 53 = .ok (.dconst 0, 1) := by decide +kernel
theorem dX1_meanMouth_54 : decode cX1_meanMouth 54 = .ok (.goto 8, 3) := by decide +kernel
theorem dX1_meanMouth_57 : decode cX1_meanMouth 57 = .ok (.iload_n 2, 1) := by decide +kernel
theorem dX1_meanMouth_58 : decode cX1_meanMouth 58 = .ok (.i2d, 1) := by decide +kernel
theorem dX1_meanMouth_59 : decode cX1_meanMouth 59 = .ok (.iload_n 1, 1) := by decide +kernel
theorem dX1_meanMouth_60 : decode cX1_meanMouth 60 = .ok (.i2d, 1) := by decide +kernel
theorem dX1_meanMouth_61 : decode cX1_meanMouth 61 = .ok (.ddiv, 1) := by decide +kernel
theorem dX1_meanMouth_62 : decode cX1_meanMouth 62 = .ok (.dreturn, 1) := by decide +kernel
set_option maxRecDepth 20000 in
theorem ggX1_digest_X1_mix : GoodIn wsX1_digest wsX1_mix := goodIn_r _ [8, 9] (by decide +kernel) (by decide +kernel)
set_option maxRecDepth 20000 in
theorem gX1_digest_X1_mix : GoodIn wsX1_digest (va_wsS RX1 162 yX1_mix wsX1_mix) := goodIn_app (goodIn_of _ (by decide +kernel)) ggX1_digest_X1_mix
set_option maxRecDepth 20000 in
theorem ggX1_digest_X0_size : GoodIn wsX1_digest wsX0_size := goodIn_r _ [14, 15, 226, 227, 228, 229, 230, 231, 232, 233, 234, 235, 236, 237, 238, 239, 240, 241] (by decide +kernel) (by decide +kernel)
set_option maxRecDepth 20000 in
theorem gX1_digest_X0_size : GoodIn wsX1_digest (wsV RX1 112 RX0 yX0_size wsX0_size) := goodIn_app (goodIn_of _ (by decide +kernel)) ggX1_digest_X0_size
set_option maxRecDepth 20000 in
theorem ggX1_digest_X1_countInsults : GoodIn wsX1_digest wsX1_countInsults := goodIn_r _ [19, 4, 20, 21, 22, 7, 23, 24, 3, 25, 26, 27, 28, 13, 29, 30, 220, 221, 222, 223, 224, 225, 226, 227, 228, 229, 230, 231, 232, 233, 234, 235, 236, 237, 238, 239, 240, 241] (by decide +kernel) (by decide +kernel)
set_option maxRecDepth 20000 in
theorem gX1_digest_X1_countInsults : GoodIn wsX1_digest (wsV RX1 109 RX1 yX1_countInsults wsX1_countInsults) := goodIn_app (goodIn_of _ (by decide +kernel)) ggX1_digest_X1_countInsults
set_option maxRecDepth 20000 in
theorem ggX1_digest_X1_greatestName : GoodIn wsX1_digest wsX1_greatestName := goodIn_r _ [34, 3, 35, 36, 37, 13, 38, 15, 30, 220, 221, 222, 223, 224, 225, 226, 227, 228, 229, 230, 231, 232, 233, 234, 235, 236, 237, 238, 239, 240, 241] (by decide +kernel) (by decide +kernel)
set_option maxRecDepth 20000 in
theorem gX1_digest_X1_greatestName : GoodIn wsX1_digest (wsV RX1 166 RX1 yX1_greatestName wsX1_greatestName) := goodIn_app (goodIn_of _ (by decide +kernel)) ggX1_digest_X1_greatestName
set_option maxRecDepth 20000 in
theorem ggX1_digest_X1_nameless : GoodIn wsX1_digest wsX1_nameless := goodIn_r _ [42, 3, 35, 36, 37, 13, 38, 15, 30, 220, 221, 222, 223, 224, 225, 226, 227, 228, 229, 230, 231, 232, 233, 234, 235, 236, 237, 238, 239, 240, 241] (by decide +kernel) (by decide +kernel)
set_option maxRecDepth 20000 in
theorem gX1_digest_X1_nameless : GoodIn wsX1_digest (wsV RX1 169 RX1 yX1_nameless wsX1_nameless) := goodIn_app (goodIn_of _ (by decide +kernel)) ggX1_digest_X1_nameless
set_option maxRecDepth 20000 in
theorem ggX1_digest_X1_weightiestSpring : GoodIn wsX1_digest wsX1_weightiestSpring := goodIn_r _ [46, 3, 47, 10, 11, 12, 13, 14, 15, 48, 49, 50, 51, 52, 53, 54, 55, 56, 57, 58, 59, 60, 61, 62, 63, 64, 65, 66, 67, 68, 69, 70, 71, 72, 73, 74, 75, 76, 77, 30, 78, 79, 80, 81, 82, 83, 84, 85, 86, 87, 88, 89, 90, 91, 92, 93, 94, 95, 96, 97, 98, 99, 100, 101, 220, 221, 222, 223, 224, 225, 226, 227, 228, 229, 230, 231, 232, 233, 234, 235, 236, 237, 238, 239, 240, 241] (by decide +kernel) (by decide +kernel)
set_option maxRecDepth 20000 in
theorem gX1_digest_X1_weightiestSpring : GoodIn wsX1_digest (wsV RX1 172 RX1 yX1_weightiestSpring wsX1_weightiestSpring) := goodIn_app (goodIn_of _ (by decide +kernel)) ggX1_digest_X1_weightiestSpring
set_option maxRecDepth 20000 in
theorem ggX1_digest_X1_renamedByRule : GoodIn wsX1_digest wsX1_renamedByRule := goodIn_r _ [105, 47, 3, 53, 54, 55, 13, 56, 15, 57, 58, 59, 60, 61, 52, 62, 63, 106, 107, 108, 109, 110, 111, 112, 113, 68, 69, 70, 71, 72, 73, 74, 75, 76, 77, 30, 78, 79, 80, 81, 82, 83, 84, 85, 86, 87, 88, 89, 90, 91, 92, 93, 94, 95, 96, 97, 98, 99, 100, 101, 220, 221, 222, 223, 224, 225, 226, 227, 228, 229, 230, 231, 232, 233, 234, 235, 236, 237, 238, 239, 240, 241] (by decide +kernel) (by decide +kernel)
set_option maxRecDepth 20000 in
theorem gX1_digest_X1_renamedByRule : GoodIn wsX1_digest (wsV RX1 175 RX1 yX1_renamedByRule wsX1_renamedByRule) := goodIn_app (goodIn_of _ (by decide +kernel)) ggX1_digest_X1_renamedByRule
set_option maxRecDepth 20000 in
theorem ggX1_digest_X1_mixPlace : GoodIn wsX1_digest wsX1_mixPlace := goodIn_ca (goodIn_r _ [117, 118, 119, 120, 7, 121, 3, 122, 123, 124, 125, 126, 127, 128, 95, 96, 13, 97, 15, 129, 130, 131, 132, 58, 5, 6, 8, 9, 133, 134, 135, 136, 137, 138, 139, 140, 60, 141, 142, 143, 144, 145, 146, 147, 48, 49, 50, 51, 52, 148, 149, 150, 151, 152, 153, 154, 155, 76, 156, 157, 158, 159, 160, 161, 162, 163, 77, 164, 165, 166, 167, 168, 169, 170, 171, 94, 172, 173, 174, 175, 10, 11, 12, 14, 176, 177, 178, 179, 180, 181, 182, 183, 26, 27, 28, 29, 30, 184, 185, 186, 187, 188, 189, 190, 191, 78, 192, 193, 194, 195, 196, 197, 198, 199, 79, 220, 221, 222, 223, 224, 225, 226, 227, 228, 229, 230, 231, 232, 233, 234, 235, 236, 237, 238, 239, 240, 241] (by decide +kernel) (by decide +kernel)) (goodIn_sub (fun _ h => List.mem_cons_of_mem _ (List.mem_append_right _ h)) (by decide +kernel))
set_option maxRecDepth 20000 in
theorem gX1_digest_X1_mixPlace : GoodIn wsX1_digest (wsV RX1 178 RX1 yX1_mixPlace wsX1_mixPlace) := goodIn_app (goodIn_of _ (by decide +kernel)) ggX1_digest_X1_mixPlace
set_option maxRecDepth 20000 in
theorem ggX1_digest_X1_mixBridge : GoodIn wsX1_digest wsX1_mixBridge := goodIn_ca (goodIn_r _ [203, 204, 205, 206, 7, 207, 25, 208, 209, 210, 211, 126, 127, 4, 5, 6, 8, 9, 212, 213, 214, 215, 24, 216, 217, 218, 219, 20, 21, 22, 23, 3, 26, 27, 28, 13, 29, 30, 141, 142, 143, 220, 221, 222, 223, 224, 225, 226, 227, 228, 229, 230, 231, 232, 233, 234, 235, 236, 237, 238, 239, 240, 241] (by decide +kernel) (by decide +kernel)) (goodIn_sub (fun _ h => List.mem_cons_of_mem _ (List.mem_append_right _ h)) (by decide +kernel))
set_option maxRecDepth 20000 in
theorem gX1_digest_X1_mixBridge : GoodIn wsX1_digest (wsV RX1 182 RX1 yX1_mixBridge wsX1_mixBridge) := goodIn_app (goodIn_of _ (by decide +kernel)) ggX1_digest_X1_mixBridge
theorem dX1_digest_0 : decode cX1_digest 0 = .ok (.ldc2_w 160, 3) := by decide +kernel
theorem dX1_digest_3 : decode cX1_digest 3 = .ok (.lstore_n 1, 1) := by decide +kernel
theorem dX1_digest_4 : decode cX1_digest 4 = .ok (.lload_n 1, 1) := by decide +kernel
theorem dX1_digest_5 : decode cX1_digest 5 = .ok (.aload_n 0, 1) := by decide +kernel
theorem dX1_digest_6 : decode cX1_digest 6 = .ok (.getfield 30, 3) := by decide +kernel
theorem dX1_digest_9 : decode cX1_digest 9 = .ok (.i2l, 1) := by decide +kernel
theorem dX1_digest_10 : decode cX1_digest 10 = .ok (.invokestatic 162, 3) := by decide +kernel
theorem dX1_digest_13 : decode cX1_digest 13 = .ok (.lstore_n 1, 1) := by decide +kernel
theorem dX1_digest_14 : decode cX1_digest 14 = .ok (.lload_n 1, 1) := by decide +kernel
theorem dX1_digest_15 : decode cX1_digest 15 = .ok (.aload_n 0, 1) := by decide +kernel
theorem dX1_digest_16 : decode cX1_digest 16 = .ok (.getfield 10, 3) := by decide +kernel
theorem dX1_digest_19 : decode cX1_digest 19 = .ok (.invokevirtual 112, 3) := by decide +kernel
theorem dX1_digest_22 : decode cX1_digest 22 = .ok (.i2l, 1) := by decide +kernel
theorem dX1_digest_23 : decode cX1_digest 23 = .ok (.invokestatic 162, 3) := by decide +kernel
theorem dX1_digest_26 : decode cX1_digest 26 = .ok (.lstore_n 1, 1) := by decide +kernel
theorem dX1_digest_27 : decode cX1_digest 27 = .ok (.lload_n 1, 1) := by decide +kernel
theorem dX1_digest_28 : decode cX1_digest 28 = .ok (.aload_n 0, 1) := by decide +kernel
theorem dX1_digest_29 : decode cX1_digest 29 = .ok (.getfield 26, 3) := by decide +kernel
theorem dX1_digest_32 : decode cX1_digest 32 = .ok (.i2l, 1) := by decide +kernel
theorem dX1_digest_33 : decode cX1_digest 33 = .ok (.invokestatic 162, 3) := by decide +kernel
theorem dX1_digest_36 : decode cX1_digest 36 = .ok (.lstore_n 1, 1) := by decide +kernel
theorem dX1_digest_37 : decode cX1_digest 37 = .ok (.lload_n 1, 1) := by decide +kernel
theorem dX1_digest_38 : decode cX1_digest 38 = .ok (.aload_n 0, 1) := by decide +kernel
theorem dX1_digest_39 : decode cX1_digest 39 = .ok (.invokevirtual 109, 3) := by decide +kernel
theorem dX1_digest_42 : decode cX1_digest 42 = .ok (.i2l, 1) := by decide +kernel
theorem dX1_digest_43 : decode cX1_digest 43 = .ok (.invokestatic 162, 3) := by decide +kernel
theorem dX1_digest_46 : decode cX1_digest 46 = .ok (.lstore_n 1, 1) := by decide +kernel
theorem dX1_digest_47 : decode cX1_digest 47 = .ok (.lload_n 1, 1) := by decide +kernel
theorem dX1_digest_48 : decode cX1_digest 48 = .ok (.aload_n 0, 1) := by decide +kernel
theorem dX1_digest_49 : decode cX1_digest 49 = .ok (.invokevirtual 166, 3) := by decide +kernel
theorem dX1_digest_52 : decode cX1_digest 52 = .ok (.i2l, 1) := by decide +kernel
theorem dX1_digest_53 : decode cX1_digest 53 = .ok (.invokestatic 162, 3) := by decide +kernel
theorem dX1_digest_56 : decode cX1_digest 56 = .ok (.lstore_n 1, 1) := by decide +kernel
theorem dX1_digest_57 : decode cX1_digest 57 = .ok (.lload_n 1, 1) := by decide +kernel
theorem dX1_digest_58 : decode cX1_digest 58 = .ok (.aload_n 0, 1) := by decide +kernel
theorem dX1_digest_59 : decode cX1_digest 59 = .ok (.invokevirtual 169, 3) := by decide +kernel
theorem dX1_digest_62 : decode cX1_digest 62 = .ok (.i2l, 1) := by decide +kernel
theorem dX1_digest_63 : decode cX1_digest 63 = .ok (.invokestatic 162, 3) := by decide +kernel
theorem dX1_digest_66 : decode cX1_digest 66 = .ok (.lstore_n 1, 1) := by decide +kernel
theorem dX1_digest_67 : decode cX1_digest 67 = .ok (.lload_n 1, 1) := by decide +kernel
theorem dX1_digest_68 : decode cX1_digest 68 = .ok (.aload_n 0, 1) := by decide +kernel
theorem dX1_digest_69 : decode cX1_digest 69 = .ok (.invokevirtual 172, 3) := by decide +kernel
theorem dX1_digest_72 : decode cX1_digest 72 = .ok (.i2l, 1) := by decide +kernel
theorem dX1_digest_73 : decode cX1_digest 73 = .ok (.invokestatic 162, 3) := by decide +kernel
theorem dX1_digest_76 : decode cX1_digest 76 = .ok (.lstore_n 1, 1) := by decide +kernel
theorem dX1_digest_77 : decode cX1_digest 77 = .ok (.lload_n 1, 1) := by decide +kernel
theorem dX1_digest_78 : decode cX1_digest 78 = .ok (.aload_n 0, 1) := by decide +kernel
theorem dX1_digest_79 : decode cX1_digest 79 = .ok (.invokevirtual 175, 3) := by decide +kernel
theorem dX1_digest_82 : decode cX1_digest 82 = .ok (.i2l, 1) := by decide +kernel
theorem dX1_digest_83 : decode cX1_digest 83 = .ok (.invokestatic 162, 3) := by decide +kernel
theorem dX1_digest_86 : decode cX1_digest 86 = .ok (.lstore_n 1, 1) := by decide +kernel
theorem dX1_digest_87 : decode cX1_digest 87 = .ok (.iconst 0, 1) := by decide +kernel
theorem dX1_digest_88 : decode cX1_digest 88 = .ok (.istore_n 3, 1) := by decide +kernel
theorem dX1_digest_89 : decode cX1_digest 89 = .ok (.iload_n 3, 1) := by decide +kernel
theorem dX1_digest_90 : decode cX1_digest 90 = .ok (.aload_n 0, 1) := by decide +kernel
theorem dX1_digest_91 : decode cX1_digest 91 = .ok (.getfield 10, 3) := by decide +kernel
theorem dX1_digest_94 : decode cX1_digest 94 = .ok (.invokevirtual 112, 3) := by decide +kernel
theorem dX1_digest_97 : decode cX1_digest 97 = .ok (.if_icmp .ge 16, 3) := by decide +kernel
theorem dX1_digest_100 : decode cX1_digest 100 = .ok (.aload_n 0, 1) := by decide +kernel
theorem dX1_digest_101 : decode cX1_digest 101 = .ok (.lload_n 1, 1) := by decide +kernel
theorem dX1_digest_102 : decode cX1_digest 102 = .ok (.iload_n 3, 1) := by decide +kernel
theorem dX1_digest_103 : decode cX1_digest 103 = .ok (.invokevirtual 178, 3) := by decide +kernel
theorem dX1_digest_106 : decode cX1_digest 106 = .ok (.lstore_n 1, 1) := by decide +kernel
theorem dX1_digest_107 : decode cX1_digest 107 = .ok (.iinc 3 1, 3) := by decide +kernel
theorem dX1_digest_110 : decode cX1_digest 110 = .ok (.goto (-21), 3) := by decide +kernel
theorem dX1_digest_113 : decode cX1_digest 113 = .ok (.iconst 0, 1) := by decide +kernel
theorem dX1_digest_114 : decode cX1_digest 114 = .ok (.istore_n 3, 1) := by decide +kernel
theorem dX1_digest_115 : decode cX1_digest 115 = .ok (.iload_n 3, 1) := by decide +kernel
theorem dX1_digest_116 : decode cX1_digest 116 = .ok (.aload_n 0, 1) := by decide +kernel
theorem dX1_digest_117 : decode cX1_digest 117 = .ok (.getfield 26, 3) := by decide +kernel
theorem dX1_digest_120 : decode cX1_digest 120 = .ok (.if_icmp .ge 16, 3) := by decide +kernel
theorem dX1_digest_123 : decode cX1_digest 123 = .ok (.aload_n 0, 1) := by decide +kernel
theorem dX1_digest_124 : decode cX1_digest 124 = .ok (.lload_n 1, 1) := by decide +kernel
theorem dX1_digest_125 : decode cX1_digest 125 = .ok (.iload_n 3, 1) := by decide +kernel
theorem dX1_digest_126 : decode cX1_digest 126 = .ok (.invokevirtual 182, 3) := by decide +kernel
theorem dX1_digest_129 : decode cX1_digest 129 = .ok (.lstore_n 1, 1) := by decide +kernel
theorem dX1_digest_130 : decode cX1_digest 130 = .ok (.iinc 3 1, 3) := by decide +kernel
theorem dX1_digest_133 : decode cX1_digest 133 = .ok (.goto (-18), 3) := by decide +kernel
theorem dX1_digest_136 : decode cX1_digest 136 = .ok (.lload_n 1, 1) := by decide +kernel
theorem dX1_digest_137 : decode cX1_digest 137 = .ok (.lreturn, 1) := by decide +kernel
set_option maxRecDepth 20000 in
theorem ggX1_mixPlace_X1_leadsTo : GoodIn wsX1_mixPlace wsX1_leadsTo := goodIn_ca (goodIn_r _ [5, 6, 7, 8, 9, 4, 10, 11, 12, 13, 14, 15, 16, 17, 18, 19, 20, 21, 22, 23, 115, 116, 117, 118, 119, 120, 121, 122, 123, 124, 125, 126, 127, 128, 129, 130, 131, 132, 133, 134, 135, 136] (by decide +kernel) (by decide +kernel)) (goodIn_sub (fun _ h => List.mem_cons_of_mem _ (List.mem_append_right _ h)) (by decide +kernel))
set_option maxRecDepth 20000 in
theorem gX1_mixPlace_X1_leadsTo : GoodIn wsX1_mixPlace (wsV RX1 185 RX1 yX1_leadsTo wsX1_leadsTo) := goodIn_app (goodIn_of _ (by decide +kernel)) ggX1_mixPlace_X1_leadsTo
set_option maxRecDepth 20000 in
theorem ggX1_mixPlace_X1_mix : GoodIn wsX1_mixPlace wsX1_mix := goodIn_r _ [26, 27] (by decide +kernel) (by decide +kernel)
set_option maxRecDepth 20000 in
theorem gX1_mixPlace_X1_mix : GoodIn wsX1_mixPlace (va_wsS RX1 162 yX1_mix wsX1_mix) := goodIn_app (goodIn_of _ (by decide +kernel)) ggX1_mixPlace_X1_mix
set_option maxRecDepth 20000 in
theorem ggX1_mixPlace_X1_hasSpring : GoodIn wsX1_mixPlace wsX1_hasSpring := goodIn_ca (goodIn_r _ [31, 6, 7, 8, 9, 4, 10, 11, 12, 13, 14, 15, 16, 17, 18, 32, 33, 34, 35, 36, 115, 116, 117, 118, 119, 120, 121, 122, 123, 124, 125, 126, 127, 128, 129, 130, 131, 132, 133, 134, 135, 136] (by decide +kernel) (by decide +kernel)) (goodIn_sub (fun _ h => List.mem_cons_of_mem _ (List.mem_append_right _ h)) (by decide +kernel))
set_option maxRecDepth 20000 in
theorem gX1_mixPlace_X1_hasSpring : GoodIn wsX1_mixPlace (wsV RX1 188 RX1 yX1_hasSpring wsX1_hasSpring) := goodIn_app (goodIn_of _ (by decide +kernel)) ggX1_mixPlace_X1_hasSpring
set_option maxRecDepth 20000 in
theorem ggX1_mixPlace_X1_bit : GoodIn wsX1_mixPlace wsX1_bit := goodIn_r _ [39] (by decide +kernel) (by decide +kernel)
set_option maxRecDepth 20000 in
theorem gX1_mixPlace_X1_bit : GoodIn wsX1_mixPlace (va_wsS RX1 191 yX1_bit wsX1_bit) := goodIn_app (goodIn_of _ (by decide +kernel)) ggX1_mixPlace_X1_bit
set_option maxRecDepth 20000 in
theorem ggX1_mixPlace_X1_springOf : GoodIn wsX1_mixPlace wsX1_springOf := goodIn_ca (goodIn_r _ [43, 6, 7, 8, 9, 4, 10, 11, 12, 13, 14, 15, 16, 17, 18, 44, 45, 46, 47, 48, 115, 116, 117, 118, 119, 120, 121, 122, 123, 124, 125, 126, 127, 128, 129, 130, 131, 132, 133, 134, 135, 136] (by decide +kernel) (by decide +kernel)) (goodIn_sub (fun _ h => List.mem_cons_of_mem _ (List.mem_append_right _ h)) (by decide +kernel))
set_option maxRecDepth 20000 in
theorem gX1_mixPlace_X1_springOf : GoodIn wsX1_mixPlace (wsV RX1 195 RX1 yX1_springOf wsX1_springOf) := goodIn_app (goodIn_of _ (by decide +kernel)) ggX1_mixPlace_X1_springOf
set_option maxRecDepth 20000 in
theorem ggX1_mixPlace_X1_waterAt : GoodIn wsX1_mixPlace wsX1_waterAt := goodIn_ca (goodIn_r _ [52, 6, 7, 8, 9, 4, 10, 11, 12, 13, 14, 15, 16, 17, 18, 53, 54, 55, 56, 57, 115, 116, 117, 118, 119, 120, 121, 122, 123, 124, 125, 126, 127, 128, 129, 130, 131, 132, 133, 134, 135, 136] (by decide +kernel) (by decide +kernel)) (goodIn_sub (fun _ h => List.mem_cons_of_mem _ (List.mem_append_right _ h)) (by decide +kernel))
set_option maxRecDepth 20000 in
theorem gX1_mixPlace_X1_waterAt : GoodIn wsX1_mixPlace (wsV RX1 198 RX1 yX1_waterAt wsX1_waterAt) := goodIn_app (goodIn_of _ (by decide +kernel)) ggX1_mixPlace_X1_waterAt
set_option maxRecDepth 20000 in
theorem ggX1_mixPlace_X1_lengthAt : GoodIn wsX1_mixPlace wsX1_lengthAt := goodIn_ca (goodIn_r _ [61, 6, 7, 8, 9, 4, 10, 11, 12, 13, 14, 15, 16, 17, 18, 62, 63, 64, 65, 66, 115, 116, 117, 118, 119, 120, 121, 122, 123, 124, 125, 126, 127, 128, 129, 130, 131, 132, 133, 134, 135, 136] (by decide +kernel) (by decide +kernel)) (goodIn_sub (fun _ h => List.mem_cons_of_mem _ (List.mem_append_right _ h)) (by decide +kernel))
set_option maxRecDepth 20000 in
theorem gX1_mixPlace_X1_lengthAt : GoodIn wsX1_mixPlace (wsV RX1 201 RX1 yX1_lengthAt wsX1_lengthAt) := goodIn_app (goodIn_of _ (by decide +kernel)) ggX1_mixPlace_X1_lengthAt
set_option maxRecDepth 20000 in
theorem ggX1_mixPlace_X1_mouthOf : GoodIn wsX1_mixPlace wsX1_mouthOf := goodIn_ca (goodIn_r _ [70, 6, 7, 8, 9, 4, 10, 11, 12, 13, 14, 15, 16, 17, 18, 71, 72, 73, 74, 23, 75, 115, 116, 117, 118, 119, 120, 121, 122, 123, 124, 125, 126, 127, 128, 129, 130, 131, 132, 133, 134, 135, 136] (by decide +kernel) (by decide +kernel)) (goodIn_sub (fun _ h => List.mem_cons_of_mem _ (List.mem_append_right _ h)) (by decide +kernel))
set_option maxRecDepth 20000 in
theorem gX1_mixPlace_X1_mouthOf : GoodIn wsX1_mixPlace (wsV RX1 204 RX1 yX1_mouthOf wsX1_mouthOf) := goodIn_app (goodIn_of _ (by decide +kernel)) ggX1_mixPlace_X1_mouthOf
set_option maxRecDepth 20000 in
theorem ggX1_mixPlace_X1_placesAbove : GoodIn wsX1_mixPlace wsX1_placesAbove := goodIn_ca (goodIn_r _ [79, 6, 7, 8, 9, 4, 10, 11, 12, 13, 14, 15, 16, 17, 18, 80, 81, 82, 83, 84, 85, 86, 87, 23, 75, 115, 116, 117, 118, 119, 120, 121, 122, 123, 124, 125, 126, 127, 128, 129, 130, 131, 132, 133, 134, 135, 136] (by decide +kernel) (by decide +kernel)) (goodIn_sub (fun _ h => List.mem_cons_of_mem _ (List.mem_append_right _ h)) (by decide +kernel))
set_option maxRecDepth 20000 in
theorem gX1_mixPlace_X1_placesAbove : GoodIn wsX1_mixPlace (wsV RX1 207 RX1 yX1_placesAbove wsX1_placesAbove) := goodIn_app (goodIn_of _ (by decide +kernel)) ggX1_mixPlace_X1_placesAbove
set_option maxRecDepth 20000 in
theorem ggX1_mixPlace_X1_nameAt : GoodIn wsX1_mixPlace wsX1_nameAt := goodIn_ca (goodIn_r _ [91, 6, 7, 8, 9, 4, 10, 11, 12, 13, 14, 15, 16, 17, 18, 92, 93, 94, 95, 96, 115, 116, 117, 118, 119, 120, 121, 122, 123, 124, 125, 126, 127, 128, 129, 130, 131, 132, 133, 134, 135, 136] (by decide +kernel) (by decide +kernel)) (goodIn_sub (fun _ h => List.mem_cons_of_mem _ (List.mem_append_right _ h)) (by decide +kernel))
set_option maxRecDepth 20000 in
theorem gX1_mixPlace_X1_nameAt : GoodIn wsX1_mixPlace (wsV RX1 210 RX1 yX1_nameAt wsX1_nameAt) := goodIn_app (goodIn_of _ (by decide +kernel)) ggX1_mixPlace_X1_nameAt
set_option maxRecDepth 20000 in
theorem ggX1_mixPlace_X1_arguing : GoodIn wsX1_mixPlace wsX1_arguing := goodIn_ca (goodIn_r _ [100, 6, 7, 8, 9, 4, 10, 11, 12, 13, 14, 15, 16, 17, 18, 101, 102, 103, 104, 105, 115, 116, 117, 118, 119, 120, 121, 122, 123, 124, 125, 126, 127, 128, 129, 130, 131, 132, 133, 134, 135, 136] (by decide +kernel) (by decide +kernel)) (goodIn_sub (fun _ h => List.mem_cons_of_mem _ (List.mem_append_right _ h)) (by decide +kernel))
set_option maxRecDepth 20000 in
theorem gX1_mixPlace_X1_arguing : GoodIn wsX1_mixPlace (wsV RX1 213 RX1 yX1_arguing wsX1_arguing) := goodIn_app (goodIn_of _ (by decide +kernel)) ggX1_mixPlace_X1_arguing
set_option maxRecDepth 20000 in
theorem ggX1_mixPlace_X1_isArgued : GoodIn wsX1_mixPlace wsX1_isArgued := goodIn_ca (goodIn_r _ [109, 6, 7, 8, 9, 4, 10, 11, 12, 13, 14, 15, 16, 17, 18, 110, 111, 112, 113, 114, 115, 116, 117, 118, 119, 120, 121, 122, 123, 124, 125, 126, 127, 128, 129, 130, 131, 132, 133, 134, 135, 136] (by decide +kernel) (by decide +kernel)) (goodIn_sub (fun _ h => List.mem_cons_of_mem _ (List.mem_append_right _ h)) (by decide +kernel))
set_option maxRecDepth 20000 in
theorem gX1_mixPlace_X1_isArgued : GoodIn wsX1_mixPlace (wsV RX1 216 RX1 yX1_isArgued wsX1_isArgued) := goodIn_app (goodIn_of _ (by decide +kernel)) ggX1_mixPlace_X1_isArgued
theorem dX1_mixPlace_0 : decode cX1_mixPlace 0 = .ok (.lload_n 1, 1) := by decide +kernel
theorem dX1_mixPlace_1 : decode cX1_mixPlace 1 = .ok (.lstore 4, 2) := by decide +kernel
theorem dX1_mixPlace_3 : decode cX1_mixPlace 3 = .ok (.lload 4, 2) := by decide +kernel
theorem dX1_mixPlace_5 : decode cX1_mixPlace 5 = .ok (.aload_n 0, 1) := by decide +kernel
theorem dX1_mixPlace_6 : decode cX1_mixPlace 6 = .ok (.iload_n 3, 1) := by decide +kernel
theorem dX1_mixPlace_7 : decode cX1_mixPlace 7 = .ok (.invokevirtual 185, 3) := by decide +kernel
theorem dX1_mixPlace_10 : decode cX1_mixPlace 10 = .ok (.i2l, 1) := by decide +kernel
theorem dX1_mixPlace_11 : decode cX1_mixPlace 11 = .ok (.invokestatic 162, 3) := by decide +kernel
theorem dX1_mixPlace_14 : decode cX1_mixPlace 14 = .ok (.lstore 4, 2) := by decide +kernel
theorem dX1_mixPlace_16 : decode cX1_mixPlace 16 = .ok (.lload 4, 2) := by decide +kernel
theorem dX1_mixPlace_18 : decode cX1_mixPlace 18 = .ok (.aload_n 0, 1) := by decide +kernel
theorem dX1_mixPlace_19 : decode cX1_mixPlace 19 = .ok (.iload_n 3, 1) := by decide +kernel
theorem dX1_mixPlace_20 : decode cX1_mixPlace 20 = .ok (.invokevirtual 188, 3) := by decide +kernel
theorem dX1_mixPlace_23 : decode cX1_mixPlace 23 = .ok (.invokestatic 191, 3) := by decide +kernel
theorem dX1_mixPlace_26 : decode cX1_mixPlace 26 = .ok (.invokestatic 162, 3) := by decide +kernel
theorem dX1_mixPlace_29 : decode cX1_mixPlace 29 = .ok (.lstore 4, 2) := by decide +kernel
theorem dX1_mixPlace_31 : decode cX1_mixPlace 31 = .ok (.lload 4, 2) := by decide +kernel
theorem dX1_mixPlace_33 : decode cX1_mixPlace 33 = .ok (.aload_n 0, 1) := by decide +kernel
theorem dX1_mixPlace_34 : decode cX1_mixPlace 34 = .ok (.iload_n 3, 1) := by decide +kernel
theorem dX1_mixPlace_35 : decode cX1_mixPlace 35 = .ok (.invokevirtual 195, 3) := by decide +kernel
theorem dX1_mixPlace_38 : decode cX1_mixPlace 38 = .ok (.i2l, 1) := by decide +kernel
theorem dX1_mixPlace_39 : decode cX1_mixPlace 39 = .ok (.invokestatic 162, 3) := by decide +kernel
theorem dX1_mixPlace_42 : decode cX1_mixPlace 42 = .ok (.lstore 4, 2) := by decide +kernel
theorem dX1_mixPlace_44 : decode cX1_mixPlace 44 = .ok (.lload 4, 2) := by decide +kernel
theorem dX1_mixPlace_46 : decode cX1_mixPlace 46 = .ok (.aload_n 0, 1) := by decide +kernel
theorem dX1_mixPlace_47 : decode cX1_mixPlace 47 = .ok (.iload_n 3, 1) := by decide +kernel
theorem dX1_mixPlace_48 : decode cX1_mixPlace 48 = .ok (.invokevirtual 198, 3) := by decide +kernel
theorem dX1_mixPlace_51 : decode cX1_mixPlace 51 = .ok (.i2l, 1) := by decide +kernel
theorem dX1_mixPlace_52 : decode cX1_mixPlace 52 = .ok (.invokestatic 162, 3) := by decide +kernel
theorem dX1_mixPlace_55 : decode cX1_mixPlace 55 = .ok (.lstore 4, 2) := by decide +kernel
theorem dX1_mixPlace_57 : decode cX1_mixPlace 57 = .ok (.lload 4, 2) := by decide +kernel
theorem dX1_mixPlace_59 : decode cX1_mixPlace 59 = .ok (.aload_n 0, 1) := by decide +kernel
theorem dX1_mixPlace_60 : decode cX1_mixPlace 60 = .ok (.iload_n 3, 1) := by decide +kernel
theorem dX1_mixPlace_61 : decode cX1_mixPlace 61 = .ok (.invokevirtual 201, 3) := by decide +kernel
theorem dX1_mixPlace_64 : decode cX1_mixPlace 64 = .ok (.i2l, 1) := by decide +kernel
theorem dX1_mixPlace_65 : decode cX1_mixPlace 65 = .ok (.invokestatic 162, 3) := by decide +kernel
theorem dX1_mixPlace_68 : decode cX1_mixPlace 68 = .ok (.lstore 4, 2) := by decide +kernel
theorem dX1_mixPlace_70 : decode cX1_mixPlace 70 = .ok (.lload 4, 2) := by decide +kernel
theorem dX1_mixPlace_72 : decode cX1_mixPlace 72 = .ok (.aload_n 0, 1) := by decide +kernel
theorem dX1_mixPlace_73 : decode cX1_mixPlace 73 = .ok (.iload_n 3, 1) := by decide +kernel
theorem dX1_mixPlace_74 : decode cX1_mixPlace 74 = .ok (.invokevirtual 204, 3) := by decide +kernel
theorem dX1_mixPlace_77 : decode cX1_mixPlace 77 = .ok (.i2l, 1) := by decide +kernel
theorem dX1_mixPlace_78 : decode cX1_mixPlace 78 = .ok (.invokestatic 162, 3) := by decide +kernel
theorem dX1_mixPlace_81 : decode cX1_mixPlace 81 = .ok (.lstore 4, 2) := by decide +kernel
theorem dX1_mixPlace_83 : decode cX1_mixPlace 83 = .ok (.lload 4, 2) := by decide +kernel
theorem dX1_mixPlace_85 : decode cX1_mixPlace 85 = .ok (.aload_n 0, 1) := by decide +kernel
theorem dX1_mixPlace_86 : decode cX1_mixPlace 86 = .ok (.iload_n 3, 1) := by decide +kernel
theorem dX1_mixPlace_87 : decode cX1_mixPlace 87 = .ok (.invokevirtual 207, 3) := by decide +kernel
theorem dX1_mixPlace_90 : decode cX1_mixPlace 90 = .ok (.i2l, 1) := by decide +kernel
theorem dX1_mixPlace_91 : decode cX1_mixPlace 91 = .ok (.invokestatic 162, 3) := by decide +kernel
theorem dX1_mixPlace_94 : decode cX1_mixPlace 94 = .ok (.lstore 4, 2) := by decide +kernel
theorem dX1_mixPlace_96 : decode cX1_mixPlace 96 = .ok (.lload 4, 2) := by decide +kernel
theorem dX1_mixPlace_98 : decode cX1_mixPlace 98 = .ok (.aload_n 0, 1) := by decide +kernel
theorem dX1_mixPlace_99 : decode cX1_mixPlace 99 = .ok (.iload_n 3, 1) := by decide +kernel
theorem dX1_mixPlace_100 : decode cX1_mixPlace 100 = .ok (.invokevirtual 210, 3) := by decide +kernel
theorem dX1_mixPlace_103 : decode cX1_mixPlace 103 = .ok (.i2l, 1) := by decide +kernel
theorem dX1_mixPlace_104 : decode cX1_mixPlace 104 = .ok (.invokestatic 162, 3) := by decide +kernel
theorem dX1_mixPlace_107 : decode cX1_mixPlace 107 = .ok (.lstore 4, 2) := by decide +kernel
theorem dX1_mixPlace_109 : decode cX1_mixPlace 109 = .ok (.lload 4, 2) := by decide +kernel
theorem dX1_mixPlace_111 : decode cX1_mixPlace 111 = .ok (.aload_n 0, 1) := by decide +kernel
theorem dX1_mixPlace_112 : decode cX1_mixPlace 112 = .ok (.iload_n 3, 1) := by decide +kernel
theorem dX1_mixPlace_113 : decode cX1_mixPlace 113 = .ok (.invokevirtual 213, 3) := by decide +kernel
theorem dX1_mixPlace_116 : decode cX1_mixPlace 116 = .ok (.i2l, 1) := by decide +kernel
theorem dX1_mixPlace_117 : decode cX1_mixPlace 117 = .ok (.invokestatic 162, 3) := by decide +kernel
theorem dX1_mixPlace_120 : decode cX1_mixPlace 120 = .ok (.lstore 4, 2) := by decide +kernel
theorem dX1_mixPlace_122 : decode cX1_mixPlace 122 = .ok (.lload 4, 2) := by decide +kernel
theorem dX1_mixPlace_124 : decode cX1_mixPlace 124 = .ok (.aload_n 0, 1) := by decide +kernel
theorem dX1_mixPlace_125 : decode cX1_mixPlace 125 = .ok (.iload_n 3, 1) := by decide +kernel
theorem dX1_mixPlace_126 : decode cX1_mixPlace 126 = .ok (.invokevirtual 216, 3) := by decide +kernel
theorem dX1_mixPlace_129 : decode cX1_mixPlace 129 = .ok (.invokestatic 191, 3) := by decide +kernel
theorem dX1_mixPlace_132 : decode cX1_mixPlace 132 = .ok (.invokestatic 162, 3) := by decide +kernel
theorem dX1_mixPlace_135 : decode cX1_mixPlace 135 = .ok (.lstore 4, 2) := by decide +kernel
theorem dX1_mixPlace_137 : decode cX1_mixPlace 137 = .ok (.lload 4, 2) := by decide +kernel
theorem dX1_mixPlace_139 : decode cX1_mixPlace 139 = .ok (.lreturn, 1) := by decide +kernel
set_option maxRecDepth 20000 in
theorem ggX1_mixBridge_X1_placeOf : GoodIn wsX1_mixBridge wsX1_placeOf := goodIn_ca (goodIn_r _ [5, 6, 7, 8, 9, 4, 10, 11, 12, 13, 41, 42, 43, 44, 45, 46] (by decide +kernel) (by decide +kernel)) (goodIn_sub (fun _ h => List.mem_cons_of_mem _ (List.mem_append_right _ h)) (by decide +kernel))
set_option maxRecDepth 20000 in
theorem gX1_mixBridge_X1_placeOf : GoodIn wsX1_mixBridge (wsV RX1 219 RX1 yX1_placeOf wsX1_placeOf) := goodIn_app (goodIn_of _ (by decide +kernel)) ggX1_mixBridge_X1_placeOf
set_option maxRecDepth 20000 in
theorem ggX1_mixBridge_X1_mix : GoodIn wsX1_mixBridge wsX1_mix := goodIn_r _ [16, 17] (by decide +kernel) (by decide +kernel)
set_option maxRecDepth 20000 in
theorem gX1_mixBridge_X1_mix : GoodIn wsX1_mixBridge (va_wsS RX1 162 yX1_mix wsX1_mix) := goodIn_app (goodIn_of _ (by decide +kernel)) ggX1_mixBridge_X1_mix
set_option maxRecDepth 20000 in
theorem ggX1_mixBridge_X1_keeps : GoodIn wsX1_mixBridge wsX1_keeps := goodIn_ca (goodIn_r _ [21, 22, 7, 8, 9, 4, 10, 11, 12, 13, 41, 42, 43, 44, 45, 46] (by decide +kernel) (by decide +kernel)) (goodIn_sub (fun _ h => List.mem_cons_of_mem _ (List.mem_append_right _ h)) (by decide +kernel))
set_option maxRecDepth 20000 in
theorem gX1_mixBridge_X1_keeps : GoodIn wsX1_mixBridge (wsV RX1 222 RX1 yX1_keeps wsX1_keeps) := goodIn_app (goodIn_of _ (by decide +kernel)) ggX1_mixBridge_X1_keeps
set_option maxRecDepth 20000 in
theorem ggX1_mixBridge_X1_isInsulted : GoodIn wsX1_mixBridge wsX1_isInsulted := goodIn_ca (goodIn_r _ [26, 7, 8, 9, 4, 10, 11, 12, 13, 27, 28, 29, 30, 22, 31, 6, 32, 33, 34, 35, 36, 37, 41, 42, 43, 44, 45, 46, 47, 48, 49, 50, 51, 52, 53, 54, 55, 56, 57, 58, 59, 60, 61, 62] (by decide +kernel) (by decide +kernel)) (goodIn_sub (fun _ h => List.mem_cons_of_mem _ (List.mem_append_right _ h)) (by decide +kernel))
set_option maxRecDepth 20000 in
theorem gX1_mixBridge_X1_isInsulted : GoodIn wsX1_mixBridge (wsV RX1 225 RX1 yX1_isInsulted wsX1_isInsulted) := goodIn_app (goodIn_of _ (by decide +kernel)) ggX1_mixBridge_X1_isInsulted
set_option maxRecDepth 20000 in
theorem ggX1_mixBridge_X1_bit : GoodIn wsX1_mixBridge wsX1_bit := goodIn_r _ [40] (by decide +kernel) (by decide +kernel)
set_option maxRecDepth 20000 in
theorem gX1_mixBridge_X1_bit : GoodIn wsX1_mixBridge (va_wsS RX1 191 yX1_bit wsX1_bit) := goodIn_app (goodIn_of _ (by decide +kernel)) ggX1_mixBridge_X1_bit
theorem dX1_mixBridge_0 : decode cX1_mixBridge 0 = .ok (.lload_n 1, 1) := by decide +kernel
theorem dX1_mixBridge_1 : decode cX1_mixBridge 1 = .ok (.lstore 4, 2) := by decide +kernel
theorem dX1_mixBridge_3 : decode cX1_mixBridge 3 = .ok (.lload 4, 2) := by decide +kernel
theorem dX1_mixBridge_5 : decode cX1_mixBridge 5 = .ok (.aload_n 0, 1) := by decide +kernel
theorem dX1_mixBridge_6 : decode cX1_mixBridge 6 = .ok (.iload_n 3, 1) := by decide +kernel
theorem dX1_mixBridge_7 : decode cX1_mixBridge 7 = .ok (.invokevirtual 219, 3) := by decide +kernel
theorem dX1_mixBridge_10 : decode cX1_mixBridge 10 = .ok (.i2l, 1) := by decide +kernel
theorem dX1_mixBridge_11 : decode cX1_mixBridge 11 = .ok (.invokestatic 162, 3) := by decide +kernel
theorem dX1_mixBridge_14 : decode cX1_mixBridge 14 = .ok (.lstore 4, 2) := by decide +kernel
theorem dX1_mixBridge_16 : decode cX1_mixBridge 16 = .ok (.lload 4, 2) := by decide +kernel
theorem dX1_mixBridge_18 : decode cX1_mixBridge 18 = .ok (.aload_n 0, 1) := by decide +kernel
theorem dX1_mixBridge_19 : decode cX1_mixBridge 19 = .ok (.iload_n 3, 1) := by decide +kernel
theorem dX1_mixBridge_20 : decode cX1_mixBridge 20 = .ok (.invokevirtual 222, 3) := by decide +kernel
theorem dX1_mixBridge_23 : decode cX1_mixBridge 23 = .ok (.i2l, 1) := by decide +kernel
theorem dX1_mixBridge_24 : decode cX1_mixBridge 24 = .ok (.invokestatic 162, 3) := by decide +kernel
theorem dX1_mixBridge_27 : decode cX1_mixBridge 27 = .ok (.lstore 4, 2) := by decide +kernel
theorem dX1_mixBridge_29 : decode cX1_mixBridge 29 = .ok (.lload 4, 2) := by decide +kernel
theorem dX1_mixBridge_31 : decode cX1_mixBridge 31 = .ok (.aload_n 0, 1) := by decide +kernel
theorem dX1_mixBridge_32 : decode cX1_mixBridge 32 = .ok (.iload_n 3, 1) := by decide +kernel
theorem dX1_mixBridge_33 : decode cX1_mixBridge 33 = .ok (.invokevirtual 225, 3) := by decide +kernel
theorem dX1_mixBridge_36 : decode cX1_mixBridge 36 = .ok (.invokestatic 191, 3) := by decide +kernel
theorem dX1_mixBridge_39 : decode cX1_mixBridge 39 = .ok (.invokestatic 162, 3) := by decide +kernel
theorem dX1_mixBridge_42 : decode cX1_mixBridge 42 = .ok (.lstore 4, 2) := by decide +kernel
theorem dX1_mixBridge_44 : decode cX1_mixBridge 44 = .ok (.lload 4, 2) := by decide +kernel
theorem dX1_mixBridge_46 : decode cX1_mixBridge 46 = .ok (.lreturn, 1) := by decide +kernel
theorem dX1_mix_0 : decode cX1_mix 0 = .ok (.lload_n 0, 1) := by decide +kernel
theorem dX1_mix_1 : decode cX1_mix 1 = .ok (.ldc2_w 228, 3) := by decide +kernel
theorem dX1_mix_4 : decode cX1_mix 4 = .ok (.lmul, 1) := by decide +kernel
theorem dX1_mix_5 : decode cX1_mix 5 = .ok (.lload_n 2, 1) := by decide +kernel
theorem dX1_mix_6 : decode cX1_mix 6 = .ok (.ladd, 1) := by decide +kernel
theorem dX1_mix_7 : decode cX1_mix 7 = .ok (.lreturn, 1) := by decide +kernel
theorem dX1_bit_0 : decode cX1_bit 0 = .ok (.iload_n 0, 1) := by decide +kernel
theorem dX1_bit_1 : decode cX1_bit 1 = .ok (.ifCond .eq 7, 3) := by decide +kernel
theorem dX1_bit_4 : decode cX1_bit 4 = .ok (.lconst 1, 1) := by decide +kernel
theorem dX1_bit_5 : decode cX1_bit 5 = .ok (.goto 4, 3) := by decide +kernel
theorem dX1_bit_8 : decode cX1_bit 8 = .ok (.lconst 0, 1) := by decide +kernel
theorem dX1_bit_9 : decode cX1_bit 9 = .ok (.lreturn, 1) := by decide +kernel
set_option maxRecDepth 20000 in
theorem ggX1_suffersInsult_X0_nameOf : GoodIn wsX1_suffersInsult wsX0_nameOf := goodIn_r _ [8, 9, 16, 17, 18, 19, 20, 21, 22, 23, 24, 25, 26, 27, 28, 29, 30, 31] (by decide +kernel) (by decide +kernel)
set_option maxRecDepth 20000 in
theorem gX1_suffersInsult_X0_nameOf : GoodIn wsX1_suffersInsult (wsV RX1 100 RX0 yX0_nameOf wsX0_nameOf) := goodIn_app (goodIn_of _ (by decide +kernel)) ggX1_suffersInsult_X0_nameOf
theorem dX1_suffersInsult_0 : decode cX1_suffersInsult 0 = .ok (.aload_n 0, 1) := by decide +kernel
theorem dX1_suffersInsult_1 : decode cX1_suffersInsult 1 = .ok (.getfield 23, 3) := by decide +kernel
theorem dX1_suffersInsult_4 : decode cX1_suffersInsult 4 = .ok (.iload_n 1, 1) := by decide +kernel
theorem dX1_suffersInsult_5 : decode cX1_suffersInsult 5 = .ok (.iaload, 1) := by decide +kernel
theorem dX1_suffersInsult_6 : decode cX1_suffersInsult 6 = .ok (.istore_n 2, 1) := by decide +kernel
theorem dX1_suffersInsult_7 : decode cX1_suffersInsult 7 = .ok (.iload_n 2, 1) := by decide +kernel
theorem dX1_suffersInsult_8 : decode cX1_suffersInsult 8 = .ok (.iconst (-1), 1) := by decide +kernel
theorem dX1_suffersInsult_9 : decode cX1_suffersInsult 9 = .ok (.if_icmp .eq 24, 3) := by decide +kernel
theorem dX1_suffersInsult_12 : decode cX1_suffersInsult 12 = .ok (.iload_n 2, 1) := by decide +kernel
theorem dX1_suffersInsult_13 : decode cX1_suffersInsult 13 = .ok (.aload_n 0, 1) := by decide +kernel
theorem dX1_suffersInsult_14 : decode cX1_suffersInsult 14 = .ok (.getfield 10, 3) := by decide +kernel
theorem dX1_suffersInsult_17 : decode cX1_suffersInsult 17 = .ok (.aload_n 0, 1) := by decide +kernel
theorem dX1_suffersInsult_18 : decode cX1_suffersInsult 18 = .ok (.getfield 19, 3) := by decide +kernel
theorem dX1_suffersInsult_21 : decode cX1_suffersInsult 21 = .ok (.iload_n 1, 1) := by decide +kernel
theorem dX1_suffersInsult_22 : decode cX1_suffersInsult 22 = .ok (.iaload, 1) := by decide +kernel
theorem dX1_suffersInsult_23 : decode cX1_suffersInsult 23 = .ok (.invokevirtual 100, 3) := by decide +kernel
theorem dX1_suffersInsult_26 : decode cX1_suffersInsult 26 = .ok (.if_icmp .eq 7, 3) := by decide +kernel
theorem dX1_suffersInsult_29 : decode cX1_suffersInsult 29 = .ok (.iconst 1, 1) := by decide +kernel
theorem dX1_suffersInsult_30 : decode cX1_suffersInsult 30 = .ok (.goto 4, 3) := by decide +kernel
theorem dX1_suffersInsult_33 : decode cX1_suffersInsult 33 = .ok (.iconst 0, 1) := by decide +kernel
theorem dX1_suffersInsult_34 : decode cX1_suffersInsult 34 = .ok (.ireturn, 1) := by decide +kernel
set_option maxRecDepth 20000 in
theorem ggX1_countInsults_X1_suffersInsult : GoodIn wsX1_countInsults wsX1_suffersInsult := goodIn_r _ [6, 7, 8, 9, 10, 11, 12, 13, 14, 15, 16, 17, 18, 19, 20, 21, 22, 23, 24, 25, 26, 27, 28, 29, 30, 31, 32, 33, 34, 35, 36, 37] (by decide +kernel) (by decide +kernel)
set_option maxRecDepth 20000 in
theorem gX1_countInsults_X1_suffersInsult : GoodIn wsX1_countInsults (wsV RX1 146 RX1 yX1_suffersInsult wsX1_suffersInsult) := goodIn_app (goodIn_of _ (by decide +kernel)) ggX1_countInsults_X1_suffersInsult
theorem dX1_countInsults_0 : decode cX1_countInsults 0 = .ok (.iconst 0, 1) := by decide +kernel
theorem dX1_countInsults_1 : decode cX1_countInsults 1 = .ok (.istore_n 1, 1) := by decide +kernel
theorem dX1_countInsults_2 : decode cX1_countInsults 2 = .ok (.iconst 0, 1) := by decide +kernel
theorem dX1_countInsults_3 : decode cX1_countInsults 3 = .ok (.istore_n 2, 1) := by decide +kernel
theorem dX1_countInsults_4 : decode cX1_countInsults 4 = .ok (.iload_n 2, 1) := by decide +kernel
theorem dX1_countInsults_5 : decode cX1_countInsults 5 = .ok (.aload_n 0, 1) := by decide +kernel
theorem dX1_countInsults_6 : decode cX1_countInsults 6 = .ok (.getfield 26, 3) := by decide +kernel
theorem dX1_countInsults_9 : decode cX1_countInsults 9 = .ok (.if_icmp .ge 20, 3) := by decide +kernel
theorem dX1_countInsults_12 : decode cX1_countInsults 12 = .ok (.aload_n 0, 1) := by decide +kernel
theorem dX1_countInsults_13 : decode cX1_countInsults 13 = .ok (.iload_n 2, 1) := by decide +kernel
theorem dX1_countInsults_14 : decode cX1_countInsults 14 = .ok (.invokevirtual 146, 3) := by decide +kernel
theorem dX1_countInsults_17 : decode cX1_countInsults 17 = .ok (.ifCond .eq 6, 3) := by decide +kernel
theorem dX1_countInsults_20 : decode cX1_countInsults 20 = .ok (.iinc 1 1, 3) := by decide +kernel
theorem dX1_countInsults_23 : decode cX1_countInsults 23 = .ok (.iinc 2 1, 3) := by decide +kernel
theorem dX1_countInsults_26 : decode cX1_countInsults 26 = .ok (.goto (-22), 3) := by decide +kernel
theorem dX1_countInsults_29 : decode cX1_countInsults 29 = .ok (.iload_n 1, 1) := by decide +kernel
theorem dX1_countInsults_30 : decode cX1_countInsults 30 = .ok (.ireturn, 1) := by decide +kernel
theorem dX1_isWithin_0 : decode cX1_isWithin 0 = .ok (.iload_n 0, 1) := by decide +kernel
theorem dX1_isWithin_1 : decode cX1_isWithin 1 = .ok (.iload_n 1, 1) := by decide +kernel
theorem dX1_isWithin_2 : decode cX1_isWithin 2 = .ok (.if_icmp .lt 12, 3) := by decide +kernel
theorem dX1_isWithin_5 : decode cX1_isWithin 5 = .ok (.iload_n 0, 1) := by decide +kernel
theorem dX1_isWithin_6 : decode cX1_isWithin 6 = .ok (.iload_n 2, 1) := by decide +kernel
theorem dX1_isWithin_7 : decode cX1_isWithin 7 = .ok (.if_icmp .gt 7, 3) := by decide +kernel
theorem dX1_isWithin_10 : decode cX1_isWithin 10 = .ok (.iconst 1, 1) := by decide +kernel
theorem dX1_isWithin_11 : decode cX1_isWithin 11 = .ok (.goto 4, 3) := by decide +kernel
theorem dX1_isWithin_14 : decode cX1_isWithin 14 = .ok (.iconst 0, 1) := by decide +kernel
theorem dX1_isWithin_15 : decode cX1_isWithin 15 = .ok (.ireturn, 1) := by decide +kernel
set_option maxRecDepth 20000 in
theorem ggX1_requirePlace_X0_isPlace : GoodIn wsX1_requirePlace wsX0_isPlace := goodIn_r _ [8, 9, 16, 17, 18, 19, 20, 21, 22, 23, 24, 25, 26, 27, 28, 29, 30, 31] (by decide +kernel) (by decide +kernel)
set_option maxRecDepth 20000 in
theorem gX1_requirePlace_X0_isPlace : GoodIn wsX1_requirePlace (wsV RX1 230 RX0 yX0_isPlace wsX0_isPlace) := goodIn_app (goodIn_of _ (by decide +kernel)) ggX1_requirePlace_X0_isPlace
theorem dX1_requirePlace_0 : decode cX1_requirePlace 0 = .ok (.aload_n 0, 1) := by decide +kernel
theorem dX1_requirePlace_1 : decode cX1_requirePlace 1 = .ok (.getfield 10, 3) := by decide +kernel
theorem dX1_requirePlace_4 : decode cX1_requirePlace 4 = .ok (.iload_n 1, 1) := by decide +kernel
theorem dX1_requirePlace_5 : decode cX1_requirePlace 5 = .ok (.invokevirtual 230, 3) := by decide +kernel
theorem dX1_requirePlace_8 : decode cX1_requirePlace 8 = .ok (.ifCond .ne 13, 3) := by decide +kernel
theorem dX1_requirePlace_11 : decode cX1_requirePlace 11 = .ok (.new 233, 3) := by decide +kernel
theorem dX1_requirePlace_14 : decode cX1_requirePlace 14 = .ok (.dup, 1) := by decide +kernel
theorem dX1_requirePlace_15 : decode cX1_requirePlace 15 = .ok (.ldc 235, 2) := by decide +kernel
theorem dX1_requirePlace_17 : decode cX1_requirePlace 17 = .ok (.invokespecial 237, 3) := by decide +kernel
theorem dX1_requirePlace_20 : decode cX1_requirePlace 20 = .ok (.athrow, 1) := by decide +kernel
theorem dX1_requirePlace_21 : decode cX1_requirePlace 21 = .ok (.return_, 1) := by decide +kernel
theorem dX1_requireBridge_0 : decode cX1_requireBridge 0 = .ok (.iload_n 1, 1) := by decide +kernel
theorem dX1_requireBridge_1 : decode cX1_requireBridge 1 = .ok (.ifCond .lt 11, 3) := by decide +kernel
theorem dX1_requireBridge_4 : decode cX1_requireBridge 4 = .ok (.iload_n 1, 1) := by decide +kernel
theorem dX1_requireBridge_5 : decode cX1_requireBridge 5 = .ok (.aload_n 0, 1) := by decide +kernel
theorem dX1_requireBridge_6 : decode cX1_requireBridge 6 = .ok (.getfield 26, 3) := by decide +kernel
theorem dX1_requireBridge_9 : decode cX1_requireBridge 9 = .ok (.if_icmp .lt 13, 3) := by decide +kernel
theorem dX1_requireBridge_12 : decode cX1_requireBridge 12 = .ok (.new 233, 3) := by decide +kernel
theorem dX1_requireBridge_15 : decode cX1_requireBridge 15 = .ok (.dup, 1) := by decide +kernel
theorem dX1_requireBridge_16 : decode cX1_requireBridge 16 = .ok (.ldc 238, 2) := by decide +kernel
theorem dX1_requireBridge_18 : decode cX1_requireBridge 18 = .ok (.invokespecial 237, 3) := by decide +kernel
theorem dX1_requireBridge_21 : decode cX1_requireBridge 21 = .ok (.athrow, 1) := by decide +kernel
theorem dX1_requireBridge_22 : decode cX1_requireBridge 22 = .ok (.return_, 1) := by decide +kernel
set_option maxRecDepth 20000 in
theorem ggX1_requireRoomForPlace_X0_size : GoodIn wsX1_requireRoomForPlace wsX0_size := goodIn_r _ [8, 9, 16, 17, 18, 19, 20, 21, 22, 23, 24, 25, 26, 27, 28, 29, 30, 31] (by decide +kernel) (by decide +kernel)
set_option maxRecDepth 20000 in
theorem gX1_requireRoomForPlace_X0_size : GoodIn wsX1_requireRoomForPlace (wsV RX1 112 RX0 yX0_size wsX0_size) := goodIn_app (goodIn_of _ (by decide +kernel)) ggX1_requireRoomForPlace_X0_size
theorem dX1_requireRoomForPlace_0 : decode cX1_requireRoomForPlace 0 = .ok (.aload_n 0, 1) := by decide +kernel
theorem dX1_requireRoomForPlace_1 : decode cX1_requireRoomForPlace 1 = .ok (.getfield 10, 3) := by decide +kernel
theorem dX1_requireRoomForPlace_4 : decode cX1_requireRoomForPlace 4 = .ok (.invokevirtual 112, 3) := by decide +kernel
theorem dX1_requireRoomForPlace_7 : decode cX1_requireRoomForPlace 7 = .ok (.bipush 16, 2) := by decide +kernel
theorem dX1_requireRoomForPlace_9 : decode cX1_requireRoomForPlace 9 = .ok (.if_icmp .lt 13, 3) := by decide +kernel
theorem dX1_requireRoomForPlace_12 : decode cX1_requireRoomForPlace 12 = .ok (.new 64, 3) := by decide +kernel
theorem dX1_requireRoomForPlace_15 : decode cX1_requireRoomForPlace 15 = .ok (.dup, 1) := by decide +kernel
theorem dX1_requireRoomForPlace_16 : decode cX1_requireRoomForPlace 16 = .ok (.ldc 240, 2) := by decide +kernel
theorem dX1_requireRoomForPlace_18 : decode cX1_requireRoomForPlace 18 = .ok (.invokespecial 68, 3) := by decide +kernel
theorem dX1_requireRoomForPlace_21 : decode cX1_requireRoomForPlace 21 = .ok (.athrow, 1) := by decide +kernel
theorem dX1_requireRoomForPlace_22 : decode cX1_requireRoomForPlace 22 = .ok (.return_, 1) := by decide +kernel
set_option maxRecDepth 20000 in
theorem ggX1_requireName_X1_isWithin : GoodIn wsX1_requireName wsX1_isWithin := goodIn_r _ [6] (by decide +kernel) (by decide +kernel)
set_option maxRecDepth 20000 in
theorem gX1_requireName_X1_isWithin : GoodIn wsX1_requireName (va_wsS RX1 44 yX1_isWithin wsX1_isWithin) := goodIn_app (goodIn_of _ (by decide +kernel)) ggX1_requireName_X1_isWithin
theorem dX1_requireName_0 : decode cX1_requireName 0 = .ok (.iload_n 0, 1) := by decide +kernel
theorem dX1_requireName_1 : decode cX1_requireName 1 = .ok (.iconst 0, 1) := by decide +kernel
theorem dX1_requireName_2 : decode cX1_requireName 2 = .ok (.bipush 9, 2) := by decide +kernel
theorem dX1_requireName_4 : decode cX1_requireName 4 = .ok (.invokestatic 44, 3) := by decide +kernel
theorem dX1_requireName_7 : decode cX1_requireName 7 = .ok (.ifCond .ne 13, 3) := by decide +kernel
theorem dX1_requireName_10 : decode cX1_requireName 10 = .ok (.new 233, 3) := by decide +kernel
theorem dX1_requireName_13 : decode cX1_requireName 13 = .ok (.dup, 1) := by decide +kernel
theorem dX1_requireName_14 : decode cX1_requireName 14 = .ok (.ldc 242, 2) := by decide +kernel
theorem dX1_requireName_16 : decode cX1_requireName 16 = .ok (.invokespecial 237, 3) := by decide +kernel
theorem dX1_requireName_19 : decode cX1_requireName 19 = .ok (.athrow, 1) := by decide +kernel
theorem dX1_requireName_20 : decode cX1_requireName 20 = .ok (.return_, 1) := by decide +kernel
set_option maxRecDepth 20000 in
theorem ggX1_requireYears_X1_isWithin : GoodIn wsX1_requireYears wsX1_isWithin := goodIn_r _ [6] (by decide +kernel) (by decide +kernel)
set_option maxRecDepth 20000 in
theorem gX1_requireYears_X1_isWithin : GoodIn wsX1_requireYears (va_wsS RX1 44 yX1_isWithin wsX1_isWithin) := goodIn_app (goodIn_of _ (by decide +kernel)) ggX1_requireYears_X1_isWithin
theorem dX1_requireYears_0 : decode cX1_requireYears 0 = .ok (.iload_n 0, 1) := by decide +kernel
theorem dX1_requireYears_1 : decode cX1_requireYears 1 = .ok (.iconst 1, 1) := by decide +kernel
theorem dX1_requireYears_2 : decode cX1_requireYears 2 = .ok (.bipush 50, 2) := by decide +kernel
theorem dX1_requireYears_4 : decode cX1_requireYears 4 = .ok (.invokestatic 44, 3) := by decide +kernel
theorem dX1_requireYears_7 : decode cX1_requireYears 7 = .ok (.ifCond .ne 13, 3) := by decide +kernel
theorem dX1_requireYears_10 : decode cX1_requireYears 10 = .ok (.new 48, 3) := by decide +kernel
theorem dX1_requireYears_13 : decode cX1_requireYears 13 = .ok (.dup, 1) := by decide +kernel
theorem dX1_requireYears_14 : decode cX1_requireYears 14 = .ok (.ldc 244, 2) := by decide +kernel
theorem dX1_requireYears_16 : decode cX1_requireYears 16 = .ok (.invokespecial 52, 3) := by decide +kernel
theorem dX1_requireYears_19 : decode cX1_requireYears 19 = .ok (.athrow, 1) := by decide +kernel
theorem dX1_requireYears_20 : decode cX1_requireYears 20 = .ok (.return_, 1) := by decide +kernel
