set_option maxRecDepth 20000 in
theorem wsL_in_r1 : ∀ w ∈ wsL_law0_r1, w ∈ lw_tbl := fun w h => (goodIn_p wsL_law0_r1 [212, 29, 32] (by decide +kernel) (by decide +kernel) w h).1
set_option maxRecDepth 20000 in
theorem wsL_in_r2 : ∀ w ∈ wsL_law0_r2, w ∈ lw_tbl := fun w h => (goodIn_p wsL_law0_r2 [37] (by decide +kernel) (by decide +kernel) w h).1
set_option maxRecDepth 20000 in
theorem wsL_in_r3 : ∀ w ∈ wsL_law0_r3, w ∈ lw_tbl := fun w h => (goodIn_p wsL_law0_r3 [642, 646, 567, 563, 575] (by decide +kernel) (by decide +kernel) w h).1
set_option maxRecDepth 20000 in
theorem wsL_in_r4 : ∀ w ∈ wsL_law0_r4, w ∈ lw_tbl := fun w h => (goodIn_p wsL_law0_r4 [608, 378, 223, 584, 282] (by decide +kernel) (by decide +kernel) w h).1
set_option maxRecDepth 20000 in
theorem wsL_in_r5 : ∀ w ∈ wsL_law0_r5, w ∈ lw_tbl := fun w h => (goodIn_p wsL_law0_r5 [614, 196, 200, 204, 208, 120] (by decide +kernel) (by decide +kernel) w h).1
set_option maxRecDepth 20000 in
theorem wsL_in_r6 : ∀ w ∈ wsL_law0_r6, w ∈ lw_tbl := fun w h => (goodIn_p wsL_law0_r6 [580, 604, 531, 619, 116, 338] (by decide +kernel) (by decide +kernel) w h).1
set_option maxRecDepth 20000 in
theorem wsL_in_r7 : ∀ w ∈ wsL_law0_r7, w ∈ lw_tbl := fun w h => (goodIn_p wsL_law0_r7 [290, 625, 629, 220, 243, 247] (by decide +kernel) (by decide +kernel) w h).1
def wsL_law0_r8a : List Cond := [Cond.methodLink RL 85 yL_act, Cond.static yL_act]
set_option maxRecDepth 20000 in
theorem wsL_in_r8a : ∀ w ∈ wsL_law0_r8a, w ∈ lw_tbl := fun w h => (goodIn_p wsL_law0_r8a [] (by decide +kernel) (by decide +kernel) w h).1
def wsL_law0_r8b : List Cond := [Cond.classLink RL 74 "java/lang/IllegalStateException", Cond.fieldLink RL 54 "RiverNamesLaw$Sim" "bridges" "[[I", Cond.methodLink RL 42 yX1_turnDelta, Cond.instanceMethod yX1_turnDelta, Cond.selects RX1 yX1_turnDelta yX1_turnDelta, Cond.code yX1_turnDelta cX1_turnDelta 2 (some .boolean), Cond.methodLink RX1 83 yX0_toggleDelta, Cond.instanceMethod yX0_toggleDelta, Cond.selects RX0 yX0_toggleDelta yX0_toggleDelta, Cond.code yX0_toggleDelta cX0_toggleDelta 2 none, Cond.methodLink RX1 86 yX0_isDelta, Cond.instanceMethod yX0_isDelta, Cond.selects RX0 yX0_isDelta yX0_isDelta, Cond.code yX0_isDelta cX0_isDelta 2 (some .boolean), Cond.methodLink RL 57 yX2_names, Cond.instanceMethod yX2_names, Cond.selects RX2 yX2_names yX2_names, Cond.code yX2_names cX2_names 1 (some (.array .int)), Cond.methodLink RX2 51 yX2_flow, Cond.instanceMethod yX2_flow, Cond.selects RX2 yX2_flow yX2_flow]
set_option maxRecDepth 20000 in
theorem wsL_in_r8b : ∀ w ∈ wsL_law0_r8b, w ∈ lw_tbl := fun w h => (goodIn_p wsL_law0_r8b [112, 192, 216, 633] (by decide +kernel) (by decide +kernel) w h).1
set_option maxRecDepth 20000 in
theorem wsL_in_r8c : Cond.codeWith yL_act cL_act 9 (some .boolean) [(36, 158, 602, 74), (159, 264, 602, 74), (265, 270, 602, 74), (271, 356, 602, 74), (357, 362, 602, 74), (363, 418, 602, 74), (419, 457, 602, 74), (458, 463, 602, 74), (464, 541, 602, 74), (542, 601, 602, 74)] ∈ lw_tbl := List.mem_of_getElem? (i := 571) rfl
theorem wsL_in_r8 : ∀ w ∈ wsL_law0_r8, w ∈ lw_tbl := fun w h => (List.mem_append.mp (show w ∈ wsL_law0_r8a ++ ((Cond.codeWith yL_act cL_act 9 (some .boolean) [(36, 158, 602, 74), (159, 264, 602, 74), (265, 270, 602, 74), (271, 356, 602, 74), (357, 362, 602, 74), (363, 418, 602, 74), (419, 457, 602, 74), (458, 463, 602, 74), (464, 541, 602, 74), (542, 601, 602, 74)]) :: wsL_law0_r8b) from h)).elim (wsL_in_r8a w) (fun h => (List.mem_cons.mp h).elim (fun e => e ▸ wsL_in_r8c) (wsL_in_r8b w))
set_option maxRecDepth 20000 in
theorem wsL_in_r9 : ∀ w ∈ wsL_law0_r9, w ∈ lw_tbl := fun w h => (goodIn_p wsL_law0_r9 [508, 514, 519, 523, 527, 637] (by decide +kernel) (by decide +kernel) w h).1
set_option maxRecDepth 20000 in
theorem wsL_in_r10 : ∀ w ∈ wsL_law0_r10, w ∈ lw_tbl := fun w h => (goodIn_p wsL_law0_r10 [274, 500, 251, 254, 259, 262] (by decide +kernel) (by decide +kernel) w h).1
set_option maxRecDepth 20000 in
theorem wsL_in_r11 : ∀ w ∈ wsL_law0_r11, w ∈ lw_tbl := fun w h => (goodIn_p wsL_law0_r11 [266, 270, 557, 460, 464, 387] (by decide +kernel) (by decide +kernel) w h).1
set_option maxRecDepth 20000 in
theorem wsL_in_r12 : ∀ w ∈ wsL_law0_r12, w ∈ lw_tbl := fun w h => (goodIn_p wsL_law0_r12 [383, 391, 436, 306, 428, 440] (by decide +kernel) (by decide +kernel) w h).1
set_option maxRecDepth 20000 in
theorem wsL_in_r13 : ∀ w ∈ wsL_law0_r13, w ∈ lw_tbl := fun w h => (goodIn_p wsL_law0_r13 [444, 452, 473, 286, 294, 298] (by decide +kernel) (by decide +kernel) w h).1
set_option maxRecDepth 20000 in
theorem wsL_in_r14 : ∀ w ∈ wsL_law0_r14, w ∈ lw_tbl := fun w h => (goodIn_p wsL_law0_r14 [478, 302, 310, 314, 318, 322] (by decide +kernel) (by decide +kernel) w h).1
set_option maxRecDepth 20000 in
theorem wsL_in_r15 : ∀ w ∈ wsL_law0_r15, w ∈ lw_tbl := fun w h => (goodIn_p wsL_law0_r15 [326, 330, 342, 355, 359, 363] (by decide +kernel) (by decide +kernel) w h).1
set_option maxRecDepth 20000 in
theorem wsL_in_r16 : ∀ w ∈ wsL_law0_r16, w ∈ lw_tbl := fun w h => (goodIn_p wsL_law0_r16 [367, 371, 490, 399, 403, 408] (by decide +kernel) (by decide +kernel) w h).1
set_option maxRecDepth 20000 in
theorem wsL_in_r17 : ∀ w ∈ wsL_law0_r17, w ∈ lw_tbl := fun w h => (goodIn_p wsL_law0_r17 [412, 278, 375, 334, 346] (by decide +kernel) (by decide +kernel) w h).1
set_option maxRecDepth 20000 in
theorem wsL_in_r18 : ∀ w ∈ wsL_law0_r18, w ∈ lw_tbl := fun w h => (goodIn_p wsL_law0_r18 [350, 456, 395] (by decide +kernel) (by decide +kernel) w h).1
set_option maxRecDepth 20000 in
theorem wsL_in_r19 : ∀ w ∈ wsL_law0_r19, w ∈ lw_tbl := fun w h => (goodIn_p wsL_law0_r19 [420, 416, 666, 448, 496, 424] (by decide +kernel) (by decide +kernel) w h).1
def wsL_law0_r20a : List Cond := [Cond.selects RX1 yX1_yearsUntilRenamed yX1_yearsUntilRenamed, Cond.code yX1_yearsUntilRenamed cX1_yearsUntilRenamed 3 (some .int), Cond.methodLink RL 185 yX2_isSame, Cond.instanceMethod yX2_isSame, Cond.selects RX2 yX2_isSame yX2_isSame]
set_option maxRecDepth 20000 in
theorem wsL_in_r20a : ∀ w ∈ wsL_law0_r20a, w ∈ lw_tbl := fun w h => (goodIn_p wsL_law0_r20a [432] (by decide +kernel) (by decide +kernel) w h).1
def wsL_law0_r20b : List Cond := [Cond.methodLink RX2 55 yX2_isAbove, Cond.methodLink RX2 59 yX1_leadsTo, Cond.methodLink RX2 65 yX1_hasSpring, Cond.methodLink RX2 68 yX1_springOf, Cond.methodLink RX2 71 yX1_waterAt, Cond.methodLink RX2 74 yX1_lengthAt, Cond.methodLink RX2 77 yX1_mouthOf, Cond.methodLink RX2 80 yX1_placesAbove, Cond.methodLink RX2 83 yX1_nameAt, Cond.methodLink RX2 86 yX1_arguing, Cond.methodLink RX2 89 yX1_isArgued, Cond.methodLink RX2 92 yX1_insultsAt, Cond.methodLink RX2 95 yX1_placesNamed, Cond.methodLink RX2 98 yX1_placeOf, Cond.methodLink RX2 101 yX1_keeps, Cond.methodLink RX2 104 yX1_isInsulted, Cond.methodLink RX2 107 yX1_year, Cond.instanceMethod yX1_year]
set_option maxRecDepth 20000 in
theorem wsL_in_r20b : ∀ w ∈ wsL_law0_r20b, w ∈ lw_tbl := fun w h => (goodIn_p wsL_law0_r20b [] (by decide +kernel) (by decide +kernel) w h).1
set_option maxRecDepth 20000 in
theorem wsL_in_r20c : Cond.code yX2_isSame cX2_isSame 19 (some .boolean) ∈ lw_tbl := List.mem_of_getElem? (i := 504) rfl
theorem wsL_in_r20 : ∀ w ∈ wsL_law0_r20, w ∈ lw_tbl := fun w h => (List.mem_append.mp (show w ∈ wsL_law0_r20a ++ ((Cond.code yX2_isSame cX2_isSame 19 (some .boolean)) :: wsL_law0_r20b) from h)).elim (wsL_in_r20a w) (fun h => (List.mem_cons.mp h).elim (fun e => e ▸ wsL_in_r20c) (wsL_in_r20b w))
set_option maxRecDepth 20000 in
theorem wsL_in_r21 : ∀ w ∈ wsL_law0_r21, w ∈ lw_tbl := fun w h => (goodIn_p wsL_law0_r21 [550] (by decide +kernel) (by decide +kernel) w h).1
set_option maxRecDepth 20000 in
theorem wsL_in_wsX10 : ∀ w ∈ wsX10, w ∈ lw_tbl := fun w h => (goodIn_p wsX10 [] (by decide +kernel) (by decide +kernel) w h).1
set_option maxRecDepth 20000 in
theorem wsL_in_wsX20 : ∀ w ∈ wsX20, w ∈ lw_tbl := fun w h => (goodIn_p wsX20 [] (by decide +kernel) (by decide +kernel) w h).1
set_option maxRecDepth 20000 in
theorem wsL_in_wsX00 : ∀ w ∈ wsX00, w ∈ lw_tbl := fun w h => (goodIn_p wsX00 [] (by decide +kernel) (by decide +kernel) w h).1
theorem wsL_law_in0 : ∀ w ∈ wsL_law0, w ∈ lw_tbl := fun w h => (List.mem_append.mp h).elim (fun h => (List.mem_append.mp h).elim (fun h => (List.mem_append.mp h).elim (fun h => (List.mem_append.mp h).elim (fun h => (List.mem_append.mp h).elim (wsL_in_r1 w) (fun h => (List.mem_append.mp h).elim (wsL_in_r2 w) (fun h => (List.mem_append.mp h).elim (wsL_in_r3 w) (fun h => (List.mem_append.mp h).elim (wsL_in_r4 w) (fun h => (List.mem_append.mp h).elim (wsL_in_r5 w) (fun h => (List.mem_append.mp h).elim (wsL_in_r6 w) (fun h => (List.mem_append.mp h).elim (wsL_in_r7 w) (fun h => (List.mem_append.mp h).elim (wsL_in_r8 w) (fun h => (List.mem_append.mp h).elim (wsL_in_r9 w) (fun h => (List.mem_append.mp h).elim (wsL_in_r10 w) (fun h => (List.mem_append.mp h).elim (wsL_in_r11 w) (fun h => (List.mem_append.mp h).elim (wsL_in_r12 w) (fun h => (List.mem_append.mp h).elim (wsL_in_r13 w) (fun h => (List.mem_append.mp h).elim (wsL_in_r14 w) (fun h => (List.mem_append.mp h).elim (wsL_in_r15 w) (fun h => (List.mem_append.mp h).elim (wsL_in_r16 w) (fun h => (List.mem_append.mp h).elim (wsL_in_r17 w) (fun h => (List.mem_append.mp h).elim (wsL_in_r18 w) (fun h => (List.mem_append.mp h).elim (wsL_in_r19 w) (fun h => (List.mem_append.mp h).elim (wsL_in_r20 w) (fun h => wsL_in_r21 w h))))))))))))))))))))) (wsL_in_wsX10 w)) (wsL_in_wsX20 w)) (wsL_in_wsX00 w)) (fun h => nomatch h)
theorem wsL_law_x0 : ∀ w ∈ (vx_atS RX1 52 "java/lang/IllegalArgumentException" ["java/lang/RuntimeException", "java/lang/Exception"]).filter goodWord, w ∈ lw_tbl := by decide +kernel
theorem wsL_law_x1 : ∀ w ∈ (vx_atS RX1 237 "java/lang/IndexOutOfBoundsException" ["java/lang/RuntimeException", "java/lang/Exception"]).filter goodWord, w ∈ lw_tbl := by decide +kernel
theorem wsL_law_x2 : ∀ w ∈ (vx_atS RX1 68 "java/lang/IllegalStateException" ["java/lang/RuntimeException", "java/lang/Exception"]).filter goodWord, w ∈ lw_tbl := by decide +kernel
theorem wsL_law_in : ∀ w ∈ wsL_law, w ∈ lw_tbl := fun w h => (List.mem_append.mp h).elim (fun h => (List.mem_append.mp h).elim (fun h => (List.mem_append.mp h).elim (fun h => wsL_law_in0 w h) (fun h => wsL_law_x0 w h)) (fun h => wsL_law_x1 w h)) (fun h => wsL_law_x2 w h)
theorem inlX0 : ∀ w ∈ wsX00, w ∈ wsL_law := fun _ h => List.mem_append_left _ (List.mem_append_left _ (List.mem_append_left _ (List.mem_append_left _ (List.mem_append_right _ h))))
theorem inX0 : ∀ w ∈ wsX00, w ∈ lw_tbl := fun w h => wsL_law_in w (inlX0 w h)
theorem inlX1 : ∀ w ∈ wsX10, w ∈ wsL_law := fun _ h => List.mem_append_left _ (List.mem_append_left _ (List.mem_append_left _ (List.mem_append_left _ (List.mem_append_left _ (List.mem_append_left _ (List.mem_append_right _ h))))))
theorem inX1 : ∀ w ∈ wsX10, w ∈ lw_tbl := fun w h => wsL_law_in w (inlX1 w h)
theorem inlX2 : ∀ w ∈ wsX20, w ∈ wsL_law := fun _ h => List.mem_append_left _ (List.mem_append_left _ (List.mem_append_left _ (List.mem_append_left _ (List.mem_append_left _ (List.mem_append_right _ h)))))
theorem inX2 : ∀ w ∈ wsX20, w ∈ lw_tbl := fun w h => wsL_law_in w (inlX2 w h)
theorem inJ9 : ∀ w ∈ wsJ90, w ∈ lw_tbl := by decide +kernel
theorem inJ0 : ∀ w ∈ wsJ00, w ∈ lw_tbl := by decide +kernel
