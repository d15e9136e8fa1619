set_option maxRecDepth 20000 in
theorem ggL_law_X1_weightiestSpring : GoodIn wsL_law wsX1_weightiestSpring := goodIn_r _ [274, 17, 18, 90, 91, 92, 16, 93, 28, 275, 276, 277, 278, 35, 279, 280, 281, 282, 29, 30, 31, 33, 34, 36, 37, 283, 284, 285, 286, 98, 99, 100, 101, 102, 103, 104, 105, 38, 39, 40, 41, 42, 43, 44, 106, 107, 108, 109, 110, 111, 112, 113, 114, 4, 5, 6, 115, 116, 117, 118, 287, 288, 289, 290, 489, 490, 491, 492, 493, 494, 499, 500, 501, 502, 503, 504, 505, 506, 507, 508, 509, 510, 511, 512, 513, 514] (by decide +kernel) (by decide +kernel)
set_option maxRecDepth 20000 in
theorem gL_law_X1_weightiestSpring : GoodIn wsL_law (wsV RL 161 RX1 yX1_weightiestSpring wsX1_weightiestSpring) := goodIn_app (goodIn_of _ (by decide +kernel)) ggL_law_X1_weightiestSpring
set_option maxRecDepth 20000 in
theorem ggL_law_X1_insults : GoodIn wsL_law wsX1_insults := goodIn_r _ [438, 238, 239, 240, 2, 241, 22, 242, 243, 244, 245, 21, 17, 20, 215, 216, 217, 16, 218, 40, 489, 490, 491, 492, 493, 494, 499, 500, 501, 502, 503, 504, 505, 506, 507, 508, 509, 510, 511, 512, 513, 514] (by decide +kernel) (by decide +kernel)
set_option maxRecDepth 20000 in
theorem gL_law_X1_insults : GoodIn wsL_law (wsV RL 164 RX1 yX1_insults wsX1_insults) := goodIn_app (goodIn_of _ (by decide +kernel)) ggL_law_X1_insults
set_option maxRecDepth 20000 in
theorem ggL_law_L_names : GoodIn wsL_law wsL_names := goodIn_ca (goodIn_r _ [441, 19, 386, 387, 388, 2, 389, 17, 90, 91, 92, 16, 93, 28, 397, 347, 348, 349, 135, 136, 137, 138, 79, 80, 139, 116, 117, 118, 215, 216, 217, 218, 40, 489, 490, 491, 492, 493, 494, 499, 500, 501, 502, 503, 504, 505, 506, 507, 508, 509, 510, 511, 512, 513, 514] (by decide +kernel) (by decide +kernel)) (goodIn_sub (fun _ h => List.mem_append_left _ (List.mem_append_right _ h)) (by decide +kernel))
set_option maxRecDepth 20000 in
theorem gL_law_L_names : GoodIn wsL_law (va_wsS RL 166 yL_names wsL_names) := goodIn_app (goodIn_of _ (by decide +kernel)) ggL_law_L_names
set_option maxRecDepth 20000 in
theorem ggL_law_L_below : GoodIn wsL_law wsL_below := goodIn_r _ [65, 66] (by decide +kernel) (by decide +kernel)
set_option maxRecDepth 20000 in
theorem gL_law_L_below : GoodIn wsL_law (va_wsS RL 15 yL_below wsL_below) := goodIn_app (goodIn_of _ (by decide +kernel)) ggL_law_L_below
set_option maxRecDepth 20000 in
theorem ggL_law_X1_renamedByDelta : GoodIn wsL_law wsX1_renamedByDelta := goodIn_ca (goodIn_r _ [445, 18, 17, 135, 136, 137, 2, 138, 79, 80, 139, 116, 117, 16, 118, 28, 279, 280, 281, 282, 29, 30, 31, 33, 34, 35, 36, 37, 177, 178, 179, 180, 98, 99, 100, 101, 102, 103, 104, 105, 38, 39, 40, 41, 42, 43, 44, 106, 107, 108, 109, 110, 111, 112, 113, 114, 4, 5, 6, 115, 287, 288, 289, 290, 489, 490, 491, 492, 493, 494, 499, 500, 501, 502, 503, 504, 505, 506, 507, 508, 509, 510, 511, 512, 513, 514] (by decide +kernel) (by decide +kernel)) (goodIn_sub (fun _ h => List.mem_append_left _ (List.mem_append_right _ h)) (by decide +kernel))
set_option maxRecDepth 20000 in
theorem gL_law_X1_renamedByDelta : GoodIn wsL_law (wsV RL 169 RX1 yX1_renamedByDelta wsX1_renamedByDelta) := goodIn_app (goodIn_of _ (by decide +kernel)) ggL_law_X1_renamedByDelta
set_option maxRecDepth 20000 in
theorem ggL_law_X1_turnDelta : GoodIn wsL_law wsX1_turnDelta := goodIn_ca (goodIn_r _ [176, 17, 135, 136, 137, 2, 138, 79, 80, 139, 116, 117, 16, 118, 28, 177, 178, 179, 180, 37, 98, 99, 100, 101, 31, 30, 102, 103, 104, 105, 35, 38, 39, 40, 41, 42, 43, 44, 29, 34, 106, 107, 108, 109, 110, 111, 112, 113, 114, 4, 5, 6, 115, 181, 182, 183, 184, 489, 490, 491, 492, 493, 494, 499, 500, 501, 502, 503, 504, 505, 506, 507, 508, 509, 510, 511, 512, 513, 514] (by decide +kernel) (by decide +kernel)) (goodIn_sub (fun _ h => List.mem_append_left _ (List.mem_append_right _ h)) (by decide +kernel))
set_option maxRecDepth 20000 in
theorem gL_law_X1_turnDelta : GoodIn wsL_law (wsV RL 42 RX1 yX1_turnDelta wsX1_turnDelta) := goodIn_app (goodIn_of _ (by decide +kernel)) ggL_law_X1_turnDelta
set_option maxRecDepth 20000 in
theorem ggL_law_X2_differ : GoodIn wsL_law wsX2_differ := goodIn_r _ [448] (by decide +kernel) (by decide +kernel)
set_option maxRecDepth 20000 in
theorem gL_law_X2_differ : GoodIn wsL_law (va_wsS RL 172 yX2_differ wsX2_differ) := goodIn_app (goodIn_of _ (by decide +kernel)) ggL_law_X2_differ
set_option maxRecDepth 20000 in
theorem ggL_law_X1_renamedByRule : GoodIn wsL_law wsX1_renamedByRule := goodIn_r _ [294, 18, 17, 279, 280, 281, 16, 282, 28, 29, 30, 31, 33, 34, 35, 36, 37, 160, 161, 162, 163, 164, 165, 166, 167, 98, 99, 100, 101, 102, 103, 104, 105, 38, 39, 40, 41, 42, 43, 44, 106, 107, 108, 109, 110, 111, 112, 113, 114, 4, 5, 6, 115, 116, 117, 118, 287, 288, 289, 290, 489, 490, 491, 492, 493, 494, 499, 500, 501, 502, 503, 504, 505, 506, 507, 508, 509, 510, 511, 512, 513, 514] (by decide +kernel) (by decide +kernel)
set_option maxRecDepth 20000 in
theorem gL_law_X1_renamedByRule : GoodIn wsL_law (wsV RL 176 RX1 yX1_renamedByRule wsX1_renamedByRule) := goodIn_app (goodIn_of _ (by decide +kernel)) ggL_law_X1_renamedByRule
set_option maxRecDepth 20000 in
theorem ggL_law_X1_setRule : GoodIn wsL_law wsX1_setRule := goodIn_ca (goodIn_r _ [159, 74, 75, 17, 81, 82, 2, 83, 160, 161, 162, 16, 163, 29, 164, 165, 166, 167, 98, 99, 100, 101, 28, 31, 30, 102, 103, 104, 105, 35, 38, 39, 40, 41, 42, 43, 44, 34, 106, 107, 108, 109, 37, 110, 111, 112, 113, 114, 4, 5, 6, 115, 116, 117, 118, 489, 490, 491, 492, 493, 494, 499, 500, 501, 502, 503, 504, 505, 506, 507, 508, 509, 510, 511, 512, 513, 514] (by decide +kernel) (by decide +kernel)) (goodIn_sub (fun _ h => List.mem_append_left _ (List.mem_append_left _ (List.mem_append_right _ h))) (by decide +kernel))
set_option maxRecDepth 20000 in
theorem gL_law_X1_setRule : GoodIn wsL_law (wsV RL 50 RX1 yX1_setRule wsX1_setRule) := goodIn_app (goodIn_of _ (by decide +kernel)) ggL_law_X1_setRule
set_option maxRecDepth 20000 in
theorem ggL_law_X1_nameIn : GoodIn wsL_law wsX1_nameIn := goodIn_ca (goodIn_ca (goodIn_r _ [453, 18, 17, 135, 136, 137, 2, 138, 79, 80, 139, 116, 117, 16, 118, 28, 228, 229, 230, 74, 75, 81, 82, 83, 279, 280, 281, 282, 29, 30, 31, 33, 34, 35, 36, 37, 231, 232, 233, 234, 235, 236, 5, 237, 114, 4, 6, 98, 99, 100, 101, 102, 103, 104, 105, 38, 39, 40, 41, 42, 43, 44, 106, 107, 108, 109, 110, 111, 112, 113, 115, 215, 216, 217, 218, 489, 490, 491, 492, 493, 494, 499, 500, 501, 502, 503, 504, 505, 506, 507, 508, 509, 510, 511, 512, 513, 514] (by decide +kernel) (by decide +kernel)) (goodIn_sub (fun _ h => List.mem_append_left _ (List.mem_append_right _ h)) (by decide +kernel))) (goodIn_sub (fun _ h => List.mem_append_left _ (List.mem_append_left _ (List.mem_append_right _ h))) (by decide +kernel))
set_option maxRecDepth 20000 in
theorem gL_law_X1_nameIn : GoodIn wsL_law (wsV RL 179 RX1 yX1_nameIn wsX1_nameIn) := goodIn_app (goodIn_of _ (by decide +kernel)) ggL_law_X1_nameIn
set_option maxRecDepth 20000 in
theorem ggL_law_X1_yearsUntilRenamed : GoodIn wsL_law wsX1_yearsUntilRenamed := goodIn_ca (goodIn_r _ [457, 18, 17, 135, 136, 137, 2, 138, 79, 80, 139, 116, 117, 16, 118, 28, 279, 280, 281, 282, 29, 30, 31, 33, 34, 35, 36, 37, 231, 232, 233, 234, 235, 236, 5, 237, 114, 4, 6, 98, 99, 100, 101, 102, 103, 104, 105, 38, 39, 40, 41, 42, 43, 44, 106, 107, 108, 109, 110, 111, 112, 113, 115, 215, 216, 217, 218, 489, 490, 491, 492, 493, 494, 499, 500, 501, 502, 503, 504, 505, 506, 507, 508, 509, 510, 511, 512, 513, 514] (by decide +kernel) (by decide +kernel)) (goodIn_sub (fun _ h => List.mem_append_left _ (List.mem_append_right _ h)) (by decide +kernel))
set_option maxRecDepth 20000 in
theorem gL_law_X1_yearsUntilRenamed : GoodIn wsL_law (wsV RL 182 RX1 yX1_yearsUntilRenamed wsX1_yearsUntilRenamed) := goodIn_app (goodIn_of _ (by decide +kernel)) ggL_law_X1_yearsUntilRenamed
set_option maxRecDepth 20000 in
theorem ggL_law_X1_pass : GoodIn wsL_law wsX1_pass := goodIn_ca (goodIn_r _ [227, 17, 23, 228, 229, 2, 230, 74, 75, 81, 82, 83, 231, 232, 233, 16, 234, 28, 35, 36, 235, 236, 5, 237, 114, 4, 6, 98, 99, 100, 101, 31, 30, 102, 103, 104, 105, 38, 39, 40, 41, 42, 43, 44, 29, 34, 106, 107, 108, 109, 37, 110, 111, 112, 113, 115, 116, 117, 118, 238, 239, 240, 241, 22, 242, 243, 244, 245, 21, 20, 215, 216, 217, 218, 489, 490, 491, 492, 493, 494, 499, 500, 501, 502, 503, 504, 505, 506, 507, 508, 509, 510, 511, 512, 513, 514] (by decide +kernel) (by decide +kernel)) (goodIn_sub (fun _ h => List.mem_append_left _ (List.mem_append_left _ (List.mem_append_right _ h))) (by decide +kernel))
set_option maxRecDepth 20000 in
theorem gL_law_X1_pass : GoodIn wsL_law (wsV RL 68 RX1 yX1_pass wsX1_pass) := goodIn_app (goodIn_of _ (by decide +kernel)) ggL_law_X1_pass
set_option maxRecDepth 20000 in
theorem ggL_law_X2_pass : GoodIn wsL_law wsX2_pass := goodIn_r _ [222, 57, 223, 495, 496, 497, 498] (by decide +kernel) (by decide +kernel)
set_option maxRecDepth 20000 in
theorem gL_law_X2_pass : GoodIn wsL_law (wsV RL 64 RX2 yX2_pass wsX2_pass) := goodIn_app (goodIn_of _ (by decide +kernel)) ggL_law_X2_pass
set_option maxRecDepth 20000 in
theorem ggL_law_X2_isSame : GoodIn wsL_law wsX2_isSame := goodIn_ca (goodIn_hd (List.mem_of_getElem? (i := 461) rfl) rfl (goodIn_r _ [57, 19, 58, 223, 189, 190, 191, 51, 192, 193, 32, 194, 195, 196, 197, 198, 199, 200, 201, 202, 203, 204, 205, 206, 207, 208, 209, 210, 462, 128, 129, 130, 463, 300, 301, 2, 302, 17, 135, 136, 137, 138, 79, 80, 139, 116, 117, 16, 118, 28, 144, 145, 146, 147, 30, 464, 304, 305, 306, 307, 308, 309, 310, 33, 465, 315, 316, 317, 275, 276, 277, 278, 35, 466, 319, 320, 321, 322, 323, 324, 325, 38, 467, 327, 328, 329, 330, 331, 332, 333, 39, 468, 335, 336, 337, 338, 339, 340, 341, 115, 469, 343, 344, 345, 90, 91, 92, 93, 140, 141, 142, 143, 470, 347, 348, 349, 215, 216, 217, 218, 40, 471, 351, 352, 353, 354, 355, 356, 357, 41, 472, 359, 360, 361, 362, 363, 364, 365, 42, 473, 431, 432, 433, 22, 20, 242, 243, 244, 245, 21, 474, 391, 392, 393, 76, 77, 78, 81, 82, 83, 263, 264, 265, 266, 475, 371, 372, 373, 374, 375, 376, 377, 476, 379, 380, 381, 477, 383, 384, 385, 478, 479, 480, 481, 23, 482, 387, 388, 389, 483, 424, 425, 426, 484, 436, 437, 438, 238, 239, 240, 241, 485, 247, 248, 249, 486, 260, 261, 262, 487, 268, 269, 270, 488, 420, 421, 422, 495, 496, 497, 498, 489, 490, 491, 492, 493, 494, 499, 500, 501, 502, 503, 504, 505, 506, 507, 508, 509, 510, 511, 512, 513, 514] (by decide +kernel) (by decide +kernel))) (goodIn_sub (fun _ h => List.mem_append_left _ (List.mem_append_right _ h)) (by decide +kernel))
set_option maxRecDepth 20000 in
theorem gL_law_X2_isSame : GoodIn wsL_law (wsV RL 185 RX2 yX2_isSame wsX2_isSame) := goodIn_app (goodIn_of _ (by decide +kernel)) ggL_law_X2_isSame

