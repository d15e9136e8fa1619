theorem goodIn_hd {big a : List Cond} {c : Cond} (hm : c ∈ big) (hg : goodWord c = true) (ha : GoodIn big a) : GoodIn big (c :: a) := fun w h => (List.mem_cons.mp h).elim (fun e => by subst e; exact ⟨hm, good_of_word hg⟩) (ha w)
set_option maxRecDepth 20000 in
theorem ggL_law_X1_init : GoodIn wsL_law wsX1_init := goodIn_r _ [10, 11, 12, 13, 14, 15, 16, 17, 18, 19, 20, 21, 22, 23, 24, 25, 26, 27, 28, 29, 30, 31, 32, 33, 34, 35, 36, 37, 38, 39, 40, 41, 42, 43, 44, 499, 500, 501, 502, 503, 504, 505, 506, 507, 508, 509, 510, 511, 512, 513, 514, 489, 490, 491, 492, 493, 494] (by decide +kernel) (by decide +kernel)
set_option maxRecDepth 20000 in
theorem gL_law_X1_init : GoodIn wsL_law (wsX1_init) := ggL_law_X1_init
set_option maxRecDepth 20000 in
theorem ggL_law_L_build : GoodIn wsL_law wsL_build := goodIn_ca (goodIn_ca (goodIn_ca (goodIn_r _ [48, 49, 50, 51, 19, 7, 52, 53, 54, 55, 12, 13, 56, 57, 58, 59, 60, 47, 61, 62, 63, 64, 65, 66, 67, 68, 69, 70, 71, 72, 2, 73, 74, 75, 17, 76, 77, 78, 79, 80, 81, 82, 83, 84, 85, 86, 87, 88, 89, 90, 91, 92, 16, 93, 28, 94, 95, 96, 97, 30, 33, 34, 35, 36, 98, 99, 100, 101, 31, 102, 103, 104, 105, 38, 39, 40, 41, 42, 43, 44, 29, 106, 107, 108, 109, 37, 110, 111, 112, 113, 114, 4, 5, 6, 115, 116, 117, 118, 119, 120, 121, 122, 123, 124, 125, 126, 127, 128, 129, 130, 131, 132, 133, 134, 135, 136, 137, 138, 139, 140, 141, 142, 143, 144, 145, 146, 147, 148, 149, 150, 151, 152, 153, 154, 155, 156, 157, 158, 159, 160, 161, 162, 163, 164, 165, 166, 167, 495, 496, 497, 498, 489, 490, 491, 492, 493, 494, 499, 500, 501, 502, 503, 504, 505, 506, 507, 508, 509, 510, 511, 512, 513, 514] (by decide +kernel) (by decide +kernel)) (goodIn_sub (fun _ h => List.mem_append_left _ (List.mem_append_left _ (List.mem_append_right _ h))) (by decide +kernel))) (goodIn_sub (fun _ h => List.mem_append_left _ (List.mem_append_right _ h)) (by decide +kernel))) (goodIn_sub (fun _ h => List.mem_append_right _ h) (by decide +kernel))
set_option maxRecDepth 20000 in
theorem gL_law_L_build : GoodIn wsL_law (va_wsS RL 82 yL_build wsL_build) := goodIn_app (goodIn_of _ (by decide +kernel)) ggL_law_L_build
set_option maxRecDepth 20000 in
theorem ggL_law_L_cell : GoodIn wsL_law wsL_cell := goodIn_r _ [61, 62] (by decide +kernel) (by decide +kernel)
set_option maxRecDepth 20000 in
theorem gL_law_L_cell : GoodIn wsL_law (va_wsS RL 77 yL_cell wsL_cell) := goodIn_app (goodIn_of _ (by decide +kernel)) ggL_law_L_cell
set_option maxRecDepth 20000 in
theorem ggL_law_L_act : GoodIn wsL_law wsL_act := goodIn_ca (goodIn_ca (goodIn_ca (goodIn_hd (List.mem_of_getElem? (i := 170) rfl) rfl (goodIn_r _ [171, 7, 19, 52, 172, 63, 64, 47, 65, 66, 67, 68, 51, 69, 56, 119, 120, 121, 2, 122, 17, 84, 85, 86, 87, 88, 89, 90, 91, 92, 16, 93, 28, 123, 124, 125, 126, 30, 98, 99, 100, 101, 31, 102, 103, 104, 105, 35, 38, 39, 40, 41, 42, 43, 44, 29, 34, 106, 107, 108, 109, 37, 110, 111, 112, 113, 114, 4, 5, 6, 115, 116, 117, 118, 70, 71, 72, 73, 74, 75, 76, 77, 78, 79, 80, 81, 82, 83, 94, 95, 96, 97, 33, 36, 127, 128, 129, 130, 57, 131, 132, 133, 134, 135, 136, 137, 138, 139, 140, 141, 142, 143, 144, 145, 146, 147, 148, 149, 150, 151, 152, 153, 154, 155, 173, 174, 175, 176, 177, 178, 179, 180, 181, 182, 183, 184, 156, 157, 158, 159, 160, 161, 162, 163, 164, 165, 166, 167, 185, 186, 187, 188, 189, 190, 191, 192, 193, 32, 194, 195, 196, 197, 198, 199, 200, 201, 202, 203, 204, 205, 206, 207, 208, 209, 210, 211, 212, 213, 214, 22, 20, 21, 215, 216, 217, 218, 219, 220, 221, 222, 223, 224, 225, 226, 227, 23, 228, 229, 230, 231, 232, 233, 234, 235, 236, 237, 238, 239, 240, 241, 242, 243, 244, 245, 246, 247, 248, 249, 58, 495, 496, 497, 498, 489, 490, 491, 492, 493, 494, 499, 500, 501, 502, 503, 504, 505, 506, 507, 508, 509, 510, 511, 512, 513, 514] (by decide +kernel) (by decide +kernel))) (goodIn_sub (fun _ h => List.mem_append_right _ h) (by decide +kernel))) (goodIn_sub (fun _ h => List.mem_append_left _ (List.mem_append_left _ (List.mem_append_right _ h))) (by decide +kernel))) (goodIn_sub (fun _ h => List.mem_append_left _ (List.mem_append_right _ h)) (by decide +kernel))
set_option maxRecDepth 20000 in
theorem gL_law_L_act : GoodIn wsL_law (va_wsS RL 85 yL_act wsL_act) := goodIn_app (goodIn_of _ (by decide +kernel)) ggL_law_L_act
set_option maxRecDepth 20000 in
theorem ggL_law_X1_digest : GoodIn wsL_law wsX1_digest := goodIn_ca (goodIn_r _ [253, 254, 23, 17, 22, 255, 256, 2, 257, 258, 90, 91, 92, 16, 93, 28, 238, 239, 240, 241, 242, 243, 244, 245, 21, 20, 215, 216, 217, 218, 40, 259, 260, 261, 262, 263, 264, 265, 266, 267, 268, 269, 270, 271, 272, 273, 274, 18, 275, 276, 277, 278, 35, 279, 280, 281, 282, 29, 30, 31, 33, 34, 36, 37, 283, 284, 285, 286, 98, 99, 100, 101, 102, 103, 104, 105, 38, 39, 41, 42, 43, 44, 106, 107, 108, 109, 110, 111, 112, 113, 114, 4, 5, 6, 115, 116, 117, 118, 287, 288, 289, 290, 291, 292, 293, 294, 160, 161, 162, 163, 164, 165, 166, 167, 295, 296, 297, 298, 299, 300, 301, 302, 135, 136, 137, 138, 79, 80, 139, 144, 145, 146, 147, 303, 304, 305, 306, 307, 308, 309, 310, 311, 312, 313, 314, 315, 316, 317, 318, 319, 320, 321, 322, 323, 324, 325, 326, 327, 328, 329, 330, 331, 332, 333, 334, 335, 336, 337, 338, 339, 340, 341, 342, 343, 344, 345, 140, 141, 142, 143, 346, 347, 348, 349, 350, 351, 352, 353, 354, 355, 356, 357, 358, 359, 360, 361, 362, 363, 364, 365, 366, 367, 368, 369, 370, 371, 372, 373, 374, 375, 376, 377, 378, 379, 380, 381, 382, 383, 384, 385, 489, 490, 491, 492, 493, 494, 499, 500, 501, 502, 503, 504, 505, 506, 507, 508, 509, 510, 511, 512, 513, 514] (by decide +kernel) (by decide +kernel)) (goodIn_sub (fun _ h => List.mem_append_left _ (List.mem_append_right _ h)) (by decide +kernel))
set_option maxRecDepth 20000 in
theorem gL_law_X1_digest : GoodIn wsL_law (wsV RL 89 RX1 yX1_digest wsX1_digest) := goodIn_app (goodIn_of _ (by decide +kernel)) ggL_law_X1_digest
set_option maxRecDepth 20000 in
theorem ggL_law_X1_places : GoodIn wsL_law wsX1_places := goodIn_r _ [389, 17, 90, 91, 92, 16, 93, 28, 489, 490, 491, 492, 493, 494, 499, 500, 501, 502, 503, 504, 505, 506, 507, 508, 509, 510, 511, 512, 513, 514] (by decide +kernel) (by decide +kernel)
set_option maxRecDepth 20000 in
theorem gL_law_X1_places : GoodIn wsL_law (wsV RL 93 RX1 yX1_places wsX1_places) := goodIn_app (goodIn_of _ (by decide +kernel)) ggL_law_X1_places
set_option maxRecDepth 20000 in
theorem ggL_law_X1_placesNamed : GoodIn wsL_law wsX1_placesNamed := goodIn_ca (goodIn_r _ [393, 17, 76, 77, 2, 78, 79, 80, 81, 82, 83, 263, 264, 265, 16, 266, 28, 40, 489, 490, 491, 492, 493, 494, 499, 500, 501, 502, 503, 504, 505, 506, 507, 508, 509, 510, 511, 512, 513, 514] (by decide +kernel) (by decide +kernel)) (goodIn_sub (fun _ h => List.mem_append_left _ (List.mem_append_right _ h)) (by decide +kernel))
set_option maxRecDepth 20000 in
theorem gL_law_X1_placesNamed : GoodIn wsL_law (wsV RL 95 RX1 yX1_placesNamed wsX1_placesNamed) := goodIn_app (goodIn_of _ (by decide +kernel)) ggL_law_X1_placesNamed
set_option maxRecDepth 20000 in
theorem ggL_law_X1_nameless : GoodIn wsL_law wsX1_nameless := goodIn_r _ [270, 17, 263, 264, 265, 16, 266, 28, 40, 489, 490, 491, 492, 493, 494, 499, 500, 501, 502, 503, 504, 505, 506, 507, 508, 509, 510, 511, 512, 513, 514] (by decide +kernel) (by decide +kernel)
set_option maxRecDepth 20000 in
theorem gL_law_X1_nameless : GoodIn wsL_law (wsV RL 103 RX1 yX1_nameless wsX1_nameless) := goodIn_app (goodIn_of _ (by decide +kernel)) ggL_law_X1_nameless
set_option maxRecDepth 20000 in
theorem ggL_law_X1_greatestName : GoodIn wsL_law wsX1_greatestName := goodIn_r _ [262, 17, 263, 264, 265, 16, 266, 28, 40, 489, 490, 491, 492, 493, 494, 499, 500, 501, 502, 503, 504, 505, 506, 507, 508, 509, 510, 511, 512, 513, 514] (by decide +kernel) (by decide +kernel)
set_option maxRecDepth 20000 in
theorem gL_law_X1_greatestName : GoodIn wsL_law (wsV RL 106 RX1 yX1_greatestName wsX1_greatestName) := goodIn_app (goodIn_of _ (by decide +kernel)) ggL_law_X1_greatestName
set_option maxRecDepth 20000 in
theorem ggL_law_X1_springOf : GoodIn wsL_law wsX1_springOf := goodIn_ca (goodIn_r _ [317, 17, 135, 136, 137, 2, 138, 79, 80, 139, 116, 117, 16, 118, 28, 275, 276, 277, 278, 35, 489, 490, 491, 492, 493, 494, 499, 500, 501, 502, 503, 504, 505, 506, 507, 508, 509, 510, 511, 512, 513, 514] (by decide +kernel) (by decide +kernel)) (goodIn_sub (fun _ h => List.mem_append_left _ (List.mem_append_right _ h)) (by decide +kernel))
set_option maxRecDepth 20000 in
theorem gL_law_X1_springOf : GoodIn wsL_law (wsV RL 109 RX1 yX1_springOf wsX1_springOf) := goodIn_app (goodIn_of _ (by decide +kernel)) ggL_law_X1_springOf
set_option maxRecDepth 20000 in
theorem ggL_law_X1_nameAt : GoodIn wsL_law wsX1_nameAt := goodIn_ca (goodIn_r _ [349, 17, 135, 136, 137, 2, 138, 79, 80, 139, 116, 117, 16, 118, 28, 215, 216, 217, 218, 40, 489, 490, 491, 492, 493, 494, 499, 500, 501, 502, 503, 504, 505, 506, 507, 508, 509, 510, 511, 512, 513, 514] (by decide +kernel) (by decide +kernel)) (goodIn_sub (fun _ h => List.mem_append_left _ (List.mem_append_right _ h)) (by decide +kernel))
set_option maxRecDepth 20000 in
theorem gL_law_X1_nameAt : GoodIn wsL_law (wsV RL 112 RX1 yX1_nameAt wsX1_nameAt) := goodIn_app (goodIn_of _ (by decide +kernel)) ggL_law_X1_nameAt
set_option maxRecDepth 20000 in
theorem ggL_law_X1_isAbove : GoodIn wsL_law wsX1_isAbove := goodIn_ca (goodIn_r _ [401, 17, 135, 136, 137, 2, 138, 79, 80, 139, 116, 117, 16, 118, 28, 140, 141, 142, 143, 30, 115, 489, 490, 491, 492, 493, 494, 499, 500, 501, 502, 503, 504, 505, 506, 507, 508, 509, 510, 511, 512, 513, 514] (by decide +kernel) (by decide +kernel)) (goodIn_sub (fun _ h => List.mem_append_left _ (List.mem_append_right _ h)) (by decide +kernel))
set_option maxRecDepth 20000 in
theorem gL_law_X1_isAbove : GoodIn wsL_law (wsV RL 115 RX1 yX1_isAbove wsX1_isAbove) := goodIn_app (goodIn_of _ (by decide +kernel)) ggL_law_X1_isAbove
set_option maxRecDepth 20000 in
theorem ggL_law_X1_meeting : GoodIn wsL_law wsX1_meeting := goodIn_ca (goodIn_r _ [405, 17, 135, 136, 137, 2, 138, 79, 80, 139, 116, 117, 16, 118, 28, 406, 407, 408, 409, 30, 115, 410, 141, 142, 143, 489, 490, 491, 492, 493, 494, 499, 500, 501, 502, 503, 504, 505, 506, 507, 508, 509, 510, 511, 512, 513, 514] (by decide +kernel) (by decide +kernel)) (goodIn_sub (fun _ h => List.mem_append_left _ (List.mem_append_right _ h)) (by decide +kernel))
set_option maxRecDepth 20000 in
theorem gL_law_X1_meeting : GoodIn wsL_law (wsV RL 116 RX1 yX1_meeting wsX1_meeting) := goodIn_app (goodIn_of _ (by decide +kernel)) ggL_law_X1_meeting
