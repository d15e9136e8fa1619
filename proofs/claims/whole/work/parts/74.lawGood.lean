set_option maxRecDepth 20000 in
theorem ggL_law_X1_init : GoodIn wsL_law wsX1_init := goodIn_r _ [9, 10, 11, 12, 13, 14, 15, 16, 17, 18, 19, 20, 21, 22, 23, 24, 25, 26, 27, 28, 29, 30, 31, 32, 33, 34, 35, 36, 37, 38, 39, 40, 41, 42, 43, 805, 806, 807, 808, 809, 810, 811, 812, 813, 814, 815, 816, 817, 818, 819, 820, 780, 781, 782, 783, 784, 785] (by decide +kernel) (by decide +kernel)
set_option maxRecDepth 20000 in
theorem gL_law_X1_init : GoodIn wsL_law (wsX1_init) := ggL_law_X1_init
set_option maxRecDepth 20000 in
theorem ggL_law_X2_init : GoodIn wsL_law wsX2_init := goodIn_r _ [46, 47, 11, 12, 18, 48, 31, 49, 50, 51, 52, 53, 54, 55, 56, 57, 58, 59, 60, 61, 786, 787, 788, 789, 790, 791, 792, 793, 794, 795, 796, 797, 798, 799, 800, 801, 802, 803, 804] (by decide +kernel) (by decide +kernel)
set_option maxRecDepth 20000 in
theorem gL_law_X2_init : GoodIn wsL_law (wsX2_init) := ggL_law_X2_init
set_option maxRecDepth 20000 in
theorem ggL_law_L_addPlace : GoodIn wsL_law wsL_addPlace := goodIn_ca (goodIn_r _ [65, 66, 67, 68, 69, 2, 70, 16, 71, 72, 73, 74, 75, 76, 77, 78, 79, 15, 80, 27, 81, 82, 83, 84, 29, 85, 86, 87, 88, 30, 89, 90, 91, 92, 34, 37, 38, 39, 40, 41, 42, 43, 28, 33, 93, 94, 95, 96, 36, 97, 98, 99, 100, 101, 102, 103, 104, 105, 106, 107, 108, 780, 781, 782, 783, 784, 785, 805, 806, 807, 808, 809, 810, 811, 812, 813, 814, 815, 816, 817, 818, 819, 820] (by decide +kernel) (by decide +kernel)) (goodIn_sub (fun _ h => List.mem_append_left _ (List.mem_append_left _ (List.mem_append_right _ h))) (by decide +kernel))
set_option maxRecDepth 20000 in
theorem gL_law_L_addPlace : GoodIn wsL_law (va_wsS RL 106 yL_addPlace wsL_addPlace) := goodIn_app (goodIn_of _ (by decide +kernel)) ggL_law_L_addPlace
set_option maxRecDepth 20000 in
theorem ggL_law_X2_addPlace : GoodIn wsL_law wsX2_addPlace := goodIn_r _ [112, 113, 114, 115, 116, 117, 5, 118, 119, 120, 121, 122, 48, 49, 50, 51, 52, 786, 787, 788, 789, 790, 791, 792, 793, 794, 795, 796, 797, 798, 799, 800, 801, 802, 803, 804] (by decide +kernel) (by decide +kernel)
set_option maxRecDepth 20000 in
theorem gL_law_X2_addPlace : GoodIn wsL_law (wsV RL 111 RX2 yX2_addPlace wsX2_addPlace) := goodIn_app (goodIn_of _ (by decide +kernel)) ggL_law_X2_addPlace
set_option maxRecDepth 20000 in
theorem ggL_law_X2_thrown : GoodIn wsL_law wsX2_thrown := goodIn_r _ [126, 113, 786, 787, 788, 789, 790, 791, 792, 793, 794, 795, 796, 797, 798, 799, 800, 801, 802, 803, 804] (by decide +kernel) (by decide +kernel)
set_option maxRecDepth 20000 in
theorem gL_law_X2_thrown : GoodIn wsL_law (wsV RL 112 RX2 yX2_thrown wsX2_thrown) := goodIn_app (goodIn_of _ (by decide +kernel)) ggL_law_X2_thrown
set_option maxRecDepth 20000 in
theorem ggL_law_L_addSpring : GoodIn wsL_law wsL_addSpring := goodIn_ca (goodIn_ca (goodIn_ca (goodIn_r _ [129, 130, 131, 66, 132, 133, 134, 2, 135, 136, 137, 16, 138, 139, 140, 141, 142, 143, 144, 145, 71, 72, 73, 74, 75, 76, 77, 78, 79, 15, 80, 27, 146, 147, 148, 149, 29, 32, 33, 34, 35, 85, 86, 87, 88, 30, 89, 90, 91, 92, 37, 38, 39, 40, 41, 42, 43, 28, 93, 94, 95, 96, 36, 97, 98, 99, 100, 101, 102, 103, 104, 105, 106, 107, 108, 780, 781, 782, 783, 784, 785, 805, 806, 807, 808, 809, 810, 811, 812, 813, 814, 815, 816, 817, 818, 819, 820] (by decide +kernel) (by decide +kernel)) (goodIn_sub (fun _ h => List.mem_append_left _ (List.mem_append_right _ h)) (by decide +kernel))) (goodIn_sub (fun _ h => List.mem_append_right _ h) (by decide +kernel))) (goodIn_sub (fun _ h => List.mem_append_left _ (List.mem_append_left _ (List.mem_append_right _ h))) (by decide +kernel))
set_option maxRecDepth 20000 in
theorem gL_law_L_addSpring : GoodIn wsL_law (va_wsS RL 115 yL_addSpring wsL_addSpring) := goodIn_app (goodIn_of _ (by decide +kernel)) ggL_law_L_addSpring
set_option maxRecDepth 20000 in
theorem ggL_law_X2_addSpring : GoodIn wsL_law wsX2_addSpring := goodIn_r _ [153, 113, 114, 154, 155, 5, 156, 115, 116, 117, 118, 119, 120, 121, 122, 48, 49, 50, 51, 52, 786, 787, 788, 789, 790, 791, 792, 793, 794, 795, 796, 797, 798, 799, 800, 801, 802, 803, 804] (by decide +kernel) (by decide +kernel)
set_option maxRecDepth 20000 in
theorem gL_law_X2_addSpring : GoodIn wsL_law (wsV RL 118 RX2 yX2_addSpring wsX2_addSpring) := goodIn_app (goodIn_of _ (by decide +kernel)) ggL_law_X2_addSpring
set_option maxRecDepth 20000 in
theorem ggL_law_L_lead : GoodIn wsL_law wsL_lead := goodIn_ca (goodIn_ca (goodIn_r _ [159, 130, 66, 160, 161, 162, 2, 163, 75, 76, 16, 164, 165, 166, 167, 141, 142, 168, 106, 107, 15, 108, 27, 169, 170, 171, 172, 29, 105, 173, 174, 175, 176, 177, 178, 179, 180, 30, 181, 182, 183, 184, 85, 86, 87, 88, 89, 90, 91, 92, 34, 37, 38, 39, 40, 41, 42, 43, 28, 33, 93, 94, 95, 96, 36, 97, 98, 99, 100, 101, 102, 103, 104, 780, 781, 782, 783, 784, 785, 805, 806, 807, 808, 809, 810, 811, 812, 813, 814, 815, 816, 817, 818, 819, 820] (by decide +kernel) (by decide +kernel)) (goodIn_sub (fun _ h => List.mem_append_left _ (List.mem_append_left _ (List.mem_append_right _ h))) (by decide +kernel))) (goodIn_sub (fun _ h => List.mem_append_right _ h) (by decide +kernel))
set_option maxRecDepth 20000 in
theorem gL_law_L_lead : GoodIn wsL_law (va_wsS RL 119 yL_lead wsL_lead) := goodIn_app (goodIn_of _ (by decide +kernel)) ggL_law_L_lead
set_option maxRecDepth 20000 in
theorem ggL_law_X2_lead : GoodIn wsL_law wsX2_lead := goodIn_r _ [188, 113, 48, 189, 190, 191, 5, 192, 114, 154, 155, 156, 115, 116, 117, 118, 193, 194, 195, 196, 786, 787, 788, 789, 790, 791, 792, 793, 794, 795, 796, 797, 798, 799, 800, 801, 802, 803, 804] (by decide +kernel) (by decide +kernel)
set_option maxRecDepth 20000 in
theorem gL_law_X2_lead : GoodIn wsL_law (wsV RL 122 RX2 yX2_lead wsX2_lead) := goodIn_app (goodIn_of _ (by decide +kernel)) ggL_law_X2_lead
set_option maxRecDepth 20000 in
theorem ggL_law_L_turnDelta : GoodIn wsL_law wsL_turnDelta := goodIn_ca (goodIn_r _ [199, 130, 200, 201, 202, 2, 203, 16, 164, 165, 166, 167, 141, 142, 168, 106, 107, 15, 108, 27, 204, 205, 206, 207, 36, 85, 86, 87, 88, 30, 29, 89, 90, 91, 92, 34, 37, 38, 39, 40, 41, 42, 43, 28, 33, 93, 94, 95, 96, 97, 98, 99, 100, 101, 102, 103, 104, 105, 208, 209, 210, 211, 780, 781, 782, 783, 784, 785, 805, 806, 807, 808, 809, 810, 811, 812, 813, 814, 815, 816, 817, 818, 819, 820] (by decide +kernel) (by decide +kernel)) (goodIn_sub (fun _ h => List.mem_append_right _ h) (by decide +kernel))
set_option maxRecDepth 20000 in
theorem gL_law_L_turnDelta : GoodIn wsL_law (va_wsS RL 123 yL_turnDelta wsL_turnDelta) := goodIn_app (goodIn_of _ (by decide +kernel)) ggL_law_L_turnDelta
set_option maxRecDepth 20000 in
theorem ggL_law_X2_turnDelta : GoodIn wsL_law wsX2_turnDelta := goodIn_r _ [215, 113, 53, 189, 190, 191, 5, 192, 114, 154, 155, 156, 216, 217, 218, 219, 786, 787, 788, 789, 790, 791, 792, 793, 794, 795, 796, 797, 798, 799, 800, 801, 802, 803, 804] (by decide +kernel) (by decide +kernel)
set_option maxRecDepth 20000 in
theorem gL_law_X2_turnDelta : GoodIn wsL_law (wsV RL 126 RX2 yX2_turnDelta wsX2_turnDelta) := goodIn_app (goodIn_of _ (by decide +kernel)) ggL_law_X2_turnDelta
set_option maxRecDepth 20000 in
theorem ggL_law_L_setRule : GoodIn wsL_law wsL_setRule := goodIn_ca (goodIn_r _ [222, 131, 223, 224, 225, 2, 226, 136, 137, 16, 143, 144, 145, 227, 228, 229, 15, 230, 28, 231, 232, 233, 234, 85, 86, 87, 88, 27, 30, 29, 89, 90, 91, 92, 34, 37, 38, 39, 40, 41, 42, 43, 33, 93, 94, 95, 96, 36, 97, 98, 99, 100, 101, 102, 103, 104, 105, 106, 107, 108, 780, 781, 782, 783, 784, 785, 805, 806, 807, 808, 809, 810, 811, 812, 813, 814, 815, 816, 817, 818, 819, 820] (by decide +kernel) (by decide +kernel)) (goodIn_sub (fun _ h => List.mem_append_left _ (List.mem_append_right _ h)) (by decide +kernel))
set_option maxRecDepth 20000 in
theorem gL_law_L_setRule : GoodIn wsL_law (va_wsS RL 127 yL_setRule wsL_setRule) := goodIn_app (goodIn_of _ (by decide +kernel)) ggL_law_L_setRule
set_option maxRecDepth 20000 in
theorem ggL_law_X2_setRule : GoodIn wsL_law wsX2_setRule := goodIn_r _ [238, 113, 239, 154, 155, 5, 156, 115, 116, 117, 118, 786, 787, 788, 789, 790, 791, 792, 793, 794, 795, 796, 797, 798, 799, 800, 801, 802, 803, 804] (by decide +kernel) (by decide +kernel)
set_option maxRecDepth 20000 in
theorem gL_law_X2_setRule : GoodIn wsL_law (wsV RL 129 RX2 yX2_setRule wsX2_setRule) := goodIn_app (goodIn_of _ (by decide +kernel)) ggL_law_X2_setRule
set_option maxRecDepth 20000 in
theorem ggL_law_L_build : GoodIn wsL_law wsL_build := goodIn_ca (goodIn_ca (goodIn_r _ [242, 130, 66, 243, 244, 245, 2, 246, 75, 76, 21, 19, 20, 16, 164, 165, 166, 167, 141, 142, 168, 106, 107, 15, 108, 27, 247, 248, 249, 250, 39, 780, 781, 782, 783, 784, 785, 805, 806, 807, 808, 809, 810, 811, 812, 813, 814, 815, 816, 817, 818, 819, 820] (by decide +kernel) (by decide +kernel)) (goodIn_sub (fun _ h => List.mem_append_left _ (List.mem_append_left _ (List.mem_append_right _ h))) (by decide +kernel))) (goodIn_sub (fun _ h => List.mem_append_right _ h) (by decide +kernel))
set_option maxRecDepth 20000 in
theorem gL_law_L_build : GoodIn wsL_law (va_wsS RL 130 yL_build wsL_build) := goodIn_app (goodIn_of _ (by decide +kernel)) ggL_law_L_build
set_option maxRecDepth 20000 in
theorem ggL_law_X2_build : GoodIn wsL_law wsX2_build := goodIn_r _ [254, 113, 255, 54, 55, 59, 189, 190, 191, 5, 192, 114, 154, 155, 156, 115, 116, 117, 118, 256, 257, 258, 259, 56, 260, 261, 262, 263, 264, 265, 266, 267, 193, 194, 195, 196, 48, 268, 269, 270, 271, 57, 49, 51, 58, 272, 102, 103, 104, 273, 274, 275, 276, 277, 278, 279, 280, 53, 239, 50, 281, 282, 283, 284, 786, 787, 788, 789, 790, 791, 792, 793, 794, 795, 796, 797, 798, 799, 800, 801, 802, 803, 804] (by decide +kernel) (by decide +kernel)
set_option maxRecDepth 20000 in
theorem gL_law_X2_build : GoodIn wsL_law (wsV RL 132 RX2 yX2_build wsX2_build) := goodIn_app (goodIn_of _ (by decide +kernel)) ggL_law_X2_build
set_option maxRecDepth 20000 in
theorem ggL_law_L_pass : GoodIn wsL_law wsL_pass := goodIn_ca (goodIn_r _ [287, 131, 288, 289, 290, 2, 291, 16, 22, 292, 293, 294, 136, 137, 143, 144, 145, 295, 296, 297, 15, 298, 27, 34, 35, 299, 300, 103, 301, 101, 102, 104, 85, 86, 87, 88, 30, 29, 89, 90, 91, 92, 37, 38, 39, 40, 41, 42, 43, 28, 33, 93, 94, 95, 96, 36, 97, 98, 99, 100, 105, 106, 107, 108, 302, 303, 304, 305, 21, 306, 307, 308, 309, 20, 19, 247, 248, 249, 250, 780, 781, 782, 783, 784, 785, 805, 806, 807, 808, 809, 810, 811, 812, 813, 814, 815, 816, 817, 818, 819, 820] (by decide +kernel) (by decide +kernel)) (goodIn_sub (fun _ h => List.mem_append_left _ (List.mem_append_right _ h)) (by decide +kernel))
set_option maxRecDepth 20000 in
theorem gL_law_L_pass : GoodIn wsL_law (va_wsS RL 133 yL_pass wsL_pass) := goodIn_app (goodIn_of _ (by decide +kernel)) ggL_law_L_pass
set_option maxRecDepth 20000 in
theorem ggL_law_X2_pass : GoodIn wsL_law wsX2_pass := goodIn_r _ [313, 113, 314, 154, 155, 5, 156, 115, 116, 117, 118, 315, 316, 317, 318, 114, 49, 51, 52, 319, 300, 103, 301, 272, 102, 104, 320, 321, 322, 323, 255, 256, 257, 258, 259, 56, 59, 260, 261, 262, 263, 264, 265, 266, 267, 193, 194, 195, 196, 48, 268, 269, 270, 271, 57, 58, 273, 274, 275, 276, 277, 278, 279, 280, 53, 239, 50, 281, 282, 283, 284, 324, 325, 326, 327, 55, 54, 786, 787, 788, 789, 790, 791, 792, 793, 794, 795, 796, 797, 798, 799, 800, 801, 802, 803, 804] (by decide +kernel) (by decide +kernel)
set_option maxRecDepth 20000 in
theorem gL_law_X2_pass : GoodIn wsL_law (wsV RL 135 RX2 yX2_pass wsX2_pass) := goodIn_app (goodIn_of _ (by decide +kernel)) ggL_law_X2_pass
set_option maxRecDepth 20000 in
theorem ggL_law_X1_year : GoodIn wsL_law wsX1_year := goodIn_r _ [331, 22, 780, 781, 782, 783, 784, 785] (by decide +kernel) (by decide +kernel)
set_option maxRecDepth 20000 in
theorem gL_law_X1_year : GoodIn wsL_law (wsV RL 136 RX1 yX1_year wsX1_year) := goodIn_app (goodIn_of _ (by decide +kernel)) ggL_law_X1_year
set_option maxRecDepth 20000 in
theorem ggL_law_X2_year : GoodIn wsL_law wsX2_year := goodIn_r _ [335, 314, 336, 337, 338, 5, 339, 113, 786, 787, 788, 789, 790, 791, 792, 793, 794, 795, 796, 797, 798, 799, 800, 801, 802, 803, 804] (by decide +kernel) (by decide +kernel)
set_option maxRecDepth 20000 in
theorem gL_law_X2_year : GoodIn wsL_law (wsV RL 139 RX2 yX2_year wsX2_year) := goodIn_app (goodIn_of _ (by decide +kernel)) ggL_law_X2_year
set_option maxRecDepth 20000 in
theorem ggL_law_X1_places : GoodIn wsL_law wsX1_places := goodIn_r _ [343, 16, 77, 78, 79, 15, 80, 27, 780, 781, 782, 783, 784, 785, 805, 806, 807, 808, 809, 810, 811, 812, 813, 814, 815, 816, 817, 818, 819, 820] (by decide +kernel) (by decide +kernel)
set_option maxRecDepth 20000 in
theorem gL_law_X1_places : GoodIn wsL_law (wsV RL 140 RX1 yX1_places wsX1_places) := goodIn_app (goodIn_of _ (by decide +kernel)) ggL_law_X1_places
set_option maxRecDepth 20000 in
theorem ggL_law_X2_places : GoodIn wsL_law wsX2_places := goodIn_r _ [347, 114, 336, 337, 338, 5, 339, 113, 786, 787, 788, 789, 790, 791, 792, 793, 794, 795, 796, 797, 798, 799, 800, 801, 802, 803, 804] (by decide +kernel) (by decide +kernel)
set_option maxRecDepth 20000 in
theorem gL_law_X2_places : GoodIn wsL_law (wsV RL 143 RX2 yX2_places wsX2_places) := goodIn_app (goodIn_of _ (by decide +kernel)) ggL_law_X2_places
set_option maxRecDepth 20000 in
theorem ggL_law_L_leadsTo : GoodIn wsL_law wsL_leadsTo := goodIn_ca (goodIn_r _ [350, 130, 351, 352, 353, 2, 354, 16, 164, 165, 166, 167, 141, 142, 168, 106, 107, 15, 108, 27, 173, 174, 175, 176, 29, 780, 781, 782, 783, 784, 785, 805, 806, 807, 808, 809, 810, 811, 812, 813, 814, 815, 816, 817, 818, 819, 820] (by decide +kernel) (by decide +kernel)) (goodIn_sub (fun _ h => List.mem_append_right _ h) (by decide +kernel))
set_option maxRecDepth 20000 in
theorem gL_law_L_leadsTo : GoodIn wsL_law (va_wsS RL 144 yL_leadsTo wsL_leadsTo) := goodIn_app (goodIn_of _ (by decide +kernel)) ggL_law_L_leadsTo
set_option maxRecDepth 20000 in
theorem ggL_law_X2_leadsTo : GoodIn wsL_law wsX2_leadsTo := goodIn_r _ [358, 113, 48, 189, 190, 191, 5, 192, 114, 154, 155, 156, 115, 116, 117, 118, 786, 787, 788, 789, 790, 791, 792, 793, 794, 795, 796, 797, 798, 799, 800, 801, 802, 803, 804] (by decide +kernel) (by decide +kernel)
set_option maxRecDepth 20000 in
theorem gL_law_X2_leadsTo : GoodIn wsL_law (wsV RL 146 RX2 yX2_leadsTo wsX2_leadsTo) := goodIn_app (goodIn_of _ (by decide +kernel)) ggL_law_X2_leadsTo
set_option maxRecDepth 20000 in
theorem ggL_law_L_hasSpring : GoodIn wsL_law wsL_hasSpring := goodIn_ca (goodIn_r _ [361, 130, 362, 363, 364, 2, 365, 16, 164, 165, 166, 167, 141, 142, 168, 106, 107, 15, 108, 27, 366, 367, 368, 369, 32, 780, 781, 782, 783, 784, 785, 805, 806, 807, 808, 809, 810, 811, 812, 813, 814, 815, 816, 817, 818, 819, 820] (by decide +kernel) (by decide +kernel)) (goodIn_sub (fun _ h => List.mem_append_right _ h) (by decide +kernel))
set_option maxRecDepth 20000 in
theorem gL_law_L_hasSpring : GoodIn wsL_law (va_wsS RL 147 yL_hasSpring wsL_hasSpring) := goodIn_app (goodIn_of _ (by decide +kernel)) ggL_law_L_hasSpring
set_option maxRecDepth 20000 in
theorem ggL_law_X2_hasSpring : GoodIn wsL_law wsX2_hasSpring := goodIn_r _ [373, 113, 49, 189, 190, 191, 5, 192, 114, 154, 155, 156, 216, 217, 218, 219, 786, 787, 788, 789, 790, 791, 792, 793, 794, 795, 796, 797, 798, 799, 800, 801, 802, 803, 804] (by decide +kernel) (by decide +kernel)
set_option maxRecDepth 20000 in
theorem gL_law_X2_hasSpring : GoodIn wsL_law (wsV RL 149 RX2 yX2_hasSpring wsX2_hasSpring) := goodIn_app (goodIn_of _ (by decide +kernel)) ggL_law_X2_hasSpring
set_option maxRecDepth 20000 in
theorem ggL_law_L_springOf : GoodIn wsL_law wsL_springOf := goodIn_ca (goodIn_r _ [376, 130, 377, 378, 379, 2, 380, 16, 164, 165, 166, 167, 141, 142, 168, 106, 107, 15, 108, 27, 381, 382, 383, 384, 34, 780, 781, 782, 783, 784, 785, 805, 806, 807, 808, 809, 810, 811, 812, 813, 814, 815, 816, 817, 818, 819, 820] (by decide +kernel) (by decide +kernel)) (goodIn_sub (fun _ h => List.mem_append_right _ h) (by decide +kernel))
set_option maxRecDepth 20000 in
theorem gL_law_L_springOf : GoodIn wsL_law (va_wsS RL 150 yL_springOf wsL_springOf) := goodIn_app (goodIn_of _ (by decide +kernel)) ggL_law_L_springOf
set_option maxRecDepth 20000 in
theorem ggL_law_X2_springOf : GoodIn wsL_law wsX2_springOf := goodIn_r _ [388, 113, 51, 189, 190, 191, 5, 192, 114, 154, 155, 156, 115, 116, 117, 118, 786, 787, 788, 789, 790, 791, 792, 793, 794, 795, 796, 797, 798, 799, 800, 801, 802, 803, 804] (by decide +kernel) (by decide +kernel)
set_option maxRecDepth 20000 in
theorem gL_law_X2_springOf : GoodIn wsL_law (wsV RL 152 RX2 yX2_springOf wsX2_springOf) := goodIn_app (goodIn_of _ (by decide +kernel)) ggL_law_X2_springOf
set_option maxRecDepth 20000 in
theorem ggL_law_L_waterAt : GoodIn wsL_law wsL_waterAt := goodIn_ca (goodIn_r _ [391, 130, 392, 393, 394, 2, 395, 16, 164, 165, 166, 167, 141, 142, 168, 106, 107, 15, 108, 27, 396, 397, 398, 399, 37, 780, 781, 782, 783, 784, 785, 805, 806, 807, 808, 809, 810, 811, 812, 813, 814, 815, 816, 817, 818, 819, 820] (by decide +kernel) (by decide +kernel)) (goodIn_sub (fun _ h => List.mem_append_right _ h) (by decide +kernel))
set_option maxRecDepth 20000 in
theorem gL_law_L_waterAt : GoodIn wsL_law (va_wsS RL 153 yL_waterAt wsL_waterAt) := goodIn_app (goodIn_of _ (by decide +kernel)) ggL_law_L_waterAt
set_option maxRecDepth 20000 in
theorem ggL_law_X2_waterAt : GoodIn wsL_law wsX2_waterAt := goodIn_r _ [403, 57, 404, 405, 406, 5, 407, 113, 189, 190, 191, 192, 114, 154, 155, 156, 115, 116, 117, 118, 256, 257, 258, 259, 56, 59, 260, 261, 262, 263, 264, 265, 266, 267, 193, 194, 195, 196, 48, 268, 269, 270, 271, 49, 51, 58, 272, 102, 103, 104, 273, 274, 275, 276, 277, 278, 279, 280, 53, 239, 50, 281, 282, 283, 284, 786, 787, 788, 789, 790, 791, 792, 793, 794, 795, 796, 797, 798, 799, 800, 801, 802, 803, 804] (by decide +kernel) (by decide +kernel)
set_option maxRecDepth 20000 in
theorem gL_law_X2_waterAt : GoodIn wsL_law (wsV RL 155 RX2 yX2_waterAt wsX2_waterAt) := goodIn_app (goodIn_of _ (by decide +kernel)) ggL_law_X2_waterAt
set_option maxRecDepth 20000 in
theorem ggL_law_L_lengthAt : GoodIn wsL_law wsL_lengthAt := goodIn_ca (goodIn_r _ [410, 130, 411, 412, 413, 2, 414, 16, 164, 165, 166, 167, 141, 142, 168, 106, 107, 15, 108, 27, 415, 416, 417, 418, 38, 780, 781, 782, 783, 784, 785, 805, 806, 807, 808, 809, 810, 811, 812, 813, 814, 815, 816, 817, 818, 819, 820] (by decide +kernel) (by decide +kernel)) (goodIn_sub (fun _ h => List.mem_append_right _ h) (by decide +kernel))
set_option maxRecDepth 20000 in
theorem gL_law_L_lengthAt : GoodIn wsL_law (va_wsS RL 156 yL_lengthAt wsL_lengthAt) := goodIn_app (goodIn_of _ (by decide +kernel)) ggL_law_L_lengthAt
set_option maxRecDepth 20000 in
theorem ggL_law_X2_lengthAt : GoodIn wsL_law wsX2_lengthAt := goodIn_r _ [422, 58, 404, 405, 406, 5, 407, 113, 189, 190, 191, 192, 114, 154, 155, 156, 115, 116, 117, 118, 256, 257, 258, 259, 56, 59, 260, 261, 262, 263, 264, 265, 266, 267, 193, 194, 195, 196, 48, 268, 269, 270, 271, 57, 49, 51, 272, 102, 103, 104, 273, 274, 275, 276, 277, 278, 279, 280, 53, 239, 50, 281, 282, 283, 284, 786, 787, 788, 789, 790, 791, 792, 793, 794, 795, 796, 797, 798, 799, 800, 801, 802, 803, 804] (by decide +kernel) (by decide +kernel)
set_option maxRecDepth 20000 in
theorem gL_law_X2_lengthAt : GoodIn wsL_law (wsV RL 158 RX2 yX2_lengthAt wsX2_lengthAt) := goodIn_app (goodIn_of _ (by decide +kernel)) ggL_law_X2_lengthAt
set_option maxRecDepth 20000 in
theorem ggL_law_L_mouthOf : GoodIn wsL_law wsL_mouthOf := goodIn_ca (goodIn_r _ [425, 130, 426, 427, 428, 2, 429, 16, 164, 165, 166, 167, 141, 142, 168, 106, 107, 15, 108, 27, 430, 431, 432, 433, 29, 105, 780, 781, 782, 783, 784, 785, 805, 806, 807, 808, 809, 810, 811, 812, 813, 814, 815, 816, 817, 818, 819, 820] (by decide +kernel) (by decide +kernel)) (goodIn_sub (fun _ h => List.mem_append_right _ h) (by decide +kernel))
set_option maxRecDepth 20000 in
theorem gL_law_L_mouthOf : GoodIn wsL_law (va_wsS RL 159 yL_mouthOf wsL_mouthOf) := goodIn_app (goodIn_of _ (by decide +kernel)) ggL_law_L_mouthOf
set_option maxRecDepth 20000 in
theorem ggL_law_X2_mouthOf : GoodIn wsL_law wsX2_mouthOf := goodIn_r _ [437, 113, 189, 190, 191, 5, 192, 114, 154, 155, 156, 438, 439, 440, 441, 48, 115, 116, 117, 118, 786, 787, 788, 789, 790, 791, 792, 793, 794, 795, 796, 797, 798, 799, 800, 801, 802, 803, 804] (by decide +kernel) (by decide +kernel)
set_option maxRecDepth 20000 in
theorem gL_law_X2_mouthOf : GoodIn wsL_law (wsV RL 161 RX2 yX2_mouthOf wsX2_mouthOf) := goodIn_app (goodIn_of _ (by decide +kernel)) ggL_law_X2_mouthOf
set_option maxRecDepth 20000 in
theorem ggL_law_L_isAbove : GoodIn wsL_law wsL_isAbove := goodIn_ca (goodIn_r _ [444, 130, 445, 446, 447, 2, 448, 16, 164, 165, 166, 167, 141, 142, 168, 106, 107, 15, 108, 27, 169, 170, 171, 172, 29, 105, 780, 781, 782, 783, 784, 785, 805, 806, 807, 808, 809, 810, 811, 812, 813, 814, 815, 816, 817, 818, 819, 820] (by decide +kernel) (by decide +kernel)) (goodIn_sub (fun _ h => List.mem_append_right _ h) (by decide +kernel))
set_option maxRecDepth 20000 in
theorem gL_law_L_isAbove : GoodIn wsL_law (va_wsS RL 162 yL_isAbove wsL_isAbove) := goodIn_app (goodIn_of _ (by decide +kernel)) ggL_law_L_isAbove
set_option maxRecDepth 20000 in
theorem ggL_law_X2_isAbove : GoodIn wsL_law wsX2_isAbove := goodIn_r _ [452, 113, 189, 190, 191, 5, 192, 114, 154, 155, 156, 193, 194, 195, 196, 48, 216, 217, 218, 219, 786, 787, 788, 789, 790, 791, 792, 793, 794, 795, 796, 797, 798, 799, 800, 801, 802, 803, 804] (by decide +kernel) (by decide +kernel)
set_option maxRecDepth 20000 in
theorem gL_law_X2_isAbove : GoodIn wsL_law (wsV RL 164 RX2 yX2_isAbove wsX2_isAbove) := goodIn_app (goodIn_of _ (by decide +kernel)) ggL_law_X2_isAbove
set_option maxRecDepth 20000 in
theorem ggL_law_L_placesAbove : GoodIn wsL_law wsL_placesAbove := goodIn_ca (goodIn_r _ [455, 130, 456, 457, 458, 2, 459, 16, 164, 165, 166, 167, 141, 142, 168, 106, 107, 15, 108, 27, 77, 78, 79, 80, 169, 170, 171, 172, 29, 105, 780, 781, 782, 783, 784, 785, 805, 806, 807, 808, 809, 810, 811, 812, 813, 814, 815, 816, 817, 818, 819, 820] (by decide +kernel) (by decide +kernel)) (goodIn_sub (fun _ h => List.mem_append_right _ h) (by decide +kernel))
set_option maxRecDepth 20000 in
theorem gL_law_L_placesAbove : GoodIn wsL_law (va_wsS RL 165 yL_placesAbove wsL_placesAbove) := goodIn_app (goodIn_of _ (by decide +kernel)) ggL_law_L_placesAbove
set_option maxRecDepth 20000 in
theorem ggL_law_X2_placesAbove : GoodIn wsL_law wsX2_placesAbove := goodIn_r _ [463, 113, 189, 190, 191, 5, 192, 114, 154, 155, 156, 264, 265, 266, 267, 193, 194, 195, 196, 48, 115, 116, 117, 118, 786, 787, 788, 789, 790, 791, 792, 793, 794, 795, 796, 797, 798, 799, 800, 801, 802, 803, 804] (by decide +kernel) (by decide +kernel)
set_option maxRecDepth 20000 in
theorem gL_law_X2_placesAbove : GoodIn wsL_law (wsV RL 167 RX2 yX2_placesAbove wsX2_placesAbove) := goodIn_app (goodIn_of _ (by decide +kernel)) ggL_law_X2_placesAbove
set_option maxRecDepth 20000 in
theorem ggL_law_L_meeting : GoodIn wsL_law wsL_meeting := goodIn_ca (goodIn_r _ [466, 130, 467, 468, 469, 2, 470, 16, 164, 165, 166, 167, 141, 142, 168, 106, 107, 15, 108, 27, 471, 472, 473, 474, 29, 105, 475, 170, 171, 172, 780, 781, 782, 783, 784, 785, 805, 806, 807, 808, 809, 810, 811, 812, 813, 814, 815, 816, 817, 818, 819, 820] (by decide +kernel) (by decide +kernel)) (goodIn_sub (fun _ h => List.mem_append_right _ h) (by decide +kernel))
set_option maxRecDepth 20000 in
theorem gL_law_L_meeting : GoodIn wsL_law (va_wsS RL 168 yL_meeting wsL_meeting) := goodIn_app (goodIn_of _ (by decide +kernel)) ggL_law_L_meeting
set_option maxRecDepth 20000 in
theorem ggL_law_X2_meeting : GoodIn wsL_law wsX2_meeting := goodIn_r _ [479, 113, 48, 189, 190, 191, 5, 192, 114, 154, 155, 156, 115, 116, 117, 118, 193, 194, 195, 196, 786, 787, 788, 789, 790, 791, 792, 793, 794, 795, 796, 797, 798, 799, 800, 801, 802, 803, 804] (by decide +kernel) (by decide +kernel)
set_option maxRecDepth 20000 in
theorem gL_law_X2_meeting : GoodIn wsL_law (wsV RL 170 RX2 yX2_meeting wsX2_meeting) := goodIn_app (goodIn_of _ (by decide +kernel)) ggL_law_X2_meeting
set_option maxRecDepth 20000 in
theorem ggL_law_L_nameAt : GoodIn wsL_law wsL_nameAt := goodIn_ca (goodIn_r _ [482, 130, 483, 484, 485, 2, 486, 16, 164, 165, 166, 167, 141, 142, 168, 106, 107, 15, 108, 27, 247, 248, 249, 250, 39, 780, 781, 782, 783, 784, 785, 805, 806, 807, 808, 809, 810, 811, 812, 813, 814, 815, 816, 817, 818, 819, 820] (by decide +kernel) (by decide +kernel)) (goodIn_sub (fun _ h => List.mem_append_right _ h) (by decide +kernel))
set_option maxRecDepth 20000 in
theorem gL_law_L_nameAt : GoodIn wsL_law (va_wsS RL 171 yL_nameAt wsL_nameAt) := goodIn_app (goodIn_of _ (by decide +kernel)) ggL_law_L_nameAt
set_option maxRecDepth 20000 in
theorem ggL_law_X2_nameAt : GoodIn wsL_law wsX2_nameAt := goodIn_r _ [490, 59, 404, 405, 406, 5, 407, 113, 189, 190, 191, 192, 114, 154, 155, 156, 115, 116, 117, 118, 256, 257, 258, 259, 56, 260, 261, 262, 263, 264, 265, 266, 267, 193, 194, 195, 196, 48, 268, 269, 270, 271, 57, 49, 51, 58, 272, 102, 103, 104, 273, 274, 275, 276, 277, 278, 279, 280, 53, 239, 50, 281, 282, 283, 284, 786, 787, 788, 789, 790, 791, 792, 793, 794, 795, 796, 797, 798, 799, 800, 801, 802, 803, 804] (by decide +kernel) (by decide +kernel)
set_option maxRecDepth 20000 in
theorem gL_law_X2_nameAt : GoodIn wsL_law (wsV RL 173 RX2 yX2_nameAt wsX2_nameAt) := goodIn_app (goodIn_of _ (by decide +kernel)) ggL_law_X2_nameAt
set_option maxRecDepth 20000 in
theorem ggL_law_L_arguing : GoodIn wsL_law wsL_arguing := goodIn_ca (goodIn_r _ [493, 130, 494, 495, 496, 2, 497, 16, 164, 165, 166, 167, 141, 142, 168, 106, 107, 15, 108, 27, 498, 499, 500, 501, 40, 780, 781, 782, 783, 784, 785, 805, 806, 807, 808, 809, 810, 811, 812, 813, 814, 815, 816, 817, 818, 819, 820] (by decide +kernel) (by decide +kernel)) (goodIn_sub (fun _ h => List.mem_append_right _ h) (by decide +kernel))
set_option maxRecDepth 20000 in
theorem gL_law_L_arguing : GoodIn wsL_law (va_wsS RL 174 yL_arguing wsL_arguing) := goodIn_app (goodIn_of _ (by decide +kernel)) ggL_law_L_arguing
set_option maxRecDepth 20000 in
theorem ggL_law_X2_arguing : GoodIn wsL_law wsX2_arguing := goodIn_r _ [505, 113, 189, 190, 191, 5, 192, 114, 154, 155, 156, 115, 116, 117, 118, 256, 257, 258, 259, 56, 59, 260, 261, 262, 263, 264, 265, 266, 267, 193, 194, 195, 196, 48, 268, 269, 270, 271, 57, 49, 51, 58, 272, 102, 103, 104, 273, 274, 275, 276, 277, 278, 279, 280, 53, 239, 50, 281, 282, 283, 284, 506, 507, 508, 509, 786, 787, 788, 789, 790, 791, 792, 793, 794, 795, 796, 797, 798, 799, 800, 801, 802, 803, 804] (by decide +kernel) (by decide +kernel)
set_option maxRecDepth 20000 in
theorem gL_law_X2_arguing : GoodIn wsL_law (wsV RL 176 RX2 yX2_arguing wsX2_arguing) := goodIn_app (goodIn_of _ (by decide +kernel)) ggL_law_X2_arguing
set_option maxRecDepth 20000 in
theorem ggL_law_L_isArgued : GoodIn wsL_law wsL_isArgued := goodIn_ca (goodIn_r _ [512, 130, 513, 514, 515, 2, 516, 16, 164, 165, 166, 167, 141, 142, 168, 106, 107, 15, 108, 27, 517, 518, 519, 520, 41, 780, 781, 782, 783, 784, 785, 805, 806, 807, 808, 809, 810, 811, 812, 813, 814, 815, 816, 817, 818, 819, 820] (by decide +kernel) (by decide +kernel)) (goodIn_sub (fun _ h => List.mem_append_right _ h) (by decide +kernel))
set_option maxRecDepth 20000 in
theorem gL_law_L_isArgued : GoodIn wsL_law (va_wsS RL 177 yL_isArgued wsL_isArgued) := goodIn_app (goodIn_of _ (by decide +kernel)) ggL_law_L_isArgued
set_option maxRecDepth 20000 in
theorem ggL_law_X2_isArgued : GoodIn wsL_law wsX2_isArgued := goodIn_r _ [524, 113, 189, 190, 191, 5, 192, 114, 154, 155, 156, 216, 217, 218, 219, 256, 257, 258, 259, 56, 59, 260, 261, 262, 263, 264, 265, 266, 267, 193, 194, 195, 196, 48, 268, 269, 270, 271, 57, 49, 51, 58, 272, 102, 103, 104, 273, 274, 275, 276, 277, 278, 279, 280, 53, 239, 50, 281, 282, 283, 284, 525, 526, 527, 528, 786, 787, 788, 789, 790, 791, 792, 793, 794, 795, 796, 797, 798, 799, 800, 801, 802, 803, 804] (by decide +kernel) (by decide +kernel)
set_option maxRecDepth 20000 in
theorem gL_law_X2_isArgued : GoodIn wsL_law (wsV RL 179 RX2 yX2_isArgued wsX2_isArgued) := goodIn_app (goodIn_of _ (by decide +kernel)) ggL_law_X2_isArgued
set_option maxRecDepth 20000 in
theorem ggL_law_L_placesNamed : GoodIn wsL_law wsL_placesNamed := goodIn_ca (goodIn_r _ [531, 130, 532, 533, 534, 2, 535, 16, 138, 139, 140, 141, 142, 143, 144, 145, 536, 537, 538, 15, 539, 27, 39, 780, 781, 782, 783, 784, 785, 805, 806, 807, 808, 809, 810, 811, 812, 813, 814, 815, 816, 817, 818, 819, 820] (by decide +kernel) (by decide +kernel)) (goodIn_sub (fun _ h => List.mem_append_right _ h) (by decide +kernel))
set_option maxRecDepth 20000 in
theorem gL_law_L_placesNamed : GoodIn wsL_law (va_wsS RL 180 yL_placesNamed wsL_placesNamed) := goodIn_app (goodIn_of _ (by decide +kernel)) ggL_law_L_placesNamed
set_option maxRecDepth 20000 in
theorem ggL_law_X2_placesNamed : GoodIn wsL_law wsX2_placesNamed := goodIn_r _ [543, 113, 154, 155, 5, 156, 115, 116, 117, 118, 256, 257, 258, 259, 114, 56, 59, 260, 261, 262, 263, 264, 265, 266, 267, 193, 194, 195, 196, 48, 268, 269, 270, 271, 57, 49, 51, 58, 272, 102, 103, 104, 273, 274, 275, 276, 277, 278, 279, 280, 53, 239, 50, 281, 282, 283, 284, 544, 545, 546, 547, 786, 787, 788, 789, 790, 791, 792, 793, 794, 795, 796, 797, 798, 799, 800, 801, 802, 803, 804] (by decide +kernel) (by decide +kernel)
set_option maxRecDepth 20000 in
theorem gL_law_X2_placesNamed : GoodIn wsL_law (wsV RL 182 RX2 yX2_placesNamed wsX2_placesNamed) := goodIn_app (goodIn_of _ (by decide +kernel)) ggL_law_X2_placesNamed
set_option maxRecDepth 20000 in
theorem ggL_law_X1_greatestName : GoodIn wsL_law wsX1_greatestName := goodIn_r _ [551, 16, 536, 537, 538, 15, 539, 27, 39, 780, 781, 782, 783, 784, 785, 805, 806, 807, 808, 809, 810, 811, 812, 813, 814, 815, 816, 817, 818, 819, 820] (by decide +kernel) (by decide +kernel)
set_option maxRecDepth 20000 in
theorem gL_law_X1_greatestName : GoodIn wsL_law (wsV RL 183 RX1 yX1_greatestName wsX1_greatestName) := goodIn_app (goodIn_of _ (by decide +kernel)) ggL_law_X1_greatestName
set_option maxRecDepth 20000 in
theorem ggL_law_X2_greatestName : GoodIn wsL_law wsX2_greatestName := goodIn_r _ [555, 256, 257, 258, 5, 259, 114, 56, 59, 260, 261, 262, 263, 264, 265, 266, 267, 193, 194, 195, 196, 48, 268, 269, 270, 271, 57, 49, 51, 58, 272, 102, 103, 104, 273, 274, 275, 276, 277, 278, 279, 280, 53, 239, 50, 281, 282, 283, 284, 556, 557, 558, 559, 544, 545, 546, 547, 336, 337, 338, 339, 113, 786, 787, 788, 789, 790, 791, 792, 793, 794, 795, 796, 797, 798, 799, 800, 801, 802, 803, 804] (by decide +kernel) (by decide +kernel)
set_option maxRecDepth 20000 in
theorem gL_law_X2_greatestName : GoodIn wsL_law (wsV RL 186 RX2 yX2_greatestName wsX2_greatestName) := goodIn_app (goodIn_of _ (by decide +kernel)) ggL_law_X2_greatestName
set_option maxRecDepth 20000 in
theorem ggL_law_X1_nameless : GoodIn wsL_law wsX1_nameless := goodIn_r _ [563, 16, 536, 537, 538, 15, 539, 27, 39, 780, 781, 782, 783, 784, 785, 805, 806, 807, 808, 809, 810, 811, 812, 813, 814, 815, 816, 817, 818, 819, 820] (by decide +kernel) (by decide +kernel)
set_option maxRecDepth 20000 in
theorem gL_law_X1_nameless : GoodIn wsL_law (wsV RL 187 RX1 yX1_nameless wsX1_nameless) := goodIn_app (goodIn_of _ (by decide +kernel)) ggL_law_X1_nameless
set_option maxRecDepth 20000 in
theorem ggL_law_X2_nameless : GoodIn wsL_law wsX2_nameless := goodIn_r _ [567, 256, 257, 258, 5, 259, 114, 56, 59, 260, 261, 262, 263, 264, 265, 266, 267, 193, 194, 195, 196, 48, 268, 269, 270, 271, 57, 49, 51, 58, 272, 102, 103, 104, 273, 274, 275, 276, 277, 278, 279, 280, 53, 239, 50, 281, 282, 283, 284, 544, 545, 546, 547, 336, 337, 338, 339, 113, 786, 787, 788, 789, 790, 791, 792, 793, 794, 795, 796, 797, 798, 799, 800, 801, 802, 803, 804] (by decide +kernel) (by decide +kernel)
set_option maxRecDepth 20000 in
theorem gL_law_X2_nameless : GoodIn wsL_law (wsV RL 190 RX2 yX2_nameless wsX2_nameless) := goodIn_app (goodIn_of _ (by decide +kernel)) ggL_law_X2_nameless
set_option maxRecDepth 20000 in
theorem ggL_law_X1_bridges : GoodIn wsL_law wsX1_bridges := goodIn_r _ [571, 21, 780, 781, 782, 783, 784, 785] (by decide +kernel) (by decide +kernel)
set_option maxRecDepth 20000 in
theorem gL_law_X1_bridges : GoodIn wsL_law (wsV RL 191 RX1 yX1_bridges wsX1_bridges) := goodIn_app (goodIn_of _ (by decide +kernel)) ggL_law_X1_bridges
set_option maxRecDepth 20000 in
theorem ggL_law_X2_bridges : GoodIn wsL_law wsX2_bridges := goodIn_r _ [575, 255, 336, 337, 338, 5, 339, 113, 786, 787, 788, 789, 790, 791, 792, 793, 794, 795, 796, 797, 798, 799, 800, 801, 802, 803, 804] (by decide +kernel) (by decide +kernel)
set_option maxRecDepth 20000 in
theorem gL_law_X2_bridges : GoodIn wsL_law (wsV RL 194 RX2 yX2_bridges wsX2_bridges) := goodIn_app (goodIn_of _ (by decide +kernel)) ggL_law_X2_bridges
set_option maxRecDepth 20000 in
theorem ggL_law_L_placeOf : GoodIn wsL_law wsL_placeOf := goodIn_ca (goodIn_r _ [578, 130, 579, 580, 581, 2, 582, 19, 583, 584, 585, 586, 141, 142, 21, 780, 781, 782, 783, 784, 785] (by decide +kernel) (by decide +kernel)) (goodIn_sub (fun _ h => List.mem_append_right _ h) (by decide +kernel))
set_option maxRecDepth 20000 in
theorem gL_law_L_placeOf : GoodIn wsL_law (va_wsS RL 195 yL_placeOf wsL_placeOf) := goodIn_app (goodIn_of _ (by decide +kernel)) ggL_law_L_placeOf
set_option maxRecDepth 20000 in
theorem ggL_law_X2_placeOf : GoodIn wsL_law wsX2_placeOf := goodIn_r _ [590, 113, 54, 591, 592, 593, 5, 594, 255, 154, 155, 156, 115, 116, 117, 118, 786, 787, 788, 789, 790, 791, 792, 793, 794, 795, 796, 797, 798, 799, 800, 801, 802, 803, 804] (by decide +kernel) (by decide +kernel)
set_option maxRecDepth 20000 in
theorem gL_law_X2_placeOf : GoodIn wsL_law (wsV RL 197 RX2 yX2_placeOf wsX2_placeOf) := goodIn_app (goodIn_of _ (by decide +kernel)) ggL_law_X2_placeOf
set_option maxRecDepth 20000 in
theorem ggL_law_L_keeps : GoodIn wsL_law wsL_keeps := goodIn_ca (goodIn_r _ [597, 130, 598, 599, 600, 2, 601, 20, 583, 584, 585, 586, 141, 142, 21, 780, 781, 782, 783, 784, 785] (by decide +kernel) (by decide +kernel)) (goodIn_sub (fun _ h => List.mem_append_right _ h) (by decide +kernel))
set_option maxRecDepth 20000 in
theorem gL_law_L_keeps : GoodIn wsL_law (va_wsS RL 198 yL_keeps wsL_keeps) := goodIn_app (goodIn_of _ (by decide +kernel)) ggL_law_L_keeps
set_option maxRecDepth 20000 in
theorem ggL_law_X2_keeps : GoodIn wsL_law wsX2_keeps := goodIn_r _ [605, 113, 55, 591, 592, 593, 5, 594, 255, 154, 155, 156, 115, 116, 117, 118, 786, 787, 788, 789, 790, 791, 792, 793, 794, 795, 796, 797, 798, 799, 800, 801, 802, 803, 804] (by decide +kernel) (by decide +kernel)
set_option maxRecDepth 20000 in
theorem gL_law_X2_keeps : GoodIn wsL_law (wsV RL 200 RX2 yX2_keeps wsX2_keeps) := goodIn_app (goodIn_of _ (by decide +kernel)) ggL_law_X2_keeps
set_option maxRecDepth 20000 in
theorem ggL_law_L_isInsulted : GoodIn wsL_law wsL_isInsulted := goodIn_ca (goodIn_r _ [608, 130, 609, 610, 611, 2, 612, 583, 584, 585, 586, 141, 142, 21, 306, 307, 308, 309, 20, 16, 19, 247, 248, 249, 15, 250, 39, 780, 781, 782, 783, 784, 785, 805, 806, 807, 808, 809, 810, 811, 812, 813, 814, 815, 816, 817, 818, 819, 820] (by decide +kernel) (by decide +kernel)) (goodIn_sub (fun _ h => List.mem_append_right _ h) (by decide +kernel))
set_option maxRecDepth 20000 in
theorem gL_law_L_isInsulted : GoodIn wsL_law (va_wsS RL 201 yL_isInsulted wsL_isInsulted) := goodIn_app (goodIn_of _ (by decide +kernel)) ggL_law_L_isInsulted
set_option maxRecDepth 20000 in
theorem ggL_law_X2_isInsulted : GoodIn wsL_law wsX2_isInsulted := goodIn_r _ [616, 113, 591, 592, 593, 5, 594, 255, 154, 155, 156, 216, 217, 218, 219, 256, 257, 258, 259, 114, 56, 59, 260, 261, 262, 263, 264, 265, 266, 267, 193, 194, 195, 196, 48, 268, 269, 270, 271, 57, 49, 51, 58, 272, 102, 103, 104, 273, 274, 275, 276, 277, 278, 279, 280, 53, 239, 50, 281, 282, 283, 284, 324, 325, 326, 327, 55, 54, 786, 787, 788, 789, 790, 791, 792, 793, 794, 795, 796, 797, 798, 799, 800, 801, 802, 803, 804] (by decide +kernel) (by decide +kernel)
set_option maxRecDepth 20000 in
theorem gL_law_X2_isInsulted : GoodIn wsL_law (wsV RL 203 RX2 yX2_isInsulted wsX2_isInsulted) := goodIn_app (goodIn_of _ (by decide +kernel)) ggL_law_X2_isInsulted
set_option maxRecDepth 20000 in
theorem ggL_law_X1_insults : GoodIn wsL_law wsX1_insults := goodIn_r _ [620, 302, 303, 304, 2, 305, 21, 306, 307, 308, 309, 20, 16, 19, 247, 248, 249, 15, 250, 39, 780, 781, 782, 783, 784, 785, 805, 806, 807, 808, 809, 810, 811, 812, 813, 814, 815, 816, 817, 818, 819, 820] (by decide +kernel) (by decide +kernel)
set_option maxRecDepth 20000 in
theorem gL_law_X1_insults : GoodIn wsL_law (wsV RL 204 RX1 yX1_insults wsX1_insults) := goodIn_app (goodIn_of _ (by decide +kernel)) ggL_law_X1_insults
set_option maxRecDepth 20000 in
theorem ggL_law_X2_insults : GoodIn wsL_law wsX2_insults := goodIn_r _ [624, 320, 321, 322, 5, 323, 255, 256, 257, 258, 259, 114, 56, 59, 260, 261, 262, 263, 264, 265, 266, 267, 193, 194, 195, 196, 48, 268, 269, 270, 271, 57, 49, 51, 58, 272, 102, 103, 104, 273, 274, 275, 276, 277, 278, 279, 280, 53, 239, 50, 281, 282, 283, 284, 324, 325, 326, 327, 55, 54, 336, 337, 338, 339, 113, 786, 787, 788, 789, 790, 791, 792, 793, 794, 795, 796, 797, 798, 799, 800, 801, 802, 803, 804] (by decide +kernel) (by decide +kernel)
set_option maxRecDepth 20000 in
theorem gL_law_X2_insults : GoodIn wsL_law (wsV RL 207 RX2 yX2_insults wsX2_insults) := goodIn_app (goodIn_of _ (by decide +kernel)) ggL_law_X2_insults
set_option maxRecDepth 20000 in
theorem ggL_law_L_insultsAt : GoodIn wsL_law wsL_insultsAt := goodIn_ca (goodIn_r _ [627, 130, 628, 629, 630, 2, 631, 21, 19, 164, 165, 166, 167, 141, 142, 16, 168, 106, 107, 15, 108, 27, 306, 307, 308, 309, 20, 247, 248, 249, 250, 39, 780, 781, 782, 783, 784, 785, 805, 806, 807, 808, 809, 810, 811, 812, 813, 814, 815, 816, 817, 818, 819, 820] (by decide +kernel) (by decide +kernel)) (goodIn_sub (fun _ h => List.mem_append_right _ h) (by decide +kernel))
set_option maxRecDepth 20000 in
theorem gL_law_L_insultsAt : GoodIn wsL_law (va_wsS RL 208 yL_insultsAt wsL_insultsAt) := goodIn_app (goodIn_of _ (by decide +kernel)) ggL_law_L_insultsAt
set_option maxRecDepth 20000 in
theorem ggL_law_X2_insultsAt : GoodIn wsL_law wsX2_insultsAt := goodIn_r _ [635, 113, 255, 54, 189, 190, 191, 5, 192, 114, 154, 155, 156, 115, 116, 117, 118, 256, 257, 258, 259, 56, 59, 260, 261, 262, 263, 264, 265, 266, 267, 193, 194, 195, 196, 48, 268, 269, 270, 271, 57, 49, 51, 58, 272, 102, 103, 104, 273, 274, 275, 276, 277, 278, 279, 280, 53, 239, 50, 281, 282, 283, 284, 324, 325, 326, 327, 55, 786, 787, 788, 789, 790, 791, 792, 793, 794, 795, 796, 797, 798, 799, 800, 801, 802, 803, 804] (by decide +kernel) (by decide +kernel)
set_option maxRecDepth 20000 in
theorem gL_law_X2_insultsAt : GoodIn wsL_law (wsV RL 210 RX2 yX2_insultsAt wsX2_insultsAt) := goodIn_app (goodIn_of _ (by decide +kernel)) ggL_law_X2_insultsAt
set_option maxRecDepth 20000 in
theorem ggL_law_L_nameIn : GoodIn wsL_law wsL_nameIn := goodIn_ca (goodIn_ca (goodIn_r _ [638, 130, 131, 639, 640, 641, 2, 642, 17, 16, 164, 165, 166, 167, 141, 142, 168, 106, 107, 15, 108, 27, 292, 293, 294, 136, 137, 143, 144, 145, 643, 644, 645, 646, 28, 29, 30, 32, 33, 34, 35, 36, 295, 296, 297, 298, 299, 300, 103, 301, 101, 102, 104, 85, 86, 87, 88, 89, 90, 91, 92, 37, 38, 39, 40, 41, 42, 43, 93, 94, 95, 96, 97, 98, 99, 100, 105, 247, 248, 249, 250, 780, 781, 782, 783, 784, 785, 805, 806, 807, 808, 809, 810, 811, 812, 813, 814, 815, 816, 817, 818, 819, 820] (by decide +kernel) (by decide +kernel)) (goodIn_sub (fun _ h => List.mem_append_right _ h) (by decide +kernel))) (goodIn_sub (fun _ h => List.mem_append_left _ (List.mem_append_right _ h)) (by decide +kernel))
set_option maxRecDepth 20000 in
theorem gL_law_L_nameIn : GoodIn wsL_law (va_wsS RL 211 yL_nameIn wsL_nameIn) := goodIn_app (goodIn_of _ (by decide +kernel)) ggL_law_L_nameIn
set_option maxRecDepth 20000 in
theorem ggL_law_X2_nameIn : GoodIn wsL_law wsX2_nameIn := goodIn_r _ [650, 113, 59, 189, 190, 191, 5, 192, 114, 154, 155, 156, 115, 116, 117, 118, 651, 652, 653, 654, 51, 61, 655, 656, 657, 658, 315, 316, 317, 318, 49, 52, 319, 300, 103, 301, 272, 102, 104, 256, 257, 258, 259, 56, 260, 261, 262, 263, 264, 265, 266, 267, 193, 194, 195, 196, 48, 268, 269, 270, 271, 57, 58, 273, 274, 275, 276, 277, 278, 279, 280, 53, 239, 50, 281, 282, 283, 284, 659, 660, 661, 662, 786, 787, 788, 789, 790, 791, 792, 793, 794, 795, 796, 797, 798, 799, 800, 801, 802, 803, 804] (by decide +kernel) (by decide +kernel)
set_option maxRecDepth 20000 in
theorem gL_law_X2_nameIn : GoodIn wsL_law (wsV RL 213 RX2 yX2_nameIn wsX2_nameIn) := goodIn_app (goodIn_of _ (by decide +kernel)) ggL_law_X2_nameIn
set_option maxRecDepth 20000 in
theorem ggL_law_L_yearsUntilRenamed : GoodIn wsL_law wsL_yearsUntilRenamed := goodIn_ca (goodIn_r _ [665, 130, 666, 667, 668, 2, 669, 17, 16, 164, 165, 166, 167, 141, 142, 168, 106, 107, 15, 108, 27, 643, 644, 645, 646, 28, 29, 30, 32, 33, 34, 35, 36, 295, 296, 297, 298, 299, 300, 103, 301, 101, 102, 104, 85, 86, 87, 88, 89, 90, 91, 92, 37, 38, 39, 40, 41, 42, 43, 93, 94, 95, 96, 97, 98, 99, 100, 105, 247, 248, 249, 250, 780, 781, 782, 783, 784, 785, 805, 806, 807, 808, 809, 810, 811, 812, 813, 814, 815, 816, 817, 818, 819, 820] (by decide +kernel) (by decide +kernel)) (goodIn_sub (fun _ h => List.mem_append_right _ h) (by decide +kernel))
set_option maxRecDepth 20000 in
theorem gL_law_L_yearsUntilRenamed : GoodIn wsL_law (va_wsS RL 214 yL_yearsUntilRenamed wsL_yearsUntilRenamed) := goodIn_app (goodIn_of _ (by decide +kernel)) ggL_law_L_yearsUntilRenamed
set_option maxRecDepth 20000 in
theorem ggL_law_X2_yearsUntilRenamed : GoodIn wsL_law wsX2_yearsUntilRenamed := goodIn_r _ [673, 113, 189, 190, 191, 5, 192, 114, 154, 155, 156, 674, 675, 676, 677, 59, 60, 678, 679, 680, 681, 655, 656, 657, 658, 256, 257, 258, 259, 56, 260, 261, 262, 263, 264, 265, 266, 267, 193, 194, 195, 196, 48, 268, 269, 270, 271, 57, 49, 51, 58, 272, 102, 103, 104, 273, 274, 275, 276, 277, 278, 279, 280, 53, 239, 50, 281, 282, 283, 284, 651, 652, 653, 654, 61, 315, 316, 317, 318, 52, 319, 300, 301, 659, 660, 661, 662, 115, 116, 117, 118, 786, 787, 788, 789, 790, 791, 792, 793, 794, 795, 796, 797, 798, 799, 800, 801, 802, 803, 804] (by decide +kernel) (by decide +kernel)
set_option maxRecDepth 20000 in
theorem gL_law_X2_yearsUntilRenamed : GoodIn wsL_law (wsV RL 216 RX2 yX2_yearsUntilRenamed wsX2_yearsUntilRenamed) := goodIn_app (goodIn_of _ (by decide +kernel)) ggL_law_X2_yearsUntilRenamed
set_option maxRecDepth 20000 in
theorem ggL_law_X1_weightiestSpring : GoodIn wsL_law wsX1_weightiestSpring := goodIn_r _ [685, 16, 17, 77, 78, 79, 15, 80, 27, 381, 382, 383, 384, 34, 643, 644, 645, 646, 28, 29, 30, 32, 33, 35, 36, 686, 687, 688, 689, 85, 86, 87, 88, 89, 90, 91, 92, 37, 38, 39, 40, 41, 42, 43, 93, 94, 95, 96, 97, 98, 99, 100, 101, 102, 103, 104, 105, 106, 107, 108, 690, 691, 692, 693, 780, 781, 782, 783, 784, 785, 805, 806, 807, 808, 809, 810, 811, 812, 813, 814, 815, 816, 817, 818, 819, 820] (by decide +kernel) (by decide +kernel)
set_option maxRecDepth 20000 in
theorem gL_law_X1_weightiestSpring : GoodIn wsL_law (wsV RL 217 RX1 yX1_weightiestSpring wsX1_weightiestSpring) := goodIn_app (goodIn_of _ (by decide +kernel)) ggL_law_X1_weightiestSpring
set_option maxRecDepth 20000 in
theorem ggL_law_X2_weightiestSpring : GoodIn wsL_law wsX2_weightiestSpring := goodIn_r _ [697, 698, 699, 700, 5, 701, 114, 51, 678, 679, 680, 681, 59, 60, 655, 656, 657, 658, 256, 257, 258, 259, 56, 260, 261, 262, 263, 264, 265, 266, 267, 193, 194, 195, 196, 48, 268, 269, 270, 271, 57, 49, 58, 272, 102, 103, 104, 273, 274, 275, 276, 277, 278, 279, 280, 53, 239, 50, 281, 282, 283, 284, 702, 703, 704, 705, 336, 337, 338, 339, 113, 786, 787, 788, 789, 790, 791, 792, 793, 794, 795, 796, 797, 798, 799, 800, 801, 802, 803, 804] (by decide +kernel) (by decide +kernel)
set_option maxRecDepth 20000 in
theorem gL_law_X2_weightiestSpring : GoodIn wsL_law (wsV RL 220 RX2 yX2_weightiestSpring wsX2_weightiestSpring) := goodIn_app (goodIn_of _ (by decide +kernel)) ggL_law_X2_weightiestSpring
set_option maxRecDepth 20000 in
theorem ggL_law_L_renamedByDelta : GoodIn wsL_law wsL_renamedByDelta := goodIn_ca (goodIn_r _ [708, 130, 709, 710, 711, 2, 712, 17, 16, 164, 165, 166, 167, 141, 142, 168, 106, 107, 15, 108, 27, 643, 644, 645, 646, 28, 29, 30, 32, 33, 34, 35, 36, 204, 205, 206, 207, 85, 86, 87, 88, 89, 90, 91, 92, 37, 38, 39, 40, 41, 42, 43, 93, 94, 95, 96, 97, 98, 99, 100, 101, 102, 103, 104, 105, 690, 691, 692, 693, 780, 781, 782, 783, 784, 785, 805, 806, 807, 808, 809, 810, 811, 812, 813, 814, 815, 816, 817, 818, 819, 820] (by decide +kernel) (by decide +kernel)) (goodIn_sub (fun _ h => List.mem_append_right _ h) (by decide +kernel))
set_option maxRecDepth 20000 in
theorem gL_law_L_renamedByDelta : GoodIn wsL_law (va_wsS RL 221 yL_renamedByDelta wsL_renamedByDelta) := goodIn_app (goodIn_of _ (by decide +kernel)) ggL_law_L_renamedByDelta
set_option maxRecDepth 20000 in
theorem ggL_law_X2_renamedByDelta : GoodIn wsL_law wsX2_renamedByDelta := goodIn_r _ [716, 113, 53, 189, 190, 191, 5, 192, 114, 154, 155, 156, 115, 116, 117, 118, 678, 679, 680, 681, 59, 60, 655, 656, 657, 658, 256, 257, 258, 259, 56, 260, 261, 262, 263, 264, 265, 266, 267, 193, 194, 195, 196, 48, 268, 269, 270, 271, 57, 49, 51, 58, 272, 102, 103, 104, 273, 274, 275, 276, 277, 278, 279, 280, 239, 50, 281, 282, 283, 284, 702, 703, 704, 705, 786, 787, 788, 789, 790, 791, 792, 793, 794, 795, 796, 797, 798, 799, 800, 801, 802, 803, 804] (by decide +kernel) (by decide +kernel)
set_option maxRecDepth 20000 in
theorem gL_law_X2_renamedByDelta : GoodIn wsL_law (wsV RL 223 RX2 yX2_renamedByDelta wsX2_renamedByDelta) := goodIn_app (goodIn_of _ (by decide +kernel)) ggL_law_X2_renamedByDelta
set_option maxRecDepth 20000 in
theorem ggL_law_X1_renamedByRule : GoodIn wsL_law wsX1_renamedByRule := goodIn_r _ [720, 17, 16, 643, 644, 645, 15, 646, 27, 28, 29, 30, 32, 33, 34, 35, 36, 227, 228, 229, 230, 231, 232, 233, 234, 85, 86, 87, 88, 89, 90, 91, 92, 37, 38, 39, 40, 41, 42, 43, 93, 94, 95, 96, 97, 98, 99, 100, 101, 102, 103, 104, 105, 106, 107, 108, 690, 691, 692, 693, 780, 781, 782, 783, 784, 785, 805, 806, 807, 808, 809, 810, 811, 812, 813, 814, 815, 816, 817, 818, 819, 820] (by decide +kernel) (by decide +kernel)
set_option maxRecDepth 20000 in
theorem gL_law_X1_renamedByRule : GoodIn wsL_law (wsV RL 224 RX1 yX1_renamedByRule wsX1_renamedByRule) := goodIn_app (goodIn_of _ (by decide +kernel)) ggL_law_X1_renamedByRule
set_option maxRecDepth 20000 in
theorem ggL_law_X2_renamedByRule : GoodIn wsL_law wsX2_renamedByRule := goodIn_r _ [724, 725, 726, 727, 5, 728, 239, 678, 679, 680, 681, 59, 60, 655, 656, 657, 658, 256, 257, 258, 259, 114, 56, 260, 261, 262, 263, 264, 265, 266, 267, 193, 194, 195, 196, 48, 268, 269, 270, 271, 57, 49, 51, 58, 272, 102, 103, 104, 273, 274, 275, 276, 277, 278, 279, 280, 53, 50, 281, 282, 283, 284, 702, 703, 704, 705, 336, 337, 338, 339, 113, 786, 787, 788, 789, 790, 791, 792, 793, 794, 795, 796, 797, 798, 799, 800, 801, 802, 803, 804] (by decide +kernel) (by decide +kernel)
set_option maxRecDepth 20000 in
theorem gL_law_X2_renamedByRule : GoodIn wsL_law (wsV RL 227 RX2 yX2_renamedByRule wsX2_renamedByRule) := goodIn_app (goodIn_of _ (by decide +kernel)) ggL_law_X2_renamedByRule
set_option maxRecDepth 20000 in
theorem ggL_law_X1_meanMouth : GoodIn wsL_law wsX1_meanMouth := goodIn_r _ [732, 16, 77, 78, 79, 15, 80, 27, 173, 174, 175, 176, 29, 396, 397, 398, 399, 37, 780, 781, 782, 783, 784, 785, 805, 806, 807, 808, 809, 810, 811, 812, 813, 814, 815, 816, 817, 818, 819, 820] (by decide +kernel) (by decide +kernel)
set_option maxRecDepth 20000 in
theorem gL_law_X1_meanMouth : GoodIn wsL_law (wsV RL 228 RX1 yX1_meanMouth wsX1_meanMouth) := goodIn_app (goodIn_of _ (by decide +kernel)) ggL_law_X1_meanMouth
set_option maxRecDepth 20000 in
theorem ggL_law_X2_meanMouth : GoodIn wsL_law wsX2_meanMouth := goodIn_r _ [736, 113, 114, 48, 57, 256, 257, 258, 5, 259, 56, 59, 260, 261, 262, 263, 264, 265, 266, 267, 193, 194, 195, 196, 268, 269, 270, 271, 49, 51, 58, 272, 102, 103, 104, 273, 274, 275, 276, 277, 278, 279, 280, 53, 239, 50, 281, 282, 283, 284, 786, 787, 788, 789, 790, 791, 792, 793, 794, 795, 796, 797, 798, 799, 800, 801, 802, 803, 804] (by decide +kernel) (by decide +kernel)
set_option maxRecDepth 20000 in
theorem gL_law_X2_meanMouth : GoodIn wsL_law (wsV RL 232 RX2 yX2_meanMouth wsX2_meanMouth) := goodIn_app (goodIn_of _ (by decide +kernel)) ggL_law_X2_meanMouth
set_option maxRecDepth 20000 in
theorem ggL_law_X1_digest : GoodIn wsL_law wsX1_digest := goodIn_ca (goodIn_r _ [740, 741, 22, 16, 21, 742, 743, 2, 744, 745, 77, 78, 79, 15, 80, 27, 302, 303, 304, 305, 306, 307, 308, 309, 20, 19, 247, 248, 249, 250, 39, 746, 549, 550, 551, 536, 537, 538, 539, 747, 561, 562, 563, 748, 683, 684, 685, 17, 381, 382, 383, 384, 34, 643, 644, 645, 646, 28, 29, 30, 32, 33, 35, 36, 686, 687, 688, 689, 85, 86, 87, 88, 89, 90, 91, 92, 37, 38, 40, 41, 42, 43, 93, 94, 95, 96, 97, 98, 99, 100, 101, 102, 103, 104, 105, 106, 107, 108, 690, 691, 692, 693, 749, 718, 719, 720, 227, 228, 229, 230, 231, 232, 233, 234, 750, 751, 752, 753, 754, 352, 353, 354, 164, 165, 166, 167, 141, 142, 168, 173, 174, 175, 176, 755, 363, 364, 365, 366, 367, 368, 369, 756, 757, 758, 759, 378, 379, 380, 760, 393, 394, 395, 396, 397, 398, 399, 761, 412, 413, 414, 415, 416, 417, 418, 762, 427, 428, 429, 430, 431, 432, 433, 763, 457, 458, 459, 169, 170, 171, 172, 764, 484, 485, 486, 765, 495, 496, 497, 498, 499, 500, 501, 766, 514, 515, 516, 517, 518, 519, 520, 767, 768, 769, 770, 771, 580, 581, 582, 583, 584, 585, 586, 772, 599, 600, 601, 773, 610, 611, 612, 780, 781, 782, 783, 784, 785, 805, 806, 807, 808, 809, 810, 811, 812, 813, 814, 815, 816, 817, 818, 819, 820] (by decide +kernel) (by decide +kernel)) (goodIn_sub (fun _ h => List.mem_append_right _ h) (by decide +kernel))
set_option maxRecDepth 20000 in
theorem gL_law_X1_digest : GoodIn wsL_law (wsV RL 233 RX1 yX1_digest wsX1_digest) := goodIn_app (goodIn_of _ (by decide +kernel)) ggL_law_X1_digest
set_option maxRecDepth 20000 in
theorem ggL_law_X2_digest : GoodIn wsL_law wsX2_digest := goodIn_r _ [777, 113, 18, 314, 114, 255, 778, 779, 48, 49, 51, 57, 58, 59, 54, 55, 698, 699, 700, 5, 701, 678, 679, 680, 681, 60, 655, 656, 657, 658, 256, 257, 258, 259, 56, 260, 261, 262, 263, 264, 265, 266, 267, 193, 194, 195, 196, 268, 269, 270, 271, 272, 102, 103, 104, 273, 274, 275, 276, 277, 278, 279, 280, 53, 239, 50, 281, 282, 283, 284, 702, 703, 704, 705, 725, 726, 727, 728, 320, 321, 322, 323, 324, 325, 326, 327, 556, 557, 558, 559, 544, 545, 546, 547, 438, 439, 440, 441, 506, 507, 508, 509, 525, 526, 527, 528, 786, 787, 788, 789, 790, 791, 792, 793, 794, 795, 796, 797, 798, 799, 800, 801, 802, 803, 804] (by decide +kernel) (by decide +kernel)
set_option maxRecDepth 20000 in
theorem gL_law_X2_digest : GoodIn wsL_law (wsV RL 237 RX2 yX2_digest wsX2_digest) := goodIn_app (goodIn_of _ (by decide +kernel)) ggL_law_X2_digest
