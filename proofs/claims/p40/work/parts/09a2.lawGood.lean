set_option maxRecDepth 20000 in
theorem ggL_law_X1_mouthOf : GoodIn wsL_law wsX1_mouthOf := goodIn_ca (goodIn_r _ [337, 17, 135, 136, 137, 2, 138, 79, 80, 139, 116, 117, 16, 118, 28, 338, 339, 340, 341, 30, 115, 489, 490, 491, 492, 493, 494, 499, 500, 501, 502, 503, 504, 505, 506, 507, 508, 509, 510, 511, 512, 513, 514] (by decide +kernel) (by decide +kernel)) (goodIn_sub (fun _ h => List.mem_append_left _ (List.mem_append_right _ h)) (by decide +kernel))
set_option maxRecDepth 20000 in
theorem gL_law_X1_mouthOf : GoodIn wsL_law (wsV RL 119 RX1 yX1_mouthOf wsX1_mouthOf) := goodIn_app (goodIn_of _ (by decide +kernel)) ggL_law_X1_mouthOf
set_option maxRecDepth 20000 in
theorem ggL_law_X1_waterAt : GoodIn wsL_law wsX1_waterAt := goodIn_ca (goodIn_r _ [321, 17, 135, 136, 137, 2, 138, 79, 80, 139, 116, 117, 16, 118, 28, 322, 323, 324, 325, 38, 489, 490, 491, 492, 493, 494, 499, 500, 501, 502, 503, 504, 505, 506, 507, 508, 509, 510, 511, 512, 513, 514] (by decide +kernel) (by decide +kernel)) (goodIn_sub (fun _ h => List.mem_append_left _ (List.mem_append_right _ h)) (by decide +kernel))
set_option maxRecDepth 20000 in
theorem gL_law_X1_waterAt : GoodIn wsL_law (wsV RL 122 RX1 yX1_waterAt wsX1_waterAt) := goodIn_app (goodIn_of _ (by decide +kernel)) ggL_law_X1_waterAt
set_option maxRecDepth 20000 in
theorem ggL_law_X1_leadsTo : GoodIn wsL_law wsX1_leadsTo := goodIn_ca (goodIn_r _ [302, 17, 135, 136, 137, 2, 138, 79, 80, 139, 116, 117, 16, 118, 28, 144, 145, 146, 147, 30, 489, 490, 491, 492, 493, 494, 499, 500, 501, 502, 503, 504, 505, 506, 507, 508, 509, 510, 511, 512, 513, 514] (by decide +kernel) (by decide +kernel)) (goodIn_sub (fun _ h => List.mem_append_left _ (List.mem_append_right _ h)) (by decide +kernel))
set_option maxRecDepth 20000 in
theorem gL_law_X1_leadsTo : GoodIn wsL_law (wsV RL 125 RX1 yX1_leadsTo wsX1_leadsTo) := goodIn_app (goodIn_of _ (by decide +kernel)) ggL_law_X1_leadsTo
set_option maxRecDepth 20000 in
theorem ggL_law_X1_lengthAt : GoodIn wsL_law wsX1_lengthAt := goodIn_ca (goodIn_r _ [329, 17, 135, 136, 137, 2, 138, 79, 80, 139, 116, 117, 16, 118, 28, 330, 331, 332, 333, 39, 489, 490, 491, 492, 493, 494, 499, 500, 501, 502, 503, 504, 505, 506, 507, 508, 509, 510, 511, 512, 513, 514] (by decide +kernel) (by decide +kernel)) (goodIn_sub (fun _ h => List.mem_append_left _ (List.mem_append_right _ h)) (by decide +kernel))
set_option maxRecDepth 20000 in
theorem gL_law_X1_lengthAt : GoodIn wsL_law (wsV RL 128 RX1 yX1_lengthAt wsX1_lengthAt) := goodIn_app (goodIn_of _ (by decide +kernel)) ggL_law_X1_lengthAt
set_option maxRecDepth 20000 in
theorem ggL_law_X1_placesAbove : GoodIn wsL_law wsX1_placesAbove := goodIn_ca (goodIn_r _ [345, 17, 135, 136, 137, 2, 138, 79, 80, 139, 116, 117, 16, 118, 28, 90, 91, 92, 93, 140, 141, 142, 143, 30, 115, 489, 490, 491, 492, 493, 494, 499, 500, 501, 502, 503, 504, 505, 506, 507, 508, 509, 510, 511, 512, 513, 514] (by decide +kernel) (by decide +kernel)) (goodIn_sub (fun _ h => List.mem_append_left _ (List.mem_append_right _ h)) (by decide +kernel))
set_option maxRecDepth 20000 in
theorem gL_law_X1_placesAbove : GoodIn wsL_law (wsV RL 131 RX1 yX1_placesAbove wsX1_placesAbove) := goodIn_app (goodIn_of _ (by decide +kernel)) ggL_law_X1_placesAbove
set_option maxRecDepth 20000 in
theorem ggL_law_X1_arguing : GoodIn wsL_law wsX1_arguing := goodIn_ca (goodIn_r _ [353, 17, 135, 136, 137, 2, 138, 79, 80, 139, 116, 117, 16, 118, 28, 354, 355, 356, 357, 41, 489, 490, 491, 492, 493, 494, 499, 500, 501, 502, 503, 504, 505, 506, 507, 508, 509, 510, 511, 512, 513, 514] (by decide +kernel) (by decide +kernel)) (goodIn_sub (fun _ h => List.mem_append_left _ (List.mem_append_right _ h)) (by decide +kernel))
set_option maxRecDepth 20000 in
theorem gL_law_X1_arguing : GoodIn wsL_law (wsV RL 134 RX1 yX1_arguing wsX1_arguing) := goodIn_app (goodIn_of _ (by decide +kernel)) ggL_law_X1_arguing
set_option maxRecDepth 20000 in
theorem ggL_law_X1_isArgued : GoodIn wsL_law wsX1_isArgued := goodIn_ca (goodIn_r _ [361, 17, 135, 136, 137, 2, 138, 79, 80, 139, 116, 117, 16, 118, 28, 362, 363, 364, 365, 42, 489, 490, 491, 492, 493, 494, 499, 500, 501, 502, 503, 504, 505, 506, 507, 508, 509, 510, 511, 512, 513, 514] (by decide +kernel) (by decide +kernel)) (goodIn_sub (fun _ h => List.mem_append_left _ (List.mem_append_right _ h)) (by decide +kernel))
set_option maxRecDepth 20000 in
theorem gL_law_X1_isArgued : GoodIn wsL_law (wsV RL 137 RX1 yX1_isArgued wsX1_isArgued) := goodIn_app (goodIn_of _ (by decide +kernel)) ggL_law_X1_isArgued
set_option maxRecDepth 20000 in
theorem ggL_law_X1_hasSpring : GoodIn wsL_law wsX1_hasSpring := goodIn_ca (goodIn_r _ [306, 17, 135, 136, 137, 2, 138, 79, 80, 139, 116, 117, 16, 118, 28, 307, 308, 309, 310, 33, 489, 490, 491, 492, 493, 494, 499, 500, 501, 502, 503, 504, 505, 506, 507, 508, 509, 510, 511, 512, 513, 514] (by decide +kernel) (by decide +kernel)) (goodIn_sub (fun _ h => List.mem_append_left _ (List.mem_append_right _ h)) (by decide +kernel))
set_option maxRecDepth 20000 in
theorem gL_law_X1_hasSpring : GoodIn wsL_law (wsV RL 140 RX1 yX1_hasSpring wsX1_hasSpring) := goodIn_app (goodIn_of _ (by decide +kernel)) ggL_law_X1_hasSpring
set_option maxRecDepth 20000 in
theorem ggL_law_X1_meanMouth : GoodIn wsL_law wsX1_meanMouth := goodIn_r _ [422, 17, 90, 91, 92, 16, 93, 28, 144, 145, 146, 147, 30, 322, 323, 324, 325, 38, 489, 490, 491, 492, 493, 494, 499, 500, 501, 502, 503, 504, 505, 506, 507, 508, 509, 510, 511, 512, 513, 514] (by decide +kernel) (by decide +kernel)
set_option maxRecDepth 20000 in
theorem gL_law_X1_meanMouth : GoodIn wsL_law (wsV RL 143 RX1 yX1_meanMouth wsX1_meanMouth) := goodIn_app (goodIn_of _ (by decide +kernel)) ggL_law_X1_meanMouth
set_option maxRecDepth 20000 in
theorem ggL_law_X1_bridges : GoodIn wsL_law wsX1_bridges := goodIn_r _ [426, 22, 489, 490, 491, 492, 493, 494] (by decide +kernel) (by decide +kernel)
set_option maxRecDepth 20000 in
theorem gL_law_X1_bridges : GoodIn wsL_law (wsV RL 147 RX1 yX1_bridges wsX1_bridges) := goodIn_app (goodIn_of _ (by decide +kernel)) ggL_law_X1_bridges
set_option maxRecDepth 20000 in
theorem ggL_law_X1_keeps : GoodIn wsL_law wsX1_keeps := goodIn_ca (goodIn_r _ [381, 21, 374, 375, 376, 2, 377, 79, 80, 22, 489, 490, 491, 492, 493, 494] (by decide +kernel) (by decide +kernel)) (goodIn_sub (fun _ h => List.mem_append_left _ (List.mem_append_right _ h)) (by decide +kernel))
set_option maxRecDepth 20000 in
theorem gL_law_X1_keeps : GoodIn wsL_law (wsV RL 149 RX1 yX1_keeps wsX1_keeps) := goodIn_app (goodIn_of _ (by decide +kernel)) ggL_law_X1_keeps
set_option maxRecDepth 20000 in
theorem ggL_law_X1_placeOf : GoodIn wsL_law wsX1_placeOf := goodIn_ca (goodIn_r _ [373, 20, 374, 375, 376, 2, 377, 79, 80, 22, 489, 490, 491, 492, 493, 494] (by decide +kernel) (by decide +kernel)) (goodIn_sub (fun _ h => List.mem_append_left _ (List.mem_append_right _ h)) (by decide +kernel))
set_option maxRecDepth 20000 in
theorem gL_law_X1_placeOf : GoodIn wsL_law (wsV RL 152 RX1 yX1_placeOf wsX1_placeOf) := goodIn_app (goodIn_of _ (by decide +kernel)) ggL_law_X1_placeOf
set_option maxRecDepth 20000 in
theorem ggL_law_X1_isInsulted : GoodIn wsL_law wsX1_isInsulted := goodIn_ca (goodIn_r _ [385, 374, 375, 376, 2, 377, 79, 80, 22, 242, 243, 244, 245, 21, 17, 20, 215, 216, 217, 16, 218, 40, 489, 490, 491, 492, 493, 494, 499, 500, 501, 502, 503, 504, 505, 506, 507, 508, 509, 510, 511, 512, 513, 514] (by decide +kernel) (by decide +kernel)) (goodIn_sub (fun _ h => List.mem_append_left _ (List.mem_append_right _ h)) (by decide +kernel))
set_option maxRecDepth 20000 in
theorem gL_law_X1_isInsulted : GoodIn wsL_law (wsV RL 155 RX1 yX1_isInsulted wsX1_isInsulted) := goodIn_app (goodIn_of _ (by decide +kernel)) ggL_law_X1_isInsulted
set_option maxRecDepth 20000 in
theorem ggL_law_X1_insultsAt : GoodIn wsL_law wsX1_insultsAt := goodIn_ca (goodIn_r _ [433, 22, 20, 135, 136, 137, 2, 138, 79, 80, 17, 139, 116, 117, 16, 118, 28, 242, 243, 244, 245, 21, 215, 216, 217, 218, 40, 489, 490, 491, 492, 493, 494, 499, 500, 501, 502, 503, 504, 505, 506, 507, 508, 509, 510, 511, 512, 513, 514] (by decide +kernel) (by decide +kernel)) (goodIn_sub (fun _ h => List.mem_append_left _ (List.mem_append_right _ h)) (by decide +kernel))
set_option maxRecDepth 20000 in
theorem gL_law_X1_insultsAt : GoodIn wsL_law (wsV RL 158 RX1 yX1_insultsAt wsX1_insultsAt) := goodIn_app (goodIn_of _ (by decide +kernel)) ggL_law_X1_insultsAt
