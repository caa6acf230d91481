set_option maxRecDepth 20000 in
theorem ggL_law_X1_oneSided : GoodIn wsL_law wsX1_oneSided := goodIn_r _ [273, 65, 66, 174, 175, 176, 5, 177, 106, 107, 108, 109, 110, 111, 112, 274, 275, 276, 463, 464, 465, 466, 467, 468, 469, 470, 471, 472, 473, 474, 475, 476, 477] (by decide +kernel) (by decide +kernel)
set_option maxRecDepth 20000 in
theorem gL_law_X1_oneSided : GoodIn wsL_law (wsV RL 117 RX1 yX1_oneSided wsX1_oneSided) := goodIn_app (goodIn_of _ (by decide +kernel)) ggL_law_X1_oneSided
set_option maxRecDepth 20000 in
theorem ggL_law_X0_wrong : GoodIn wsL_law wsX0_wrong := goodIn_r _ [280, 18, 16, 49, 50, 2, 51, 195, 196, 197, 448, 449, 450, 451, 452, 453, 454, 455, 456, 457, 458, 459, 460, 461, 462] (by decide +kernel) (by decide +kernel)
set_option maxRecDepth 20000 in
theorem gL_law_X0_wrong : GoodIn wsL_law (wsV RL 118 RX0 yX0_wrong wsX0_wrong) := goodIn_app (goodIn_of _ (by decide +kernel)) ggL_law_X0_wrong
set_option maxRecDepth 20000 in
theorem ggL_law_X1_wrong : GoodIn wsL_law wsX1_wrong := goodIn_r _ [284, 106, 68, 66, 463, 464, 465, 466, 467, 468, 469, 470, 471, 472, 473, 474, 475, 476, 477] (by decide +kernel) (by decide +kernel)
set_option maxRecDepth 20000 in
theorem gL_law_X1_wrong : GoodIn wsL_law (wsV RL 121 RX1 yX1_wrong wsX1_wrong) := goodIn_app (goodIn_of _ (by decide +kernel)) ggL_law_X1_wrong
set_option maxRecDepth 20000 in
theorem ggL_law_L_root : GoodIn wsL_law wsL_root := goodIn_ca (goodIn_r _ [287, 79, 288, 289, 290, 2, 291, 19, 92, 93, 94, 90, 91, 49, 50, 51, 448, 449, 450, 451, 452, 453, 454, 455, 456, 457, 458, 459, 460, 461, 462] (by decide +kernel) (by decide +kernel)) (goodIn_sub (fun _ h => List.mem_append_left _ (List.mem_append_right _ h)) (by decide +kernel))
set_option maxRecDepth 20000 in
theorem gL_law_L_root : GoodIn wsL_law (va_wsS RL 122 yL_root wsL_root) := goodIn_app (goodIn_of _ (by decide +kernel)) ggL_law_L_root
set_option maxRecDepth 20000 in
theorem ggL_law_X1_root : GoodIn wsL_law wsX1_root := goodIn_r _ [295, 69, 296, 297, 298, 5, 299, 106, 110, 111, 112, 228, 229, 230, 231, 66, 71, 232, 67, 70, 463, 464, 465, 466, 467, 468, 469, 470, 471, 472, 473, 474, 475, 476, 477] (by decide +kernel) (by decide +kernel)
set_option maxRecDepth 20000 in
theorem gL_law_X1_root : GoodIn wsL_law (wsV RL 125 RX1 yX1_root wsX1_root) := goodIn_app (goodIn_of _ (by decide +kernel)) ggL_law_X1_root
set_option maxRecDepth 20000 in
theorem ggL_law_L_costOf : GoodIn wsL_law wsL_costOf := goodIn_ca (goodIn_r _ [302, 79, 303, 304, 305, 2, 306, 20, 92, 93, 94, 90, 91, 49, 50, 51, 448, 449, 450, 451, 452, 453, 454, 455, 456, 457, 458, 459, 460, 461, 462] (by decide +kernel) (by decide +kernel)) (goodIn_sub (fun _ h => List.mem_append_left _ (List.mem_append_right _ h)) (by decide +kernel))
set_option maxRecDepth 20000 in
theorem gL_law_L_costOf : GoodIn wsL_law (va_wsS RL 126 yL_costOf wsL_costOf) := goodIn_app (goodIn_of _ (by decide +kernel)) ggL_law_L_costOf
set_option maxRecDepth 20000 in
theorem ggL_law_X1_costOf : GoodIn wsL_law wsX1_costOf := goodIn_r _ [310, 71, 296, 297, 298, 5, 299, 106, 110, 111, 112, 228, 229, 230, 231, 69, 66, 232, 67, 70, 463, 464, 465, 466, 467, 468, 469, 470, 471, 472, 473, 474, 475, 476, 477] (by decide +kernel) (by decide +kernel)
set_option maxRecDepth 20000 in
theorem gL_law_X1_costOf : GoodIn wsL_law (wsV RL 128 RX1 yX1_costOf wsX1_costOf) := goodIn_app (goodIn_of _ (by decide +kernel)) ggL_law_X1_costOf
set_option maxRecDepth 20000 in
theorem ggL_law_L_wayUp : GoodIn wsL_law wsL_wayUp := goodIn_ca (goodIn_r _ [313, 79, 314, 315, 316, 2, 317, 21, 92, 93, 94, 90, 91, 49, 50, 51, 448, 449, 450, 451, 452, 453, 454, 455, 456, 457, 458, 459, 460, 461, 462] (by decide +kernel) (by decide +kernel)) (goodIn_sub (fun _ h => List.mem_append_left _ (List.mem_append_right _ h)) (by decide +kernel))
set_option maxRecDepth 20000 in
theorem gL_law_L_wayUp : GoodIn wsL_law (va_wsS RL 129 yL_wayUp wsL_wayUp) := goodIn_app (goodIn_of _ (by decide +kernel)) ggL_law_L_wayUp
set_option maxRecDepth 20000 in
theorem ggL_law_X1_wayUp : GoodIn wsL_law wsX1_wayUp := goodIn_r _ [321, 70, 296, 297, 298, 5, 299, 106, 110, 111, 112, 228, 229, 230, 231, 69, 66, 71, 232, 67, 463, 464, 465, 466, 467, 468, 469, 470, 471, 472, 473, 474, 475, 476, 477] (by decide +kernel) (by decide +kernel)
set_option maxRecDepth 20000 in
theorem gL_law_X1_wayUp : GoodIn wsL_law (wsV RL 131 RX1 yX1_wayUp wsX1_wayUp) := goodIn_app (goodIn_of _ (by decide +kernel)) ggL_law_X1_wayUp
set_option maxRecDepth 20000 in
theorem ggL_law_L_hops : GoodIn wsL_law wsL_hops := goodIn_ca (goodIn_r _ [324, 79, 325, 326, 327, 2, 328, 22, 329, 330, 331, 92, 93, 94, 90, 91, 95, 96, 97, 332, 333, 334, 335, 336, 26, 27, 28, 29, 337, 338, 339, 340, 23, 341, 342, 343, 344, 38, 39, 40, 49, 50, 51, 345, 346, 347, 348, 349, 350, 351, 352, 16, 220, 221, 222, 223, 182, 21, 244, 245, 246, 247, 14, 98, 99, 100, 101, 15, 448, 449, 450, 451, 452, 453, 454, 455, 456, 457, 458, 459, 460, 461, 462] (by decide +kernel) (by decide +kernel)) (goodIn_sub (fun _ h => List.mem_append_left _ (List.mem_append_right _ h)) (by decide +kernel))
set_option maxRecDepth 20000 in
theorem gL_law_L_hops : GoodIn wsL_law (va_wsS RL 132 yL_hops wsL_hops) := goodIn_app (goodIn_of _ (by decide +kernel)) ggL_law_L_hops
set_option maxRecDepth 20000 in
theorem ggL_law_X1_hops : GoodIn wsL_law wsX1_hops := goodIn_r _ [356, 106, 72, 132, 133, 5, 134, 110, 111, 112, 357, 358, 359, 360, 361, 362, 363, 73, 364, 66, 228, 229, 230, 231, 69, 71, 232, 67, 70, 233, 234, 235, 236, 187, 252, 253, 254, 255, 64, 113, 114, 115, 116, 65, 463, 464, 465, 466, 467, 468, 469, 470, 471, 472, 473, 474, 475, 476, 477] (by decide +kernel) (by decide +kernel)
set_option maxRecDepth 20000 in
theorem gL_law_X1_hops : GoodIn wsL_law (wsV RL 134 RX1 yX1_hops wsX1_hops) := goodIn_app (goodIn_of _ (by decide +kernel)) ggL_law_X1_hops
