set_option maxRecDepth 20000 in
theorem ggL_law_X0_init : GoodIn wsL_law wsX0_init := goodIn_r _ [9, 10, 11, 12, 13, 14, 15, 16, 17, 18, 19, 20, 21, 22, 23, 24, 25, 26, 27, 28, 29, 30, 31, 32, 2, 33, 34, 35, 36, 37, 38, 39, 40, 41, 42, 43, 44, 45, 46, 47, 48, 49, 50, 51, 52, 53, 54, 55, 56, 57, 58, 59, 448, 449, 450, 451, 452, 453, 454, 455, 456, 457, 458, 459, 460, 461, 462] (by decide +kernel) (by decide +kernel)
set_option maxRecDepth 20000 in
theorem gL_law_X0_init : GoodIn wsL_law (wsX0_init) := ggL_law_X0_init
set_option maxRecDepth 20000 in
theorem ggL_law_X1_init : GoodIn wsL_law wsX1_init := goodIn_r _ [62, 63, 11, 12, 13, 64, 65, 66, 67, 68, 69, 70, 71, 72, 73, 74, 463, 464, 465, 466, 467, 468, 469, 470, 471, 472, 473, 474, 475, 476, 477] (by decide +kernel) (by decide +kernel)
set_option maxRecDepth 20000 in
theorem gL_law_X1_init : GoodIn wsL_law (wsX1_init) := ggL_law_X1_init
set_option maxRecDepth 20000 in
theorem ggL_law_L_untag : GoodIn wsL_law wsL_untag := goodIn_ca (goodIn_ca (goodIn_r _ [78, 79, 80, 81, 82, 83, 2, 84, 85, 86, 14, 87, 88, 89, 90, 91, 92, 93, 94, 95, 96, 97, 98, 99, 100, 101, 15, 49, 50, 51, 38, 39, 40, 448, 449, 450, 451, 452, 453, 454, 455, 456, 457, 458, 459, 460, 461, 462] (by decide +kernel) (by decide +kernel)) (goodIn_sub (fun _ h => List.mem_append_left _ (List.mem_append_left _ (List.mem_append_right _ h))) (by decide +kernel))) (goodIn_sub (fun _ h => List.mem_append_left _ (List.mem_append_right _ h)) (by decide +kernel))
set_option maxRecDepth 20000 in
theorem gL_law_L_untag : GoodIn wsL_law (va_wsS RL 75 yL_untag wsL_untag) := goodIn_app (goodIn_of _ (by decide +kernel)) ggL_law_L_untag
set_option maxRecDepth 20000 in
theorem ggL_law_X1_untag : GoodIn wsL_law wsX1_untag := goodIn_r _ [105, 106, 64, 107, 108, 5, 109, 110, 111, 112, 113, 114, 115, 116, 65, 463, 464, 465, 466, 467, 468, 469, 470, 471, 472, 473, 474, 475, 476, 477] (by decide +kernel) (by decide +kernel)
set_option maxRecDepth 20000 in
theorem gL_law_X1_untag : GoodIn wsL_law (wsV RL 80 RX1 yX1_untag wsX1_untag) := goodIn_app (goodIn_of _ (by decide +kernel)) ggL_law_X1_untag
set_option maxRecDepth 20000 in
theorem ggL_law_X1_thrown : GoodIn wsL_law wsX1_thrown := goodIn_r _ [120, 106, 463, 464, 465, 466, 467, 468, 469, 470, 471, 472, 473, 474, 475, 476, 477] (by decide +kernel) (by decide +kernel)
set_option maxRecDepth 20000 in
theorem gL_law_X1_thrown : GoodIn wsL_law (wsV RL 81 RX1 yX1_thrown wsX1_thrown) := goodIn_app (goodIn_of _ (by decide +kernel)) ggL_law_X1_thrown
set_option maxRecDepth 20000 in
theorem ggL_law_L_tag : GoodIn wsL_law wsL_tag := goodIn_ca (goodIn_ca (goodIn_r _ [123, 79, 80, 124, 125, 126, 2, 127, 85, 86, 14, 15, 87, 88, 89, 90, 91, 92, 93, 94, 95, 96, 97, 49, 50, 51, 98, 99, 100, 101, 38, 39, 40, 448, 449, 450, 451, 452, 453, 454, 455, 456, 457, 458, 459, 460, 461, 462] (by decide +kernel) (by decide +kernel)) (goodIn_sub (fun _ h => List.mem_append_left _ (List.mem_append_left _ (List.mem_append_right _ h))) (by decide +kernel))) (goodIn_sub (fun _ h => List.mem_append_left _ (List.mem_append_right _ h)) (by decide +kernel))
set_option maxRecDepth 20000 in
theorem gL_law_L_tag : GoodIn wsL_law (va_wsS RL 85 yL_tag wsL_tag) := goodIn_app (goodIn_of _ (by decide +kernel)) ggL_law_L_tag
set_option maxRecDepth 20000 in
theorem ggL_law_X1_tag : GoodIn wsL_law wsX1_tag := goodIn_r _ [131, 64, 106, 65, 107, 108, 5, 109, 110, 111, 112, 132, 133, 134, 113, 114, 115, 116, 463, 464, 465, 466, 467, 468, 469, 470, 471, 472, 473, 474, 475, 476, 477] (by decide +kernel) (by decide +kernel)
set_option maxRecDepth 20000 in
theorem gL_law_X1_tag : GoodIn wsL_law (wsV RL 88 RX1 yX1_tag wsX1_tag) := goodIn_app (goodIn_of _ (by decide +kernel)) ggL_law_X1_tag
set_option maxRecDepth 20000 in
theorem ggL_law_L_cable : GoodIn wsL_law wsL_cable := goodIn_ca (goodIn_ca (goodIn_r _ [137, 79, 80, 138, 139, 140, 2, 141, 90, 91, 85, 86, 142, 87, 88, 89, 92, 93, 94, 143, 144, 145, 146, 16, 49, 50, 51, 147, 148, 149, 150, 17, 38, 39, 40, 30, 31, 32, 33, 21, 34, 35, 36, 37, 19, 24, 26, 27, 28, 29, 41, 42, 43, 44, 45, 46, 47, 48, 52, 53, 54, 55, 20, 56, 57, 58, 59, 448, 449, 450, 451, 452, 453, 454, 455, 456, 457, 458, 459, 460, 461, 462] (by decide +kernel) (by decide +kernel)) (goodIn_sub (fun _ h => List.mem_append_left _ (List.mem_append_right _ h)) (by decide +kernel))) (goodIn_sub (fun _ h => List.mem_append_left _ (List.mem_append_left _ (List.mem_append_right _ h))) (by decide +kernel))
set_option maxRecDepth 20000 in
theorem gL_law_L_cable : GoodIn wsL_law (va_wsS RL 89 yL_cable wsL_cable) := goodIn_app (goodIn_of _ (by decide +kernel)) ggL_law_L_cable
set_option maxRecDepth 20000 in
theorem ggL_law_X1_cable : GoodIn wsL_law wsX1_cable := goodIn_r _ [154, 66, 106, 67, 155, 107, 108, 5, 109, 110, 111, 112, 463, 464, 465, 466, 467, 468, 469, 470, 471, 472, 473, 474, 475, 476, 477] (by decide +kernel) (by decide +kernel)
set_option maxRecDepth 20000 in
theorem gL_law_X1_cable : GoodIn wsL_law (wsV RL 92 RX1 yX1_cable wsX1_cable) := goodIn_app (goodIn_of _ (by decide +kernel)) ggL_law_X1_cable
set_option maxRecDepth 20000 in
theorem ggL_law_L_pull : GoodIn wsL_law wsL_pull := goodIn_ca (goodIn_ca (goodIn_r _ [158, 79, 159, 160, 161, 162, 2, 163, 17, 16, 142, 164, 165, 166, 167, 168, 169, 87, 88, 89, 90, 91, 92, 93, 94, 143, 144, 145, 146, 49, 50, 51, 147, 148, 149, 150, 38, 39, 40, 30, 31, 32, 33, 21, 34, 35, 36, 37, 19, 24, 26, 27, 28, 29, 41, 42, 43, 44, 45, 46, 47, 48, 52, 53, 54, 55, 20, 56, 57, 58, 59, 448, 449, 450, 451, 452, 453, 454, 455, 456, 457, 458, 459, 460, 461, 462] (by decide +kernel) (by decide +kernel)) (goodIn_sub (fun _ h => List.mem_append_right _ h) (by decide +kernel))) (goodIn_sub (fun _ h => List.mem_append_left _ (List.mem_append_right _ h)) (by decide +kernel))
set_option maxRecDepth 20000 in
theorem gL_law_L_pull : GoodIn wsL_law (va_wsS RL 93 yL_pull wsL_pull) := goodIn_app (goodIn_of _ (by decide +kernel)) ggL_law_L_pull
set_option maxRecDepth 20000 in
theorem ggL_law_X1_pull : GoodIn wsL_law wsX1_pull := goodIn_r _ [173, 66, 155, 67, 174, 175, 176, 5, 177, 106, 107, 108, 109, 110, 111, 112, 463, 464, 465, 466, 467, 468, 469, 470, 471, 472, 473, 474, 475, 476, 477] (by decide +kernel) (by decide +kernel)
set_option maxRecDepth 20000 in
theorem gL_law_X1_pull : GoodIn wsL_law (wsV RL 96 RX1 yX1_pull wsX1_pull) := goodIn_app (goodIn_of _ (by decide +kernel)) ggL_law_X1_pull
