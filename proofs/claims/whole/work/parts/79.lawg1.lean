set_option maxRecDepth 20000 in
theorem ggL_law_X0_tree : GoodIn wsL_law wsX0_tree := goodIn_r _ [181, 182, 448, 449, 450, 451, 452, 453, 454, 455, 456, 457, 458, 459, 460, 461, 462] (by decide +kernel) (by decide +kernel)
set_option maxRecDepth 20000 in
theorem gL_law_X0_tree : GoodIn wsL_law (wsV RL 97 RX0 yX0_tree wsX0_tree) := goodIn_app (goodIn_of _ (by decide +kernel)) ggL_law_X0_tree
set_option maxRecDepth 20000 in
theorem ggL_law_X1_tree : GoodIn wsL_law wsX1_tree := goodIn_r _ [186, 106, 187, 463, 464, 465, 466, 467, 468, 469, 470, 471, 472, 473, 474, 475, 476, 477] (by decide +kernel) (by decide +kernel)
set_option maxRecDepth 20000 in
theorem gL_law_X1_tree : GoodIn wsL_law (wsV RL 101 RX1 yX1_tree wsX1_tree) := goodIn_app (goodIn_of _ (by decide +kernel)) ggL_law_X1_tree
set_option maxRecDepth 20000 in
theorem ggL_law_L_note : GoodIn wsL_law wsL_note := goodIn_ca (goodIn_r _ [190, 79, 191, 192, 193, 2, 194, 18, 87, 88, 89, 90, 91, 92, 93, 94, 195, 196, 197, 49, 50, 51, 38, 39, 40, 448, 449, 450, 451, 452, 453, 454, 455, 456, 457, 458, 459, 460, 461, 462] (by decide +kernel) (by decide +kernel)) (goodIn_sub (fun _ h => List.mem_append_left _ (List.mem_append_right _ h)) (by decide +kernel))
set_option maxRecDepth 20000 in
theorem gL_law_L_note : GoodIn wsL_law (va_wsS RL 102 yL_note wsL_note) := goodIn_app (goodIn_of _ (by decide +kernel)) ggL_law_L_note
set_option maxRecDepth 20000 in
theorem ggL_law_X1_note : GoodIn wsL_law wsX1_note := goodIn_r _ [201, 106, 68, 107, 108, 5, 109, 110, 111, 112, 463, 464, 465, 466, 467, 468, 469, 470, 471, 472, 473, 474, 475, 476, 477] (by decide +kernel) (by decide +kernel)
set_option maxRecDepth 20000 in
theorem gL_law_X1_note : GoodIn wsL_law (wsV RL 105 RX1 yX1_note wsX1_note) := goodIn_app (goodIn_of _ (by decide +kernel)) ggL_law_X1_note
set_option maxRecDepth 20000 in
theorem ggL_law_L_far : GoodIn wsL_law wsL_far := goodIn_ca (goodIn_r _ [204, 79, 205, 206, 207, 2, 208, 16, 87, 88, 89, 90, 91, 92, 93, 94, 49, 50, 51, 195, 196, 197, 448, 449, 450, 451, 452, 453, 454, 455, 456, 457, 458, 459, 460, 461, 462] (by decide +kernel) (by decide +kernel)) (goodIn_sub (fun _ h => List.mem_append_left _ (List.mem_append_right _ h)) (by decide +kernel))
set_option maxRecDepth 20000 in
theorem gL_law_L_far : GoodIn wsL_law (va_wsS RL 106 yL_far wsL_far) := goodIn_app (goodIn_of _ (by decide +kernel)) ggL_law_L_far
set_option maxRecDepth 20000 in
theorem ggL_law_X1_far : GoodIn wsL_law wsX1_far := goodIn_r _ [212, 106, 66, 107, 108, 5, 109, 110, 111, 112, 463, 464, 465, 466, 467, 468, 469, 470, 471, 472, 473, 474, 475, 476, 477] (by decide +kernel) (by decide +kernel)
set_option maxRecDepth 20000 in
theorem gL_law_X1_far : GoodIn wsL_law (wsV RL 108 RX1 yX1_far wsX1_far) := goodIn_app (goodIn_of _ (by decide +kernel)) ggL_law_X1_far
set_option maxRecDepth 20000 in
theorem ggL_law_L_isOn : GoodIn wsL_law wsL_isOn := goodIn_ca (goodIn_ca (goodIn_r _ [215, 79, 159, 216, 217, 218, 2, 219, 164, 165, 166, 167, 168, 169, 87, 88, 89, 90, 91, 92, 93, 94, 143, 144, 145, 146, 16, 49, 50, 51, 220, 221, 222, 223, 182, 21, 448, 449, 450, 451, 452, 453, 454, 455, 456, 457, 458, 459, 460, 461, 462] (by decide +kernel) (by decide +kernel)) (goodIn_sub (fun _ h => List.mem_append_right _ h) (by decide +kernel))) (goodIn_sub (fun _ h => List.mem_append_left _ (List.mem_append_right _ h)) (by decide +kernel))
set_option maxRecDepth 20000 in
theorem gL_law_L_isOn : GoodIn wsL_law (va_wsS RL 109 yL_isOn wsL_isOn) := goodIn_app (goodIn_of _ (by decide +kernel)) ggL_law_L_isOn
set_option maxRecDepth 20000 in
theorem ggL_law_X1_isOn : GoodIn wsL_law wsX1_isOn := goodIn_r _ [227, 174, 175, 176, 5, 177, 66, 106, 107, 108, 109, 110, 111, 112, 228, 229, 230, 231, 69, 71, 232, 67, 70, 233, 234, 235, 236, 187, 463, 464, 465, 466, 467, 468, 469, 470, 471, 472, 473, 474, 475, 476, 477] (by decide +kernel) (by decide +kernel)
set_option maxRecDepth 20000 in
theorem gL_law_X1_isOn : GoodIn wsL_law (wsV RL 111 RX1 yX1_isOn wsX1_isOn) := goodIn_app (goodIn_of _ (by decide +kernel)) ggL_law_X1_isOn
set_option maxRecDepth 20000 in
theorem ggL_law_L_comesAs : GoodIn wsL_law wsL_comesAs := goodIn_ca (goodIn_ca (goodIn_r _ [239, 79, 159, 240, 241, 242, 2, 243, 95, 96, 97, 90, 91, 164, 165, 166, 167, 168, 169, 87, 88, 89, 92, 93, 94, 143, 144, 145, 146, 16, 49, 50, 51, 244, 245, 246, 247, 14, 98, 99, 100, 101, 15, 448, 449, 450, 451, 452, 453, 454, 455, 456, 457, 458, 459, 460, 461, 462] (by decide +kernel) (by decide +kernel)) (goodIn_sub (fun _ h => List.mem_append_left _ (List.mem_append_right _ h)) (by decide +kernel))) (goodIn_sub (fun _ h => List.mem_append_right _ h) (by decide +kernel))
set_option maxRecDepth 20000 in
theorem gL_law_L_comesAs : GoodIn wsL_law (va_wsS RL 112 yL_comesAs wsL_comesAs) := goodIn_app (goodIn_of _ (by decide +kernel)) ggL_law_L_comesAs
set_option maxRecDepth 20000 in
theorem ggL_law_X1_comesAs : GoodIn wsL_law wsX1_comesAs := goodIn_r _ [251, 106, 107, 108, 5, 109, 110, 111, 112, 132, 133, 134, 174, 175, 176, 177, 66, 252, 253, 254, 255, 64, 113, 114, 115, 116, 65, 463, 464, 465, 466, 467, 468, 469, 470, 471, 472, 473, 474, 475, 476, 477] (by decide +kernel) (by decide +kernel)
set_option maxRecDepth 20000 in
theorem gL_law_X1_comesAs : GoodIn wsL_law (wsV RL 114 RX1 yX1_comesAs wsX1_comesAs) := goodIn_app (goodIn_of _ (by decide +kernel)) ggL_law_X1_comesAs
set_option maxRecDepth 20000 in
theorem ggL_law_L_oneSided : GoodIn wsL_law wsL_oneSided := goodIn_ca (goodIn_ca (goodIn_r _ [258, 79, 159, 259, 260, 261, 2, 262, 15, 16, 164, 165, 166, 167, 168, 169, 87, 88, 89, 90, 91, 92, 93, 94, 143, 144, 145, 146, 49, 50, 51, 263, 264, 265, 266, 267, 268, 269, 448, 449, 450, 451, 452, 453, 454, 455, 456, 457, 458, 459, 460, 461, 462] (by decide +kernel) (by decide +kernel)) (goodIn_sub (fun _ h => List.mem_append_right _ h) (by decide +kernel))) (goodIn_sub (fun _ h => List.mem_append_left _ (List.mem_append_right _ h)) (by decide +kernel))
set_option maxRecDepth 20000 in
theorem gL_law_L_oneSided : GoodIn wsL_law (va_wsS RL 115 yL_oneSided wsL_oneSided) := goodIn_app (goodIn_of _ (by decide +kernel)) ggL_law_L_oneSided
