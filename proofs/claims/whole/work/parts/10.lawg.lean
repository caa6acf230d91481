set_option maxRecDepth 20000 in
theorem ggL_law_X0_init : GoodIn wsL_law wsX0_init := goodIn_r _ [9, 10, 11, 12, 13, 14, 15, 16, 17, 18, 19, 20, 21, 22, 23, 24, 25, 26, 27, 28, 29, 30, 31, 32, 2, 33, 34, 35, 36, 37, 38, 39, 40, 41, 42, 43, 44, 45, 46, 47, 48, 49, 50, 51, 52, 53, 54, 55, 56, 57, 58, 59, 448, 449, 450, 451, 452, 453, 454, 455, 456, 457, 458, 459, 460, 461, 462] (by decide +kernel) (by decide +kernel)
set_option maxRecDepth 20000 in
theorem gL_law_X0_init : GoodIn wsL_law (wsX0_init) := ggL_law_X0_init
set_option maxRecDepth 20000 in
theorem ggL_law_X1_init : GoodIn wsL_law wsX1_init := goodIn_r _ [62, 63, 11, 12, 13, 64, 65, 66, 67, 68, 69, 70, 71, 72, 73, 74, 463, 464, 465, 466, 467, 468, 469, 470, 471, 472, 473, 474, 475, 476, 477] (by decide +kernel) (by decide +kernel)
set_option maxRecDepth 20000 in
theorem gL_law_X1_init : GoodIn wsL_law (wsX1_init) := ggL_law_X1_init
set_option maxRecDepth 20000 in
theorem ggL_law_L_untag : GoodIn wsL_law wsL_untag := goodIn_ca (goodIn_ca (goodIn_r _ [78, 79, 80, 81, 82, 83, 2, 84, 85, 86, 14, 87, 88, 89, 90, 91, 92, 93, 94, 95, 96, 97, 98, 99, 100, 101, 15, 49, 50, 51, 38, 39, 40, 448, 449, 450, 451, 452, 453, 454, 455, 456, 457, 458, 459, 460, 461, 462] (by decide +kernel) (by decide +kernel)) (goodIn_sub (fun _ h => List.mem_append_left _ (List.mem_append_left _ (List.mem_append_right _ h))) (by decide +kernel))) (goodIn_sub (fun _ h => List.mem_append_left _ (List.mem_append_right _ h)) (by decide +kernel))
set_option maxRecDepth 20000 in
theorem gL_law_L_untag : GoodIn wsL_law (va_wsS RL 75 yL_untag wsL_untag) := goodIn_app (goodIn_of _ (by decide +kernel)) ggL_law_L_untag
set_option maxRecDepth 20000 in
theorem ggL_law_X1_untag : GoodIn wsL_law wsX1_untag := goodIn_r _ [105, 106, 64, 107, 108, 5, 109, 110, 111, 112, 113, 114, 115, 116, 65, 463, 464, 465, 466, 467, 468, 469, 470, 471, 472, 473, 474, 475, 476, 477] (by decide +kernel) (by decide +kernel)
set_option maxRecDepth 20000 in
theorem gL_law_X1_untag : GoodIn wsL_law (wsV RL 80 RX1 yX1_untag wsX1_untag) := goodIn_app (goodIn_of _ (by decide +kernel)) ggL_law_X1_untag
set_option maxRecDepth 20000 in
theorem ggL_law_X1_thrown : GoodIn wsL_law wsX1_thrown := goodIn_r _ [120, 106, 463, 464, 465, 466, 467, 468, 469, 470, 471, 472, 473, 474, 475, 476, 477] (by decide +kernel) (by decide +kernel)
set_option maxRecDepth 20000 in
theorem gL_law_X1_thrown : GoodIn wsL_law (wsV RL 81 RX1 yX1_thrown wsX1_thrown) := goodIn_app (goodIn_of _ (by decide +kernel)) ggL_law_X1_thrown
set_option maxRecDepth 20000 in
theorem ggL_law_L_tag : GoodIn wsL_law wsL_tag := goodIn_ca (goodIn_ca (goodIn_r _ [123, 79, 80, 124, 125, 126, 2, 127, 85, 86, 14, 15, 87, 88, 89, 90, 91, 92, 93, 94, 95, 96, 97, 49, 50, 51, 98, 99, 100, 101, 38, 39, 40, 448, 449, 450, 451, 452, 453, 454, 455, 456, 457, 458, 459, 460, 461, 462] (by decide +kernel) (by decide +kernel)) (goodIn_sub (fun _ h => List.mem_append_left _ (List.mem_append_left _ (List.mem_append_right _ h))) (by decide +kernel))) (goodIn_sub (fun _ h => List.mem_append_left _ (List.mem_append_right _ h)) (by decide +kernel))
set_option maxRecDepth 20000 in
theorem gL_law_L_tag : GoodIn wsL_law (va_wsS RL 85 yL_tag wsL_tag) := goodIn_app (goodIn_of _ (by decide +kernel)) ggL_law_L_tag
set_option maxRecDepth 20000 in
theorem ggL_law_X1_tag : GoodIn wsL_law wsX1_tag := goodIn_r _ [131, 64, 106, 65, 107, 108, 5, 109, 110, 111, 112, 132, 133, 134, 113, 114, 115, 116, 463, 464, 465, 466, 467, 468, 469, 470, 471, 472, 473, 474, 475, 476, 477] (by decide +kernel) (by decide +kernel)
set_option maxRecDepth 20000 in
theorem gL_law_X1_tag : GoodIn wsL_law (wsV RL 88 RX1 yX1_tag wsX1_tag) := goodIn_app (goodIn_of _ (by decide +kernel)) ggL_law_X1_tag
set_option maxRecDepth 20000 in
theorem ggL_law_L_cable : GoodIn wsL_law wsL_cable := goodIn_ca (goodIn_ca (goodIn_r _ [137, 79, 80, 138, 139, 140, 2, 141, 90, 91, 85, 86, 142, 87, 88, 89, 92, 93, 94, 143, 144, 145, 146, 16, 49, 50, 51, 147, 148, 149, 150, 17, 38, 39, 40, 30, 31, 32, 33, 21, 34, 35, 36, 37, 19, 24, 26, 27, 28, 29, 41, 42, 43, 44, 45, 46, 47, 48, 52, 53, 54, 55, 20, 56, 57, 58, 59, 448, 449, 450, 451, 452, 453, 454, 455, 456, 457, 458, 459, 460, 461, 462] (by decide +kernel) (by decide +kernel)) (goodIn_sub (fun _ h => List.mem_append_left _ (List.mem_append_right _ h)) (by decide +kernel))) (goodIn_sub (fun _ h => List.mem_append_left _ (List.mem_append_left _ (List.mem_append_right _ h))) (by decide +kernel))
set_option maxRecDepth 20000 in
theorem gL_law_L_cable : GoodIn wsL_law (va_wsS RL 89 yL_cable wsL_cable) := goodIn_app (goodIn_of _ (by decide +kernel)) ggL_law_L_cable
set_option maxRecDepth 20000 in
theorem ggL_law_X1_cable : GoodIn wsL_law wsX1_cable := goodIn_r _ [154, 66, 106, 67, 155, 107, 108, 5, 109, 110, 111, 112, 463, 464, 465, 466, 467, 468, 469, 470, 471, 472, 473, 474, 475, 476, 477] (by decide +kernel) (by decide +kernel)
set_option maxRecDepth 20000 in
theorem gL_law_X1_cable : GoodIn wsL_law (wsV RL 92 RX1 yX1_cable wsX1_cable) := goodIn_app (goodIn_of _ (by decide +kernel)) ggL_law_X1_cable
set_option maxRecDepth 20000 in
theorem ggL_law_L_pull : GoodIn wsL_law wsL_pull := goodIn_ca (goodIn_ca (goodIn_r _ [158, 79, 159, 160, 161, 162, 2, 163, 17, 16, 142, 164, 165, 166, 167, 168, 169, 87, 88, 89, 90, 91, 92, 93, 94, 143, 144, 145, 146, 49, 50, 51, 147, 148, 149, 150, 38, 39, 40, 30, 31, 32, 33, 21, 34, 35, 36, 37, 19, 24, 26, 27, 28, 29, 41, 42, 43, 44, 45, 46, 47, 48, 52, 53, 54, 55, 20, 56, 57, 58, 59, 448, 449, 450, 451, 452, 453, 454, 455, 456, 457, 458, 459, 460, 461, 462] (by decide +kernel) (by decide +kernel)) (goodIn_sub (fun _ h => List.mem_append_right _ h) (by decide +kernel))) (goodIn_sub (fun _ h => List.mem_append_left _ (List.mem_append_right _ h)) (by decide +kernel))
set_option maxRecDepth 20000 in
theorem gL_law_L_pull : GoodIn wsL_law (va_wsS RL 93 yL_pull wsL_pull) := goodIn_app (goodIn_of _ (by decide +kernel)) ggL_law_L_pull
set_option maxRecDepth 20000 in
theorem ggL_law_X1_pull : GoodIn wsL_law wsX1_pull := goodIn_r _ [173, 66, 155, 67, 174, 175, 176, 5, 177, 106, 107, 108, 109, 110, 111, 112, 463, 464, 465, 466, 467, 468, 469, 470, 471, 472, 473, 474, 475, 476, 477] (by decide +kernel) (by decide +kernel)
set_option maxRecDepth 20000 in
theorem gL_law_X1_pull : GoodIn wsL_law (wsV RL 96 RX1 yX1_pull wsX1_pull) := goodIn_app (goodIn_of _ (by decide +kernel)) ggL_law_X1_pull
set_option maxRecDepth 20000 in
theorem ggL_law_X0_tree : GoodIn wsL_law wsX0_tree := goodIn_r _ [181, 182, 448, 449, 450, 451, 452, 453, 454, 455, 456, 457, 458, 459, 460, 461, 462] (by decide +kernel) (by decide +kernel)
set_option maxRecDepth 20000 in
theorem gL_law_X0_tree : GoodIn wsL_law (wsV RL 97 RX0 yX0_tree wsX0_tree) := goodIn_app (goodIn_of _ (by decide +kernel)) ggL_law_X0_tree
set_option maxRecDepth 20000 in
theorem ggL_law_X1_tree : GoodIn wsL_law wsX1_tree := goodIn_r _ [186, 106, 187, 463, 464, 465, 466, 467, 468, 469, 470, 471, 472, 473, 474, 475, 476, 477] (by decide +kernel) (by decide +kernel)
set_option maxRecDepth 20000 in
theorem gL_law_X1_tree : GoodIn wsL_law (wsV RL 101 RX1 yX1_tree wsX1_tree) := goodIn_app (goodIn_of _ (by decide +kernel)) ggL_law_X1_tree
set_option maxRecDepth 20000 in
theorem ggL_law_L_note : GoodIn wsL_law wsL_note := goodIn_ca (goodIn_r _ [190, 79, 191, 192, 193, 2, 194, 18, 87, 88, 89, 90, 91, 92, 93, 94, 195, 196, 197, 49, 50, 51, 38, 39, 40, 448, 449, 450, 451, 452, 453, 454, 455, 456, 457, 458, 459, 460, 461, 462] (by decide +kernel) (by decide +kernel)) (goodIn_sub (fun _ h => List.mem_append_left _ (List.mem_append_right _ h)) (by decide +kernel))
set_option maxRecDepth 20000 in
theorem gL_law_L_note : GoodIn wsL_law (va_wsS RL 102 yL_note wsL_note) := goodIn_app (goodIn_of _ (by decide +kernel)) ggL_law_L_note
set_option maxRecDepth 20000 in
theorem ggL_law_X1_note : GoodIn wsL_law wsX1_note := goodIn_r _ [201, 106, 68, 107, 108, 5, 109, 110, 111, 112, 463, 464, 465, 466, 467, 468, 469, 470, 471, 472, 473, 474, 475, 476, 477] (by decide +kernel) (by decide +kernel)
set_option maxRecDepth 20000 in
theorem gL_law_X1_note : GoodIn wsL_law (wsV RL 105 RX1 yX1_note wsX1_note) := goodIn_app (goodIn_of _ (by decide +kernel)) ggL_law_X1_note
set_option maxRecDepth 20000 in
theorem ggL_law_L_far : GoodIn wsL_law wsL_far := goodIn_ca (goodIn_r _ [204, 79, 205, 206, 207, 2, 208, 16, 87, 88, 89, 90, 91, 92, 93, 94, 49, 50, 51, 195, 196, 197, 448, 449, 450, 451, 452, 453, 454, 455, 456, 457, 458, 459, 460, 461, 462] (by decide +kernel) (by decide +kernel)) (goodIn_sub (fun _ h => List.mem_append_left _ (List.mem_append_right _ h)) (by decide +kernel))
set_option maxRecDepth 20000 in
theorem gL_law_L_far : GoodIn wsL_law (va_wsS RL 106 yL_far wsL_far) := goodIn_app (goodIn_of _ (by decide +kernel)) ggL_law_L_far
set_option maxRecDepth 20000 in
theorem ggL_law_X1_far : GoodIn wsL_law wsX1_far := goodIn_r _ [212, 106, 66, 107, 108, 5, 109, 110, 111, 112, 463, 464, 465, 466, 467, 468, 469, 470, 471, 472, 473, 474, 475, 476, 477] (by decide +kernel) (by decide +kernel)
set_option maxRecDepth 20000 in
theorem gL_law_X1_far : GoodIn wsL_law (wsV RL 108 RX1 yX1_far wsX1_far) := goodIn_app (goodIn_of _ (by decide +kernel)) ggL_law_X1_far
set_option maxRecDepth 20000 in
theorem ggL_law_L_isOn : GoodIn wsL_law wsL_isOn := goodIn_ca (goodIn_ca (goodIn_r _ [215, 79, 159, 216, 217, 218, 2, 219, 164, 165, 166, 167, 168, 169, 87, 88, 89, 90, 91, 92, 93, 94, 143, 144, 145, 146, 16, 49, 50, 51, 220, 221, 222, 223, 182, 21, 448, 449, 450, 451, 452, 453, 454, 455, 456, 457, 458, 459, 460, 461, 462] (by decide +kernel) (by decide +kernel)) (goodIn_sub (fun _ h => List.mem_append_right _ h) (by decide +kernel))) (goodIn_sub (fun _ h => List.mem_append_left _ (List.mem_append_right _ h)) (by decide +kernel))
set_option maxRecDepth 20000 in
theorem gL_law_L_isOn : GoodIn wsL_law (va_wsS RL 109 yL_isOn wsL_isOn) := goodIn_app (goodIn_of _ (by decide +kernel)) ggL_law_L_isOn
set_option maxRecDepth 20000 in
theorem ggL_law_X1_isOn : GoodIn wsL_law wsX1_isOn := goodIn_r _ [227, 174, 175, 176, 5, 177, 66, 106, 107, 108, 109, 110, 111, 112, 228, 229, 230, 231, 69, 71, 232, 67, 70, 233, 234, 235, 236, 187, 463, 464, 465, 466, 467, 468, 469, 470, 471, 472, 473, 474, 475, 476, 477] (by decide +kernel) (by decide +kernel)
set_option maxRecDepth 20000 in
theorem gL_law_X1_isOn : GoodIn wsL_law (wsV RL 111 RX1 yX1_isOn wsX1_isOn) := goodIn_app (goodIn_of _ (by decide +kernel)) ggL_law_X1_isOn
set_option maxRecDepth 20000 in
theorem ggL_law_L_comesAs : GoodIn wsL_law wsL_comesAs := goodIn_ca (goodIn_ca (goodIn_r _ [239, 79, 159, 240, 241, 242, 2, 243, 95, 96, 97, 90, 91, 164, 165, 166, 167, 168, 169, 87, 88, 89, 92, 93, 94, 143, 144, 145, 146, 16, 49, 50, 51, 244, 245, 246, 247, 14, 98, 99, 100, 101, 15, 448, 449, 450, 451, 452, 453, 454, 455, 456, 457, 458, 459, 460, 461, 462] (by decide +kernel) (by decide +kernel)) (goodIn_sub (fun _ h => List.mem_append_left _ (List.mem_append_right _ h)) (by decide +kernel))) (goodIn_sub (fun _ h => List.mem_append_right _ h) (by decide +kernel))
set_option maxRecDepth 20000 in
theorem gL_law_L_comesAs : GoodIn wsL_law (va_wsS RL 112 yL_comesAs wsL_comesAs) := goodIn_app (goodIn_of _ (by decide +kernel)) ggL_law_L_comesAs
set_option maxRecDepth 20000 in
theorem ggL_law_X1_comesAs : GoodIn wsL_law wsX1_comesAs := goodIn_r _ [251, 106, 107, 108, 5, 109, 110, 111, 112, 132, 133, 134, 174, 175, 176, 177, 66, 252, 253, 254, 255, 64, 113, 114, 115, 116, 65, 463, 464, 465, 466, 467, 468, 469, 470, 471, 472, 473, 474, 475, 476, 477] (by decide +kernel) (by decide +kernel)
set_option maxRecDepth 20000 in
theorem gL_law_X1_comesAs : GoodIn wsL_law (wsV RL 114 RX1 yX1_comesAs wsX1_comesAs) := goodIn_app (goodIn_of _ (by decide +kernel)) ggL_law_X1_comesAs
set_option maxRecDepth 20000 in
theorem ggL_law_L_oneSided : GoodIn wsL_law wsL_oneSided := goodIn_ca (goodIn_ca (goodIn_r _ [258, 79, 159, 259, 260, 261, 2, 262, 15, 16, 164, 165, 166, 167, 168, 169, 87, 88, 89, 90, 91, 92, 93, 94, 143, 144, 145, 146, 49, 50, 51, 263, 264, 265, 266, 267, 268, 269, 448, 449, 450, 451, 452, 453, 454, 455, 456, 457, 458, 459, 460, 461, 462] (by decide +kernel) (by decide +kernel)) (goodIn_sub (fun _ h => List.mem_append_right _ h) (by decide +kernel))) (goodIn_sub (fun _ h => List.mem_append_left _ (List.mem_append_right _ h)) (by decide +kernel))
set_option maxRecDepth 20000 in
theorem gL_law_L_oneSided : GoodIn wsL_law (va_wsS RL 115 yL_oneSided wsL_oneSided) := goodIn_app (goodIn_of _ (by decide +kernel)) ggL_law_L_oneSided
set_option maxRecDepth 20000 in
theorem ggL_law_X1_oneSided : GoodIn wsL_law wsX1_oneSided := goodIn_r _ [273, 65, 66, 174, 175, 176, 5, 177, 106, 107, 108, 109, 110, 111, 112, 274, 275, 276, 463, 464, 465, 466, 467, 468, 469, 470, 471, 472, 473, 474, 475, 476, 477] (by decide +kernel) (by decide +kernel)
set_option maxRecDepth 20000 in
theorem gL_law_X1_oneSided : GoodIn wsL_law (wsV RL 117 RX1 yX1_oneSided wsX1_oneSided) := goodIn_app (goodIn_of _ (by decide +kernel)) ggL_law_X1_oneSided
set_option maxRecDepth 20000 in
theorem ggL_law_X0_wrong : GoodIn wsL_law wsX0_wrong := goodIn_r _ [280, 18, 16, 49, 50, 2, 51, 195, 196, 197, 448, 449, 450, 451, 452, 453, 454, 455, 456, 457, 458, 459, 460, 461, 462] (by decide +kernel) (by decide +kernel)
set_option maxRecDepth 20000 in
theorem gL_law_X0_wrong : GoodIn wsL_law (wsV RL 118 RX0 yX0_wrong wsX0_wrong) := goodIn_app (goodIn_of _ (by decide +kernel)) ggL_law_X0_wrong
set_option maxRecDepth 20000 in
theorem ggL_law_X1_wrong : GoodIn wsL_law wsX1_wrong := goodIn_r _ [284, 106, 68, 66, 463, 464, 465, 466, 467, 468, 469, 470, 471, 472, 473, 474, 475, 476, 477] (by decide +kernel) (by decide +kernel)
set_option maxRecDepth 20000 in
theorem gL_law_X1_wrong : GoodIn wsL_law (wsV RL 121 RX1 yX1_wrong wsX1_wrong) := goodIn_app (goodIn_of _ (by decide +kernel)) ggL_law_X1_wrong
set_option maxRecDepth 20000 in
theorem ggL_law_L_root : GoodIn wsL_law wsL_root := goodIn_ca (goodIn_r _ [287, 79, 288, 289, 290, 2, 291, 19, 92, 93, 94, 90, 91, 49, 50, 51, 448, 449, 450, 451, 452, 453, 454, 455, 456, 457, 458, 459, 460, 461, 462] (by decide +kernel) (by decide +kernel)) (goodIn_sub (fun _ h => List.mem_append_left _ (List.mem_append_right _ h)) (by decide +kernel))
set_option maxRecDepth 20000 in
theorem gL_law_L_root : GoodIn wsL_law (va_wsS RL 122 yL_root wsL_root) := goodIn_app (goodIn_of _ (by decide +kernel)) ggL_law_L_root
set_option maxRecDepth 20000 in
theorem ggL_law_X1_root : GoodIn wsL_law wsX1_root := goodIn_r _ [295, 69, 296, 297, 298, 5, 299, 106, 110, 111, 112, 228, 229, 230, 231, 66, 71, 232, 67, 70, 463, 464, 465, 466, 467, 468, 469, 470, 471, 472, 473, 474, 475, 476, 477] (by decide +kernel) (by decide +kernel)
set_option maxRecDepth 20000 in
theorem gL_law_X1_root : GoodIn wsL_law (wsV RL 125 RX1 yX1_root wsX1_root) := goodIn_app (goodIn_of _ (by decide +kernel)) ggL_law_X1_root
set_option maxRecDepth 20000 in
theorem ggL_law_L_costOf : GoodIn wsL_law wsL_costOf := goodIn_ca (goodIn_r _ [302, 79, 303, 304, 305, 2, 306, 20, 92, 93, 94, 90, 91, 49, 50, 51, 448, 449, 450, 451, 452, 453, 454, 455, 456, 457, 458, 459, 460, 461, 462] (by decide +kernel) (by decide +kernel)) (goodIn_sub (fun _ h => List.mem_append_left _ (List.mem_append_right _ h)) (by decide +kernel))
set_option maxRecDepth 20000 in
theorem gL_law_L_costOf : GoodIn wsL_law (va_wsS RL 126 yL_costOf wsL_costOf) := goodIn_app (goodIn_of _ (by decide +kernel)) ggL_law_L_costOf
set_option maxRecDepth 20000 in
theorem ggL_law_X1_costOf : GoodIn wsL_law wsX1_costOf := goodIn_r _ [310, 71, 296, 297, 298, 5, 299, 106, 110, 111, 112, 228, 229, 230, 231, 69, 66, 232, 67, 70, 463, 464, 465, 466, 467, 468, 469, 470, 471, 472, 473, 474, 475, 476, 477] (by decide +kernel) (by decide +kernel)
set_option maxRecDepth 20000 in
theorem gL_law_X1_costOf : GoodIn wsL_law (wsV RL 128 RX1 yX1_costOf wsX1_costOf) := goodIn_app (goodIn_of _ (by decide +kernel)) ggL_law_X1_costOf
set_option maxRecDepth 20000 in
theorem ggL_law_L_wayUp : GoodIn wsL_law wsL_wayUp := goodIn_ca (goodIn_r _ [313, 79, 314, 315, 316, 2, 317, 21, 92, 93, 94, 90, 91, 49, 50, 51, 448, 449, 450, 451, 452, 453, 454, 455, 456, 457, 458, 459, 460, 461, 462] (by decide +kernel) (by decide +kernel)) (goodIn_sub (fun _ h => List.mem_append_left _ (List.mem_append_right _ h)) (by decide +kernel))
set_option maxRecDepth 20000 in
theorem gL_law_L_wayUp : GoodIn wsL_law (va_wsS RL 129 yL_wayUp wsL_wayUp) := goodIn_app (goodIn_of _ (by decide +kernel)) ggL_law_L_wayUp
set_option maxRecDepth 20000 in
theorem ggL_law_X1_wayUp : GoodIn wsL_law wsX1_wayUp := goodIn_r _ [321, 70, 296, 297, 298, 5, 299, 106, 110, 111, 112, 228, 229, 230, 231, 69, 66, 71, 232, 67, 463, 464, 465, 466, 467, 468, 469, 470, 471, 472, 473, 474, 475, 476, 477] (by decide +kernel) (by decide +kernel)
set_option maxRecDepth 20000 in
theorem gL_law_X1_wayUp : GoodIn wsL_law (wsV RL 131 RX1 yX1_wayUp wsX1_wayUp) := goodIn_app (goodIn_of _ (by decide +kernel)) ggL_law_X1_wayUp
set_option maxRecDepth 20000 in
theorem ggL_law_L_hops : GoodIn wsL_law wsL_hops := goodIn_ca (goodIn_r _ [324, 79, 325, 326, 327, 2, 328, 22, 329, 330, 331, 92, 93, 94, 90, 91, 95, 96, 97, 332, 333, 334, 335, 336, 26, 27, 28, 29, 337, 338, 339, 340, 23, 341, 342, 343, 344, 38, 39, 40, 49, 50, 51, 345, 346, 347, 348, 349, 350, 351, 352, 16, 220, 221, 222, 223, 182, 21, 244, 245, 246, 247, 14, 98, 99, 100, 101, 15, 448, 449, 450, 451, 452, 453, 454, 455, 456, 457, 458, 459, 460, 461, 462] (by decide +kernel) (by decide +kernel)) (goodIn_sub (fun _ h => List.mem_append_left _ (List.mem_append_right _ h)) (by decide +kernel))
set_option maxRecDepth 20000 in
theorem gL_law_L_hops : GoodIn wsL_law (va_wsS RL 132 yL_hops wsL_hops) := goodIn_app (goodIn_of _ (by decide +kernel)) ggL_law_L_hops
set_option maxRecDepth 20000 in
theorem ggL_law_X1_hops : GoodIn wsL_law wsX1_hops := goodIn_r _ [356, 106, 72, 132, 133, 5, 134, 110, 111, 112, 357, 358, 359, 360, 361, 362, 363, 73, 364, 66, 228, 229, 230, 231, 69, 71, 232, 67, 70, 233, 234, 235, 236, 187, 252, 253, 254, 255, 64, 113, 114, 115, 116, 65, 463, 464, 465, 466, 467, 468, 469, 470, 471, 472, 473, 474, 475, 476, 477] (by decide +kernel) (by decide +kernel)
set_option maxRecDepth 20000 in
theorem gL_law_X1_hops : GoodIn wsL_law (wsV RL 134 RX1 yX1_hops wsX1_hops) := goodIn_app (goodIn_of _ (by decide +kernel)) ggL_law_X1_hops
set_option maxRecDepth 20000 in
theorem ggL_law_L_meet : GoodIn wsL_law wsL_meet := goodIn_ca (goodIn_r _ [367, 79, 368, 369, 370, 2, 371, 14, 87, 88, 89, 90, 91, 92, 93, 94, 49, 50, 51, 372, 326, 327, 328, 22, 329, 330, 331, 95, 96, 97, 332, 333, 334, 335, 336, 26, 27, 28, 29, 337, 338, 339, 340, 23, 341, 342, 343, 344, 38, 39, 40, 345, 346, 347, 348, 349, 350, 351, 352, 16, 220, 221, 222, 223, 182, 21, 244, 245, 246, 247, 98, 99, 100, 101, 15, 448, 449, 450, 451, 452, 453, 454, 455, 456, 457, 458, 459, 460, 461, 462] (by decide +kernel) (by decide +kernel)) (goodIn_sub (fun _ h => List.mem_append_left _ (List.mem_append_right _ h)) (by decide +kernel))
set_option maxRecDepth 20000 in
theorem gL_law_L_meet : GoodIn wsL_law (va_wsS RL 135 yL_meet wsL_meet) := goodIn_app (goodIn_of _ (by decide +kernel)) ggL_law_L_meet
set_option maxRecDepth 20000 in
theorem ggL_law_X1_meet : GoodIn wsL_law wsX1_meet := goodIn_r _ [376, 106, 64, 72, 107, 108, 5, 109, 110, 111, 112, 357, 358, 359, 360, 361, 362, 363, 73, 364, 66, 228, 229, 230, 231, 69, 71, 232, 67, 70, 233, 234, 235, 236, 187, 252, 253, 254, 255, 113, 114, 115, 116, 65, 463, 464, 465, 466, 467, 468, 469, 470, 471, 472, 473, 474, 475, 476, 477] (by decide +kernel) (by decide +kernel)
set_option maxRecDepth 20000 in
theorem gL_law_X1_meet : GoodIn wsL_law (wsV RL 137 RX1 yX1_meet wsX1_meet) := goodIn_app (goodIn_of _ (by decide +kernel)) ggL_law_X1_meet
set_option maxRecDepth 20000 in
theorem ggL_law_L_joined : GoodIn wsL_law wsL_joined := goodIn_ca (goodIn_r _ [379, 79, 380, 381, 382, 2, 383, 336, 329, 330, 331, 92, 93, 94, 90, 91, 95, 96, 97, 332, 333, 334, 335, 22, 26, 27, 28, 29, 337, 338, 339, 340, 23, 341, 342, 343, 344, 38, 39, 40, 49, 50, 51, 345, 346, 347, 348, 349, 350, 351, 352, 16, 220, 221, 222, 223, 182, 21, 244, 245, 246, 247, 14, 98, 99, 100, 101, 15, 448, 449, 450, 451, 452, 453, 454, 455, 456, 457, 458, 459, 460, 461, 462] (by decide +kernel) (by decide +kernel)) (goodIn_sub (fun _ h => List.mem_append_left _ (List.mem_append_right _ h)) (by decide +kernel))
set_option maxRecDepth 20000 in
theorem gL_law_L_joined : GoodIn wsL_law (va_wsS RL 138 yL_joined wsL_joined) := goodIn_app (goodIn_of _ (by decide +kernel)) ggL_law_L_joined
set_option maxRecDepth 20000 in
theorem ggL_law_X1_joined : GoodIn wsL_law wsX1_joined := goodIn_r _ [387, 106, 364, 132, 133, 5, 134, 110, 111, 112, 357, 358, 359, 360, 361, 362, 363, 72, 73, 66, 228, 229, 230, 231, 69, 71, 232, 67, 70, 233, 234, 235, 236, 187, 252, 253, 254, 255, 64, 113, 114, 115, 116, 65, 463, 464, 465, 466, 467, 468, 469, 470, 471, 472, 473, 474, 475, 476, 477] (by decide +kernel) (by decide +kernel)
set_option maxRecDepth 20000 in
theorem gL_law_X1_joined : GoodIn wsL_law (wsV RL 140 RX1 yX1_joined wsX1_joined) := goodIn_app (goodIn_of _ (by decide +kernel)) ggL_law_X1_joined
set_option maxRecDepth 20000 in
theorem ggL_law_X0_islands : GoodIn wsL_law wsX0_islands := goodIn_r _ [391, 22, 332, 333, 334, 2, 335, 336, 26, 27, 28, 29, 392, 393, 394, 395, 14, 98, 99, 100, 101, 15, 49, 50, 51, 337, 338, 339, 340, 23, 341, 342, 343, 344, 38, 39, 40, 345, 346, 347, 348, 349, 350, 351, 352, 16, 220, 221, 222, 223, 182, 21, 244, 245, 246, 247, 448, 449, 450, 451, 452, 453, 454, 455, 456, 457, 458, 459, 460, 461, 462] (by decide +kernel) (by decide +kernel)
set_option maxRecDepth 20000 in
theorem gL_law_X0_islands : GoodIn wsL_law (wsV RL 141 RX0 yX0_islands wsX0_islands) := goodIn_app (goodIn_of _ (by decide +kernel)) ggL_law_X0_islands
set_option maxRecDepth 20000 in
theorem ggL_law_X1_islands : GoodIn wsL_law wsX1_islands := goodIn_r _ [399, 106, 400, 401, 402, 5, 403, 72, 404, 405, 406, 407, 64, 113, 114, 115, 116, 65, 360, 361, 362, 363, 73, 364, 66, 228, 229, 230, 231, 69, 71, 232, 67, 70, 233, 234, 235, 236, 187, 252, 253, 254, 255, 357, 358, 359, 463, 464, 465, 466, 467, 468, 469, 470, 471, 472, 473, 474, 475, 476, 477] (by decide +kernel) (by decide +kernel)
set_option maxRecDepth 20000 in
theorem gL_law_X1_islands : GoodIn wsL_law (wsV RL 144 RX1 yX1_islands wsX1_islands) := goodIn_app (goodIn_of _ (by decide +kernel)) ggL_law_X1_islands
set_option maxRecDepth 20000 in
theorem ggL_law_X0_loops : GoodIn wsL_law wsX0_loops := goodIn_r _ [411, 412, 413, 414, 2, 415, 16, 220, 221, 222, 223, 182, 21, 49, 50, 51, 416, 417, 418, 419, 15, 14, 263, 264, 265, 266, 267, 268, 269, 420, 421, 422, 423, 392, 393, 394, 395, 98, 99, 100, 101, 424, 389, 390, 391, 22, 332, 333, 334, 335, 336, 26, 27, 28, 29, 337, 338, 339, 340, 23, 341, 342, 343, 344, 38, 39, 40, 345, 346, 347, 348, 349, 350, 351, 352, 244, 245, 246, 247, 448, 449, 450, 451, 452, 453, 454, 455, 456, 457, 458, 459, 460, 461, 462] (by decide +kernel) (by decide +kernel)
set_option maxRecDepth 20000 in
theorem gL_law_X0_loops : GoodIn wsL_law (wsV RL 145 RX0 yX0_loops wsX0_loops) := goodIn_app (goodIn_of _ (by decide +kernel)) ggL_law_X0_loops
set_option maxRecDepth 20000 in
theorem ggL_law_X1_loops : GoodIn wsL_law wsX1_loops := goodIn_r _ [428, 106, 66, 400, 401, 402, 5, 403, 72, 404, 405, 406, 407, 64, 113, 114, 115, 116, 65, 360, 361, 362, 363, 73, 364, 228, 229, 230, 231, 69, 71, 232, 67, 70, 233, 234, 235, 236, 187, 252, 253, 254, 255, 357, 358, 359, 463, 464, 465, 466, 467, 468, 469, 470, 471, 472, 473, 474, 475, 476, 477] (by decide +kernel) (by decide +kernel)
set_option maxRecDepth 20000 in
theorem gL_law_X1_loops : GoodIn wsL_law (wsV RL 148 RX1 yX1_loops wsX1_loops) := goodIn_app (goodIn_of _ (by decide +kernel)) ggL_law_X1_loops
set_option maxRecDepth 20000 in
theorem ggL_law_L_changes : GoodIn wsL_law wsL_changes := goodIn_ca (goodIn_r _ [431, 79, 432, 433, 434, 2, 435, 14, 24, 25, 87, 88, 89, 90, 91, 92, 93, 94, 49, 50, 51, 436, 437, 438, 439, 16, 220, 221, 222, 223, 182, 21, 98, 99, 100, 101, 15, 38, 39, 40, 26, 27, 28, 29, 41, 42, 43, 44, 45, 46, 47, 48, 448, 449, 450, 451, 452, 453, 454, 455, 456, 457, 458, 459, 460, 461, 462] (by decide +kernel) (by decide +kernel)) (goodIn_sub (fun _ h => List.mem_append_left _ (List.mem_append_right _ h)) (by decide +kernel))
set_option maxRecDepth 20000 in
theorem gL_law_L_changes : GoodIn wsL_law (va_wsS RL 149 yL_changes wsL_changes) := goodIn_app (goodIn_of _ (by decide +kernel)) ggL_law_L_changes
set_option maxRecDepth 20000 in
theorem ggL_law_X1_changes : GoodIn wsL_law wsX1_changes := goodIn_r _ [443, 106, 64, 74, 232, 66, 107, 108, 5, 109, 110, 111, 112, 228, 229, 230, 231, 69, 71, 67, 70, 233, 234, 235, 236, 187, 444, 445, 446, 447, 113, 114, 115, 116, 65, 463, 464, 465, 466, 467, 468, 469, 470, 471, 472, 473, 474, 475, 476, 477] (by decide +kernel) (by decide +kernel)
set_option maxRecDepth 20000 in
theorem gL_law_X1_changes : GoodIn wsL_law (wsV RL 151 RX1 yX1_changes wsX1_changes) := goodIn_app (goodIn_of _ (by decide +kernel)) ggL_law_X1_changes

