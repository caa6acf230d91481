set_option maxRecDepth 20000 in
theorem ggL_isNet_X0_hops : GoodIn wsL_isNet wsX0_hops := goodIn_ca (goodIn_r _ [169, 170, 171, 172, 24, 173, 32, 33, 34, 30, 31, 54, 55, 56, 174, 175, 176, 177, 178, 96, 97, 98, 99, 179, 180, 181, 182, 183, 184, 185, 186, 187, 62, 63, 64, 35, 36, 37, 188, 189, 190, 191, 192, 193, 194, 195, 26, 121, 122, 123, 124, 125, 89, 130, 131, 132, 133, 53, 57, 58, 59, 60, 61, 256, 257, 258, 259, 260, 261, 262, 263, 264, 265, 266, 267, 268, 269, 270] (by decide +kernel) (by decide +kernel)) (goodIn_sub (fun _ h => List.mem_cons_of_mem _ (List.mem_append_left _ (List.mem_append_left _ (List.mem_append_right _ h)))) (by decide +kernel))
set_option maxRecDepth 20000 in
theorem gL_isNet_X0_hops : GoodIn wsL_isNet (wsV RL 101 RX0 yX0_hops wsX0_hops) := goodIn_app (goodIn_of _ (by decide +kernel)) ggL_isNet_X0_hops
set_option maxRecDepth 20000 in
theorem ggL_isNet_X0_joined : GoodIn wsL_isNet wsX0_joined := goodIn_ca (goodIn_r _ [199, 178, 171, 172, 24, 173, 32, 33, 34, 30, 31, 54, 55, 56, 174, 175, 176, 177, 170, 96, 97, 98, 99, 179, 180, 181, 182, 183, 184, 185, 186, 187, 62, 63, 64, 35, 36, 37, 188, 189, 190, 191, 192, 193, 194, 195, 26, 121, 122, 123, 124, 125, 89, 130, 131, 132, 133, 53, 57, 58, 59, 60, 61, 256, 257, 258, 259, 260, 261, 262, 263, 264, 265, 266, 267, 268, 269, 270] (by decide +kernel) (by decide +kernel)) (goodIn_sub (fun _ h => List.mem_cons_of_mem _ (List.mem_append_left _ (List.mem_append_left _ (List.mem_append_right _ h)))) (by decide +kernel))
set_option maxRecDepth 20000 in
theorem gL_isNet_X0_joined : GoodIn wsL_isNet (wsV RL 104 RX0 yX0_joined wsX0_joined) := goodIn_app (goodIn_of _ (by decide +kernel)) ggL_isNet_X0_joined
set_option maxRecDepth 20000 in
theorem ggL_isNet_X0_meet : GoodIn wsL_isNet wsX0_meet := goodIn_ca (goodIn_r _ [203, 53, 27, 28, 24, 29, 30, 31, 32, 33, 34, 35, 36, 37, 204, 167, 168, 169, 170, 171, 172, 173, 54, 55, 56, 174, 175, 176, 177, 178, 96, 97, 98, 99, 179, 180, 181, 182, 183, 184, 185, 186, 187, 62, 63, 64, 188, 189, 190, 191, 192, 193, 194, 195, 26, 121, 122, 123, 124, 125, 89, 130, 131, 132, 133, 57, 58, 59, 60, 61, 256, 257, 258, 259, 260, 261, 262, 263, 264, 265, 266, 267, 268, 269, 270] (by decide +kernel) (by decide +kernel)) (goodIn_sub (fun _ h => List.mem_cons_of_mem _ (List.mem_append_left _ (List.mem_append_left _ (List.mem_append_right _ h)))) (by decide +kernel))
set_option maxRecDepth 20000 in
theorem gL_isNet_X0_meet : GoodIn wsL_isNet (wsV RL 107 RX0 yX0_meet wsX0_meet) := goodIn_app (goodIn_of _ (by decide +kernel)) ggL_isNet_X0_meet
set_option maxRecDepth 20000 in
theorem ggL_isNet_X0_changes : GoodIn wsL_isNet wsX0_changes := goodIn_ca (goodIn_r _ [208, 53, 95, 209, 27, 28, 24, 29, 30, 31, 32, 33, 34, 35, 36, 37, 210, 211, 212, 213, 26, 121, 122, 123, 124, 125, 89, 57, 58, 59, 60, 61, 62, 63, 64, 96, 97, 98, 99, 100, 101, 102, 103, 104, 105, 106, 107, 256, 257, 258, 259, 260, 261, 262, 263, 264, 265, 266, 267, 268, 269, 270] (by decide +kernel) (by decide +kernel)) (goodIn_sub (fun _ h => List.mem_cons_of_mem _ (List.mem_append_left _ (List.mem_append_left _ (List.mem_append_right _ h)))) (by decide +kernel))
set_option maxRecDepth 20000 in
theorem gL_isNet_X0_changes : GoodIn wsL_isNet (wsV RL 111 RX0 yX0_changes wsX0_changes) := goodIn_app (goodIn_of _ (by decide +kernel)) ggL_isNet_X0_changes
set_option maxRecDepth 20000 in
theorem ggL_isNet_L_changes : GoodIn wsL_isNet wsL_changes := goodIn_r _ [216, 1] (by decide +kernel) (by decide +kernel)
set_option maxRecDepth 20000 in
theorem gL_isNet_L_changes : GoodIn wsL_isNet (va_wsS RL 114 yL_changes wsL_changes) := goodIn_app (goodIn_of _ (by decide +kernel)) ggL_isNet_L_changes
set_option maxRecDepth 20000 in
theorem ggL_isNet_X0_wrong : GoodIn wsL_isNet wsX0_wrong := goodIn_r _ [220, 221, 26, 35, 36, 24, 37, 38, 39, 40, 256, 257, 258, 259, 260, 261, 262, 263, 264, 265, 266, 267, 268, 269, 270] (by decide +kernel) (by decide +kernel)
set_option maxRecDepth 20000 in
theorem gL_isNet_X0_wrong : GoodIn wsL_isNet (wsV RL 117 RX0 yX0_wrong wsX0_wrong) := goodIn_app (goodIn_of _ (by decide +kernel)) ggL_isNet_X0_wrong
set_option maxRecDepth 20000 in
theorem ggL_isNet_X0_islands : GoodIn wsL_isNet wsX0_islands := goodIn_r _ [225, 170, 174, 175, 176, 24, 177, 178, 96, 97, 98, 99, 226, 227, 228, 229, 53, 57, 58, 59, 60, 61, 35, 36, 37, 179, 180, 181, 182, 183, 184, 185, 186, 187, 62, 63, 64, 188, 189, 190, 191, 192, 193, 194, 195, 26, 121, 122, 123, 124, 125, 89, 130, 131, 132, 133, 256, 257, 258, 259, 260, 261, 262, 263, 264, 265, 266, 267, 268, 269, 270] (by decide +kernel) (by decide +kernel)
set_option maxRecDepth 20000 in
theorem gL_isNet_X0_islands : GoodIn wsL_isNet (wsV RL 121 RX0 yX0_islands wsX0_islands) := goodIn_app (goodIn_of _ (by decide +kernel)) ggL_isNet_X0_islands
set_option maxRecDepth 20000 in
theorem ggL_isNet_L_islands : GoodIn wsL_isNet wsL_islands := goodIn_r _ [232, 1, 233, 234, 4, 235, 160, 161, 162, 18, 19, 20] (by decide +kernel) (by decide +kernel)
set_option maxRecDepth 20000 in
theorem gL_isNet_L_islands : GoodIn wsL_isNet (va_wsS RL 41 yL_islands wsL_islands) := goodIn_app (goodIn_of _ (by decide +kernel)) ggL_isNet_L_islands
set_option maxRecDepth 20000 in
theorem ggL_isNet_X0_loops : GoodIn wsL_isNet wsX0_loops := goodIn_r _ [239, 240, 241, 242, 24, 243, 26, 121, 122, 123, 124, 125, 89, 35, 36, 37, 244, 245, 246, 247, 61, 53, 138, 139, 140, 141, 142, 143, 144, 248, 249, 250, 251, 226, 227, 228, 229, 57, 58, 59, 60, 252, 223, 224, 225, 170, 174, 175, 176, 177, 178, 96, 97, 98, 99, 179, 180, 181, 182, 183, 184, 185, 186, 187, 62, 63, 64, 188, 189, 190, 191, 192, 193, 194, 195, 130, 131, 132, 133, 256, 257, 258, 259, 260, 261, 262, 263, 264, 265, 266, 267, 268, 269, 270] (by decide +kernel) (by decide +kernel)
set_option maxRecDepth 20000 in
theorem gL_isNet_X0_loops : GoodIn wsL_isNet (wsV RL 123 RX0 yX0_loops wsX0_loops) := goodIn_app (goodIn_of _ (by decide +kernel)) ggL_isNet_X0_loops
set_option maxRecDepth 20000 in
theorem ggL_isNet_L_loops : GoodIn wsL_isNet wsL_loops := goodIn_r _ [255, 145, 146, 4, 147, 233, 234, 235, 230, 231, 232, 1, 160, 161, 162, 18, 19, 20] (by decide +kernel) (by decide +kernel)
