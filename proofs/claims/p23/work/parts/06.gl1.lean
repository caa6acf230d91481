set_option maxRecDepth 20000 in
theorem ggL_isNet_L_sums : GoodIn wsL_isNet wsL_sums := goodIn_r _ [5] (by decide +kernel) (by decide +kernel)
set_option maxRecDepth 20000 in
theorem gL_isNet_L_sums : GoodIn wsL_isNet (va_wsS RL 17 yL_sums wsL_sums) := goodIn_app (goodIn_of _ (by decide +kernel)) ggL_isNet_L_sums
set_option maxRecDepth 20000 in
theorem ggL_isNet_L_live : GoodIn wsL_isNet wsL_live := goodIn_r _ [8, 1, 2, 3, 4, 5, 9, 10, 11, 12, 13, 14, 15, 16, 17] (by decide +kernel) (by decide +kernel)
set_option maxRecDepth 20000 in
theorem gL_isNet_L_live : GoodIn wsL_isNet (va_wsS RL 78 yL_live wsL_live) := goodIn_app (goodIn_of _ (by decide +kernel)) ggL_isNet_L_live
set_option maxRecDepth 20000 in
theorem ggL_isNet_L_comes : GoodIn wsL_isNet wsL_comes := goodIn_r _ [20] (by decide +kernel) (by decide +kernel)
set_option maxRecDepth 20000 in
theorem gL_isNet_L_comes : GoodIn wsL_isNet (va_wsS RL 25 yL_comes wsL_comes) := goodIn_app (goodIn_of _ (by decide +kernel)) ggL_isNet_L_comes
set_option maxRecDepth 20000 in
theorem ggL_isNet_X0_far : GoodIn wsL_isNet wsX0_far := goodIn_ca (goodIn_r _ [25, 26, 27, 28, 24, 29, 30, 31, 32, 33, 34, 35, 36, 37, 38, 39, 40, 256, 257, 258, 259, 260, 261, 262, 263, 264, 265, 266, 267, 268, 269, 270] (by decide +kernel) (by decide +kernel)) (goodIn_sub (fun _ h => List.mem_cons_of_mem _ (List.mem_append_left _ (List.mem_append_left _ (List.mem_append_right _ h)))) (by decide +kernel))
set_option maxRecDepth 20000 in
theorem gL_isNet_X0_far : GoodIn wsL_isNet (wsV RL 82 RX0 yX0_far wsX0_far) := goodIn_app (goodIn_of _ (by decide +kernel)) ggL_isNet_X0_far
set_option maxRecDepth 20000 in
theorem ggL_isNet_L_does : GoodIn wsL_isNet wsL_does := goodIn_ca (goodIn_ca (goodIn_ca (goodIn_r _ [43, 44, 45, 46, 47, 48, 49, 24, 50, 51, 52, 53, 27, 28, 29, 30, 31, 32, 33, 34, 54, 55, 56, 57, 58, 59, 60, 61, 35, 36, 37, 62, 63, 64, 65, 66, 67, 68, 69, 26, 70, 71, 72, 73, 74, 75, 76, 77, 78, 79, 80, 81, 82, 83, 84, 85, 86, 87, 88, 89, 90, 91, 92, 93, 94, 95, 96, 97, 98, 99, 100, 101, 102, 103, 104, 105, 106, 107, 108, 109, 110, 111, 112, 113, 114, 115, 116, 117, 118, 119, 120, 121, 122, 123, 124, 125, 126, 127, 128, 129, 130, 131, 132, 133, 134, 135, 136, 137, 138, 139, 140, 141, 142, 143, 144, 256, 257, 258, 259, 260, 261, 262, 263, 264, 265, 266, 267, 268, 269, 270] (by decide +kernel) (by decide +kernel)) (goodIn_sub (fun _ h => List.mem_cons_of_mem _ (List.mem_append_left _ (List.mem_append_right _ h))) (by decide +kernel))) (goodIn_sub (fun _ h => List.mem_cons_of_mem _ (List.mem_append_left _ (List.mem_append_left _ (List.mem_append_right _ h)))) (by decide +kernel))) (goodIn_sub (fun _ h => List.mem_cons_of_mem _ (List.mem_append_right _ h)) (by decide +kernel))
set_option maxRecDepth 20000 in
theorem gL_isNet_L_does : GoodIn wsL_isNet (va_wsS RL 85 yL_does wsL_does) := goodIn_app (goodIn_of _ (by decide +kernel)) ggL_isNet_L_does
set_option maxRecDepth 20000 in
theorem ggL_isNet_L_bits : GoodIn wsL_isNet wsL_bits := goodIn_r _ [147] (by decide +kernel) (by decide +kernel)
set_option maxRecDepth 20000 in
theorem gL_isNet_L_bits : GoodIn wsL_isNet (va_wsS RL 37 yL_bits wsL_bits) := goodIn_app (goodIn_of _ (by decide +kernel)) ggL_isNet_L_bits
set_option maxRecDepth 20000 in
theorem ggL_isNet_L_root : GoodIn wsL_isNet wsL_root := goodIn_r _ [17] (by decide +kernel) (by decide +kernel)
set_option maxRecDepth 20000 in
theorem gL_isNet_L_root : GoodIn wsL_isNet (va_wsS RL 7 yL_root wsL_root) := goodIn_app (goodIn_of _ (by decide +kernel)) ggL_isNet_L_root
set_option maxRecDepth 20000 in
theorem ggL_isNet_X0_root : GoodIn wsL_isNet wsX0_root := goodIn_ca (goodIn_r _ [151, 94, 32, 33, 24, 34, 30, 31, 35, 36, 37, 256, 257, 258, 259, 260, 261, 262, 263, 264, 265, 266, 267, 268, 269, 270] (by decide +kernel) (by decide +kernel)) (goodIn_sub (fun _ h => List.mem_cons_of_mem _ (List.mem_append_left _ (List.mem_append_left _ (List.mem_append_right _ h)))) (by decide +kernel))
set_option maxRecDepth 20000 in
theorem gL_isNet_X0_root : GoodIn wsL_isNet (wsV RL 89 RX0 yX0_root wsX0_root) := goodIn_app (goodIn_of _ (by decide +kernel)) ggL_isNet_X0_root
set_option maxRecDepth 20000 in
theorem ggL_isNet_X0_costOf : GoodIn wsL_isNet wsX0_costOf := goodIn_ca (goodIn_r _ [155, 112, 32, 33, 24, 34, 30, 31, 35, 36, 37, 256, 257, 258, 259, 260, 261, 262, 263, 264, 265, 266, 267, 268, 269, 270] (by decide +kernel) (by decide +kernel)) (goodIn_sub (fun _ h => List.mem_cons_of_mem _ (List.mem_append_left _ (List.mem_append_left _ (List.mem_append_right _ h)))) (by decide +kernel))
set_option maxRecDepth 20000 in
theorem gL_isNet_X0_costOf : GoodIn wsL_isNet (wsV RL 91 RX0 yX0_costOf wsX0_costOf) := goodIn_app (goodIn_of _ (by decide +kernel)) ggL_isNet_X0_costOf
set_option maxRecDepth 20000 in
theorem ggL_isNet_X0_wayUp : GoodIn wsL_isNet wsX0_wayUp := goodIn_ca (goodIn_r _ [159, 89, 32, 33, 24, 34, 30, 31, 35, 36, 37, 256, 257, 258, 259, 260, 261, 262, 263, 264, 265, 266, 267, 268, 269, 270] (by decide +kernel) (by decide +kernel)) (goodIn_sub (fun _ h => List.mem_cons_of_mem _ (List.mem_append_left _ (List.mem_append_left _ (List.mem_append_right _ h)))) (by decide +kernel))
set_option maxRecDepth 20000 in
theorem gL_isNet_X0_wayUp : GoodIn wsL_isNet (wsV RL 94 RX0 yX0_wayUp wsX0_wayUp) := goodIn_app (goodIn_of _ (by decide +kernel)) ggL_isNet_X0_wayUp
set_option maxRecDepth 20000 in
theorem ggL_isNet_L_way : GoodIn wsL_isNet wsL_way := goodIn_r _ [14, 15, 16, 4, 17] (by decide +kernel) (by decide +kernel)
set_option maxRecDepth 20000 in
theorem gL_isNet_L_way : GoodIn wsL_isNet (va_wsS RL 13 yL_way wsL_way) := goodIn_app (goodIn_of _ (by decide +kernel)) ggL_isNet_L_way
set_option maxRecDepth 20000 in
theorem ggL_isNet_L_spreads : GoodIn wsL_isNet wsL_spreads := goodIn_r _ [162, 1, 18, 19, 4, 20] (by decide +kernel) (by decide +kernel)
set_option maxRecDepth 20000 in
theorem gL_isNet_L_spreads : GoodIn wsL_isNet (va_wsS RL 29 yL_spreads wsL_spreads) := goodIn_app (goodIn_of _ (by decide +kernel)) ggL_isNet_L_spreads
set_option maxRecDepth 20000 in
theorem ggL_isNet_L_hops : GoodIn wsL_isNet wsL_hops := goodIn_r _ [165, 1, 160, 161, 4, 162, 18, 19, 20] (by decide +kernel) (by decide +kernel)
set_option maxRecDepth 20000 in
theorem gL_isNet_L_hops : GoodIn wsL_isNet (va_wsS RL 97 yL_hops wsL_hops) := goodIn_app (goodIn_of _ (by decide +kernel)) ggL_isNet_L_hops
