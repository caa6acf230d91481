set_option maxRecDepth 20000 in
theorem ggL_way_L_root : GoodIn wsL_way wsL_root := goodIn_r _ [4] (by decide +kernel) (by decide +kernel)
set_option maxRecDepth 20000 in
theorem gL_way_L_root : GoodIn wsL_way (va_wsS RL 7 yL_root wsL_root) := goodIn_app (goodIn_of _ (by decide +kernel)) ggL_way_L_root
set_option maxRecDepth 20000 in
theorem ggL_isOn_L_way : GoodIn wsL_isOn wsL_way := goodIn_r _ [4, 5, 6, 3, 7] (by decide +kernel) (by decide +kernel)
set_option maxRecDepth 20000 in
theorem gL_isOn_L_way : GoodIn wsL_isOn (va_wsS RL 13 yL_way wsL_way) := goodIn_app (goodIn_of _ (by decide +kernel)) ggL_isOn_L_way
set_option maxRecDepth 20000 in
theorem ggL_live_L_sums : GoodIn wsL_live wsL_sums := goodIn_r _ [5] (by decide +kernel) (by decide +kernel)
set_option maxRecDepth 20000 in
theorem gL_live_L_sums : GoodIn wsL_live (va_wsS RL 17 yL_sums wsL_sums) := goodIn_app (goodIn_of _ (by decide +kernel)) ggL_live_L_sums
set_option maxRecDepth 20000 in
theorem ggL_live_L_isOn : GoodIn wsL_live wsL_isOn := goodIn_r _ [8, 9, 10, 4, 11, 12, 13, 14] (by decide +kernel) (by decide +kernel)
set_option maxRecDepth 20000 in
theorem gL_live_L_isOn : GoodIn wsL_live (va_wsS RL 21 yL_isOn wsL_isOn) := goodIn_app (goodIn_of _ (by decide +kernel)) ggL_live_L_isOn
set_option maxRecDepth 20000 in
theorem ggL_spreads_L_comes : GoodIn wsL_spreads wsL_comes := goodIn_r _ [5] (by decide +kernel) (by decide +kernel)
set_option maxRecDepth 20000 in
theorem gL_spreads_L_comes : GoodIn wsL_spreads (va_wsS RL 25 yL_comes wsL_comes) := goodIn_app (goodIn_of _ (by decide +kernel)) ggL_spreads_L_comes
set_option maxRecDepth 20000 in
theorem ggL_hops_L_spreads : GoodIn wsL_hops wsL_spreads := goodIn_r _ [5, 1, 6, 7, 4, 8] (by decide +kernel) (by decide +kernel)
set_option maxRecDepth 20000 in
theorem gL_hops_L_spreads : GoodIn wsL_hops (va_wsS RL 29 yL_spreads wsL_spreads) := goodIn_app (goodIn_of _ (by decide +kernel)) ggL_hops_L_spreads
set_option maxRecDepth 20000 in
theorem ggL_islands_L_used : GoodIn wsL_islands wsL_used := goodIn_r _ [5] (by decide +kernel) (by decide +kernel)
set_option maxRecDepth 20000 in
theorem gL_islands_L_used : GoodIn wsL_islands (va_wsS RL 33 yL_used wsL_used) := goodIn_app (goodIn_of _ (by decide +kernel)) ggL_islands_L_used
set_option maxRecDepth 20000 in
theorem ggL_islands_L_spreads : GoodIn wsL_islands wsL_spreads := goodIn_r _ [8, 1, 9, 10, 4, 11] (by decide +kernel) (by decide +kernel)
set_option maxRecDepth 20000 in
theorem gL_islands_L_spreads : GoodIn wsL_islands (va_wsS RL 29 yL_spreads wsL_spreads) := goodIn_app (goodIn_of _ (by decide +kernel)) ggL_islands_L_spreads
set_option maxRecDepth 20000 in
theorem ggL_loops_L_bits : GoodIn wsL_loops wsL_bits := goodIn_r _ [4] (by decide +kernel) (by decide +kernel)
set_option maxRecDepth 20000 in
theorem gL_loops_L_bits : GoodIn wsL_loops (va_wsS RL 37 yL_bits wsL_bits) := goodIn_app (goodIn_of _ (by decide +kernel)) ggL_loops_L_bits
set_option maxRecDepth 20000 in
theorem ggL_loops_L_used : GoodIn wsL_loops wsL_used := goodIn_r _ [7] (by decide +kernel) (by decide +kernel)
set_option maxRecDepth 20000 in
theorem gL_loops_L_used : GoodIn wsL_loops (va_wsS RL 33 yL_used wsL_used) := goodIn_app (goodIn_of _ (by decide +kernel)) ggL_loops_L_used
set_option maxRecDepth 20000 in
theorem ggL_loops_L_islands : GoodIn wsL_loops wsL_islands := goodIn_r _ [10, 11, 5, 6, 3, 7, 12, 13, 14, 15, 16, 17] (by decide +kernel) (by decide +kernel)
set_option maxRecDepth 20000 in
theorem gL_loops_L_islands : GoodIn wsL_loops (va_wsS RL 41 yL_islands wsL_islands) := goodIn_app (goodIn_of _ (by decide +kernel)) ggL_loops_L_islands
set_option maxRecDepth 20000 in
theorem ggL_does_X0_untag : GoodIn wsL_does wsX0_untag := goodIn_ca (goodIn_ca (goodIn_r _ [8, 9, 10, 11, 12, 13, 7, 14, 15, 16, 17, 18, 19, 20, 21, 22, 23, 24, 25, 26, 27, 28, 29, 30, 31, 32, 33, 115, 116, 117, 118, 119, 120, 121, 122, 123, 124, 125, 126, 127, 128, 129] (by decide +kernel) (by decide +kernel)) (goodIn_sub (fun _ h => List.mem_cons_of_mem _ (List.mem_append_left _ (List.mem_append_left _ (List.mem_append_right _ h)))) (by decide +kernel))) (goodIn_sub (fun _ h => List.mem_cons_of_mem _ (List.mem_append_left _ (List.mem_append_right _ h))) (by decide +kernel))
set_option maxRecDepth 20000 in
theorem gL_does_X0_untag : GoodIn wsL_does (wsV RL 45 RX0 yX0_untag wsX0_untag) := goodIn_app (goodIn_of _ (by decide +kernel)) ggL_does_X0_untag
set_option maxRecDepth 20000 in
theorem ggL_does_X0_pull : GoodIn wsL_does wsX0_pull := goodIn_ca (goodIn_ca (goodIn_r _ [37, 38, 39, 40, 41, 42, 43, 7, 44, 45, 46, 12, 13, 14, 15, 16, 17, 18, 19, 47, 48, 49, 50, 28, 29, 30, 51, 52, 53, 54, 31, 32, 33, 55, 56, 57, 58, 59, 60, 61, 62, 63, 64, 65, 66, 67, 68, 69, 70, 71, 72, 73, 74, 75, 76, 77, 78, 79, 80, 81, 82, 83, 84, 85, 86, 115, 116, 117, 118, 119, 120, 121, 122, 123, 124, 125, 126, 127, 128, 129] (by decide +kernel) (by decide +kernel)) (goodIn_sub (fun _ h => List.mem_cons_of_mem _ (List.mem_append_right _ h)) (by decide +kernel))) (goodIn_sub (fun _ h => List.mem_cons_of_mem _ (List.mem_append_left _ (List.mem_append_right _ h))) (by decide +kernel))
set_option maxRecDepth 20000 in
theorem gL_does_X0_pull : GoodIn wsL_does (wsV RL 51 RX0 yX0_pull wsX0_pull) := goodIn_app (goodIn_of _ (by decide +kernel)) ggL_does_X0_pull
set_option maxRecDepth 20000 in
theorem ggL_does_X0_isOn : GoodIn wsL_does wsX0_isOn := goodIn_ca (goodIn_ca (goodIn_r _ [90, 41, 42, 43, 7, 44, 45, 46, 12, 13, 14, 15, 16, 17, 18, 19, 47, 48, 49, 50, 39, 28, 29, 30, 91, 92, 93, 94, 95, 59, 115, 116, 117, 118, 119, 120, 121, 122, 123, 124, 125, 126, 127, 128, 129] (by decide +kernel) (by decide +kernel)) (goodIn_sub (fun _ h => List.mem_cons_of_mem _ (List.mem_append_right _ h)) (by decide +kernel))) (goodIn_sub (fun _ h => List.mem_cons_of_mem _ (List.mem_append_left _ (List.mem_append_right _ h))) (by decide +kernel))
set_option maxRecDepth 20000 in
theorem gL_does_X0_isOn : GoodIn wsL_does (wsV RL 55 RX0 yX0_isOn wsX0_isOn) := goodIn_app (goodIn_of _ (by decide +kernel)) ggL_does_X0_isOn
set_option maxRecDepth 20000 in
theorem ggL_does_X0_comesAs : GoodIn wsL_does wsX0_comesAs := goodIn_ca (goodIn_ca (goodIn_r _ [99, 20, 21, 7, 22, 15, 16, 41, 42, 43, 44, 45, 46, 12, 13, 14, 17, 18, 19, 47, 48, 49, 50, 39, 28, 29, 30, 100, 101, 102, 103, 11, 23, 24, 25, 26, 27, 115, 116, 117, 118, 119, 120, 121, 122, 123, 124, 125, 126, 127, 128, 129] (by decide +kernel) (by decide +kernel)) (goodIn_sub (fun _ h => List.mem_cons_of_mem _ (List.mem_append_left _ (List.mem_append_right _ h))) (by decide +kernel))) (goodIn_sub (fun _ h => List.mem_cons_of_mem _ (List.mem_append_right _ h)) (by decide +kernel))
set_option maxRecDepth 20000 in
theorem gL_does_X0_comesAs : GoodIn wsL_does (wsV RL 58 RX0 yX0_comesAs wsX0_comesAs) := goodIn_app (goodIn_of _ (by decide +kernel)) ggL_does_X0_comesAs
set_option maxRecDepth 20000 in
theorem ggL_does_X0_oneSided : GoodIn wsL_does wsX0_oneSided := goodIn_ca (goodIn_ca (goodIn_r _ [107, 27, 39, 41, 42, 43, 7, 44, 45, 46, 12, 13, 14, 15, 16, 17, 18, 19, 47, 48, 49, 50, 28, 29, 30, 108, 109, 110, 111, 112, 113, 114, 115, 116, 117, 118, 119, 120, 121, 122, 123, 124, 125, 126, 127, 128, 129] (by decide +kernel) (by decide +kernel)) (goodIn_sub (fun _ h => List.mem_cons_of_mem _ (List.mem_append_right _ h)) (by decide +kernel))) (goodIn_sub (fun _ h => List.mem_cons_of_mem _ (List.mem_append_left _ (List.mem_append_right _ h))) (by decide +kernel))
set_option maxRecDepth 20000 in
theorem gL_does_X0_oneSided : GoodIn wsL_does (wsV RL 61 RX0 yX0_oneSided wsX0_oneSided) := goodIn_app (goodIn_of _ (by decide +kernel)) ggL_does_X0_oneSided
set_option maxRecDepth 20000 in
theorem ggL_tags_X0_tag : GoodIn wsL_tags wsX0_tag := goodIn_ca (goodIn_ca (goodIn_r _ [6, 7, 8, 9, 10, 11, 12, 5, 13, 14, 15, 16, 17, 18, 19, 20, 21, 22, 23, 24, 25, 26, 27, 28, 29, 30, 31, 32, 33, 34, 35, 36, 37, 38, 39, 40, 41, 42, 43, 44, 45, 46] (by decide +kernel) (by decide +kernel)) (goodIn_sub (fun _ h => List.mem_cons_of_mem _ (List.mem_append_left _ (List.mem_append_right _ h))) (by decide +kernel))) (goodIn_sub (fun _ h => List.mem_cons_of_mem _ (List.mem_append_right _ h)) (by decide +kernel))
set_option maxRecDepth 20000 in
theorem gL_tags_X0_tag : GoodIn wsL_tags (wsV RL 70 RX0 yX0_tag wsX0_tag) := goodIn_app (goodIn_of _ (by decide +kernel)) ggL_tags_X0_tag
set_option maxRecDepth 20000 in
theorem ggL_cables_X0_cable : GoodIn wsL_cables wsX0_cable := goodIn_ca (goodIn_ca (goodIn_r _ [7, 8, 9, 10, 11, 12, 13, 14, 6, 15, 16, 17, 18, 19, 20, 21, 22, 23, 24, 25, 26, 27, 28, 29, 30, 31, 32, 33, 34, 35, 36, 37, 38, 39, 40, 41, 42, 43, 44, 45, 46, 47, 48, 49, 50, 51, 52, 53, 54, 55, 56, 57, 58, 59, 60, 61, 62, 63, 64, 65, 66, 67, 68, 69, 70, 71, 72, 73, 74, 75, 76, 77, 78, 79, 80, 81] (by decide +kernel) (by decide +kernel)) (goodIn_sub (fun _ h => List.mem_cons_of_mem _ (List.mem_append_left _ (List.mem_append_right _ h))) (by decide +kernel))) (goodIn_sub (fun _ h => List.mem_cons_of_mem _ (List.mem_append_right _ h)) (by decide +kernel))
set_option maxRecDepth 20000 in
theorem gL_cables_X0_cable : GoodIn wsL_cables (wsV RL 74 RX0 yX0_cable wsX0_cable) := goodIn_app (goodIn_of _ (by decide +kernel)) ggL_cables_X0_cable
