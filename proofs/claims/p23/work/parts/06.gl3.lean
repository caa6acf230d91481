set_option maxRecDepth 20000 in
theorem gL_isNet_L_loops : GoodIn wsL_isNet (va_wsS RL 126 yL_loops wsL_loops) := goodIn_app (goodIn_of _ (by decide +kernel)) ggL_isNet_L_loops
set_option maxRecDepth 20000 in
theorem ggL_law_X0_init : GoodIn wsL_law wsX0_init := goodIn_r _ [8, 9, 10, 11, 3, 12, 13, 14, 15, 16, 17, 18, 19, 20, 21, 22, 23, 24, 25, 26, 27, 28, 29, 30, 2, 31, 32, 33, 34, 35, 36, 37, 38, 39, 40, 41, 42, 43, 44, 45, 46, 47, 48, 49, 50, 51, 52, 53, 54, 55, 56, 57, 290, 291, 292, 293, 294, 295, 296, 297, 298, 299, 300, 301, 302, 303, 304] (by decide +kernel) (by decide +kernel)
set_option maxRecDepth 20000 in
theorem gL_law_X0_init : GoodIn wsL_law (wsX0_init) := ggL_law_X0_init
set_option maxRecDepth 20000 in
theorem gq_0 : GoodIn wsL_law [Cond.code yL_isNet cL_isNet 23 (some .boolean)] := fun w h => by
  have e := List.mem_singleton.mp h
  subst e
  exact ⟨List.mem_of_getElem? (i := 61) rfl, good_of_word rfl⟩
set_option maxRecDepth 20000 in
theorem gq_1 : GoodIn wsL_law wsL_isNet_r1 := goodIn_r _ [3, 62, 63, 60, 64, 65, 66, 67, 68, 69, 70, 71, 72, 73, 74, 75, 76, 77, 78, 79, 80, 81, 82, 2] (by decide +kernel) (by decide +kernel)
set_option maxRecDepth 20000 in
theorem gq_2 : GoodIn wsL_law wsL_isNet_r2 := goodIn_r _ [83, 14, 84, 85, 86, 87, 88, 89, 90, 91, 47, 48, 49, 92, 93, 94, 95, 96, 97, 98, 99, 100, 101, 102] (by decide +kernel) (by decide +kernel)
set_option maxRecDepth 20000 in
theorem gq_3 : GoodIn wsL_law wsL_isNet_r3 := goodIn_r _ [103, 104, 105, 106, 12, 107, 108, 109, 110, 111, 112, 113, 13, 36, 37, 38, 114, 115, 116, 117, 15, 118, 119, 120] (by decide +kernel) (by decide +kernel)
set_option maxRecDepth 20000 in
theorem gq_4 : GoodIn wsL_law wsL_isNet_r4 := goodIn_r _ [121, 122, 123, 124, 125, 126, 127, 128, 129, 130, 131, 132, 28, 29, 30, 31, 19, 32, 33, 34, 35, 17, 22, 24] (by decide +kernel) (by decide +kernel)
set_option maxRecDepth 20000 in
theorem gq_5 : GoodIn wsL_law wsL_isNet_r5 := goodIn_r _ [25, 26, 27, 39, 40, 41, 42, 43, 44, 45, 46, 50, 51, 52, 53, 18, 54, 55, 56, 57, 133, 134, 135, 136] (by decide +kernel) (by decide +kernel)
set_option maxRecDepth 20000 in
theorem gq_6 : GoodIn wsL_law wsL_isNet_r6 := goodIn_r _ [137, 138, 139, 140, 141, 142, 143, 144, 145, 146, 147, 148, 149, 150, 151, 152, 153, 154, 155, 156, 157, 158, 159, 160] (by decide +kernel) (by decide +kernel)
set_option maxRecDepth 20000 in
theorem gq_7 : GoodIn wsL_law wsL_isNet_r7 := goodIn_r _ [161, 162, 163, 164, 165, 166, 167, 168, 169, 170, 171, 172, 173, 174, 175, 176, 177, 178, 179, 180, 181, 182, 183, 184] (by decide +kernel) (by decide +kernel)
set_option maxRecDepth 20000 in
theorem gq_8 : GoodIn wsL_law wsL_isNet_r8 := goodIn_r _ [185, 20, 186, 187, 188, 189, 190, 191, 192, 193, 194, 195, 196, 197, 21, 198, 199, 200, 201, 202, 203, 204, 205, 206] (by decide +kernel) (by decide +kernel)
set_option maxRecDepth 20000 in
theorem gq_9 : GoodIn wsL_law wsL_isNet_r9 := goodIn_r _ [207, 208, 209, 210, 211, 212, 213, 214, 215, 216, 217, 218, 219, 220, 221, 222, 23, 223, 224, 225, 226, 227, 228, 229] (by decide +kernel) (by decide +kernel)
set_option maxRecDepth 20000 in
theorem gq_10 : GoodIn wsL_law wsL_isNet_r10 := goodIn_r _ [230, 231, 232, 233, 16, 234, 235, 236, 237, 238, 239, 240, 241, 242, 243, 244, 245, 246, 247, 248, 249, 250, 251, 252] (by decide +kernel) (by decide +kernel)
set_option maxRecDepth 20000 in
theorem gq_11 : GoodIn wsL_law wsL_isNet_r11 := goodIn_r _ [253, 254, 255, 256, 257, 258, 259, 260, 261, 262, 263, 264, 265, 266, 267] (by decide +kernel) (by decide +kernel)
set_option maxRecDepth 20000 in
theorem gq_x : GoodIn wsL_law wsX00 := goodIn_r _ [290, 291, 292, 293, 294, 295, 296, 297, 298, 299, 300, 301, 302, 303, 304] (by decide +kernel) (by decide +kernel)
set_option maxRecDepth 20000 in
theorem ggL_law_L_isNet : GoodIn wsL_law wsL_isNet := goodIn_ca (goodIn_ca (goodIn_ca (goodIn_ca (goodIn_app gq_0 (goodIn_app gq_1 (goodIn_app gq_2 (goodIn_app gq_3 (goodIn_app gq_4 (goodIn_app gq_5 (goodIn_app gq_6 (goodIn_app gq_7 (goodIn_app gq_8 (goodIn_app gq_9 (goodIn_app gq_10 gq_11))))))))))) gq_x) (goodIn_sub (fun _ h => List.mem_append_left _ (List.mem_append_left _ (List.mem_append_right _ h))) (by decide +kernel))) (goodIn_sub (fun _ h => List.mem_append_left _ (List.mem_append_right _ h)) (by decide +kernel))) (goodIn_sub (fun _ h => List.mem_append_right _ h) (by decide +kernel))
set_option maxRecDepth 20000 in
theorem gL_law_L_isNet : GoodIn wsL_law (va_wsS RL 129 yL_isNet wsL_isNet) := goodIn_app (goodIn_of _ (by decide +kernel)) ggL_law_L_isNet
set_option maxRecDepth 20000 in
theorem ggL_law_L_does : GoodIn wsL_law wsL_does := goodIn_ca (goodIn_ca (goodIn_ca (goodIn_r _ [97, 98, 99, 100, 101, 102, 103, 2, 104, 105, 106, 12, 84, 85, 86, 87, 88, 89, 90, 91, 107, 108, 109, 110, 111, 112, 113, 13, 47, 48, 49, 36, 37, 38, 114, 115, 116, 117, 15, 14, 118, 119, 120, 121, 122, 123, 124, 125, 126, 127, 128, 129, 130, 131, 132, 28, 29, 30, 31, 19, 32, 33, 34, 35, 17, 22, 24, 25, 26, 27, 39, 40, 41, 42, 43, 44, 45, 46, 50, 51, 52, 53, 18, 54, 55, 56, 57, 133, 134, 135, 136, 137, 138, 139, 140, 141, 142, 143, 144, 145, 146, 147, 148, 149, 150, 151, 152, 153, 154, 155, 156, 157, 158, 159, 160, 290, 291, 292, 293, 294, 295, 296, 297, 298, 299, 300, 301, 302, 303, 304] (by decide +kernel) (by decide +kernel)) (goodIn_sub (fun _ h => List.mem_append_left _ (List.mem_append_right _ h)) (by decide +kernel))) (goodIn_sub (fun _ h => List.mem_append_left _ (List.mem_append_left _ (List.mem_append_right _ h))) (by decide +kernel))) (goodIn_sub (fun _ h => List.mem_append_right _ h) (by decide +kernel))
set_option maxRecDepth 20000 in
theorem gL_law_L_does : GoodIn wsL_law (va_wsS RL 85 yL_does wsL_does) := goodIn_app (goodIn_of _ (by decide +kernel)) ggL_law_L_does
set_option maxRecDepth 20000 in
theorem ggL_law_L_tags : GoodIn wsL_law wsL_tags := goodIn_ca (goodIn_ca (goodIn_r _ [270, 100, 271, 272, 273, 2, 274, 105, 106, 12, 13, 84, 85, 86, 87, 88, 89, 90, 91, 107, 108, 109, 47, 48, 49, 110, 111, 112, 113, 36, 37, 38, 290, 291, 292, 293, 294, 295, 296, 297, 298, 299, 300, 301, 302, 303, 304] (by decide +kernel) (by decide +kernel)) (goodIn_sub (fun _ h => List.mem_append_left _ (List.mem_append_right _ h)) (by decide +kernel))) (goodIn_sub (fun _ h => List.mem_append_left _ (List.mem_append_left _ (List.mem_append_right _ h))) (by decide +kernel))
set_option maxRecDepth 20000 in
theorem gL_law_L_tags : GoodIn wsL_law (va_wsS RL 135 yL_tags wsL_tags) := goodIn_app (goodIn_of _ (by decide +kernel)) ggL_law_L_tags
set_option maxRecDepth 20000 in
theorem ggL_law_L_cables : GoodIn wsL_law wsL_cables := goodIn_ca (goodIn_ca (goodIn_r _ [277, 98, 100, 278, 279, 280, 2, 281, 87, 88, 105, 106, 118, 84, 85, 86, 89, 90, 91, 125, 126, 127, 128, 14, 47, 48, 49, 129, 130, 131, 132, 15, 36, 37, 38, 28, 29, 30, 31, 19, 32, 33, 34, 35, 17, 22, 24, 25, 26, 27, 39, 40, 41, 42, 43, 44, 45, 46, 50, 51, 52, 53, 18, 54, 55, 56, 57, 290, 291, 292, 293, 294, 295, 296, 297, 298, 299, 300, 301, 302, 303, 304] (by decide +kernel) (by decide +kernel)) (goodIn_sub (fun _ h => List.mem_append_left _ (List.mem_append_left _ (List.mem_append_right _ h))) (by decide +kernel))) (goodIn_sub (fun _ h => List.mem_append_left _ (List.mem_append_right _ h)) (by decide +kernel))
set_option maxRecDepth 20000 in
theorem gL_law_L_cables : GoodIn wsL_law (va_wsS RL 139 yL_cables wsL_cables) := goodIn_app (goodIn_of _ (by decide +kernel)) ggL_law_L_cables
set_option maxRecDepth 20000 in
theorem ggL_law_X0_tree : GoodIn wsL_law wsX0_tree := goodIn_r _ [285, 141, 290, 291, 292, 293, 294, 295, 296, 297, 298, 299, 300, 301, 302, 303, 304] (by decide +kernel) (by decide +kernel)
set_option maxRecDepth 20000 in
theorem gL_law_X0_tree : GoodIn wsL_law (wsV RL 143 RX0 yX0_tree wsX0_tree) := goodIn_app (goodIn_of _ (by decide +kernel)) ggL_law_X0_tree
set_option maxRecDepth 20000 in
theorem ggL_law_X0_note : GoodIn wsL_law wsX0_note := goodIn_ca (goodIn_r _ [289, 16, 84, 85, 2, 86, 87, 88, 89, 90, 91, 92, 93, 94, 47, 48, 49, 36, 37, 38, 290, 291, 292, 293, 294, 295, 296, 297, 298, 299, 300, 301, 302, 303, 304] (by decide +kernel) (by decide +kernel)) (goodIn_sub (fun _ h => List.mem_append_left _ (List.mem_append_left _ (List.mem_append_right _ h))) (by decide +kernel))
