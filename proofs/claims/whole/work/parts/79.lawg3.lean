set_option maxRecDepth 20000 in
theorem ggL_law_L_meet : GoodIn wsL_law wsL_meet := goodIn_ca (goodIn_r _ [367, 79, 368, 369, 370, 2, 371, 14, 87, 88, 89, 90, 91, 92, 93, 94, 49, 50, 51, 372, 326, 327, 328, 22, 329, 330, 331, 95, 96, 97, 332, 333, 334, 335, 336, 26, 27, 28, 29, 337, 338, 339, 340, 23, 341, 342, 343, 344, 38, 39, 40, 345, 346, 347, 348, 349, 350, 351, 352, 16, 220, 221, 222, 223, 182, 21, 244, 245, 246, 247, 98, 99, 100, 101, 15, 448, 449, 450, 451, 452, 453, 454, 455, 456, 457, 458, 459, 460, 461, 462] (by decide +kernel) (by decide +kernel)) (goodIn_sub (fun _ h => List.mem_append_left _ (List.mem_append_right _ h)) (by decide +kernel))
set_option maxRecDepth 20000 in
theorem gL_law_L_meet : GoodIn wsL_law (va_wsS RL 135 yL_meet wsL_meet) := goodIn_app (goodIn_of _ (by decide +kernel)) ggL_law_L_meet
set_option maxRecDepth 20000 in
theorem ggL_law_X1_meet : GoodIn wsL_law wsX1_meet := goodIn_r _ [376, 106, 64, 72, 107, 108, 5, 109, 110, 111, 112, 357, 358, 359, 360, 361, 362, 363, 73, 364, 66, 228, 229, 230, 231, 69, 71, 232, 67, 70, 233, 234, 235, 236, 187, 252, 253, 254, 255, 113, 114, 115, 116, 65, 463, 464, 465, 466, 467, 468, 469, 470, 471, 472, 473, 474, 475, 476, 477] (by decide +kernel) (by decide +kernel)
set_option maxRecDepth 20000 in
theorem gL_law_X1_meet : GoodIn wsL_law (wsV RL 137 RX1 yX1_meet wsX1_meet) := goodIn_app (goodIn_of _ (by decide +kernel)) ggL_law_X1_meet
set_option maxRecDepth 20000 in
theorem ggL_law_L_joined : GoodIn wsL_law wsL_joined := goodIn_ca (goodIn_r _ [379, 79, 380, 381, 382, 2, 383, 336, 329, 330, 331, 92, 93, 94, 90, 91, 95, 96, 97, 332, 333, 334, 335, 22, 26, 27, 28, 29, 337, 338, 339, 340, 23, 341, 342, 343, 344, 38, 39, 40, 49, 50, 51, 345, 346, 347, 348, 349, 350, 351, 352, 16, 220, 221, 222, 223, 182, 21, 244, 245, 246, 247, 14, 98, 99, 100, 101, 15, 448, 449, 450, 451, 452, 453, 454, 455, 456, 457, 458, 459, 460, 461, 462] (by decide +kernel) (by decide +kernel)) (goodIn_sub (fun _ h => List.mem_append_left _ (List.mem_append_right _ h)) (by decide +kernel))
set_option maxRecDepth 20000 in
theorem gL_law_L_joined : GoodIn wsL_law (va_wsS RL 138 yL_joined wsL_joined) := goodIn_app (goodIn_of _ (by decide +kernel)) ggL_law_L_joined
set_option maxRecDepth 20000 in
theorem ggL_law_X1_joined : GoodIn wsL_law wsX1_joined := goodIn_r _ [387, 106, 364, 132, 133, 5, 134, 110, 111, 112, 357, 358, 359, 360, 361, 362, 363, 72, 73, 66, 228, 229, 230, 231, 69, 71, 232, 67, 70, 233, 234, 235, 236, 187, 252, 253, 254, 255, 64, 113, 114, 115, 116, 65, 463, 464, 465, 466, 467, 468, 469, 470, 471, 472, 473, 474, 475, 476, 477] (by decide +kernel) (by decide +kernel)
set_option maxRecDepth 20000 in
theorem gL_law_X1_joined : GoodIn wsL_law (wsV RL 140 RX1 yX1_joined wsX1_joined) := goodIn_app (goodIn_of _ (by decide +kernel)) ggL_law_X1_joined
set_option maxRecDepth 20000 in
theorem ggL_law_X0_islands : GoodIn wsL_law wsX0_islands := goodIn_r _ [391, 22, 332, 333, 334, 2, 335, 336, 26, 27, 28, 29, 392, 393, 394, 395, 14, 98, 99, 100, 101, 15, 49, 50, 51, 337, 338, 339, 340, 23, 341, 342, 343, 344, 38, 39, 40, 345, 346, 347, 348, 349, 350, 351, 352, 16, 220, 221, 222, 223, 182, 21, 244, 245, 246, 247, 448, 449, 450, 451, 452, 453, 454, 455, 456, 457, 458, 459, 460, 461, 462] (by decide +kernel) (by decide +kernel)
set_option maxRecDepth 20000 in
theorem gL_law_X0_islands : GoodIn wsL_law (wsV RL 141 RX0 yX0_islands wsX0_islands) := goodIn_app (goodIn_of _ (by decide +kernel)) ggL_law_X0_islands
set_option maxRecDepth 20000 in
theorem ggL_law_X1_islands : GoodIn wsL_law wsX1_islands := goodIn_r _ [399, 106, 400, 401, 402, 5, 403, 72, 404, 405, 406, 407, 64, 113, 114, 115, 116, 65, 360, 361, 362, 363, 73, 364, 66, 228, 229, 230, 231, 69, 71, 232, 67, 70, 233, 234, 235, 236, 187, 252, 253, 254, 255, 357, 358, 359, 463, 464, 465, 466, 467, 468, 469, 470, 471, 472, 473, 474, 475, 476, 477] (by decide +kernel) (by decide +kernel)
set_option maxRecDepth 20000 in
theorem gL_law_X1_islands : GoodIn wsL_law (wsV RL 144 RX1 yX1_islands wsX1_islands) := goodIn_app (goodIn_of _ (by decide +kernel)) ggL_law_X1_islands
set_option maxRecDepth 20000 in
theorem ggL_law_X0_loops : GoodIn wsL_law wsX0_loops := goodIn_r _ [411, 412, 413, 414, 2, 415, 16, 220, 221, 222, 223, 182, 21, 49, 50, 51, 416, 417, 418, 419, 15, 14, 263, 264, 265, 266, 267, 268, 269, 420, 421, 422, 423, 392, 393, 394, 395, 98, 99, 100, 101, 424, 389, 390, 391, 22, 332, 333, 334, 335, 336, 26, 27, 28, 29, 337, 338, 339, 340, 23, 341, 342, 343, 344, 38, 39, 40, 345, 346, 347, 348, 349, 350, 351, 352, 244, 245, 246, 247, 448, 449, 450, 451, 452, 453, 454, 455, 456, 457, 458, 459, 460, 461, 462] (by decide +kernel) (by decide +kernel)
set_option maxRecDepth 20000 in
theorem gL_law_X0_loops : GoodIn wsL_law (wsV RL 145 RX0 yX0_loops wsX0_loops) := goodIn_app (goodIn_of _ (by decide +kernel)) ggL_law_X0_loops
set_option maxRecDepth 20000 in
theorem ggL_law_X1_loops : GoodIn wsL_law wsX1_loops := goodIn_r _ [428, 106, 66, 400, 401, 402, 5, 403, 72, 404, 405, 406, 407, 64, 113, 114, 115, 116, 65, 360, 361, 362, 363, 73, 364, 228, 229, 230, 231, 69, 71, 232, 67, 70, 233, 234, 235, 236, 187, 252, 253, 254, 255, 357, 358, 359, 463, 464, 465, 466, 467, 468, 469, 470, 471, 472, 473, 474, 475, 476, 477] (by decide +kernel) (by decide +kernel)
set_option maxRecDepth 20000 in
theorem gL_law_X1_loops : GoodIn wsL_law (wsV RL 148 RX1 yX1_loops wsX1_loops) := goodIn_app (goodIn_of _ (by decide +kernel)) ggL_law_X1_loops
set_option maxRecDepth 20000 in
theorem ggL_law_L_changes : GoodIn wsL_law wsL_changes := goodIn_ca (goodIn_r _ [431, 79, 432, 433, 434, 2, 435, 14, 24, 25, 87, 88, 89, 90, 91, 92, 93, 94, 49, 50, 51, 436, 437, 438, 439, 16, 220, 221, 222, 223, 182, 21, 98, 99, 100, 101, 15, 38, 39, 40, 26, 27, 28, 29, 41, 42, 43, 44, 45, 46, 47, 48, 448, 449, 450, 451, 452, 453, 454, 455, 456, 457, 458, 459, 460, 461, 462] (by decide +kernel) (by decide +kernel)) (goodIn_sub (fun _ h => List.mem_append_left _ (List.mem_append_right _ h)) (by decide +kernel))
set_option maxRecDepth 20000 in
theorem gL_law_L_changes : GoodIn wsL_law (va_wsS RL 149 yL_changes wsL_changes) := goodIn_app (goodIn_of _ (by decide +kernel)) ggL_law_L_changes
set_option maxRecDepth 20000 in
theorem ggL_law_X1_changes : GoodIn wsL_law wsX1_changes := goodIn_r _ [443, 106, 64, 74, 232, 66, 107, 108, 5, 109, 110, 111, 112, 228, 229, 230, 231, 69, 71, 67, 70, 233, 234, 235, 236, 187, 444, 445, 446, 447, 113, 114, 115, 116, 65, 463, 464, 465, 466, 467, 468, 469, 470, 471, 472, 473, 474, 475, 476, 477] (by decide +kernel) (by decide +kernel)
set_option maxRecDepth 20000 in
theorem gL_law_X1_changes : GoodIn wsL_law (wsV RL 151 RX1 yX1_changes wsX1_changes) := goodIn_app (goodIn_of _ (by decide +kernel)) ggL_law_X1_changes

