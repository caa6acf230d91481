/-! the law's words lie in the tables, each by its place -/
theorem in_p {big ws : List Cond} (ps : List Nat) (hp : ws = ps.filterMap (fun i => big[i]?)) : ∀ w ∈ ws, w ∈ big := by
  intro w hw
  rw [hp] at hw
  obtain ⟨i, -, hi⟩ := List.mem_filterMap.mp hw
  exact List.mem_of_getElem? hi
set_option maxRecDepth 20000 in
theorem li_r1 : ∀ w ∈ wsL_law0_r1, w ∈ lw_tbl := in_p [33, 34, 24, 120, 448, 449, 35, 36, 37, 38, 39, 40, 74, 75, 76, 77, 78, 79, 80, 81, 82, 83, 85, 86] (by decide +kernel)
set_option maxRecDepth 20000 in
theorem li_r2 : ∀ w ∈ wsL_law0_r2, w ∈ lw_tbl := in_p [41, 42, 25, 43, 44, 46, 0, 47, 48, 50, 1, 51, 52, 53, 54, 55, 57, 2, 58, 59, 61, 3, 62, 63] (by decide +kernel)
def wr_3a : List Cond := [Cond.static yX0_at, Cond.code yX0_at cX0_at 2 (some .int), Cond.methodLink RX0 180 yX0_findCosts, Cond.instanceMethod yX0_findCosts, Cond.selects RX0 yX0_findCosts yX0_findCosts, Cond.code yX0_findCosts cX0_findCosts 2 none, Cond.methodLink RX0 183 yX0_bestWayUp, Cond.instanceMethod yX0_bestWayUp, Cond.selects RX0 yX0_bestWayUp yX0_bestWayUp, Cond.code yX0_bestWayUp cX0_bestWayUp 9 (some .int), Cond.methodLink RL 129 yL_isNet, Cond.static yL_isNet, Cond.initialized RL]
def wr_3b : List Cond := [Cond.methodLink RL 17 yL_sums, Cond.static yL_sums, Cond.code yL_sums cL_sums 7 none, Cond.methodLink RL 78 yL_live, Cond.static yL_live, Cond.code yL_live cL_live 7 (some .long), Cond.methodLink RL 21 yL_isOn, Cond.static yL_isOn, Cond.code yL_isOn cL_isOn 6 (some .boolean), Cond.methodLink RL 13 yL_way]
set_option maxRecDepth 20000 in
theorem li_r3a : ∀ w ∈ wr_3a, w ∈ lw_tbl := in_p [64, 65, 66, 68, 4, 69, 70, 72, 5, 73, 317, 318, 23] (by decide +kernel)
set_option maxRecDepth 20000 in
theorem li_r3b : ∀ w ∈ wr_3b, w ∈ lw_tbl := in_p [320, 321, 322, 323, 324, 325, 326, 327, 328, 329] (by decide +kernel)
set_option maxRecDepth 20000 in
theorem li_r3c : Cond.code yL_isNet cL_isNet 23 (some .boolean) ∈ lw_tbl := List.mem_of_getElem? (i := 319) rfl
theorem li_r3 : ∀ w ∈ wsL_law0_r3, w ∈ lw_tbl := by
  intro w h
  rw [show wsL_law0_r3 = wr_3a ++ (Cond.code yL_isNet cL_isNet 23 (some .boolean) :: wr_3b) from rfl] at h
  rcases List.mem_append.mp h with h | h
  · exact li_r3a w h
  · rcases List.mem_cons.mp h with h | h
    · rw [h]; exact li_r3c
    · exact li_r3b w h
set_option maxRecDepth 20000 in
theorem li_r4 : ∀ w ∈ wsL_law0_r4, w ∈ lw_tbl := in_p [330, 331, 332, 333, 334, 335, 336, 337, 338, 339, 340, 341, 129, 130, 131, 135, 29, 132, 133, 134, 204, 205, 206, 207] (by decide +kernel)
set_option maxRecDepth 20000 in
theorem li_r5 : ∀ w ∈ wsL_law0_r5, w ∈ lw_tbl := in_p [208, 209, 210, 211, 212, 213, 214, 215, 216, 225, 30, 217, 218, 219, 221, 223, 7, 224, 241, 242, 243, 244, 87, 245] (by decide +kernel)
set_option maxRecDepth 20000 in
theorem li_r6 : ∀ w ∈ wsL_law0_r6, w ∈ lw_tbl := in_p [247, 8, 248, 253, 31, 249, 251, 9, 252, 269, 271, 10, 272, 273, 274, 275, 276, 277, 279, 11, 280, 88, 281, 282] (by decide +kernel)
set_option maxRecDepth 20000 in
theorem li_r7 : ∀ w ∈ wsL_law0_r7, w ∈ lw_tbl := in_p [283, 284, 285, 287, 12, 288, 289, 290, 291, 292, 293, 294, 32, 295, 296, 297, 298, 342, 343, 344, 345, 346, 347, 348] (by decide +kernel)
set_option maxRecDepth 20000 in
theorem li_r8 : ∀ w ∈ wsL_law0_r8, w ∈ lw_tbl := in_p [349, 350, 351, 352, 353, 354, 355, 356, 357, 358, 359, 360, 361, 362, 363, 364, 365, 366, 367, 368, 369, 370, 372, 13] (by decide +kernel)
set_option maxRecDepth 20000 in
theorem li_r9 : ∀ w ∈ wsL_law0_r9, w ∈ lw_tbl := in_p [373, 84, 374, 376, 14, 377, 378, 380, 15, 381, 382, 384, 16, 385, 386, 388, 17, 389, 390, 391, 392, 393, 394, 395] (by decide +kernel)
set_option maxRecDepth 20000 in
theorem li_r10 : ∀ w ∈ wsL_law0_r10, w ∈ lw_tbl := in_p [396, 397, 398, 399, 400, 401, 402, 403, 405, 18, 406, 407, 408, 409, 410, 411, 412, 413, 414, 415, 416, 417, 418, 420] (by decide +kernel)
set_option maxRecDepth 20000 in
theorem li_r11 : ∀ w ∈ wsL_law0_r11, w ∈ lw_tbl := in_p [19, 421, 422, 423, 424, 425, 426, 427, 428, 429, 430, 431, 432, 434, 20, 435, 436, 438, 21, 439, 440, 442, 22, 443] (by decide +kernel)
set_option maxRecDepth 20000 in
theorem li_r12 : ∀ w ∈ wsL_law0_r12, w ∈ lw_tbl := in_p [444, 445, 446, 447, 299, 300, 301, 302, 303, 304, 305, 307, 308, 309, 310, 311, 312, 313, 121, 122, 123, 124, 125, 126] (by decide +kernel)
set_option maxRecDepth 20000 in
theorem li_r13 : ∀ w ∈ wsL_law0_r13, w ∈ lw_tbl := in_p [127, 128] (by decide +kernel)
set_option maxRecDepth 20000 in
theorem li_wsX00 : ∀ w ∈ wsX00, w ∈ lw_tbl := by decide +kernel
set_option maxRecDepth 20000 in
theorem li_x0 : ∀ w ∈ (vx_atS RX0 88 "java/lang/IllegalArgumentException" ["java/lang/RuntimeException", "java/lang/Exception"]).filter goodWord, w ∈ lw_tbl := by decide +kernel
set_option maxRecDepth 20000 in
theorem li_x1 : ∀ w ∈ (vx_atS RX0 71 "java/lang/IllegalStateException" ["java/lang/RuntimeException", "java/lang/Exception"]).filter goodWord, w ∈ lw_tbl := by decide +kernel
set_option maxRecDepth 20000 in
theorem li_x2 : ∀ w ∈ vnAt.filter goodWord, w ∈ lw_tbl := by decide +kernel
theorem li_law0 : ∀ w ∈ wsL_law0, w ∈ lw_tbl := by
  intro w h
  have h := (List.mem_append.mp h).elim id (fun z => absurd z List.not_mem_nil)
  rcases List.mem_append.mp h with h | h
  · rcases List.mem_append.mp h with h | h
    · exact li_r1 w h
    · rcases List.mem_append.mp h with h | h
      · exact li_r2 w h
      · rcases List.mem_append.mp h with h | h
        · exact li_r3 w h
        · rcases List.mem_append.mp h with h | h
          · exact li_r4 w h
          · rcases List.mem_append.mp h with h | h
            · exact li_r5 w h
            · rcases List.mem_append.mp h with h | h
              · exact li_r6 w h
              · rcases List.mem_append.mp h with h | h
                · exact li_r7 w h
                · rcases List.mem_append.mp h with h | h
                  · exact li_r8 w h
                  · rcases List.mem_append.mp h with h | h
                    · exact li_r9 w h
                    · rcases List.mem_append.mp h with h | h
                      · exact li_r10 w h
                      · rcases List.mem_append.mp h with h | h
                        · exact li_r11 w h
                        · rcases List.mem_append.mp h with h | h
                          · exact li_r12 w h
                          · exact li_r13 w h
  · exact li_wsX00 w h
theorem wsL_law_in : ∀ w ∈ wsL_law, w ∈ lw_tbl := fun w h => (List.mem_append.mp h).elim (fun h => (List.mem_append.mp h).elim (fun h => (List.mem_append.mp h).elim (fun h => li_law0 w h) (fun h => li_x0 w h)) (fun h => li_x1 w h)) (fun h => li_x2 w h)
theorem inlX0 : ∀ w ∈ wsX00, w ∈ wsL_law := fun _ h => List.mem_append_left _ (List.mem_append_left _ (List.mem_append_left _ (List.mem_append_left _ (List.mem_append_right _ h))))
