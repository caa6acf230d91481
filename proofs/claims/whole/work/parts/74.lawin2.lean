set_option maxRecDepth 20000 in
theorem li_x2 : ∀ w ∈ vnAt.filter goodWord, w ∈ lw_tbl := by decide +kernel
theorem li_law0 : ∀ w ∈ wsL_law0, w ∈ lw_tbl := by
  intro w h
  have h := (List.mem_append.mp h).elim id (fun z => absurd z List.not_mem_nil)
  rcases List.mem_append.mp h with h | h
  · rcases List.mem_append.mp h with h | h
    · rcases List.mem_append.mp h with h | h
      · exact li_r1 w h
      · rcases List.mem_append.mp h with h | h
        · exact li_r2 w h
        · rcases List.mem_append.mp h with h | h
          · exact li_r3 w h
          · rcases List.mem_append.mp h with h | h
            · exact li_r4 w h
            · rcases List.mem_append.mp h with h | h
              · exact li_r5 w h
              · rcases List.mem_append.mp h with h | h
                · exact li_r6 w h
                · rcases List.mem_append.mp h with h | h
                  · exact li_r7 w h
                  · rcases List.mem_append.mp h with h | h
                    · exact li_r8 w h
                    · rcases List.mem_append.mp h with h | h
                      · exact li_r9 w h
                      · rcases List.mem_append.mp h with h | h
                        · exact li_r10 w h
                        · rcases List.mem_append.mp h with h | h
                          · exact li_r11 w h
                          · rcases List.mem_append.mp h with h | h
                            · exact li_r12 w h
                            · rcases List.mem_append.mp h with h | h
                              · exact li_r13 w h
                              · rcases List.mem_append.mp h with h | h
                                · exact li_r14 w h
                                · rcases List.mem_append.mp h with h | h
                                  · exact li_r15 w h
                                  · rcases List.mem_append.mp h with h | h
                                    · exact li_r16 w h
                                    · rcases List.mem_append.mp h with h | h
                                      · exact li_r17 w h
                                      · rcases List.mem_append.mp h with h | h
                                        · exact li_r18 w h
                                        · exact li_r19 w h
    · exact li_wsX00 w h
  · exact li_wsX10 w h
theorem wsL_law_in : ∀ w ∈ wsL_law, w ∈ lw_tbl := fun w h => (List.mem_append.mp h).elim (fun h => (List.mem_append.mp h).elim (fun h => (List.mem_append.mp h).elim (fun h => li_law0 w h) (fun h => li_x0 w h)) (fun h => li_x1 w h)) (fun h => li_x2 w h)
theorem inlX0 : ∀ w ∈ wsX00, w ∈ wsL_law := fun _ h => List.mem_append_left _ (List.mem_append_left _ (List.mem_append_left _ (List.mem_append_left _ (List.mem_append_left _ (List.mem_append_right _ h)))))
theorem inlX1 : ∀ w ∈ wsX10, w ∈ wsL_law := fun _ h => List.mem_append_left _ (List.mem_append_left _ (List.mem_append_left _ (List.mem_append_left _ (List.mem_append_right _ h))))
