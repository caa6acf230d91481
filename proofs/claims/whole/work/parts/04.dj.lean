theorem dJ6_bitCount_0f7a4_0 : decode cJ6_bitCount_0f7a4 0 = .ok (.iload_n 0, 1) := by decide +kernel
theorem dJ6_bitCount_0f7a4_1 : decode cJ6_bitCount_0f7a4 1 = .ok (.iload_n 0, 1) := by decide +kernel
theorem dJ6_bitCount_0f7a4_2 : decode cJ6_bitCount_0f7a4 2 = .ok (.iconst 1, 1) := by decide +kernel
theorem dJ6_bitCount_0f7a4_3 : decode cJ6_bitCount_0f7a4 3 = .ok (.iushr, 1) := by decide +kernel
theorem dJ6_bitCount_0f7a4_4 : decode cJ6_bitCount_0f7a4 4 = .ok (.ldc_w 265, 3) := by decide +kernel
theorem dJ6_bitCount_0f7a4_7 : decode cJ6_bitCount_0f7a4 7 = .ok (.iand, 1) := by decide +kernel
theorem dJ6_bitCount_0f7a4_8 : decode cJ6_bitCount_0f7a4 8 = .ok (.isub, 1) := by decide +kernel
theorem dJ6_bitCount_0f7a4_9 : decode cJ6_bitCount_0f7a4 9 = .ok (.istore_n 0, 1) := by decide +kernel
theorem dJ6_bitCount_0f7a4_10 : decode cJ6_bitCount_0f7a4 10 = .ok (.iload_n 0, 1) := by decide +kernel
theorem dJ6_bitCount_0f7a4_11 : decode cJ6_bitCount_0f7a4 11 = .ok (.ldc_w 266, 3) := by decide +kernel
theorem dJ6_bitCount_0f7a4_14 : decode cJ6_bitCount_0f7a4 14 = .ok (.iand, 1) := by decide +kernel
theorem dJ6_bitCount_0f7a4_15 : decode cJ6_bitCount_0f7a4 15 = .ok (.iload_n 0, 1) := by decide +kernel
theorem dJ6_bitCount_0f7a4_16 : decode cJ6_bitCount_0f7a4 16 = .ok (.iconst 2, 1) := by decide +kernel
theorem dJ6_bitCount_0f7a4_17 : decode cJ6_bitCount_0f7a4 17 = .ok (.iushr, 1) := by decide +kernel
theorem dJ6_bitCount_0f7a4_18 : decode cJ6_bitCount_0f7a4 18 = .ok (.ldc_w 266, 3) := by decide +kernel
theorem dJ6_bitCount_0f7a4_21 : decode cJ6_bitCount_0f7a4 21 = .ok (.iand, 1) := by decide +kernel
theorem dJ6_bitCount_0f7a4_22 : decode cJ6_bitCount_0f7a4 22 = .ok (.iadd, 1) := by decide +kernel
theorem dJ6_bitCount_0f7a4_23 : decode cJ6_bitCount_0f7a4 23 = .ok (.istore_n 0, 1) := by decide +kernel
theorem dJ6_bitCount_0f7a4_24 : decode cJ6_bitCount_0f7a4 24 = .ok (.iload_n 0, 1) := by decide +kernel
theorem dJ6_bitCount_0f7a4_25 : decode cJ6_bitCount_0f7a4 25 = .ok (.iload_n 0, 1) := by decide +kernel
theorem dJ6_bitCount_0f7a4_26 : decode cJ6_bitCount_0f7a4 26 = .ok (.iconst 4, 1) := by decide +kernel
theorem dJ6_bitCount_0f7a4_27 : decode cJ6_bitCount_0f7a4 27 = .ok (.iushr, 1) := by decide +kernel
theorem dJ6_bitCount_0f7a4_28 : decode cJ6_bitCount_0f7a4 28 = .ok (.iadd, 1) := by decide +kernel
theorem dJ6_bitCount_0f7a4_29 : decode cJ6_bitCount_0f7a4 29 = .ok (.ldc_w 267, 3) := by decide +kernel
theorem dJ6_bitCount_0f7a4_32 : decode cJ6_bitCount_0f7a4 32 = .ok (.iand, 1) := by decide +kernel
theorem dJ6_bitCount_0f7a4_33 : decode cJ6_bitCount_0f7a4 33 = .ok (.istore_n 0, 1) := by decide +kernel
theorem dJ6_bitCount_0f7a4_34 : decode cJ6_bitCount_0f7a4 34 = .ok (.iload_n 0, 1) := by decide +kernel
theorem dJ6_bitCount_0f7a4_35 : decode cJ6_bitCount_0f7a4 35 = .ok (.iload_n 0, 1) := by decide +kernel
theorem dJ6_bitCount_0f7a4_36 : decode cJ6_bitCount_0f7a4 36 = .ok (.bipush 8, 2) := by decide +kernel
theorem dJ6_bitCount_0f7a4_38 : decode cJ6_bitCount_0f7a4 38 = .ok (.iushr, 1) := by decide +kernel
theorem dJ6_bitCount_0f7a4_39 : decode cJ6_bitCount_0f7a4 39 = .ok (.iadd, 1) := by decide +kernel
theorem dJ6_bitCount_0f7a4_40 : decode cJ6_bitCount_0f7a4 40 = .ok (.istore_n 0, 1) := by decide +kernel
theorem dJ6_bitCount_0f7a4_41 : decode cJ6_bitCount_0f7a4 41 = .ok (.iload_n 0, 1) := by decide +kernel
theorem dJ6_bitCount_0f7a4_42 : decode cJ6_bitCount_0f7a4 42 = .ok (.iload_n 0, 1) := by decide +kernel
theorem dJ6_bitCount_0f7a4_43 : decode cJ6_bitCount_0f7a4 43 = .ok (.bipush 16, 2) := by decide +kernel
theorem dJ6_bitCount_0f7a4_45 : decode cJ6_bitCount_0f7a4 45 = .ok (.iushr, 1) := by decide +kernel
theorem dJ6_bitCount_0f7a4_46 : decode cJ6_bitCount_0f7a4 46 = .ok (.iadd, 1) := by decide +kernel
theorem dJ6_bitCount_0f7a4_47 : decode cJ6_bitCount_0f7a4 47 = .ok (.istore_n 0, 1) := by decide +kernel
theorem dJ6_bitCount_0f7a4_48 : decode cJ6_bitCount_0f7a4 48 = .ok (.iload_n 0, 1) := by decide +kernel
theorem dJ6_bitCount_0f7a4_49 : decode cJ6_bitCount_0f7a4 49 = .ok (.bipush 63, 2) := by decide +kernel
theorem dJ6_bitCount_0f7a4_51 : decode cJ6_bitCount_0f7a4 51 = .ok (.iand, 1) := by decide +kernel
theorem dJ6_bitCount_0f7a4_52 : decode cJ6_bitCount_0f7a4 52 = .ok (.ireturn, 1) := by decide +kernel
theorem dJ7_fill_53178_0 : decode cJ7_fill_53178 0 = .ok (.iconst 0, 1) := by decide +kernel
theorem dJ7_fill_53178_1 : decode cJ7_fill_53178 1 = .ok (.istore_n 2, 1) := by decide +kernel
theorem dJ7_fill_53178_2 : decode cJ7_fill_53178 2 = .ok (.aload_n 0, 1) := by decide +kernel
theorem dJ7_fill_53178_3 : decode cJ7_fill_53178 3 = .ok (.arraylength, 1) := by decide +kernel
theorem dJ7_fill_53178_4 : decode cJ7_fill_53178 4 = .ok (.istore_n 3, 1) := by decide +kernel
theorem dJ7_fill_53178_5 : decode cJ7_fill_53178 5 = .ok (.iload_n 2, 1) := by decide +kernel
theorem dJ7_fill_53178_6 : decode cJ7_fill_53178 6 = .ok (.iload_n 3, 1) := by decide +kernel
theorem dJ7_fill_53178_7 : decode cJ7_fill_53178 7 = .ok (.if_icmp .ge 13, 3) := by decide +kernel
theorem dJ7_fill_53178_10 : decode cJ7_fill_53178 10 = .ok (.aload_n 0, 1) := by decide +kernel
theorem dJ7_fill_53178_11 : decode cJ7_fill_53178 11 = .ok (.iload_n 2, 1) := by decide +kernel
theorem dJ7_fill_53178_12 : decode cJ7_fill_53178 12 = .ok (.iload_n 1, 1) := by decide +kernel
theorem dJ7_fill_53178_13 : decode cJ7_fill_53178 13 = .ok (.iastore, 1) := by decide +kernel
theorem dJ7_fill_53178_14 : decode cJ7_fill_53178 14 = .ok (.iinc 2 1, 3) := by decide +kernel
theorem dJ7_fill_53178_17 : decode cJ7_fill_53178 17 = .ok (.goto (-12), 3) := by decide +kernel
theorem dJ7_fill_53178_20 : decode cJ7_fill_53178 20 = .ok (.return_, 1) := by decide +kernel
set_option maxRecDepth 20000 in
theorem ggL_untag_X0_untag : GoodIn wsL_untag wsX0_untag := goodIn_ca (goodIn_ca (goodIn_r _ [7, 8, 9, 10, 11, 12, 6, 13, 14, 15, 16, 17, 18, 19, 20, 21, 22, 23, 24, 25, 26, 27, 28, 29, 30, 31, 32, 33, 34, 35, 36, 37, 38, 39, 40, 41, 42, 43, 44, 45, 46, 47] (by decide +kernel) (by decide +kernel)) (goodIn_sub (fun _ h => List.mem_cons_of_mem _ (List.mem_append_left _ (List.mem_append_right _ h))) (by decide +kernel))) (goodIn_sub (fun _ h => List.mem_cons_of_mem _ (List.mem_append_right _ h)) (by decide +kernel))
set_option maxRecDepth 20000 in
theorem gL_untag_X0_untag : GoodIn wsL_untag (wsV RL 7 RX0 yX0_untag wsX0_untag) := goodIn_app (goodIn_of _ (by decide +kernel)) ggL_untag_X0_untag
theorem dL_untag_0 : decode cL_untag 0 = .ok (.aload 4, 2) := by decide +kernel
theorem dL_untag_2 : decode cL_untag 2 = .ok (.iconst 0, 1) := by decide +kernel
theorem dL_untag_3 : decode cL_untag 3 = .ok (.aload_n 0, 1) := by decide +kernel
theorem dL_untag_4 : decode cL_untag 4 = .ok (.iload_n 1, 1) := by decide +kernel
theorem dL_untag_5 : decode cL_untag 5 = .ok (.iload_n 2, 1) := by decide +kernel
theorem dL_untag_6 : decode cL_untag 6 = .ok (.iload_n 3, 1) := by decide +kernel
theorem dL_untag_7 : decode cL_untag 7 = .ok (.invokevirtual 7, 3) := by decide +kernel
theorem dL_untag_10 : decode cL_untag 10 = .ok (.i2l, 1) := by decide +kernel
theorem dL_untag_11 : decode cL_untag 11 = .ok (.lastore, 1) := by decide +kernel
theorem dL_untag_12 : decode cL_untag 12 = .ok (.goto 11, 3) := by decide +kernel
theorem dL_untag_15 : decode cL_untag 15 = .ok (.astore 5, 2) := by decide +kernel
theorem dL_untag_17 : decode cL_untag 17 = .ok (.iconst 1, 1) := by decide +kernel
theorem dL_untag_18 : decode cL_untag 18 = .ok (.ireturn, 1) := by decide +kernel
theorem dL_untag_19 : decode cL_untag 19 = .ok (.astore 5, 2) := by decide +kernel
theorem dL_untag_21 : decode cL_untag 21 = .ok (.iconst 2, 1) := by decide +kernel
theorem dL_untag_22 : decode cL_untag 22 = .ok (.ireturn, 1) := by decide +kernel
theorem dL_untag_23 : decode cL_untag 23 = .ok (.iconst 0, 1) := by decide +kernel
theorem dL_untag_24 : decode cL_untag 24 = .ok (.ireturn, 1) := by decide +kernel
set_option maxRecDepth 20000 in
theorem ggL_tag_X0_tag : GoodIn wsL_tag wsX0_tag := goodIn_ca (goodIn_ca (goodIn_r _ [7, 8, 9, 10, 11, 12, 13, 6, 14, 15, 16, 17, 18, 19, 20, 21, 22, 23, 24, 25, 26, 27, 28, 29, 30, 31, 32, 33, 34, 35, 36, 37, 38, 39, 40, 41, 42, 43, 44, 45, 46, 47] (by decide +kernel) (by decide +kernel)) (goodIn_sub (fun _ h => List.mem_cons_of_mem _ (List.mem_append_left _ (List.mem_append_right _ h))) (by decide +kernel))) (goodIn_sub (fun _ h => List.mem_cons_of_mem _ (List.mem_append_right _ h)) (by decide +kernel))
set_option maxRecDepth 20000 in
theorem gL_tag_X0_tag : GoodIn wsL_tag (wsV RL 17 RX0 yX0_tag wsX0_tag) := goodIn_app (goodIn_of _ (by decide +kernel)) ggL_tag_X0_tag
theorem dL_tag_0 : decode cL_tag 0 = .ok (.aload 5, 2) := by decide +kernel
theorem dL_tag_2 : decode cL_tag 2 = .ok (.iconst 0, 1) := by decide +kernel
theorem dL_tag_3 : decode cL_tag 3 = .ok (.aload_n 0, 1) := by decide +kernel
theorem dL_tag_4 : decode cL_tag 4 = .ok (.iload_n 1, 1) := by decide +kernel
theorem dL_tag_5 : decode cL_tag 5 = .ok (.iload_n 2, 1) := by decide +kernel
theorem dL_tag_6 : decode cL_tag 6 = .ok (.iload_n 3, 1) := by decide +kernel
theorem dL_tag_7 : decode cL_tag 7 = .ok (.iload 4, 2) := by decide +kernel
theorem dL_tag_9 : decode cL_tag 9 = .ok (.invokevirtual 17, 3) := by decide +kernel
theorem dL_tag_12 : decode cL_tag 12 = .ok (.ifCond .eq 7, 3) := by decide +kernel
theorem dL_tag_15 : decode cL_tag 15 = .ok (.lconst 1, 1) := by decide +kernel
theorem dL_tag_16 : decode cL_tag 16 = .ok (.goto 4, 3) := by decide +kernel
theorem dL_tag_19 : decode cL_tag 19 = .ok (.lconst 0, 1) := by decide +kernel
theorem dL_tag_20 : decode cL_tag 20 = .ok (.lastore, 1) := by decide +kernel
theorem dL_tag_21 : decode cL_tag 21 = .ok (.goto 11, 3) := by decide +kernel
theorem dL_tag_24 : decode cL_tag 24 = .ok (.astore 6, 2) := by decide +kernel
theorem dL_tag_26 : decode cL_tag 26 = .ok (.iconst 1, 1) := by decide +kernel
theorem dL_tag_27 : decode cL_tag 27 = .ok (.ireturn, 1) := by decide +kernel
theorem dL_tag_28 : decode cL_tag 28 = .ok (.astore 6, 2) := by decide +kernel
theorem dL_tag_30 : decode cL_tag 30 = .ok (.iconst 2, 1) := by decide +kernel
theorem dL_tag_31 : decode cL_tag 31 = .ok (.ireturn, 1) := by decide +kernel
theorem dL_tag_32 : decode cL_tag 32 = .ok (.iconst 0, 1) := by decide +kernel
theorem dL_tag_33 : decode cL_tag 33 = .ok (.ireturn, 1) := by decide +kernel
set_option maxRecDepth 20000 in
theorem ggL_cable_X0_cable : GoodIn wsL_cable wsX0_cable := goodIn_ca (goodIn_ca (goodIn_r _ [7, 8, 9, 10, 11, 12, 13, 14, 6, 15, 16, 17, 18, 19, 20, 21, 22, 23, 24, 25, 26, 27, 28, 29, 30, 31, 32, 33, 34, 35, 36, 37, 38, 39, 40, 41, 42, 43, 44, 45, 46, 47, 48, 49, 50, 51, 52, 53, 54, 55, 56, 57, 58, 59, 60, 61, 62, 63, 64, 65, 66, 67, 68, 69, 70, 71, 72, 73, 74, 75, 76, 77, 78, 79, 80, 81] (by decide +kernel) (by decide +kernel)) (goodIn_sub (fun _ h => List.mem_cons_of_mem _ (List.mem_append_left _ (List.mem_append_right _ h))) (by decide +kernel))) (goodIn_sub (fun _ h => List.mem_cons_of_mem _ (List.mem_append_right _ h)) (by decide +kernel))
set_option maxRecDepth 20000 in
theorem gL_cable_X0_cable : GoodIn wsL_cable (wsV RL 21 RX0 yX0_cable wsX0_cable) := goodIn_app (goodIn_of _ (by decide +kernel)) ggL_cable_X0_cable
theorem dL_cable_0 : decode cL_cable 0 = .ok (.aload 6, 2) := by decide +kernel
theorem dL_cable_2 : decode cL_cable 2 = .ok (.iconst 0, 1) := by decide +kernel
theorem dL_cable_3 : decode cL_cable 3 = .ok (.aload_n 0, 1) := by decide +kernel
theorem dL_cable_4 : decode cL_cable 4 = .ok (.iload_n 1, 1) := by decide +kernel
theorem dL_cable_5 : decode cL_cable 5 = .ok (.iload_n 2, 1) := by decide +kernel
theorem dL_cable_6 : decode cL_cable 6 = .ok (.iload_n 3, 1) := by decide +kernel
theorem dL_cable_7 : decode cL_cable 7 = .ok (.iload 4, 2) := by decide +kernel
theorem dL_cable_9 : decode cL_cable 9 = .ok (.iload 5, 2) := by decide +kernel
theorem dL_cable_11 : decode cL_cable 11 = .ok (.invokevirtual 21, 3) := by decide +kernel
theorem dL_cable_14 : decode cL_cable 14 = .ok (.i2l, 1) := by decide +kernel
theorem dL_cable_15 : decode cL_cable 15 = .ok (.lastore, 1) := by decide +kernel
theorem dL_cable_16 : decode cL_cable 16 = .ok (.goto 11, 3) := by decide +kernel
theorem dL_cable_19 : decode cL_cable 19 = .ok (.astore 7, 2) := by decide +kernel
theorem dL_cable_21 : decode cL_cable 21 = .ok (.iconst 1, 1) := by decide +kernel
theorem dL_cable_22 : decode cL_cable 22 = .ok (.ireturn, 1) := by decide +kernel
theorem dL_cable_23 : decode cL_cable 23 = .ok (.astore 7, 2) := by decide +kernel
theorem dL_cable_25 : decode cL_cable 25 = .ok (.iconst 2, 1) := by decide +kernel
theorem dL_cable_26 : decode cL_cable 26 = .ok (.ireturn, 1) := by decide +kernel
theorem dL_cable_27 : decode cL_cable 27 = .ok (.iconst 0, 1) := by decide +kernel
theorem dL_cable_28 : decode cL_cable 28 = .ok (.ireturn, 1) := by decide +kernel
set_option maxRecDepth 20000 in
theorem ggL_pull_X0_pull : GoodIn wsL_pull wsX0_pull := goodIn_ca (goodIn_ca (goodIn_r _ [7, 8, 9, 10, 11, 12, 13, 6, 14, 15, 16, 17, 18, 19, 20, 21, 22, 23, 24, 25, 26, 27, 28, 29, 30, 31, 32, 33, 34, 35, 36, 37, 38, 39, 40, 41, 42, 43, 44, 45, 46, 47, 48, 49, 50, 51, 52, 53, 54, 55, 56, 57, 58, 59, 60, 61, 62, 63, 64, 65, 66, 67, 68, 69, 70, 71, 72, 73, 74, 75, 76, 77, 78, 79, 80, 81, 82, 83, 84, 85] (by decide +kernel) (by decide +kernel)) (goodIn_sub (fun _ h => List.mem_cons_of_mem _ (List.mem_append_left _ (List.mem_append_right _ h))) (by decide +kernel))) (goodIn_sub (fun _ h => List.mem_cons_of_mem _ (List.mem_append_right _ h)) (by decide +kernel))
set_option maxRecDepth 20000 in
theorem gL_pull_X0_pull : GoodIn wsL_pull (wsV RL 25 RX0 yX0_pull wsX0_pull) := goodIn_app (goodIn_of _ (by decide +kernel)) ggL_pull_X0_pull
theorem dL_pull_0 : decode cL_pull 0 = .ok (.aload_n 3, 1) := by decide +kernel
theorem dL_pull_1 : decode cL_pull 1 = .ok (.iconst 0, 1) := by decide +kernel
theorem dL_pull_2 : decode cL_pull 2 = .ok (.aload_n 0, 1) := by decide +kernel
theorem dL_pull_3 : decode cL_pull 3 = .ok (.iload_n 1, 1) := by decide +kernel
theorem dL_pull_4 : decode cL_pull 4 = .ok (.iload_n 2, 1) := by decide +kernel
theorem dL_pull_5 : decode cL_pull 5 = .ok (.invokevirtual 25, 3) := by decide +kernel
theorem dL_pull_8 : decode cL_pull 8 = .ok (.i2l, 1) := by decide +kernel
theorem dL_pull_9 : decode cL_pull 9 = .ok (.lastore, 1) := by decide +kernel
theorem dL_pull_10 : decode cL_pull 10 = .ok (.goto 11, 3) := by decide +kernel
theorem dL_pull_13 : decode cL_pull 13 = .ok (.astore 4, 2) := by decide +kernel
theorem dL_pull_15 : decode cL_pull 15 = .ok (.iconst 1, 1) := by decide +kernel
theorem dL_pull_16 : decode cL_pull 16 = .ok (.ireturn, 1) := by decide +kernel
theorem dL_pull_17 : decode cL_pull 17 = .ok (.astore 4, 2) := by decide +kernel
theorem dL_pull_19 : decode cL_pull 19 = .ok (.iconst 2, 1) := by decide +kernel
theorem dL_pull_20 : decode cL_pull 20 = .ok (.ireturn, 1) := by decide +kernel
theorem dL_pull_21 : decode cL_pull 21 = .ok (.iconst 0, 1) := by decide +kernel
theorem dL_pull_22 : decode cL_pull 22 = .ok (.ireturn, 1) := by decide +kernel
set_option maxRecDepth 20000 in
theorem ggL_note_X0_note : GoodIn wsL_note wsX0_note := goodIn_ca (goodIn_r _ [6, 7, 8, 9, 5, 10, 11, 12, 13, 14, 15, 16, 17, 18, 19, 20, 21, 22, 23, 24, 25, 26, 27, 28, 29, 30, 31, 32, 33, 34, 35, 36, 37, 38, 39] (by decide +kernel) (by decide +kernel)) (goodIn_sub (fun _ h => List.mem_cons_of_mem _ (List.mem_append_right _ h)) (by decide +kernel))
set_option maxRecDepth 20000 in
theorem gL_note_X0_note : GoodIn wsL_note (wsV RL 31 RX0 yX0_note wsX0_note) := goodIn_app (goodIn_of _ (by decide +kernel)) ggL_note_X0_note
theorem dL_note_0 : decode cL_note 0 = .ok (.aload 5, 2) := by decide +kernel
theorem dL_note_2 : decode cL_note 2 = .ok (.iconst 0, 1) := by decide +kernel
theorem dL_note_3 : decode cL_note 3 = .ok (.aload_n 0, 1) := by decide +kernel
theorem dL_note_4 : decode cL_note 4 = .ok (.iload_n 1, 1) := by decide +kernel
theorem dL_note_5 : decode cL_note 5 = .ok (.iload_n 2, 1) := by decide +kernel
theorem dL_note_6 : decode cL_note 6 = .ok (.iload_n 3, 1) := by decide +kernel
theorem dL_note_7 : decode cL_note 7 = .ok (.iload 4, 2) := by decide +kernel
theorem dL_note_9 : decode cL_note 9 = .ok (.invokevirtual 31, 3) := by decide +kernel
theorem dL_note_12 : decode cL_note 12 = .ok (.ifCond .eq 7, 3) := by decide +kernel
theorem dL_note_15 : decode cL_note 15 = .ok (.lconst 1, 1) := by decide +kernel
theorem dL_note_16 : decode cL_note 16 = .ok (.goto 4, 3) := by decide +kernel
theorem dL_note_19 : decode cL_note 19 = .ok (.lconst 0, 1) := by decide +kernel
theorem dL_note_20 : decode cL_note 20 = .ok (.lastore, 1) := by decide +kernel
theorem dL_note_21 : decode cL_note 21 = .ok (.goto 7, 3) := by decide +kernel
theorem dL_note_24 : decode cL_note 24 = .ok (.astore 6, 2) := by decide +kernel
theorem dL_note_26 : decode cL_note 26 = .ok (.iconst 1, 1) := by decide +kernel
theorem dL_note_27 : decode cL_note 27 = .ok (.ireturn, 1) := by decide +kernel
theorem dL_note_28 : decode cL_note 28 = .ok (.iconst 0, 1) := by decide +kernel
theorem dL_note_29 : decode cL_note 29 = .ok (.ireturn, 1) := by decide +kernel
set_option maxRecDepth 20000 in
theorem ggL_far_X0_far : GoodIn wsL_far wsX0_far := goodIn_ca (goodIn_r _ [6, 7, 8, 9, 5, 10, 11, 12, 13, 14, 15, 16, 17, 18, 19, 20, 21, 22, 23, 24, 25, 26, 27, 28, 29, 30, 31, 32, 33, 34, 35, 36] (by decide +kernel) (by decide +kernel)) (goodIn_sub (fun _ h => List.mem_cons_of_mem _ (List.mem_append_right _ h)) (by decide +kernel))
set_option maxRecDepth 20000 in
theorem gL_far_X0_far : GoodIn wsL_far (wsV RL 35 RX0 yX0_far wsX0_far) := goodIn_app (goodIn_of _ (by decide +kernel)) ggL_far_X0_far
theorem dL_far_0 : decode cL_far 0 = .ok (.aload_n 3, 1) := by decide +kernel
theorem dL_far_1 : decode cL_far 1 = .ok (.iconst 0, 1) := by decide +kernel
theorem dL_far_2 : decode cL_far 2 = .ok (.aload_n 0, 1) := by decide +kernel
theorem dL_far_3 : decode cL_far 3 = .ok (.iload_n 1, 1) := by decide +kernel
theorem dL_far_4 : decode cL_far 4 = .ok (.iload_n 2, 1) := by decide +kernel
theorem dL_far_5 : decode cL_far 5 = .ok (.invokevirtual 35, 3) := by decide +kernel
theorem dL_far_8 : decode cL_far 8 = .ok (.i2l, 1) := by decide +kernel
theorem dL_far_9 : decode cL_far 9 = .ok (.lastore, 1) := by decide +kernel
theorem dL_far_10 : decode cL_far 10 = .ok (.goto 7, 3) := by decide +kernel
theorem dL_far_13 : decode cL_far 13 = .ok (.astore 4, 2) := by decide +kernel
theorem dL_far_15 : decode cL_far 15 = .ok (.iconst 1, 1) := by decide +kernel
theorem dL_far_16 : decode cL_far 16 = .ok (.ireturn, 1) := by decide +kernel
theorem dL_far_17 : decode cL_far 17 = .ok (.iconst 0, 1) := by decide +kernel
theorem dL_far_18 : decode cL_far 18 = .ok (.ireturn, 1) := by decide +kernel
set_option maxRecDepth 20000 in
theorem ggL_isOn_X0_isOn : GoodIn wsL_isOn wsX0_isOn := goodIn_ca (goodIn_ca (goodIn_r _ [7, 8, 9, 10, 6, 11, 12, 13, 14, 15, 16, 17, 18, 19, 20, 21, 22, 23, 24, 25, 26, 27, 28, 29, 30, 31, 32, 33, 34, 35, 36, 37, 38, 39, 40, 41, 42, 43, 44, 45, 46, 47, 48, 49, 50] (by decide +kernel) (by decide +kernel)) (goodIn_sub (fun _ h => List.mem_cons_of_mem _ (List.mem_append_left _ (List.mem_append_right _ h))) (by decide +kernel))) (goodIn_sub (fun _ h => List.mem_cons_of_mem _ (List.mem_append_right _ h)) (by decide +kernel))
set_option maxRecDepth 20000 in
theorem gL_isOn_X0_isOn : GoodIn wsL_isOn (wsV RL 38 RX0 yX0_isOn wsX0_isOn) := goodIn_app (goodIn_of _ (by decide +kernel)) ggL_isOn_X0_isOn
theorem dL_isOn_0 : decode cL_isOn 0 = .ok (.aload_n 3, 1) := by decide +kernel
theorem dL_isOn_1 : decode cL_isOn 1 = .ok (.iconst 0, 1) := by decide +kernel
theorem dL_isOn_2 : decode cL_isOn 2 = .ok (.aload_n 0, 1) := by decide +kernel
theorem dL_isOn_3 : decode cL_isOn 3 = .ok (.iload_n 1, 1) := by decide +kernel
theorem dL_isOn_4 : decode cL_isOn 4 = .ok (.iload_n 2, 1) := by decide +kernel
theorem dL_isOn_5 : decode cL_isOn 5 = .ok (.invokevirtual 38, 3) := by decide +kernel
theorem dL_isOn_8 : decode cL_isOn 8 = .ok (.ifCond .eq 7, 3) := by decide +kernel
theorem dL_isOn_11 : decode cL_isOn 11 = .ok (.lconst 1, 1) := by decide +kernel
theorem dL_isOn_12 : decode cL_isOn 12 = .ok (.goto 4, 3) := by decide +kernel
theorem dL_isOn_15 : decode cL_isOn 15 = .ok (.lconst 0, 1) := by decide +kernel
theorem dL_isOn_16 : decode cL_isOn 16 = .ok (.lastore, 1) := by decide +kernel
theorem dL_isOn_17 : decode cL_isOn 17 = .ok (.goto 11, 3) := by decide +kernel
theorem dL_isOn_20 : decode cL_isOn 20 = .ok (.astore 4, 2) := by decide +kernel
theorem dL_isOn_22 : decode cL_isOn 22 = .ok (.iconst 1, 1) := by decide +kernel
theorem dL_isOn_23 : decode cL_isOn 23 = .ok (.ireturn, 1) := by decide +kernel
theorem dL_isOn_24 : decode cL_isOn 24 = .ok (.astore 4, 2) := by decide +kernel
theorem dL_isOn_26 : decode cL_isOn 26 = .ok (.iconst 2, 1) := by decide +kernel
theorem dL_isOn_27 : decode cL_isOn 27 = .ok (.ireturn, 1) := by decide +kernel
theorem dL_isOn_28 : decode cL_isOn 28 = .ok (.iconst 0, 1) := by decide +kernel
theorem dL_isOn_29 : decode cL_isOn 29 = .ok (.ireturn, 1) := by decide +kernel
set_option maxRecDepth 20000 in
theorem ggL_comesAs_X0_comesAs : GoodIn wsL_comesAs wsX0_comesAs := goodIn_ca (goodIn_ca (goodIn_r _ [7, 8, 9, 6, 10, 11, 12, 13, 14, 15, 16, 17, 18, 19, 20, 21, 22, 23, 24, 25, 26, 27, 28, 29, 30, 31, 32, 33, 34, 35, 36, 37, 38, 39, 40, 41, 42, 43, 44, 45, 46, 47, 48, 49, 50, 51, 52, 53, 54, 55, 56, 57] (by decide +kernel) (by decide +kernel)) (goodIn_sub (fun _ h => List.mem_cons_of_mem _ (List.mem_append_left _ (List.mem_append_right _ h))) (by decide +kernel))) (goodIn_sub (fun _ h => List.mem_cons_of_mem _ (List.mem_append_right _ h)) (by decide +kernel))
set_option maxRecDepth 20000 in
theorem gL_comesAs_X0_comesAs : GoodIn wsL_comesAs (wsV RL 42 RX0 yX0_comesAs wsX0_comesAs) := goodIn_app (goodIn_of _ (by decide +kernel)) ggL_comesAs_X0_comesAs
theorem dL_comesAs_0 : decode cL_comesAs 0 = .ok (.aload 4, 2) := by decide +kernel
theorem dL_comesAs_2 : decode cL_comesAs 2 = .ok (.iconst 0, 1) := by decide +kernel
theorem dL_comesAs_3 : decode cL_comesAs 3 = .ok (.aload_n 0, 1) := by decide +kernel
theorem dL_comesAs_4 : decode cL_comesAs 4 = .ok (.iload_n 1, 1) := by decide +kernel
theorem dL_comesAs_5 : decode cL_comesAs 5 = .ok (.iload_n 2, 1) := by decide +kernel
theorem dL_comesAs_6 : decode cL_comesAs 6 = .ok (.iload_n 3, 1) := by decide +kernel
theorem dL_comesAs_7 : decode cL_comesAs 7 = .ok (.invokevirtual 42, 3) := by decide +kernel
theorem dL_comesAs_10 : decode cL_comesAs 10 = .ok (.i2l, 1) := by decide +kernel
theorem dL_comesAs_11 : decode cL_comesAs 11 = .ok (.lastore, 1) := by decide +kernel
theorem dL_comesAs_12 : decode cL_comesAs 12 = .ok (.goto 11, 3) := by decide +kernel
theorem dL_comesAs_15 : decode cL_comesAs 15 = .ok (.astore 5, 2) := by decide +kernel
theorem dL_comesAs_17 : decode cL_comesAs 17 = .ok (.iconst 1, 1) := by decide +kernel
theorem dL_comesAs_18 : decode cL_comesAs 18 = .ok (.ireturn, 1) := by decide +kernel
theorem dL_comesAs_19 : decode cL_comesAs 19 = .ok (.astore 5, 2) := by decide +kernel
theorem dL_comesAs_21 : decode cL_comesAs 21 = .ok (.iconst 2, 1) := by decide +kernel
theorem dL_comesAs_22 : decode cL_comesAs 22 = .ok (.ireturn, 1) := by decide +kernel
theorem dL_comesAs_23 : decode cL_comesAs 23 = .ok (.iconst 0, 1) := by decide +kernel
theorem dL_comesAs_24 : decode cL_comesAs 24 = .ok (.ireturn, 1) := by decide +kernel
set_option maxRecDepth 20000 in
theorem ggL_oneSided_X0_oneSided : GoodIn wsL_oneSided wsX0_oneSided := goodIn_ca (goodIn_ca (goodIn_r _ [7, 8, 9, 10, 11, 12, 6, 13, 14, 15, 16, 17, 18, 19, 20, 21, 22, 23, 24, 25, 26, 27, 28, 29, 30, 31, 32, 33, 34, 35, 36, 37, 38, 39, 40, 41, 42, 43, 44, 45, 46, 47, 48, 49, 50, 51, 52] (by decide +kernel) (by decide +kernel)) (goodIn_sub (fun _ h => List.mem_cons_of_mem _ (List.mem_append_left _ (List.mem_append_right _ h))) (by decide +kernel))) (goodIn_sub (fun _ h => List.mem_cons_of_mem _ (List.mem_append_right _ h)) (by decide +kernel))
set_option maxRecDepth 20000 in
theorem gL_oneSided_X0_oneSided : GoodIn wsL_oneSided (wsV RL 45 RX0 yX0_oneSided wsX0_oneSided) := goodIn_app (goodIn_of _ (by decide +kernel)) ggL_oneSided_X0_oneSided
theorem dL_oneSided_0 : decode cL_oneSided 0 = .ok (.aload_n 3, 1) := by decide +kernel
theorem dL_oneSided_1 : decode cL_oneSided 1 = .ok (.iconst 0, 1) := by decide +kernel
theorem dL_oneSided_2 : decode cL_oneSided 2 = .ok (.aload_n 0, 1) := by decide +kernel
theorem dL_oneSided_3 : decode cL_oneSided 3 = .ok (.iload_n 1, 1) := by decide +kernel
theorem dL_oneSided_4 : decode cL_oneSided 4 = .ok (.iload_n 2, 1) := by decide +kernel
theorem dL_oneSided_5 : decode cL_oneSided 5 = .ok (.invokevirtual 45, 3) := by decide +kernel
theorem dL_oneSided_8 : decode cL_oneSided 8 = .ok (.i2l, 1) := by decide +kernel
theorem dL_oneSided_9 : decode cL_oneSided 9 = .ok (.lastore, 1) := by decide +kernel
theorem dL_oneSided_10 : decode cL_oneSided 10 = .ok (.goto 11, 3) := by decide +kernel
theorem dL_oneSided_13 : decode cL_oneSided 13 = .ok (.astore 4, 2) := by decide +kernel
theorem dL_oneSided_15 : decode cL_oneSided 15 = .ok (.iconst 1, 1) := by decide +kernel
theorem dL_oneSided_16 : decode cL_oneSided 16 = .ok (.ireturn, 1) := by decide +kernel
theorem dL_oneSided_17 : decode cL_oneSided 17 = .ok (.astore 4, 2) := by decide +kernel
theorem dL_oneSided_19 : decode cL_oneSided 19 = .ok (.iconst 2, 1) := by decide +kernel
theorem dL_oneSided_20 : decode cL_oneSided 20 = .ok (.ireturn, 1) := by decide +kernel
theorem dL_oneSided_21 : decode cL_oneSided 21 = .ok (.iconst 0, 1) := by decide +kernel
theorem dL_oneSided_22 : decode cL_oneSided 22 = .ok (.ireturn, 1) := by decide +kernel
set_option maxRecDepth 20000 in
theorem ggL_root_X0_root : GoodIn wsL_root wsX0_root := goodIn_ca (goodIn_r _ [6, 7, 8, 9, 5, 10, 11, 12, 13, 14, 15, 16, 17, 18, 19, 20, 21, 22, 23, 24, 25, 26, 27, 28, 29, 30] (by decide +kernel) (by decide +kernel)) (goodIn_sub (fun _ h => List.mem_cons_of_mem _ (List.mem_append_right _ h)) (by decide +kernel))
set_option maxRecDepth 20000 in
theorem gL_root_X0_root : GoodIn wsL_root (wsV RL 48 RX0 yX0_root wsX0_root) := goodIn_app (goodIn_of _ (by decide +kernel)) ggL_root_X0_root
theorem dL_root_0 : decode cL_root 0 = .ok (.aload_n 2, 1) := by decide +kernel
theorem dL_root_1 : decode cL_root 1 = .ok (.iconst 0, 1) := by decide +kernel
theorem dL_root_2 : decode cL_root 2 = .ok (.aload_n 0, 1) := by decide +kernel
theorem dL_root_3 : decode cL_root 3 = .ok (.iload_n 1, 1) := by decide +kernel
theorem dL_root_4 : decode cL_root 4 = .ok (.invokevirtual 48, 3) := by decide +kernel
theorem dL_root_7 : decode cL_root 7 = .ok (.i2l, 1) := by decide +kernel
theorem dL_root_8 : decode cL_root 8 = .ok (.lastore, 1) := by decide +kernel
theorem dL_root_9 : decode cL_root 9 = .ok (.goto 6, 3) := by decide +kernel
theorem dL_root_12 : decode cL_root 12 = .ok (.astore_n 3, 1) := by decide +kernel
theorem dL_root_13 : decode cL_root 13 = .ok (.iconst 1, 1) := by decide +kernel
theorem dL_root_14 : decode cL_root 14 = .ok (.ireturn, 1) := by decide +kernel
theorem dL_root_15 : decode cL_root 15 = .ok (.iconst 0, 1) := by decide +kernel
theorem dL_root_16 : decode cL_root 16 = .ok (.ireturn, 1) := by decide +kernel
set_option maxRecDepth 20000 in
theorem ggL_costOf_X0_costOf : GoodIn wsL_costOf wsX0_costOf := goodIn_ca (goodIn_r _ [6, 7, 8, 9, 5, 10, 11, 12, 13, 14, 15, 16, 17, 18, 19, 20, 21, 22, 23, 24, 25, 26, 27, 28, 29, 30] (by decide +kernel) (by decide +kernel)) (goodIn_sub (fun _ h => List.mem_cons_of_mem _ (List.mem_append_right _ h)) (by decide +kernel))
set_option maxRecDepth 20000 in
theorem gL_costOf_X0_costOf : GoodIn wsL_costOf (wsV RL 52 RX0 yX0_costOf wsX0_costOf) := goodIn_app (goodIn_of _ (by decide +kernel)) ggL_costOf_X0_costOf
theorem dL_costOf_0 : decode cL_costOf 0 = .ok (.aload_n 2, 1) := by decide +kernel
theorem dL_costOf_1 : decode cL_costOf 1 = .ok (.iconst 0, 1) := by decide +kernel
theorem dL_costOf_2 : decode cL_costOf 2 = .ok (.aload_n 0, 1) := by decide +kernel
theorem dL_costOf_3 : decode cL_costOf 3 = .ok (.iload_n 1, 1) := by decide +kernel
theorem dL_costOf_4 : decode cL_costOf 4 = .ok (.invokevirtual 52, 3) := by decide +kernel
theorem dL_costOf_7 : decode cL_costOf 7 = .ok (.i2l, 1) := by decide +kernel
theorem dL_costOf_8 : decode cL_costOf 8 = .ok (.lastore, 1) := by decide +kernel
theorem dL_costOf_9 : decode cL_costOf 9 = .ok (.goto 6, 3) := by decide +kernel
theorem dL_costOf_12 : decode cL_costOf 12 = .ok (.astore_n 3, 1) := by decide +kernel
theorem dL_costOf_13 : decode cL_costOf 13 = .ok (.iconst 1, 1) := by decide +kernel
theorem dL_costOf_14 : decode cL_costOf 14 = .ok (.ireturn, 1) := by decide +kernel
theorem dL_costOf_15 : decode cL_costOf 15 = .ok (.iconst 0, 1) := by decide +kernel
theorem dL_costOf_16 : decode cL_costOf 16 = .ok (.ireturn, 1) := by decide +kernel
set_option maxRecDepth 20000 in
theorem ggL_wayUp_X0_wayUp : GoodIn wsL_wayUp wsX0_wayUp := goodIn_ca (goodIn_r _ [6, 7, 8, 9, 5, 10, 11, 12, 13, 14, 15, 16, 17, 18, 19, 20, 21, 22, 23, 24, 25, 26, 27, 28, 29, 30] (by decide +kernel) (by decide +kernel)) (goodIn_sub (fun _ h => List.mem_cons_of_mem _ (List.mem_append_right _ h)) (by decide +kernel))
set_option maxRecDepth 20000 in
theorem gL_wayUp_X0_wayUp : GoodIn wsL_wayUp (wsV RL 55 RX0 yX0_wayUp wsX0_wayUp) := goodIn_app (goodIn_of _ (by decide +kernel)) ggL_wayUp_X0_wayUp
theorem dL_wayUp_0 : decode cL_wayUp 0 = .ok (.aload_n 2, 1) := by decide +kernel
theorem dL_wayUp_1 : decode cL_wayUp 1 = .ok (.iconst 0, 1) := by decide +kernel
theorem dL_wayUp_2 : decode cL_wayUp 2 = .ok (.aload_n 0, 1) := by decide +kernel
theorem dL_wayUp_3 : decode cL_wayUp 3 = .ok (.iload_n 1, 1) := by decide +kernel
theorem dL_wayUp_4 : decode cL_wayUp 4 = .ok (.invokevirtual 55, 3) := by decide +kernel
theorem dL_wayUp_7 : decode cL_wayUp 7 = .ok (.i2l, 1) := by decide +kernel
theorem dL_wayUp_8 : decode cL_wayUp 8 = .ok (.lastore, 1) := by decide +kernel
theorem dL_wayUp_9 : decode cL_wayUp 9 = .ok (.goto 6, 3) := by decide +kernel
theorem dL_wayUp_12 : decode cL_wayUp 12 = .ok (.astore_n 3, 1) := by decide +kernel
theorem dL_wayUp_13 : decode cL_wayUp 13 = .ok (.iconst 1, 1) := by decide +kernel
theorem dL_wayUp_14 : decode cL_wayUp 14 = .ok (.ireturn, 1) := by decide +kernel
theorem dL_wayUp_15 : decode cL_wayUp 15 = .ok (.iconst 0, 1) := by decide +kernel
theorem dL_wayUp_16 : decode cL_wayUp 16 = .ok (.ireturn, 1) := by decide +kernel
set_option maxRecDepth 20000 in
theorem ggL_hops_X0_hops : GoodIn wsL_hops wsX0_hops := goodIn_ca (goodIn_r _ [6, 7, 8, 9, 5, 10, 11, 12, 13, 14, 15, 16, 17, 18, 19, 20, 21, 22, 23, 24, 25, 26, 27, 28, 29, 30, 31, 32, 33, 34, 35, 36, 37, 38, 39, 40, 41, 42, 43, 44, 45, 46, 47, 48, 49, 50, 51, 52, 53, 54, 55, 56, 57, 58, 59, 60, 61, 62, 63, 64, 65, 66, 67, 68, 69, 70, 71, 72, 73, 74, 75, 76, 77, 78, 79, 80, 81, 82] (by decide +kernel) (by decide +kernel)) (goodIn_sub (fun _ h => List.mem_cons_of_mem _ (List.mem_append_right _ h)) (by decide +kernel))
set_option maxRecDepth 20000 in
theorem gL_hops_X0_hops : GoodIn wsL_hops (wsV RL 58 RX0 yX0_hops wsX0_hops) := goodIn_app (goodIn_of _ (by decide +kernel)) ggL_hops_X0_hops
theorem dL_hops_0 : decode cL_hops 0 = .ok (.aload 5, 2) := by decide +kernel
theorem dL_hops_2 : decode cL_hops 2 = .ok (.iconst 0, 1) := by decide +kernel
theorem dL_hops_3 : decode cL_hops 3 = .ok (.aload_n 0, 1) := by decide +kernel
theorem dL_hops_4 : decode cL_hops 4 = .ok (.iload_n 1, 1) := by decide +kernel
theorem dL_hops_5 : decode cL_hops 5 = .ok (.iload_n 2, 1) := by decide +kernel
theorem dL_hops_6 : decode cL_hops 6 = .ok (.iload_n 3, 1) := by decide +kernel
theorem dL_hops_7 : decode cL_hops 7 = .ok (.iload 4, 2) := by decide +kernel
theorem dL_hops_9 : decode cL_hops 9 = .ok (.invokevirtual 58, 3) := by decide +kernel
theorem dL_hops_12 : decode cL_hops 12 = .ok (.i2l, 1) := by decide +kernel
theorem dL_hops_13 : decode cL_hops 13 = .ok (.lastore, 1) := by decide +kernel
theorem dL_hops_14 : decode cL_hops 14 = .ok (.goto 7, 3) := by decide +kernel
theorem dL_hops_17 : decode cL_hops 17 = .ok (.astore 6, 2) := by decide +kernel
theorem dL_hops_19 : decode cL_hops 19 = .ok (.iconst 1, 1) := by decide +kernel
theorem dL_hops_20 : decode cL_hops 20 = .ok (.ireturn, 1) := by decide +kernel
theorem dL_hops_21 : decode cL_hops 21 = .ok (.iconst 0, 1) := by decide +kernel
theorem dL_hops_22 : decode cL_hops 22 = .ok (.ireturn, 1) := by decide +kernel
set_option maxRecDepth 20000 in
theorem ggL_meet_X0_meet : GoodIn wsL_meet wsX0_meet := goodIn_ca (goodIn_r _ [6, 7, 8, 9, 5, 10, 11, 12, 13, 14, 15, 16, 17, 18, 19, 20, 21, 22, 23, 24, 25, 26, 27, 28, 29, 30, 31, 32, 33, 34, 35, 36, 37, 38, 39, 40, 41, 42, 43, 44, 45, 46, 47, 48, 49, 50, 51, 52, 53, 54, 55, 56, 57, 58, 59, 60, 61, 62, 63, 64, 65, 66, 67, 68, 69, 70, 71, 72, 73, 74, 75, 76, 77, 78, 79, 80, 81, 82, 83, 84, 85, 86, 87, 88, 89] (by decide +kernel) (by decide +kernel)) (goodIn_sub (fun _ h => List.mem_cons_of_mem _ (List.mem_append_right _ h)) (by decide +kernel))
set_option maxRecDepth 20000 in
theorem gL_meet_X0_meet : GoodIn wsL_meet (wsV RL 62 RX0 yX0_meet wsX0_meet) := goodIn_app (goodIn_of _ (by decide +kernel)) ggL_meet_X0_meet
theorem dL_meet_0 : decode cL_meet 0 = .ok (.aload 5, 2) := by decide +kernel
theorem dL_meet_2 : decode cL_meet 2 = .ok (.iconst 0, 1) := by decide +kernel
theorem dL_meet_3 : decode cL_meet 3 = .ok (.aload_n 0, 1) := by decide +kernel
theorem dL_meet_4 : decode cL_meet 4 = .ok (.iload_n 1, 1) := by decide +kernel
theorem dL_meet_5 : decode cL_meet 5 = .ok (.iload_n 2, 1) := by decide +kernel
theorem dL_meet_6 : decode cL_meet 6 = .ok (.iload_n 3, 1) := by decide +kernel
theorem dL_meet_7 : decode cL_meet 7 = .ok (.iload 4, 2) := by decide +kernel
theorem dL_meet_9 : decode cL_meet 9 = .ok (.invokevirtual 62, 3) := by decide +kernel
theorem dL_meet_12 : decode cL_meet 12 = .ok (.ifCond .eq 7, 3) := by decide +kernel
theorem dL_meet_15 : decode cL_meet 15 = .ok (.lconst 1, 1) := by decide +kernel
theorem dL_meet_16 : decode cL_meet 16 = .ok (.goto 4, 3) := by decide +kernel
theorem dL_meet_19 : decode cL_meet 19 = .ok (.lconst 0, 1) := by decide +kernel
theorem dL_meet_20 : decode cL_meet 20 = .ok (.lastore, 1) := by decide +kernel
theorem dL_meet_21 : decode cL_meet 21 = .ok (.goto 7, 3) := by decide +kernel
theorem dL_meet_24 : decode cL_meet 24 = .ok (.astore 6, 2) := by decide +kernel
theorem dL_meet_26 : decode cL_meet 26 = .ok (.iconst 1, 1) := by decide +kernel
theorem dL_meet_27 : decode cL_meet 27 = .ok (.ireturn, 1) := by decide +kernel
theorem dL_meet_28 : decode cL_meet 28 = .ok (.iconst 0, 1) := by decide +kernel
theorem dL_meet_29 : decode cL_meet 29 = .ok (.ireturn, 1) := by decide +kernel
set_option maxRecDepth 20000 in
theorem ggL_joined_X0_joined : GoodIn wsL_joined wsX0_joined := goodIn_ca (goodIn_r _ [6, 7, 8, 9, 5, 10, 11, 12, 13, 14, 15, 16, 17, 18, 19, 20, 21, 22, 23, 24, 25, 26, 27, 28, 29, 30, 31, 32, 33, 34, 35, 36, 37, 38, 39, 40, 41, 42, 43, 44, 45, 46, 47, 48, 49, 50, 51, 52, 53, 54, 55, 56, 57, 58, 59, 60, 61, 62, 63, 64, 65, 66, 67, 68, 69, 70, 71, 72, 73, 74, 75, 76, 77, 78, 79, 80, 81, 82] (by decide +kernel) (by decide +kernel)) (goodIn_sub (fun _ h => List.mem_cons_of_mem _ (List.mem_append_right _ h)) (by decide +kernel))
set_option maxRecDepth 20000 in
theorem gL_joined_X0_joined : GoodIn wsL_joined (wsV RL 65 RX0 yX0_joined wsX0_joined) := goodIn_app (goodIn_of _ (by decide +kernel)) ggL_joined_X0_joined
theorem dL_joined_0 : decode cL_joined 0 = .ok (.aload_n 3, 1) := by decide +kernel
theorem dL_joined_1 : decode cL_joined 1 = .ok (.iconst 0, 1) := by decide +kernel
theorem dL_joined_2 : decode cL_joined 2 = .ok (.aload_n 0, 1) := by decide +kernel
theorem dL_joined_3 : decode cL_joined 3 = .ok (.iload_n 1, 1) := by decide +kernel
theorem dL_joined_4 : decode cL_joined 4 = .ok (.iload_n 2, 1) := by decide +kernel
theorem dL_joined_5 : decode cL_joined 5 = .ok (.invokevirtual 65, 3) := by decide +kernel
theorem dL_joined_8 : decode cL_joined 8 = .ok (.i2l, 1) := by decide +kernel
theorem dL_joined_9 : decode cL_joined 9 = .ok (.lastore, 1) := by decide +kernel
theorem dL_joined_10 : decode cL_joined 10 = .ok (.goto 7, 3) := by decide +kernel
theorem dL_joined_13 : decode cL_joined 13 = .ok (.astore 4, 2) := by decide +kernel
theorem dL_joined_15 : decode cL_joined 15 = .ok (.iconst 1, 1) := by decide +kernel
theorem dL_joined_16 : decode cL_joined 16 = .ok (.ireturn, 1) := by decide +kernel
theorem dL_joined_17 : decode cL_joined 17 = .ok (.iconst 0, 1) := by decide +kernel
theorem dL_joined_18 : decode cL_joined 18 = .ok (.ireturn, 1) := by decide +kernel
set_option maxRecDepth 20000 in
theorem ggL_changes_X0_changes : GoodIn wsL_changes wsX0_changes := goodIn_ca (goodIn_r _ [6, 7, 8, 9, 10, 11, 5, 12, 13, 14, 15, 16, 17, 18, 19, 20, 21, 22, 23, 24, 25, 26, 27, 28, 29, 30, 31, 32, 33, 34, 35, 36, 37, 38, 39, 40, 41, 42, 43, 44, 45, 46, 47, 48, 49, 50, 51, 52, 53, 54, 55, 56, 57, 58, 59, 60, 61, 62, 63, 64, 65, 66] (by decide +kernel) (by decide +kernel)) (goodIn_sub (fun _ h => List.mem_cons_of_mem _ (List.mem_append_right _ h)) (by decide +kernel))
set_option maxRecDepth 20000 in
theorem gL_changes_X0_changes : GoodIn wsL_changes (wsV RL 68 RX0 yX0_changes wsX0_changes) := goodIn_app (goodIn_of _ (by decide +kernel)) ggL_changes_X0_changes
theorem dL_changes_0 : decode cL_changes 0 = .ok (.aload 5, 2) := by decide +kernel
theorem dL_changes_2 : decode cL_changes 2 = .ok (.iconst 0, 1) := by decide +kernel
theorem dL_changes_3 : decode cL_changes 3 = .ok (.aload_n 0, 1) := by decide +kernel
theorem dL_changes_4 : decode cL_changes 4 = .ok (.iload_n 1, 1) := by decide +kernel
theorem dL_changes_5 : decode cL_changes 5 = .ok (.iload_n 2, 1) := by decide +kernel
theorem dL_changes_6 : decode cL_changes 6 = .ok (.iload_n 3, 1) := by decide +kernel
theorem dL_changes_7 : decode cL_changes 7 = .ok (.iload 4, 2) := by decide +kernel
theorem dL_changes_9 : decode cL_changes 9 = .ok (.invokevirtual 68, 3) := by decide +kernel
theorem dL_changes_12 : decode cL_changes 12 = .ok (.i2l, 1) := by decide +kernel
theorem dL_changes_13 : decode cL_changes 13 = .ok (.lastore, 1) := by decide +kernel
theorem dL_changes_14 : decode cL_changes 14 = .ok (.goto 7, 3) := by decide +kernel
theorem dL_changes_17 : decode cL_changes 17 = .ok (.astore 6, 2) := by decide +kernel
theorem dL_changes_19 : decode cL_changes 19 = .ok (.iconst 1, 1) := by decide +kernel
theorem dL_changes_20 : decode cL_changes 20 = .ok (.ireturn, 1) := by decide +kernel
theorem dL_changes_21 : decode cL_changes 21 = .ok (.iconst 0, 1) := by decide +kernel
theorem dL_changes_22 : decode cL_changes 22 = .ok (.ireturn, 1) := by decide +kernel
